section
-- ===== PART A: goes FIRST, ahead of the names: the tables' words, and 'selects' of the private methods out of them =====
/-- a private method of a class that the tables say can be made, by its rows of tables_1 -/
def lw_okq (q : MethodName × Nat) : Prop := (q.1.cls ≠ "java/lang/invoke/MethodHandle" ∧ q.1.cls ≠ "java/lang/invoke/VarHandle") ∧ Cond.instantiable q.1.cls q.2 ∈ tables_1 ∧ Cond.privateMethod q.1 ∈ tables_1 ∧ Cond.instanceMethod q.1 ∈ tables_1
theorem lw_p0 : lw_okq (⟨"PolyCuts$Check", "note", "(III)V"⟩, 3) := ⟨⟨by decide +kernel, by decide +kernel⟩, List.mem_of_getElem? (i := 43) (by decide +kernel), List.mem_of_getElem? (i := 209) (by decide +kernel), List.mem_of_getElem? (i := 210) (by decide +kernel)⟩
theorem lw_p1 : lw_okq (⟨"PolyCuts$Check", "findFlatCorner", "(LPolyCuts$Corners;)V"⟩, 3) := ⟨⟨by decide +kernel, by decide +kernel⟩, List.mem_of_getElem? (i := 43) (by decide +kernel), List.mem_of_getElem? (i := 213) (by decide +kernel), List.mem_of_getElem? (i := 214) (by decide +kernel)⟩
theorem lw_p2 : lw_okq (⟨"PolyCuts$Check", "findMeetingEdges", "(LPolyCuts$Corners;)V"⟩, 3) := ⟨⟨by decide +kernel, by decide +kernel⟩, List.mem_of_getElem? (i := 43) (by decide +kernel), List.mem_of_getElem? (i := 229) (by decide +kernel), List.mem_of_getElem? (i := 230) (by decide +kernel)⟩
theorem lw_p3 : lw_okq (⟨"PolyCuts$Corners", "straddles", "(IIII)Z"⟩, 3) := ⟨⟨by decide +kernel, by decide +kernel⟩, List.mem_of_getElem? (i := 19) (by decide +kernel), List.mem_of_getElem? (i := 246) (by decide +kernel), List.mem_of_getElem? (i := 247) (by decide +kernel)⟩
theorem lw_p4 : lw_okq (⟨"PolyCuts$Shape", "crossOfEdge", "(I)I"⟩, 12) := ⟨⟨by decide +kernel, by decide +kernel⟩, List.mem_of_getElem? (i := 95) (by decide +kernel), List.mem_of_getElem? (i := 262) (by decide +kernel), List.mem_of_getElem? (i := 263) (by decide +kernel)⟩
theorem lw_p5 : lw_okq (⟨"PolyCuts$Shape", "look", "(II)I"⟩, 12) := ⟨⟨by decide +kernel, by decide +kernel⟩, List.mem_of_getElem? (i := 95) (by decide +kernel), List.mem_of_getElem? (i := 271) (by decide +kernel), List.mem_of_getElem? (i := 272) (by decide +kernel)⟩
theorem lw_p6 : lw_okq (⟨"PolyCuts$Shape", "isFree", "(II)Z"⟩, 12) := ⟨⟨by decide +kernel, by decide +kernel⟩, List.mem_of_getElem? (i := 95) (by decide +kernel), List.mem_of_getElem? (i := 275) (by decide +kernel), List.mem_of_getElem? (i := 276) (by decide +kernel)⟩
theorem lw_p7 : lw_okq (⟨"PolyCuts$Cutter", "weighSpans", "(LPolyCuts$Shape;)V"⟩, 4) := ⟨⟨by decide +kernel, by decide +kernel⟩, List.mem_of_getElem? (i := 62) (by decide +kernel), List.mem_of_getElem? (i := 288) (by decide +kernel), List.mem_of_getElem? (i := 289) (by decide +kernel)⟩
theorem lw_p8 : lw_okq (⟨"PolyCuts$Cutter", "weighSpan", "(LPolyCuts$Shape;II)V"⟩, 4) := ⟨⟨by decide +kernel, by decide +kernel⟩, List.mem_of_getElem? (i := 62) (by decide +kernel), List.mem_of_getElem? (i := 292) (by decide +kernel), List.mem_of_getElem? (i := 293) (by decide +kernel)⟩
theorem lw_p9 : lw_okq (⟨"PolyCuts$Cutter", "nameTriangles", "(LPolyCuts$Shape;)V"⟩, 4) := ⟨⟨by decide +kernel, by decide +kernel⟩, List.mem_of_getElem? (i := 62) (by decide +kernel), List.mem_of_getElem? (i := 300) (by decide +kernel), List.mem_of_getElem? (i := 301) (by decide +kernel)⟩
theorem lw_p10 : lw_okq (⟨"PolyCuts$Cutter", "nameDiagonals", "(LPolyCuts$Shape;)V"⟩, 4) := ⟨⟨by decide +kernel, by decide +kernel⟩, List.mem_of_getElem? (i := 62) (by decide +kernel), List.mem_of_getElem? (i := 311) (by decide +kernel), List.mem_of_getElem? (i := 312) (by decide +kernel)⟩
theorem lw_p11 : lw_okq (⟨"PolyCuts$Cutter", "join", "(III)V"⟩, 4) := ⟨⟨by decide +kernel, by decide +kernel⟩, List.mem_of_getElem? (i := 62) (by decide +kernel), List.mem_of_getElem? (i := 315) (by decide +kernel), List.mem_of_getElem? (i := 316) (by decide +kernel)⟩
theorem lw_p12 : lw_okq (⟨"PolyCuts$Cutter", "merge", "(LPolyCuts$Shape;)V"⟩, 4) := ⟨⟨by decide +kernel, by decide +kernel⟩, List.mem_of_getElem? (i := 62) (by decide +kernel), List.mem_of_getElem? (i := 323) (by decide +kernel), List.mem_of_getElem? (i := 324) (by decide +kernel)⟩
theorem lw_p13 : lw_okq (⟨"PolyCuts$Cutter", "isConvexWithout", "(LPolyCuts$Shape;II)Z"⟩, 4) := ⟨⟨by decide +kernel, by decide +kernel⟩, List.mem_of_getElem? (i := 62) (by decide +kernel), List.mem_of_getElem? (i := 327) (by decide +kernel), List.mem_of_getElem? (i := 328) (by decide +kernel)⟩
theorem lw_p14 : lw_okq (⟨"PolyCuts$Cutter", "joinedBefore", "(LPolyCuts$Corners;II)I"⟩, 4) := ⟨⟨by decide +kernel, by decide +kernel⟩, List.mem_of_getElem? (i := 62) (by decide +kernel), List.mem_of_getElem? (i := 331) (by decide +kernel), List.mem_of_getElem? (i := 332) (by decide +kernel)⟩
theorem lw_p15 : lw_okq (⟨"PolyCuts$Cutter", "joinedAfter", "(LPolyCuts$Corners;II)I"⟩, 4) := ⟨⟨by decide +kernel, by decide +kernel⟩, List.mem_of_getElem? (i := 62) (by decide +kernel), List.mem_of_getElem? (i := 336) (by decide +kernel), List.mem_of_getElem? (i := 337) (by decide +kernel)⟩
def lw_privs_1 : List (MethodName × Nat) := [(⟨"PolyCuts$Check", "note", "(III)V"⟩, 3), (⟨"PolyCuts$Check", "findFlatCorner", "(LPolyCuts$Corners;)V"⟩, 3), (⟨"PolyCuts$Check", "findMeetingEdges", "(LPolyCuts$Corners;)V"⟩, 3), (⟨"PolyCuts$Corners", "straddles", "(IIII)Z"⟩, 3), (⟨"PolyCuts$Shape", "crossOfEdge", "(I)I"⟩, 12), (⟨"PolyCuts$Shape", "look", "(II)I"⟩, 12), (⟨"PolyCuts$Shape", "isFree", "(II)Z"⟩, 12), (⟨"PolyCuts$Cutter", "weighSpans", "(LPolyCuts$Shape;)V"⟩, 4), (⟨"PolyCuts$Cutter", "weighSpan", "(LPolyCuts$Shape;II)V"⟩, 4), (⟨"PolyCuts$Cutter", "nameTriangles", "(LPolyCuts$Shape;)V"⟩, 4), (⟨"PolyCuts$Cutter", "nameDiagonals", "(LPolyCuts$Shape;)V"⟩, 4), (⟨"PolyCuts$Cutter", "join", "(III)V"⟩, 4), (⟨"PolyCuts$Cutter", "merge", "(LPolyCuts$Shape;)V"⟩, 4), (⟨"PolyCuts$Cutter", "isConvexWithout", "(LPolyCuts$Shape;II)Z"⟩, 4), (⟨"PolyCuts$Cutter", "joinedBefore", "(LPolyCuts$Corners;II)I"⟩, 4), (⟨"PolyCuts$Cutter", "joinedAfter", "(LPolyCuts$Corners;II)I"⟩, 4)]
theorem lw_r1 : ∀ q ∈ lw_privs_1, lw_okq q := List.forall_mem_cons.mpr ⟨lw_p0, List.forall_mem_cons.mpr ⟨lw_p1, List.forall_mem_cons.mpr ⟨lw_p2, List.forall_mem_cons.mpr ⟨lw_p3, List.forall_mem_cons.mpr ⟨lw_p4, List.forall_mem_cons.mpr ⟨lw_p5, List.forall_mem_cons.mpr ⟨lw_p6, List.forall_mem_cons.mpr ⟨lw_p7, List.forall_mem_cons.mpr ⟨lw_p8, List.forall_mem_cons.mpr ⟨lw_p9, List.forall_mem_cons.mpr ⟨lw_p10, List.forall_mem_cons.mpr ⟨lw_p11, List.forall_mem_cons.mpr ⟨lw_p12, List.forall_mem_cons.mpr ⟨lw_p13, List.forall_mem_cons.mpr ⟨lw_p14, List.forall_mem_cons.mpr ⟨lw_p15, fun _ h => absurd h List.not_mem_nil⟩⟩⟩⟩⟩⟩⟩⟩⟩⟩⟩⟩⟩⟩⟩⟩
theorem lw_p16 : lw_okq (⟨"PolyCuts", "shapeOf", "(I)LPolyCuts$Shape;"⟩, 6) := ⟨⟨by decide +kernel, by decide +kernel⟩, List.mem_of_getElem? (i := 11) (by decide +kernel), List.mem_of_getElem? (i := 362) (by decide +kernel), List.mem_of_getElem? (i := 363) (by decide +kernel)⟩
theorem lw_p17 : lw_okq (⟨"PolyCuts$Walk", "leastNext", "(LPolyCuts$Shape;II)I"⟩, 1) := ⟨⟨by decide +kernel, by decide +kernel⟩, List.mem_of_getElem? (i := 83) (by decide +kernel), List.mem_of_getElem? (i := 430) (by decide +kernel), List.mem_of_getElem? (i := 431) (by decide +kernel)⟩
theorem lw_p18 : lw_okq (⟨"PolyCuts$Shape", "fits", "(LPolyCuts$Shape;II)Z"⟩, 12) := ⟨⟨by decide +kernel, by decide +kernel⟩, List.mem_of_getElem? (i := 95) (by decide +kernel), List.mem_of_getElem? (i := 472) (by decide +kernel), List.mem_of_getElem? (i := 473) (by decide +kernel)⟩
theorem lw_p19 : lw_okq (⟨"PolyCuts$Shape", "fitsCorner", "(ILPolyCuts$Corners;IIII)Z"⟩, 12) := ⟨⟨by decide +kernel, by decide +kernel⟩, List.mem_of_getElem? (i := 95) (by decide +kernel), List.mem_of_getElem? (i := 478) (by decide +kernel), List.mem_of_getElem? (i := 479) (by decide +kernel)⟩
theorem lw_p20 : lw_okq (⟨"PolyCutsModel", "straight", "()I"⟩, 24) := ⟨⟨by decide +kernel, by decide +kernel⟩, List.mem_of_getElem? (i := 500) (by decide +kernel), List.mem_of_getElem? (i := 591) (by decide +kernel), List.mem_of_getElem? (i := 592) (by decide +kernel)⟩
theorem lw_p21 : lw_okq (⟨"PolyCutsModel", "crossed", "()I"⟩, 24) := ⟨⟨by decide +kernel, by decide +kernel⟩, List.mem_of_getElem? (i := 500) (by decide +kernel), List.mem_of_getElem? (i := 598) (by decide +kernel), List.mem_of_getElem? (i := 599) (by decide +kernel)⟩
theorem lw_p22 : lw_okq (⟨"PolyCutsModel", "isPolygon", "(I)Z"⟩, 24) := ⟨⟨by decide +kernel, by decide +kernel⟩, List.mem_of_getElem? (i := 500) (by decide +kernel), List.mem_of_getElem? (i := 623) (by decide +kernel), List.mem_of_getElem? (i := 624) (by decide +kernel)⟩
theorem lw_p23 : lw_okq (⟨"PolyCutsModel", "isCorner", "(II)Z"⟩, 24) := ⟨⟨by decide +kernel, by decide +kernel⟩, List.mem_of_getElem? (i := 500) (by decide +kernel), List.mem_of_getElem? (i := 631) (by decide +kernel), List.mem_of_getElem? (i := 632) (by decide +kernel)⟩
theorem lw_p24 : lw_okq (⟨"PolyCutsModel", "xOf", "(II)I"⟩, 24) := ⟨⟨by decide +kernel, by decide +kernel⟩, List.mem_of_getElem? (i := 500) (by decide +kernel), List.mem_of_getElem? (i := 635) (by decide +kernel), List.mem_of_getElem? (i := 636) (by decide +kernel)⟩
theorem lw_p25 : lw_okq (⟨"PolyCutsModel", "yOf", "(II)I"⟩, 24) := ⟨⟨by decide +kernel, by decide +kernel⟩, List.mem_of_getElem? (i := 500) (by decide +kernel), List.mem_of_getElem? (i := 639) (by decide +kernel), List.mem_of_getElem? (i := 640) (by decide +kernel)⟩
theorem lw_p26 : lw_okq (⟨"PolyCutsModel", "twice", "(I)I"⟩, 24) := ⟨⟨by decide +kernel, by decide +kernel⟩, List.mem_of_getElem? (i := 500) (by decide +kernel), List.mem_of_getElem? (i := 647) (by decide +kernel), List.mem_of_getElem? (i := 648) (by decide +kernel)⟩
theorem lw_p27 : lw_okq (⟨"PolyCutsModel", "lies", "(IIII)I"⟩, 24) := ⟨⟨by decide +kernel, by decide +kernel⟩, List.mem_of_getElem? (i := 500) (by decide +kernel), List.mem_of_getElem? (i := 667) (by decide +kernel), List.mem_of_getElem? (i := 668) (by decide +kernel)⟩
theorem lw_p28 : lw_okq (⟨"PolyCutsModel", "sight", "(III)I"⟩, 24) := ⟨⟨by decide +kernel, by decide +kernel⟩, List.mem_of_getElem? (i := 500) (by decide +kernel), List.mem_of_getElem? (i := 675) (by decide +kernel), List.mem_of_getElem? (i := 676) (by decide +kernel)⟩
theorem lw_p29 : lw_okq (⟨"PolyCutsModel", "isNear", "(III)Z"⟩, 24) := ⟨⟨by decide +kernel, by decide +kernel⟩, List.mem_of_getElem? (i := 500) (by decide +kernel), List.mem_of_getElem? (i := 679) (by decide +kernel), List.mem_of_getElem? (i := 680) (by decide +kernel)⟩
theorem lw_p30 : lw_okq (⟨"PolyCutsModel", "isSeen", "(III)Z"⟩, 24) := ⟨⟨by decide +kernel, by decide +kernel⟩, List.mem_of_getElem? (i := 500) (by decide +kernel), List.mem_of_getElem? (i := 683) (by decide +kernel), List.mem_of_getElem? (i := 684) (by decide +kernel)⟩
theorem lw_p31 : lw_okq (⟨"PolyCutsModel", "findFar", "(II)V"⟩, 24) := ⟨⟨by decide +kernel, by decide +kernel⟩, List.mem_of_getElem? (i := 500) (by decide +kernel), List.mem_of_getElem? (i := 691) (by decide +kernel), List.mem_of_getElem? (i := 692) (by decide +kernel)⟩
def lw_privs_2 : List (MethodName × Nat) := [(⟨"PolyCuts", "shapeOf", "(I)LPolyCuts$Shape;"⟩, 6), (⟨"PolyCuts$Walk", "leastNext", "(LPolyCuts$Shape;II)I"⟩, 1), (⟨"PolyCuts$Shape", "fits", "(LPolyCuts$Shape;II)Z"⟩, 12), (⟨"PolyCuts$Shape", "fitsCorner", "(ILPolyCuts$Corners;IIII)Z"⟩, 12), (⟨"PolyCutsModel", "straight", "()I"⟩, 24), (⟨"PolyCutsModel", "crossed", "()I"⟩, 24), (⟨"PolyCutsModel", "isPolygon", "(I)Z"⟩, 24), (⟨"PolyCutsModel", "isCorner", "(II)Z"⟩, 24), (⟨"PolyCutsModel", "xOf", "(II)I"⟩, 24), (⟨"PolyCutsModel", "yOf", "(II)I"⟩, 24), (⟨"PolyCutsModel", "twice", "(I)I"⟩, 24), (⟨"PolyCutsModel", "lies", "(IIII)I"⟩, 24), (⟨"PolyCutsModel", "sight", "(III)I"⟩, 24), (⟨"PolyCutsModel", "isNear", "(III)Z"⟩, 24), (⟨"PolyCutsModel", "isSeen", "(III)Z"⟩, 24), (⟨"PolyCutsModel", "findFar", "(II)V"⟩, 24)]
theorem lw_r2 : ∀ q ∈ lw_privs_2, lw_okq q := List.forall_mem_cons.mpr ⟨lw_p16, List.forall_mem_cons.mpr ⟨lw_p17, List.forall_mem_cons.mpr ⟨lw_p18, List.forall_mem_cons.mpr ⟨lw_p19, List.forall_mem_cons.mpr ⟨lw_p20, List.forall_mem_cons.mpr ⟨lw_p21, List.forall_mem_cons.mpr ⟨lw_p22, List.forall_mem_cons.mpr ⟨lw_p23, List.forall_mem_cons.mpr ⟨lw_p24, List.forall_mem_cons.mpr ⟨lw_p25, List.forall_mem_cons.mpr ⟨lw_p26, List.forall_mem_cons.mpr ⟨lw_p27, List.forall_mem_cons.mpr ⟨lw_p28, List.forall_mem_cons.mpr ⟨lw_p29, List.forall_mem_cons.mpr ⟨lw_p30, List.forall_mem_cons.mpr ⟨lw_p31, fun _ h => absurd h List.not_mem_nil⟩⟩⟩⟩⟩⟩⟩⟩⟩⟩⟩⟩⟩⟩⟩⟩
theorem lw_p32 : lw_okq (⟨"PolyCutsModel", "part", "(I)V"⟩, 24) := ⟨⟨by decide +kernel, by decide +kernel⟩, List.mem_of_getElem? (i := 500) (by decide +kernel), List.mem_of_getElem? (i := 703) (by decide +kernel), List.mem_of_getElem? (i := 704) (by decide +kernel)⟩
theorem lw_p33 : lw_okq (⟨"PolyCutsModel", "square", "(III)I"⟩, 24) := ⟨⟨by decide +kernel, by decide +kernel⟩, List.mem_of_getElem? (i := 500) (by decide +kernel), List.mem_of_getElem? (i := 707) (by decide +kernel), List.mem_of_getElem? (i := 708) (by decide +kernel)⟩
theorem lw_p34 : lw_okq (⟨"PolyCutsModel", "partChain", "(II)V"⟩, 24) := ⟨⟨by decide +kernel, by decide +kernel⟩, List.mem_of_getElem? (i := 500) (by decide +kernel), List.mem_of_getElem? (i := 711) (by decide +kernel), List.mem_of_getElem? (i := 712) (by decide +kernel)⟩
theorem lw_p35 : lw_okq (⟨"PolyCutsModel", "sumBy", "(III)I"⟩, 24) := ⟨⟨by decide +kernel, by decide +kernel⟩, List.mem_of_getElem? (i := 500) (by decide +kernel), List.mem_of_getElem? (i := 715) (by decide +kernel), List.mem_of_getElem? (i := 716) (by decide +kernel)⟩
theorem lw_p36 : lw_okq (⟨"PolyCutsModel", "layTriangles", "(I)V"⟩, 24) := ⟨⟨by decide +kernel, by decide +kernel⟩, List.mem_of_getElem? (i := 500) (by decide +kernel), List.mem_of_getElem? (i := 727) (by decide +kernel), List.mem_of_getElem? (i := 728) (by decide +kernel)⟩
theorem lw_p37 : lw_okq (⟨"PolyCutsModel", "layDiagonals", "(I)V"⟩, 24) := ⟨⟨by decide +kernel, by decide +kernel⟩, List.mem_of_getElem? (i := 500) (by decide +kernel), List.mem_of_getElem? (i := 735) (by decide +kernel), List.mem_of_getElem? (i := 736) (by decide +kernel)⟩
theorem lw_p38 : lw_okq (⟨"PolyCutsModel", "isFlat", "(IIII)Z"⟩, 24) := ⟨⟨by decide +kernel, by decide +kernel⟩, List.mem_of_getElem? (i := 500) (by decide +kernel), List.mem_of_getElem? (i := 739) (by decide +kernel), List.mem_of_getElem? (i := 740) (by decide +kernel)⟩
theorem lw_p39 : lw_okq (⟨"PolyCutsModel", "fitting", "(IIZ)I"⟩, 24) := ⟨⟨by decide +kernel, by decide +kernel⟩, List.mem_of_getElem? (i := 500) (by decide +kernel), List.mem_of_getElem? (i := 751) (by decide +kernel), List.mem_of_getElem? (i := 752) (by decide +kernel)⟩
theorem lw_p40 : lw_okq (⟨"PolyCutsModel", "fits", "(IIIZZ)Z"⟩, 24) := ⟨⟨by decide +kernel, by decide +kernel⟩, List.mem_of_getElem? (i := 500) (by decide +kernel), List.mem_of_getElem? (i := 755) (by decide +kernel), List.mem_of_getElem? (i := 756) (by decide +kernel)⟩
theorem lw_p41 : lw_okq (⟨"PolyCutsModel", "go", "(IIIZ)I"⟩, 24) := ⟨⟨by decide +kernel, by decide +kernel⟩, List.mem_of_getElem? (i := 500) (by decide +kernel), List.mem_of_getElem? (i := 759) (by decide +kernel), List.mem_of_getElem? (i := 760) (by decide +kernel)⟩
def lw_privs_3 : List (MethodName × Nat) := [(⟨"PolyCutsModel", "part", "(I)V"⟩, 24), (⟨"PolyCutsModel", "square", "(III)I"⟩, 24), (⟨"PolyCutsModel", "partChain", "(II)V"⟩, 24), (⟨"PolyCutsModel", "sumBy", "(III)I"⟩, 24), (⟨"PolyCutsModel", "layTriangles", "(I)V"⟩, 24), (⟨"PolyCutsModel", "layDiagonals", "(I)V"⟩, 24), (⟨"PolyCutsModel", "isFlat", "(IIII)Z"⟩, 24), (⟨"PolyCutsModel", "fitting", "(IIZ)I"⟩, 24), (⟨"PolyCutsModel", "fits", "(IIIZZ)Z"⟩, 24), (⟨"PolyCutsModel", "go", "(IIIZ)I"⟩, 24)]
theorem lw_r3 : ∀ q ∈ lw_privs_3, lw_okq q := List.forall_mem_cons.mpr ⟨lw_p32, List.forall_mem_cons.mpr ⟨lw_p33, List.forall_mem_cons.mpr ⟨lw_p34, List.forall_mem_cons.mpr ⟨lw_p35, List.forall_mem_cons.mpr ⟨lw_p36, List.forall_mem_cons.mpr ⟨lw_p37, List.forall_mem_cons.mpr ⟨lw_p38, List.forall_mem_cons.mpr ⟨lw_p39, List.forall_mem_cons.mpr ⟨lw_p40, List.forall_mem_cons.mpr ⟨lw_p41, fun _ h => absurd h List.not_mem_nil⟩⟩⟩⟩⟩⟩⟩⟩⟩⟩
def lw_privs : List (MethodName × Nat) := lw_privs_1 ++ (lw_privs_2 ++ (lw_privs_3))
def lw_tbl : List Cond := k2_sels lw_privs ++ tables_1
theorem lw_privs_ok : ∀ q ∈ lw_privs, lw_okq q := by
  show ∀ q ∈ lw_privs_1 ++ (lw_privs_2 ++ (lw_privs_3)), lw_okq q
  exact List.forall_mem_append.mpr ⟨lw_r1, List.forall_mem_append.mpr ⟨lw_r2, lw_r3⟩⟩
end
section
/-! ===== BEGIN words of one list among another's, by their places ===== -/
theorem goodIn_r {big : List Cond} (ws : List Cond) (ps : List Nat) (hp : ws = ps.filterMap (fun i => big[i]?)) (h : ws.all goodWord = true) : GoodIn big ws := by
  intro w hw
  have h1 := List.all_eq_true.mp h w hw
  rw [hp] at hw
  obtain ⟨i, -, hi⟩ := List.mem_filterMap.mp hw
  have hm : w ∈ big := by first | exact List.mem_of_getElem? hi | exact List.getElem?_mem hi
  exact ⟨hm, good_of_word h1⟩
theorem goodIn_app {big a b : List Cond} (ha : GoodIn big a) (hb : GoodIn big b) : GoodIn big (a ++ b) := fun w h => (List.mem_append.mp h).elim (ha w) (hb w)
theorem goodIn_ca {big a b : List Cond} {c : Cond} (ha : GoodIn big (c :: a)) (hb : GoodIn big b) : GoodIn big (c :: (a ++ b)) := fun w h => (List.mem_cons.mp h).elim (fun e => ha w (List.mem_cons.mpr (Or.inl e))) (fun h => (List.mem_append.mp h).elim (fun h => ha w (List.mem_cons.mpr (Or.inr h))) (hb w))
theorem goodIn_sub {big ws : List Cond} (hm : ∀ w ∈ ws, w ∈ big) (h : ws.all goodWord = true) : GoodIn big ws := fun w hw => ⟨hm w hw, good_of_word (List.all_eq_true.mp h w hw)⟩
/-! ===== END ===== -/
/-! ===== BEGIN printed: names, fields, word lists, decode rows ===== -/
def RX0 : String := "PolyCuts$Check"
def TX0 : u_T := fun k => match k with
  | 0 => ("PolyCuts$Check", "kind", "I", false)
  | 1 => ("PolyCuts$Check", "first", "I", false)
  | _ => ("PolyCuts$Check", "second", "I", false)
def tyX0 : Nat → FieldType := fun k => match k with
  | 0 => .int
  | 1 => .int
  | _ => .int
abbrev wsX00 : List Cond := u_ws RX0 TX0 3
theorem nmX0 : ∀ a, a < 3 → ∀ b, b < 3 → a ≠ b → (TX0 a).2.1 ≠ (TX0 b).2.1 := by decide +kernel
theorem tyX0_ok : ∀ k, k < 3 → parseFieldDescriptor (TX0 k).2.2.1 = some (tyX0 k) := by decide +kernel
abbrev cX0_init : ByteArray := prog_2_method_1_code
def yX0_init : MethodName := ⟨RX0, "<init>", "()V"⟩
abbrev cX0_examine : ByteArray := prog_2_method_2_code
def yX0_examine : MethodName := ⟨RX0, "examine", "(LPolyCuts$Corners;)V"⟩
abbrev cX0_note : ByteArray := prog_2_method_3_code
def yX0_note : MethodName := ⟨RX0, "note", "(III)V"⟩
abbrev cX0_findFlatCorner : ByteArray := prog_2_method_4_code
def yX0_findFlatCorner : MethodName := ⟨RX0, "findFlatCorner", "(LPolyCuts$Corners;)V"⟩
abbrev cX0_findMeetingEdges : ByteArray := prog_2_method_5_code
def yX0_findMeetingEdges : MethodName := ⟨RX0, "findMeetingEdges", "(LPolyCuts$Corners;)V"⟩
def RX1 : String := "PolyCuts$Corners"
def TX1 : u_T := fun k => match k with
  | 0 => ("PolyCuts$Corners", "x", "[I", true)
  | 1 => ("PolyCuts$Corners", "y", "[I", true)
  | _ => ("PolyCuts$Corners", "size", "I", false)
def tyX1 : Nat → FieldType := fun k => match k with
  | 0 => .array .int
  | 1 => .array .int
  | _ => .int
abbrev wsX10 : List Cond := u_ws RX1 TX1 3
theorem nmX1 : ∀ a, a < 3 → ∀ b, b < 3 → a ≠ b → (TX1 a).2.1 ≠ (TX1 b).2.1 := by decide +kernel
theorem tyX1_ok : ∀ k, k < 3 → parseFieldDescriptor (TX1 k).2.2.1 = some (tyX1 k) := by decide +kernel
abbrev cX1_init : ByteArray := prog_3_method_1_code
def yX1_init : MethodName := ⟨RX1, "<init>", "()V"⟩
abbrev cX1_isFull : ByteArray := prog_3_method_2_code
def yX1_isFull : MethodName := ⟨RX1, "isFull", "()Z"⟩
abbrev cX1_has : ByteArray := prog_3_method_3_code
def yX1_has : MethodName := ⟨RX1, "has", "(I)Z"⟩
abbrev cX1_append : ByteArray := prog_3_method_4_code
def yX1_append : MethodName := ⟨RX1, "append", "(II)V"⟩
abbrev cX1_clear : ByteArray := prog_3_method_5_code
def yX1_clear : MethodName := ⟨RX1, "clear", "()V"⟩
abbrev cX1_copyOf : ByteArray := prog_3_method_6_code
def yX1_copyOf : MethodName := ⟨RX1, "copyOf", "(LPolyCuts$Corners;)V"⟩
abbrev cX1_along : ByteArray := prog_3_method_7_code
def yX1_along : MethodName := ⟨RX1, "along", "(I)[I"⟩
abbrev cX1_after : ByteArray := prog_3_method_8_code
def yX1_after : MethodName := ⟨RX1, "after", "(I)I"⟩
abbrev cX1_before : ByteArray := prog_3_method_9_code
def yX1_before : MethodName := ⟨RX1, "before", "(I)I"⟩
abbrev cX1_turn : ByteArray := prog_3_method_10_code
def yX1_turn : MethodName := ⟨RX1, "turn", "(III)I"⟩
abbrev cX1_advance : ByteArray := prog_3_method_11_code
def yX1_advance : MethodName := ⟨RX1, "advance", "(III)I"⟩
abbrev cX1_squaredLength : ByteArray := prog_3_method_12_code
def yX1_squaredLength : MethodName := ⟨RX1, "squaredLength", "(II)I"⟩
abbrev cX1_meet : ByteArray := prog_3_method_13_code
def yX1_meet : MethodName := ⟨RX1, "meet", "(IIII)Z"⟩
abbrev cX1_rangesMeet : ByteArray := prog_3_method_14_code
def yX1_rangesMeet : MethodName := ⟨RX1, "rangesMeet", "([IIIII)Z"⟩
abbrev cX1_straddles : ByteArray := prog_3_method_15_code
def yX1_straddles : MethodName := ⟨RX1, "straddles", "(IIII)Z"⟩
def RX2 : String := "PolyCuts$Cutter"
def TX2 : u_T := fun k => match k with
  | 0 => ("PolyCuts$Cutter", "ways", "[[I", true)
  | 1 => ("PolyCuts$Cutter", "sum", "[[I", true)
  | 2 => ("PolyCuts$Cutter", "third", "[[I", true)
  | _ => ("PolyCuts$Cutter", "joined", "[[I", true)
def tyX2 : Nat → FieldType := fun k => match k with
  | 0 => .array (.array .int)
  | 1 => .array (.array .int)
  | 2 => .array (.array .int)
  | _ => .array (.array .int)
abbrev wsX20 : List Cond := u_ws RX2 TX2 4
theorem nmX2 : ∀ a, a < 4 → ∀ b, b < 4 → a ≠ b → (TX2 a).2.1 ≠ (TX2 b).2.1 := by decide +kernel
theorem tyX2_ok : ∀ k, k < 4 → parseFieldDescriptor (TX2 k).2.2.1 = some (tyX2 k) := by decide +kernel
abbrev cX2_init : ByteArray := prog_4_method_1_code
def yX2_init : MethodName := ⟨RX2, "<init>", "()V"⟩
abbrev cX2_cut : ByteArray := prog_4_method_2_code
def yX2_cut : MethodName := ⟨RX2, "cut", "(LPolyCuts$Shape;)V"⟩
abbrev cX2_weighSpans : ByteArray := prog_4_method_3_code
def yX2_weighSpans : MethodName := ⟨RX2, "weighSpans", "(LPolyCuts$Shape;)V"⟩
abbrev cX2_weighSpan : ByteArray := prog_4_method_4_code
def yX2_weighSpan : MethodName := ⟨RX2, "weighSpan", "(LPolyCuts$Shape;II)V"⟩
abbrev cX2_nameTriangles : ByteArray := prog_4_method_5_code
def yX2_nameTriangles : MethodName := ⟨RX2, "nameTriangles", "(LPolyCuts$Shape;)V"⟩
abbrev cX2_nameSpan : ByteArray := prog_4_method_6_code
def yX2_nameSpan : MethodName := ⟨RX2, "nameSpan", "(LPolyCuts$Shape;III)V"⟩
abbrev cX2_nameDiagonals : ByteArray := prog_4_method_7_code
def yX2_nameDiagonals : MethodName := ⟨RX2, "nameDiagonals", "(LPolyCuts$Shape;)V"⟩
abbrev cX2_join : ByteArray := prog_4_method_8_code
def yX2_join : MethodName := ⟨RX2, "join", "(III)V"⟩
abbrev cX2_merge : ByteArray := prog_4_method_9_code
def yX2_merge : MethodName := ⟨RX2, "merge", "(LPolyCuts$Shape;)V"⟩
abbrev cX2_isConvexWithout : ByteArray := prog_4_method_10_code
def yX2_isConvexWithout : MethodName := ⟨RX2, "isConvexWithout", "(LPolyCuts$Shape;II)Z"⟩
abbrev cX2_joinedBefore : ByteArray := prog_4_method_11_code
def yX2_joinedBefore : MethodName := ⟨RX2, "joinedBefore", "(LPolyCuts$Corners;II)I"⟩
abbrev cX2_joinedAfter : ByteArray := prog_4_method_12_code
def yX2_joinedAfter : MethodName := ⟨RX2, "joinedAfter", "(LPolyCuts$Corners;II)I"⟩
def RX3 : String := "PolyCuts$Shape"
def TX3 : u_T := fun k => match k with
  | 0 => ("PolyCuts$Shape", "corners", "LPolyCuts$Corners;", true)
  | 1 => ("PolyCuts$Shape", "sight", "[[I", true)
  | 2 => ("PolyCuts$Shape", "doubleArea", "I", false)
  | 3 => ("PolyCuts$Shape", "triangulationCount", "I", false)
  | 4 => ("PolyCuts$Shape", "leastSum", "I", false)
  | 5 => ("PolyCuts$Shape", "partCount", "I", false)
  | 6 => ("PolyCuts$Shape", "triangleFrom", "[I", true)
  | 7 => ("PolyCuts$Shape", "triangleThird", "[I", true)
  | 8 => ("PolyCuts$Shape", "triangleTo", "[I", true)
  | 9 => ("PolyCuts$Shape", "diagonalLesser", "[I", true)
  | 10 => ("PolyCuts$Shape", "diagonalGreater", "[I", true)
  | _ => ("PolyCuts$Shape", "diagonalStays", "[I", true)
def tyX3 : Nat → FieldType := fun k => match k with
  | 0 => .object "PolyCuts$Corners"
  | 1 => .array (.array .int)
  | 2 => .int
  | 3 => .int
  | 4 => .int
  | 5 => .int
  | 6 => .array .int
  | 7 => .array .int
  | 8 => .array .int
  | 9 => .array .int
  | 10 => .array .int
  | _ => .array .int
abbrev wsX30 : List Cond := u_ws RX3 TX3 12
theorem nmX3 : ∀ a, a < 12 → ∀ b, b < 12 → a ≠ b → (TX3 a).2.1 ≠ (TX3 b).2.1 := by decide +kernel
theorem tyX3_ok : ∀ k, k < 12 → parseFieldDescriptor (TX3 k).2.2.1 = some (tyX3 k) := by decide +kernel
abbrev cX3_init : ByteArray := prog_5_method_1_code
def yX3_init : MethodName := ⟨RX3, "<init>", "()V"⟩
abbrev cX3_become : ByteArray := prog_5_method_2_code
def yX3_become : MethodName := ⟨RX3, "become", "(LPolyCuts$Corners;)V"⟩
abbrev cX3_lookAround : ByteArray := prog_5_method_3_code
def yX3_lookAround : MethodName := ⟨RX3, "lookAround", "()V"⟩
abbrev cX3_triangleCount : ByteArray := prog_5_method_4_code
def yX3_triangleCount : MethodName := ⟨RX3, "triangleCount", "()I"⟩
abbrev cX3_diagonalCount : ByteArray := prog_5_method_5_code
def yX3_diagonalCount : MethodName := ⟨RX3, "diagonalCount", "()I"⟩
abbrev cX3_hand : ByteArray := prog_5_method_6_code
def yX3_hand : MethodName := ⟨RX3, "hand", "()I"⟩
abbrev cX3_centroidMoment : ByteArray := prog_5_method_7_code
def yX3_centroidMoment : MethodName := ⟨RX3, "centroidMoment", "(I)J"⟩
abbrev cX3_pointsOnEdges : ByteArray := prog_5_method_8_code
def yX3_pointsOnEdges : MethodName := ⟨RX3, "pointsOnEdges", "()I"⟩
abbrev cX3_placeOf : ByteArray := prog_5_method_9_code
def yX3_placeOf : MethodName := ⟨RX3, "placeOf", "(III)I"⟩
abbrev cX3_leastStart : ByteArray := prog_5_method_10_code
def yX3_leastStart : MethodName := ⟨RX3, "leastStart", "(LPolyCuts$Shape;I)I"⟩
abbrev cX3_startCount : ByteArray := prog_5_method_11_code
def yX3_startCount : MethodName := ⟨RX3, "startCount", "(I)I"⟩
abbrev cX3_crossOfEdge : ByteArray := prog_5_method_12_code
def yX3_crossOfEdge : MethodName := ⟨RX3, "crossOfEdge", "(I)I"⟩
abbrev cX3_look : ByteArray := prog_5_method_13_code
def yX3_look : MethodName := ⟨RX3, "look", "(II)I"⟩
abbrev cX3_isFree : ByteArray := prog_5_method_14_code
def yX3_isFree : MethodName := ⟨RX3, "isFree", "(II)Z"⟩
abbrev cX3_fits : ByteArray := prog_5_method_15_code
def yX3_fits : MethodName := ⟨RX3, "fits", "(LPolyCuts$Shape;II)Z"⟩
abbrev cX3_fitsCorner : ByteArray := prog_5_method_16_code
def yX3_fitsCorner : MethodName := ⟨RX3, "fitsCorner", "(ILPolyCuts$Corners;IIII)Z"⟩
def RX4 : String := "PolyCuts$Walk"
def TX4 : u_T := fun k => match k with
  | _ => ("PolyCuts$Walk", "stepsLeft", "[I", true)
def tyX4 : Nat → FieldType := fun k => match k with
  | _ => .array .int
abbrev wsX40 : List Cond := u_ws RX4 TX4 1
theorem nmX4 : ∀ a, a < 1 → ∀ b, b < 1 → a ≠ b → (TX4 a).2.1 ≠ (TX4 b).2.1 := by decide +kernel
theorem tyX4_ok : ∀ k, k < 1 → parseFieldDescriptor (TX4 k).2.2.1 = some (tyX4 k) := by decide +kernel
abbrev cX4_init : ByteArray := prog_6_method_1_code
def yX4_init : MethodName := ⟨RX4, "<init>", "()V"⟩
abbrev cX4_measure : ByteArray := prog_6_method_2_code
def yX4_measure : MethodName := ⟨RX4, "measure", "(LPolyCuts$Shape;I)V"⟩
abbrev cX4_cornerAfter : ByteArray := prog_6_method_3_code
def yX4_cornerAfter : MethodName := ⟨RX4, "cornerAfter", "(LPolyCuts$Shape;II)I"⟩
abbrev cX4_leastNext : ByteArray := prog_6_method_4_code
def yX4_leastNext : MethodName := ⟨RX4, "leastNext", "(LPolyCuts$Shape;II)I"⟩
def RX5 : String := "PolyCuts"
def TX5 : u_T := fun k => match k with
  | 0 => ("PolyCuts", "row", "LPolyCuts$Corners;", true)
  | 1 => ("PolyCuts", "check", "LPolyCuts$Check;", true)
  | 2 => ("PolyCuts", "cutter", "LPolyCuts$Cutter;", true)
  | 3 => ("PolyCuts", "walk", "LPolyCuts$Walk;", true)
  | 4 => ("PolyCuts", "shapes", "[LPolyCuts$Shape;", true)
  | _ => ("PolyCuts", "shapeCount", "I", false)
def tyX5 : Nat → FieldType := fun k => match k with
  | 0 => .object "PolyCuts$Corners"
  | 1 => .object "PolyCuts$Check"
  | 2 => .object "PolyCuts$Cutter"
  | 3 => .object "PolyCuts$Walk"
  | 4 => .array (.object "PolyCuts$Shape")
  | _ => .int
abbrev wsX50 : List Cond := u_ws RX5 TX5 6
theorem nmX5 : ∀ a, a < 6 → ∀ b, b < 6 → a ≠ b → (TX5 a).2.1 ≠ (TX5 b).2.1 := by decide +kernel
theorem tyX5_ok : ∀ k, k < 6 → parseFieldDescriptor (TX5 k).2.2.1 = some (tyX5 k) := by decide +kernel
abbrev cX5_init : ByteArray := prog_1_method_1_code
def yX5_init : MethodName := ⟨RX5, "<init>", "()V"⟩
abbrev cX5_corner : ByteArray := prog_1_method_2_code
def yX5_corner : MethodName := ⟨RX5, "corner", "(II)I"⟩
abbrev cX5_polygon : ByteArray := prog_1_method_3_code
def yX5_polygon : MethodName := ⟨RX5, "polygon", "()I"⟩
abbrev cX5_fault : ByteArray := prog_1_method_4_code
def yX5_fault : MethodName := ⟨RX5, "fault", "(I)I"⟩
abbrev cX5_drop : ByteArray := prog_1_method_5_code
def yX5_drop : MethodName := ⟨RX5, "drop", "()I"⟩
abbrev cX5_count : ByteArray := prog_1_method_6_code
def yX5_count : MethodName := ⟨RX5, "count", "(I)I"⟩
abbrev cX5_at : ByteArray := prog_1_method_7_code
def yX5_at : MethodName := ⟨RX5, "at", "(III)I"⟩
abbrev cX5_area : ByteArray := prog_1_method_8_code
def yX5_area : MethodName := ⟨RX5, "area", "(I)I"⟩
abbrev cX5_centroid : ByteArray := prog_1_method_9_code
def yX5_centroid : MethodName := ⟨RX5, "centroid", "(III)J"⟩
abbrev cX5_points : ByteArray := prog_1_method_10_code
def yX5_points : MethodName := ⟨RX5, "points", "(II)I"⟩
abbrev cX5_in : ByteArray := prog_1_method_11_code
def yX5_in : MethodName := ⟨RX5, "in", "(III)I"⟩
abbrev cX5_sees : ByteArray := prog_1_method_12_code
def yX5_sees : MethodName := ⟨RX5, "sees", "(III)I"⟩
abbrev cX5_way : ByteArray := prog_1_method_13_code
def yX5_way : MethodName := ⟨RX5, "way", "(III)I"⟩
abbrev cX5_step : ByteArray := prog_1_method_14_code
def yX5_step : MethodName := ⟨RX5, "step", "(IIII)I"⟩
abbrev cX5_triangulations : ByteArray := prog_1_method_15_code
def yX5_triangulations : MethodName := ⟨RX5, "triangulations", "(I)I"⟩
abbrev cX5_best : ByteArray := prog_1_method_16_code
def yX5_best : MethodName := ⟨RX5, "best", "(I)I"⟩
abbrev cX5_triangle : ByteArray := prog_1_method_17_code
def yX5_triangle : MethodName := ⟨RX5, "triangle", "(III)I"⟩
abbrev cX5_diagonal : ByteArray := prog_1_method_18_code
def yX5_diagonal : MethodName := ⟨RX5, "diagonal", "(III)I"⟩
abbrev cX5_parts : ByteArray := prog_1_method_19_code
def yX5_parts : MethodName := ⟨RX5, "parts", "(I)I"⟩
abbrev cX5_same : ByteArray := prog_1_method_20_code
def yX5_same : MethodName := ⟨RX5, "same", "(II)I"⟩
abbrev cX5_onto : ByteArray := prog_1_method_21_code
def yX5_onto : MethodName := ⟨RX5, "onto", "(II)I"⟩
abbrev cX5_symmetries : ByteArray := prog_1_method_22_code
def yX5_symmetries : MethodName := ⟨RX5, "symmetries", "(II)I"⟩
abbrev cX5_shapeOf : ByteArray := prog_1_method_23_code
def yX5_shapeOf : MethodName := ⟨RX5, "shapeOf", "(I)LPolyCuts$Shape;"⟩
abbrev cX5_isWithin : ByteArray := prog_1_method_24_code
def yX5_isWithin : MethodName := ⟨RX5, "isWithin", "(II)Z"⟩
abbrev cX5_isZeroOrOne : ByteArray := prog_1_method_25_code
def yX5_isZeroOrOne : MethodName := ⟨RX5, "isZeroOrOne", "(I)Z"⟩
abbrev cX5_greatestDivisor : ByteArray := prog_1_method_26_code
def yX5_greatestDivisor : MethodName := ⟨RX5, "greatestDivisor", "(JJ)J"⟩
def RX6 : String := "PolyCutsModel"
def TX6 : u_T := fun k => match k with
  | 0 => ("PolyCutsModel", "rowMany", "I", false)
  | 1 => ("PolyCutsModel", "rowX", "[I", true)
  | 2 => ("PolyCutsModel", "rowY", "[I", true)
  | 3 => ("PolyCutsModel", "polygons", "I", false)
  | 4 => ("PolyCutsModel", "corners", "[I", true)
  | 5 => ("PolyCutsModel", "xs", "[I", true)
  | 6 => ("PolyCutsModel", "ys", "[I", true)
  | 7 => ("PolyCutsModel", "faultFirst", "I", false)
  | 8 => ("PolyCutsModel", "faultSecond", "I", false)
  | 9 => ("PolyCutsModel", "far", "[I", true)
  | 10 => ("PolyCutsModel", "ways", "[I", true)
  | 11 => ("PolyCutsModel", "sums", "[I", true)
  | 12 => ("PolyCutsModel", "joins", "[I", true)
  | 13 => ("PolyCutsModel", "triangles", "I", false)
  | 14 => ("PolyCutsModel", "triangleI", "[I", true)
  | 15 => ("PolyCutsModel", "triangleK", "[I", true)
  | 16 => ("PolyCutsModel", "triangleJ", "[I", true)
  | 17 => ("PolyCutsModel", "pile", "[I", true)
  | 18 => ("PolyCutsModel", "diagonals", "I", false)
  | 19 => ("PolyCutsModel", "diagonalA", "[I", true)
  | 20 => ("PolyCutsModel", "diagonalB", "[I", true)
  | 21 => ("PolyCutsModel", "stays", "[Z", true)
  | 22 => ("PolyCutsModel", "isJoined", "[Z", true)
  | _ => ("PolyCutsModel", "least", "I", false)
def tyX6 : Nat → FieldType := fun k => match k with
  | 0 => .int
  | 1 => .array .int
  | 2 => .array .int
  | 3 => .int
  | 4 => .array .int
  | 5 => .array .int
  | 6 => .array .int
  | 7 => .int
  | 8 => .int
  | 9 => .array .int
  | 10 => .array .int
  | 11 => .array .int
  | 12 => .array .int
  | 13 => .int
  | 14 => .array .int
  | 15 => .array .int
  | 16 => .array .int
  | 17 => .array .int
  | 18 => .int
  | 19 => .array .int
  | 20 => .array .int
  | 21 => .array .boolean
  | 22 => .array .boolean
  | _ => .int
abbrev wsX60 : List Cond := u_ws RX6 TX6 24
theorem nmX6 : ∀ a, a < 24 → ∀ b, b < 24 → a ≠ b → (TX6 a).2.1 ≠ (TX6 b).2.1 := by decide +kernel
theorem tyX6_ok : ∀ k, k < 24 → parseFieldDescriptor (TX6 k).2.2.1 = some (tyX6 k) := by decide +kernel
abbrev cX6_init : ByteArray := prog_8_method_1_code
def yX6_init : MethodName := ⟨RX6, "<init>", "()V"⟩
abbrev cX6_within : ByteArray := prog_8_method_3_code
def yX6_within : MethodName := ⟨RX6, "within", "(III)Z"⟩
abbrev cX6_corner : ByteArray := prog_8_method_4_code
def yX6_corner : MethodName := ⟨RX6, "corner", "(II)I"⟩
abbrev cX6_turn : ByteArray := prog_8_method_5_code
def yX6_turn : MethodName := ⟨RX6, "turn", "(IIIIII)I"⟩
abbrev cX6_isBetween : ByteArray := prog_8_method_6_code
def yX6_isBetween : MethodName := ⟨RX6, "isBetween", "(IIIIII)Z"⟩
abbrev cX6_sign : ByteArray := prog_8_method_7_code
def yX6_sign : MethodName := ⟨RX6, "sign", "(I)I"⟩
abbrev cX6_meet : ByteArray := prog_8_method_8_code
def yX6_meet : MethodName := ⟨RX6, "meet", "(IIIIIIII)Z"⟩
abbrev cX6_straight : ByteArray := prog_8_method_9_code
def yX6_straight : MethodName := ⟨RX6, "straight", "()I"⟩
abbrev cX6_crossed : ByteArray := prog_8_method_10_code
def yX6_crossed : MethodName := ⟨RX6, "crossed", "()I"⟩
abbrev cX6_polygon : ByteArray := prog_8_method_11_code
def yX6_polygon : MethodName := ⟨RX6, "polygon", "()I"⟩
abbrev cX6_fault : ByteArray := prog_8_method_12_code
def yX6_fault : MethodName := ⟨RX6, "fault", "(I)I"⟩
abbrev cX6_isPolygon : ByteArray := prog_8_method_13_code
def yX6_isPolygon : MethodName := ⟨RX6, "isPolygon", "(I)Z"⟩
abbrev cX6_isCorner : ByteArray := prog_8_method_14_code
def yX6_isCorner : MethodName := ⟨RX6, "isCorner", "(II)Z"⟩
abbrev cX6_drop : ByteArray := prog_8_method_15_code
def yX6_drop : MethodName := ⟨RX6, "drop", "()I"⟩
abbrev cX6_count : ByteArray := prog_8_method_16_code
def yX6_count : MethodName := ⟨RX6, "count", "(I)I"⟩
abbrev cX6_xOf : ByteArray := prog_8_method_17_code
def yX6_xOf : MethodName := ⟨RX6, "xOf", "(II)I"⟩
abbrev cX6_yOf : ByteArray := prog_8_method_18_code
def yX6_yOf : MethodName := ⟨RX6, "yOf", "(II)I"⟩
abbrev cX6_at : ByteArray := prog_8_method_19_code
def yX6_at : MethodName := ⟨RX6, "at", "(III)I"⟩
abbrev cX6_twice : ByteArray := prog_8_method_20_code
def yX6_twice : MethodName := ⟨RX6, "twice", "(I)I"⟩
abbrev cX6_area : ByteArray := prog_8_method_21_code
def yX6_area : MethodName := ⟨RX6, "area", "(I)I"⟩
abbrev cX6_common : ByteArray := prog_8_method_22_code
def yX6_common : MethodName := ⟨RX6, "common", "(JJ)J"⟩
abbrev cX6_centroid : ByteArray := prog_8_method_23_code
def yX6_centroid : MethodName := ⟨RX6, "centroid", "(III)J"⟩
abbrev cX6_points : ByteArray := prog_8_method_24_code
def yX6_points : MethodName := ⟨RX6, "points", "(II)I"⟩
abbrev cX6_lies : ByteArray := prog_8_method_25_code
def yX6_lies : MethodName := ⟨RX6, "lies", "(IIII)I"⟩
abbrev cX6_in : ByteArray := prog_8_method_26_code
def yX6_in : MethodName := ⟨RX6, "in", "(III)I"⟩
abbrev cX6_isNear : ByteArray := prog_8_method_27_code
def yX6_isNear : MethodName := ⟨RX6, "isNear", "(III)Z"⟩
abbrev cX6_isSeen : ByteArray := prog_8_method_28_code
def yX6_isSeen : MethodName := ⟨RX6, "isSeen", "(III)Z"⟩
abbrev cX6_sight : ByteArray := prog_8_method_29_code
def yX6_sight : MethodName := ⟨RX6, "sight", "(III)I"⟩
abbrev cX6_sees : ByteArray := prog_8_method_30_code
def yX6_sees : MethodName := ⟨RX6, "sees", "(III)I"⟩
abbrev cX6_findFar : ByteArray := prog_8_method_31_code
def yX6_findFar : MethodName := ⟨RX6, "findFar", "(II)V"⟩
abbrev cX6_way : ByteArray := prog_8_method_32_code
def yX6_way : MethodName := ⟨RX6, "way", "(III)I"⟩
abbrev cX6_step : ByteArray := prog_8_method_33_code
def yX6_step : MethodName := ⟨RX6, "step", "(IIII)I"⟩
abbrev cX6_square : ByteArray := prog_8_method_34_code
def yX6_square : MethodName := ⟨RX6, "square", "(III)I"⟩
abbrev cX6_part : ByteArray := prog_8_method_35_code
def yX6_part : MethodName := ⟨RX6, "part", "(I)V"⟩
abbrev cX6_sumBy : ByteArray := prog_8_method_36_code
def yX6_sumBy : MethodName := ⟨RX6, "sumBy", "(III)I"⟩
abbrev cX6_partChain : ByteArray := prog_8_method_37_code
def yX6_partChain : MethodName := ⟨RX6, "partChain", "(II)V"⟩
abbrev cX6_triangulations : ByteArray := prog_8_method_38_code
def yX6_triangulations : MethodName := ⟨RX6, "triangulations", "(I)I"⟩
abbrev cX6_best : ByteArray := prog_8_method_39_code
def yX6_best : MethodName := ⟨RX6, "best", "(I)I"⟩
abbrev cX6_layTriangles : ByteArray := prog_8_method_40_code
def yX6_layTriangles : MethodName := ⟨RX6, "layTriangles", "(I)V"⟩
abbrev cX6_triangle : ByteArray := prog_8_method_41_code
def yX6_triangle : MethodName := ⟨RX6, "triangle", "(III)I"⟩
abbrev cX6_layDiagonals : ByteArray := prog_8_method_42_code
def yX6_layDiagonals : MethodName := ⟨RX6, "layDiagonals", "(I)V"⟩
abbrev cX6_isFlat : ByteArray := prog_8_method_43_code
def yX6_isFlat : MethodName := ⟨RX6, "isFlat", "(IIII)Z"⟩
abbrev cX6_diagonal : ByteArray := prog_8_method_44_code
def yX6_diagonal : MethodName := ⟨RX6, "diagonal", "(III)I"⟩
abbrev cX6_parts : ByteArray := prog_8_method_45_code
def yX6_parts : MethodName := ⟨RX6, "parts", "(I)I"⟩
abbrev cX6_go : ByteArray := prog_8_method_46_code
def yX6_go : MethodName := ⟨RX6, "go", "(IIIZ)I"⟩
abbrev cX6_fits : ByteArray := prog_8_method_47_code
def yX6_fits : MethodName := ⟨RX6, "fits", "(IIIZZ)Z"⟩
abbrev cX6_fitting : ByteArray := prog_8_method_48_code
def yX6_fitting : MethodName := ⟨RX6, "fitting", "(IIZ)I"⟩
abbrev cX6_same : ByteArray := prog_8_method_49_code
def yX6_same : MethodName := ⟨RX6, "same", "(II)I"⟩
abbrev cX6_onto : ByteArray := prog_8_method_50_code
def yX6_onto : MethodName := ⟨RX6, "onto", "(II)I"⟩
abbrev cX6_symmetries : ByteArray := prog_8_method_51_code
def yX6_symmetries : MethodName := ⟨RX6, "symmetries", "(II)I"⟩
def RJ9 : String := "java/lang/Math"
def TJ9 : u_T := fun k => match k with
  | _ => ("", "", "", false)
def tyJ9 : Nat → FieldType := fun k => match k with
  | _ => .int
abbrev wsJ90 : List Cond := u_ws RJ9 TJ9 0
theorem nmJ9 : ∀ a, a < 0 → ∀ b, b < 0 → a ≠ b → (TJ9 a).2.1 ≠ (TJ9 b).2.1 := by decide +kernel
theorem tyJ9_ok : ∀ k, k < 0 → parseFieldDescriptor (TJ9 k).2.2.1 = some (tyJ9 k) := by decide +kernel
abbrev cJ9_abs_0f7a4 : ByteArray := prog_9_method_59_code
def yJ9_abs_0f7a4 : MethodName := ⟨RJ9, "abs", "(I)I"⟩
abbrev cJ9_abs_067f4 : ByteArray := prog_9_method_61_code
def yJ9_abs_067f4 : MethodName := ⟨RJ9, "abs", "(J)J"⟩
abbrev cJ9_max_7cf53 : ByteArray := prog_9_method_65_code
def yJ9_max_7cf53 : MethodName := ⟨RJ9, "max", "(II)I"⟩
abbrev cJ9_min_7cf53 : ByteArray := prog_9_method_69_code
def yJ9_min_7cf53 : MethodName := ⟨RJ9, "min", "(II)I"⟩
def RJ10 : String := "java/lang/System"
def TJ10 : u_T := fun k => match k with
  | _ => ("", "", "", false)
def tyJ10 : Nat → FieldType := fun k => match k with
  | _ => .int
abbrev wsJ100 : List Cond := u_ws RJ10 TJ10 0
theorem nmJ10 : ∀ a, a < 0 → ∀ b, b < 0 → a ≠ b → (TJ10 a).2.1 ≠ (TJ10 b).2.1 := by decide +kernel
theorem tyJ10_ok : ∀ k, k < 0 → parseFieldDescriptor (TJ10 k).2.2.1 = some (tyJ10 k) := by decide +kernel
def RL : String := "PolyCutsLaw"
abbrev cL_law : ByteArray := code
def yL_law : MethodName := ⟨RL, "law", "([I)Z"⟩
def wsX0_init : List Cond := .code yX0_init cX0_init 1 none :: ([.methodLink RX0 3 objectInit, .instanceMethod objectInit, .code objectInit ⟨#[0xb1]⟩ 1 none, .fieldLink RX0 9 "PolyCuts$Check" "kind" "I", .fieldLink RX0 15 "PolyCuts$Check" "first" "I", .fieldLink RX0 18 "PolyCuts$Check" "second" "I"] ++ wsX00)
def wsX0_note : List Cond := .code yX0_note cX0_note 4 none :: ([.fieldLink RX0 9 "PolyCuts$Check" "kind" "I", .fieldLink RX0 15 "PolyCuts$Check" "first" "I", .fieldLink RX0 18 "PolyCuts$Check" "second" "I"] ++ wsX00)
def wsX1_before : List Cond := .code yX1_before cX1_before 2 (some .int) :: ([.fieldLink RX1 18 "PolyCuts$Corners" "size" "I"] ++ wsX10)
def wsX1_after : List Cond := .code yX1_after cX1_after 2 (some .int) :: ([.fieldLink RX1 18 "PolyCuts$Corners" "size" "I"] ++ wsX10)
def wsX1_turn : List Cond := .code yX1_turn cX1_turn 4 (some .int) :: ([.fieldLink RX1 9 "PolyCuts$Corners" "x" "[I", .fieldLink RX1 15 "PolyCuts$Corners" "y" "[I"] ++ wsX10)
def wsX0_findFlatCorner_r1 : List Cond := [Cond.fieldLink RX0 25 "PolyCuts$Corners" "size" "I", Cond.methodLink RX0 37 yX1_before, Cond.instanceMethod yX1_before, Cond.selects RX1 yX1_before yX1_before, Cond.initialized RX1, Cond.code yX1_before cX1_before 2 (some .int), Cond.fieldLink RX1 18 "PolyCuts$Corners" "size" "I", Cond.methodLink RX0 41 yX1_after, Cond.instanceMethod yX1_after, Cond.selects RX1 yX1_after yX1_after, Cond.code yX1_after cX1_after 2 (some .int), Cond.methodLink RX0 44 yX1_turn, Cond.instanceMethod yX1_turn, Cond.selects RX1 yX1_turn yX1_turn, Cond.code yX1_turn cX1_turn 4 (some .int), Cond.fieldLink RX1 9 "PolyCuts$Corners" "x" "[I", Cond.fieldLink RX1 15 "PolyCuts$Corners" "y" "[I", Cond.methodLink RX0 21 yX0_note, Cond.instanceMethod yX0_note, Cond.selects RX0 yX0_note yX0_note, Cond.initialized RX0, Cond.code yX0_note cX0_note 4 none, Cond.fieldLink RX0 9 "PolyCuts$Check" "kind" "I", Cond.fieldLink RX0 15 "PolyCuts$Check" "first" "I"]
def wsX0_findFlatCorner_r2 : List Cond := [Cond.fieldLink RX0 18 "PolyCuts$Check" "second" "I"]
def wsX0_findFlatCorner : List Cond := .code yX0_findFlatCorner cX0_findFlatCorner 3 none :: ((wsX0_findFlatCorner_r1 ++ wsX0_findFlatCorner_r2) ++ wsX10 ++ wsX00)
def wsX1_rangesMeet : List Cond := .code yX1_rangesMeet cX1_rangesMeet 5 (some .boolean) :: ([.methodLink RX1 40 Lib.Math.max.name, .static Lib.Math.max.name, .initialized "java/lang/Math", .code Lib.Math.max.name Lib.Math.max.code 2 (some .int), .methodLink RX1 46 Lib.Math.min.name, .static Lib.Math.min.name, .code Lib.Math.min.name Lib.Math.min.code 2 (some .int)])
def wsX1_straddles : List Cond := .code yX1_straddles cX1_straddles 5 (some .boolean) :: ([.methodLink RX1 49 yX1_turn, .instanceMethod yX1_turn, .selects RX1 yX1_turn yX1_turn, .initialized RX1, .code yX1_turn cX1_turn 4 (some .int), .fieldLink RX1 9 "PolyCuts$Corners" "x" "[I", .fieldLink RX1 15 "PolyCuts$Corners" "y" "[I"] ++ wsX10)
def wsX1_meet : List Cond := .code yX1_meet cX1_meet 5 (some .boolean) :: ([.fieldLink RX1 9 "PolyCuts$Corners" "x" "[I", .fieldLink RX1 15 "PolyCuts$Corners" "y" "[I", .methodLink RX1 32 yX1_rangesMeet, .static yX1_rangesMeet, .initialized RX1, .code yX1_rangesMeet cX1_rangesMeet 5 (some .boolean), .methodLink RX1 40 Lib.Math.max.name, .static Lib.Math.max.name, .initialized "java/lang/Math", .code Lib.Math.max.name Lib.Math.max.code 2 (some .int), .methodLink RX1 46 Lib.Math.min.name, .static Lib.Math.min.name, .code Lib.Math.min.name Lib.Math.min.code 2 (some .int), .methodLink RX1 36 yX1_straddles, .instanceMethod yX1_straddles, .selects RX1 yX1_straddles yX1_straddles, .code yX1_straddles cX1_straddles 5 (some .boolean), .methodLink RX1 49 yX1_turn, .instanceMethod yX1_turn, .selects RX1 yX1_turn yX1_turn, .code yX1_turn cX1_turn 4 (some .int)] ++ wsX10)
def wsX0_findMeetingEdges_r1 : List Cond := [Cond.fieldLink RX0 25 "PolyCuts$Corners" "size" "I", Cond.methodLink RX0 41 yX1_after, Cond.instanceMethod yX1_after, Cond.selects RX1 yX1_after yX1_after, Cond.initialized RX1, Cond.code yX1_after cX1_after 2 (some .int), Cond.fieldLink RX1 18 "PolyCuts$Corners" "size" "I", Cond.methodLink RX0 48 yX1_meet, Cond.instanceMethod yX1_meet, Cond.selects RX1 yX1_meet yX1_meet, Cond.code yX1_meet cX1_meet 5 (some .boolean), Cond.fieldLink RX1 9 "PolyCuts$Corners" "x" "[I", Cond.fieldLink RX1 15 "PolyCuts$Corners" "y" "[I", Cond.methodLink RX1 32 yX1_rangesMeet, Cond.static yX1_rangesMeet, Cond.code yX1_rangesMeet cX1_rangesMeet 5 (some .boolean), Cond.methodLink RX1 40 Lib.Math.max.name, Cond.static Lib.Math.max.name, Cond.initialized "java/lang/Math", Cond.code Lib.Math.max.name Lib.Math.max.code 2 (some .int), Cond.methodLink RX1 46 Lib.Math.min.name, Cond.static Lib.Math.min.name, Cond.code Lib.Math.min.name Lib.Math.min.code 2 (some .int), Cond.methodLink RX1 36 yX1_straddles]
def wsX0_findMeetingEdges_r2 : List Cond := [Cond.instanceMethod yX1_straddles, Cond.selects RX1 yX1_straddles yX1_straddles, Cond.code yX1_straddles cX1_straddles 5 (some .boolean), Cond.methodLink RX1 49 yX1_turn, Cond.instanceMethod yX1_turn, Cond.selects RX1 yX1_turn yX1_turn, Cond.code yX1_turn cX1_turn 4 (some .int), Cond.methodLink RX0 21 yX0_note, Cond.instanceMethod yX0_note, Cond.selects RX0 yX0_note yX0_note, Cond.initialized RX0, Cond.code yX0_note cX0_note 4 none, Cond.fieldLink RX0 9 "PolyCuts$Check" "kind" "I", Cond.fieldLink RX0 15 "PolyCuts$Check" "first" "I", Cond.fieldLink RX0 18 "PolyCuts$Check" "second" "I"]
def wsX0_findMeetingEdges : List Cond := .code yX0_findMeetingEdges cX0_findMeetingEdges 4 none :: ((wsX0_findMeetingEdges_r1 ++ wsX0_findMeetingEdges_r2) ++ wsX10 ++ wsX00)
def wsX0_examine_r1 : List Cond := [Cond.fieldLink RX0 25 "PolyCuts$Corners" "size" "I", Cond.fieldLink RX0 9 "PolyCuts$Check" "kind" "I", Cond.methodLink RX0 21 yX0_note, Cond.instanceMethod yX0_note, Cond.selects RX0 yX0_note yX0_note, Cond.initialized RX0, Cond.code yX0_note cX0_note 4 none, Cond.fieldLink RX0 15 "PolyCuts$Check" "first" "I", Cond.fieldLink RX0 18 "PolyCuts$Check" "second" "I", Cond.methodLink RX0 30 yX0_findFlatCorner, Cond.instanceMethod yX0_findFlatCorner, Cond.selects RX0 yX0_findFlatCorner yX0_findFlatCorner, Cond.code yX0_findFlatCorner cX0_findFlatCorner 3 none, Cond.methodLink RX0 37 yX1_before, Cond.instanceMethod yX1_before, Cond.selects RX1 yX1_before yX1_before, Cond.initialized RX1, Cond.code yX1_before cX1_before 2 (some .int), Cond.fieldLink RX1 18 "PolyCuts$Corners" "size" "I", Cond.methodLink RX0 41 yX1_after, Cond.instanceMethod yX1_after, Cond.selects RX1 yX1_after yX1_after, Cond.code yX1_after cX1_after 2 (some .int), Cond.methodLink RX0 44 yX1_turn]
def wsX0_examine_r2 : List Cond := [Cond.instanceMethod yX1_turn, Cond.selects RX1 yX1_turn yX1_turn, Cond.code yX1_turn cX1_turn 4 (some .int), Cond.fieldLink RX1 9 "PolyCuts$Corners" "x" "[I", Cond.fieldLink RX1 15 "PolyCuts$Corners" "y" "[I", Cond.methodLink RX0 34 yX0_findMeetingEdges, Cond.instanceMethod yX0_findMeetingEdges, Cond.selects RX0 yX0_findMeetingEdges yX0_findMeetingEdges, Cond.code yX0_findMeetingEdges cX0_findMeetingEdges 4 none, Cond.methodLink RX0 48 yX1_meet, Cond.instanceMethod yX1_meet, Cond.selects RX1 yX1_meet yX1_meet, Cond.code yX1_meet cX1_meet 5 (some .boolean), Cond.methodLink RX1 32 yX1_rangesMeet, Cond.static yX1_rangesMeet, Cond.code yX1_rangesMeet cX1_rangesMeet 5 (some .boolean), Cond.methodLink RX1 40 Lib.Math.max.name, Cond.static Lib.Math.max.name, Cond.initialized "java/lang/Math", Cond.code Lib.Math.max.name Lib.Math.max.code 2 (some .int), Cond.methodLink RX1 46 Lib.Math.min.name, Cond.static Lib.Math.min.name, Cond.code Lib.Math.min.name Lib.Math.min.code 2 (some .int), Cond.methodLink RX1 36 yX1_straddles]
def wsX0_examine_r3 : List Cond := [Cond.instanceMethod yX1_straddles, Cond.selects RX1 yX1_straddles yX1_straddles, Cond.code yX1_straddles cX1_straddles 5 (some .boolean), Cond.methodLink RX1 49 yX1_turn]
def wsX0_examine : List Cond := .code yX0_examine cX0_examine 2 none :: ((wsX0_examine_r1 ++ (wsX0_examine_r2 ++ wsX0_examine_r3)) ++ wsX10 ++ wsX00)
def wsX1_init : List Cond := .code yX1_init cX1_init 1 none :: ([.methodLink RX1 3 objectInit, .instanceMethod objectInit, .code objectInit ⟨#[0xb1]⟩ 1 none, .arrayClass .int, .fieldLink RX1 9 "PolyCuts$Corners" "x" "[I", .fieldLink RX1 15 "PolyCuts$Corners" "y" "[I", .fieldLink RX1 18 "PolyCuts$Corners" "size" "I"] ++ wsX10)
def wsX1_isFull : List Cond := .code yX1_isFull cX1_isFull 1 (some .boolean) :: ([.fieldLink RX1 18 "PolyCuts$Corners" "size" "I"] ++ wsX10)
def wsX1_has : List Cond := .code yX1_has cX1_has 2 (some .boolean) :: ([.fieldLink RX1 18 "PolyCuts$Corners" "size" "I"] ++ wsX10)
def wsX1_append : List Cond := .code yX1_append cX1_append 3 none :: ([.fieldLink RX1 9 "PolyCuts$Corners" "x" "[I", .fieldLink RX1 18 "PolyCuts$Corners" "size" "I", .fieldLink RX1 15 "PolyCuts$Corners" "y" "[I", .methodLink RX1 22 yX1_isFull, .instanceMethod yX1_isFull, .selects RX1 yX1_isFull yX1_isFull, .initialized RX1, .code yX1_isFull cX1_isFull 1 (some .boolean)] ++ wsX10)
def wsX1_clear : List Cond := .code yX1_clear cX1_clear 1 none :: ([.fieldLink RX1 18 "PolyCuts$Corners" "size" "I"] ++ wsX10)
def wsX1_copyOf : List Cond := .code yX1_copyOf cX1_copyOf 2 none :: ([.fieldLink RX1 18 "PolyCuts$Corners" "size" "I", .fieldLink RX1 9 "PolyCuts$Corners" "x" "[I", .methodLink RX1 26 arraycopyName, .native arraycopyName, .static arraycopyName, .initialized "java/lang/System", .fieldLink RX1 15 "PolyCuts$Corners" "y" "[I"] ++ wsX10)
def wsX1_along : List Cond := .code yX1_along cX1_along 2 (some (.array .int)) :: ([.fieldLink RX1 9 "PolyCuts$Corners" "x" "[I", .fieldLink RX1 15 "PolyCuts$Corners" "y" "[I"] ++ wsX10)
def wsX1_advance : List Cond := .code yX1_advance cX1_advance 4 (some .int) :: ([.fieldLink RX1 9 "PolyCuts$Corners" "x" "[I", .fieldLink RX1 15 "PolyCuts$Corners" "y" "[I"] ++ wsX10)
def wsX1_squaredLength : List Cond := .code yX1_squaredLength cX1_squaredLength 5 (some .int) :: ([.fieldLink RX1 9 "PolyCuts$Corners" "x" "[I", .fieldLink RX1 15 "PolyCuts$Corners" "y" "[I"] ++ wsX10)
def wsX2_init : List Cond := .code yX2_init cX2_init 1 none :: ([.methodLink RX2 3 objectInit, .instanceMethod objectInit, .code objectInit ⟨#[0xb1]⟩ 1 none, .classLink RX2 9 "[[I", .arrayClass .int, .fieldLink RX2 11 "PolyCuts$Cutter" "ways" "[[I", .fieldLink RX2 16 "PolyCuts$Cutter" "sum" "[[I", .fieldLink RX2 19 "PolyCuts$Cutter" "third" "[[I", .fieldLink RX2 22 "PolyCuts$Cutter" "joined" "[[I"] ++ wsX20)
def wsX2_weighSpan : List Cond := .code yX2_weighSpan cX2_weighSpan 7 none :: ([.fieldLink RX2 11 "PolyCuts$Cutter" "ways" "[[I", .fieldLink RX2 16 "PolyCuts$Cutter" "sum" "[[I", .fieldLink RX2 19 "PolyCuts$Cutter" "third" "[[I", .fieldLink RX2 60 "PolyCuts$Shape" "sight" "[[I", .fieldLink RX2 25 "PolyCuts$Shape" "corners" "LPolyCuts$Corners;", .methodLink RX2 63 yX1_squaredLength, .instanceMethod yX1_squaredLength, .selects RX1 yX1_squaredLength yX1_squaredLength, .initialized RX1, .code yX1_squaredLength cX1_squaredLength 5 (some .int), .fieldLink RX1 9 "PolyCuts$Corners" "x" "[I", .fieldLink RX1 15 "PolyCuts$Corners" "y" "[I"] ++ wsX20 ++ wsX30 ++ wsX10)
def wsX2_weighSpans : List Cond := .code yX2_weighSpans cX2_weighSpans 5 none :: ([.fieldLink RX2 25 "PolyCuts$Shape" "corners" "LPolyCuts$Corners;", .fieldLink RX2 31 "PolyCuts$Corners" "size" "I", .fieldLink RX2 11 "PolyCuts$Cutter" "ways" "[[I", .fieldLink RX2 16 "PolyCuts$Cutter" "sum" "[[I", .methodLink RX2 56 yX2_weighSpan, .instanceMethod yX2_weighSpan, .selects RX2 yX2_weighSpan yX2_weighSpan, .initialized RX2, .code yX2_weighSpan cX2_weighSpan 7 none, .fieldLink RX2 19 "PolyCuts$Cutter" "third" "[[I", .fieldLink RX2 60 "PolyCuts$Shape" "sight" "[[I", .methodLink RX2 63 yX1_squaredLength, .instanceMethod yX1_squaredLength, .selects RX1 yX1_squaredLength yX1_squaredLength, .initialized RX1, .code yX1_squaredLength cX1_squaredLength 5 (some .int), .fieldLink RX1 9 "PolyCuts$Corners" "x" "[I", .fieldLink RX1 15 "PolyCuts$Corners" "y" "[I"] ++ wsX30 ++ wsX10 ++ wsX20)
def wsX3_triangleCount : List Cond := .code yX3_triangleCount cX3_triangleCount 1 (some .int) :: ([.fieldLink RX3 12 "PolyCuts$Shape" "corners" "LPolyCuts$Corners;", .fieldLink RX3 59 "PolyCuts$Corners" "size" "I"] ++ wsX30 ++ wsX10)
def wsX2_nameSpan : List Cond := .code yX2_nameSpan cX2_nameSpan 4 none :: ([.fieldLink RX2 67 "PolyCuts$Shape" "triangleFrom" "[I", .fieldLink RX2 71 "PolyCuts$Shape" "triangleTo" "[I"] ++ wsX30)
def wsX2_nameTriangles : List Cond := .code yX2_nameTriangles cX2_nameTriangles 6 none :: ([.fieldLink RX2 67 "PolyCuts$Shape" "triangleFrom" "[I", .fieldLink RX2 71 "PolyCuts$Shape" "triangleTo" "[I", .fieldLink RX2 25 "PolyCuts$Shape" "corners" "LPolyCuts$Corners;", .fieldLink RX2 31 "PolyCuts$Corners" "size" "I", .fieldLink RX2 19 "PolyCuts$Cutter" "third" "[[I", .fieldLink RX2 78 "PolyCuts$Shape" "triangleThird" "[I", .methodLink RX2 74 yX3_triangleCount, .instanceMethod yX3_triangleCount, .selects RX3 yX3_triangleCount yX3_triangleCount, .initialized RX3, .code yX3_triangleCount cX3_triangleCount 1 (some .int), .fieldLink RX3 12 "PolyCuts$Shape" "corners" "LPolyCuts$Corners;", .fieldLink RX3 59 "PolyCuts$Corners" "size" "I", .methodLink RX2 81 yX2_nameSpan, .static yX2_nameSpan, .initialized RX2, .code yX2_nameSpan cX2_nameSpan 4 none] ++ wsX30 ++ wsX10 ++ wsX20)
def wsX2_join : List Cond := .code yX2_join cX2_join 4 none :: ([.fieldLink RX2 22 "PolyCuts$Cutter" "joined" "[[I"] ++ wsX20)
def wsX3_diagonalCount : List Cond := .code yX3_diagonalCount cX3_diagonalCount 1 (some .int) :: ([.fieldLink RX3 12 "PolyCuts$Shape" "corners" "LPolyCuts$Corners;", .fieldLink RX3 59 "PolyCuts$Corners" "size" "I"] ++ wsX30 ++ wsX10)
def wsX2_nameDiagonals : List Cond := .code yX2_nameDiagonals cX2_nameDiagonals 7 none :: ([.fieldLink RX2 25 "PolyCuts$Shape" "corners" "LPolyCuts$Corners;", .fieldLink RX2 31 "PolyCuts$Corners" "size" "I", .fieldLink RX2 22 "PolyCuts$Cutter" "joined" "[[I", .fieldLink RX2 60 "PolyCuts$Shape" "sight" "[[I", .fieldLink RX2 67 "PolyCuts$Shape" "triangleFrom" "[I", .fieldLink RX2 71 "PolyCuts$Shape" "triangleTo" "[I", .fieldLink RX2 92 "PolyCuts$Shape" "diagonalLesser" "[I", .fieldLink RX2 95 "PolyCuts$Shape" "diagonalGreater" "[I", .methodLink RX2 74 yX3_triangleCount, .instanceMethod yX3_triangleCount, .selects RX3 yX3_triangleCount yX3_triangleCount, .initialized RX3, .code yX3_triangleCount cX3_triangleCount 1 (some .int), .fieldLink RX3 12 "PolyCuts$Shape" "corners" "LPolyCuts$Corners;", .fieldLink RX3 59 "PolyCuts$Corners" "size" "I", .methodLink RX2 85 yX2_join, .instanceMethod yX2_join, .selects RX2 yX2_join yX2_join, .initialized RX2, .code yX2_join cX2_join 4 none, .methodLink RX2 89 yX3_diagonalCount, .instanceMethod yX3_diagonalCount, .selects RX3 yX3_diagonalCount yX3_diagonalCount, .code yX3_diagonalCount cX3_diagonalCount 1 (some .int)] ++ wsX30 ++ wsX10 ++ wsX20)
def wsX2_joinedBefore : List Cond := .code yX2_joinedBefore cX2_joinedBefore 6 (some .int) :: ([.fieldLink RX2 31 "PolyCuts$Corners" "size" "I", .fieldLink RX2 22 "PolyCuts$Cutter" "joined" "[[I", .methodLink RX2 122 yX1_before, .instanceMethod yX1_before, .selects RX1 yX1_before yX1_before, .initialized RX1, .code yX1_before cX1_before 2 (some .int), .fieldLink RX1 18 "PolyCuts$Corners" "size" "I"] ++ wsX10 ++ wsX20)
def wsX2_joinedAfter : List Cond := .code yX2_joinedAfter cX2_joinedAfter 6 (some .int) :: ([.fieldLink RX2 31 "PolyCuts$Corners" "size" "I", .fieldLink RX2 22 "PolyCuts$Cutter" "joined" "[[I", .methodLink RX2 126 yX1_after, .instanceMethod yX1_after, .selects RX1 yX1_after yX1_after, .initialized RX1, .code yX1_after cX1_after 2 (some .int), .fieldLink RX1 18 "PolyCuts$Corners" "size" "I"] ++ wsX10 ++ wsX20)
def wsX3_hand : List Cond := .code yX3_hand cX3_hand 1 (some .int) :: ([.fieldLink RX3 23 "PolyCuts$Shape" "doubleArea" "I"] ++ wsX30)
def wsX2_isConvexWithout_r1 : List Cond := [Cond.fieldLink RX2 25 "PolyCuts$Shape" "corners" "LPolyCuts$Corners;", Cond.methodLink RX2 108 yX2_joinedBefore, Cond.instanceMethod yX2_joinedBefore, Cond.selects RX2 yX2_joinedBefore yX2_joinedBefore, Cond.initialized RX2, Cond.code yX2_joinedBefore cX2_joinedBefore 6 (some .int), Cond.fieldLink RX2 31 "PolyCuts$Corners" "size" "I", Cond.fieldLink RX2 22 "PolyCuts$Cutter" "joined" "[[I", Cond.methodLink RX2 122 yX1_before, Cond.instanceMethod yX1_before, Cond.selects RX1 yX1_before yX1_before, Cond.initialized RX1, Cond.code yX1_before cX1_before 2 (some .int), Cond.fieldLink RX1 18 "PolyCuts$Corners" "size" "I", Cond.methodLink RX2 112 yX2_joinedAfter, Cond.instanceMethod yX2_joinedAfter, Cond.selects RX2 yX2_joinedAfter yX2_joinedAfter, Cond.code yX2_joinedAfter cX2_joinedAfter 6 (some .int), Cond.methodLink RX2 126 yX1_after, Cond.instanceMethod yX1_after, Cond.selects RX1 yX1_after yX1_after, Cond.code yX1_after cX1_after 2 (some .int), Cond.methodLink RX2 115 yX1_turn, Cond.instanceMethod yX1_turn]
def wsX2_isConvexWithout_r2 : List Cond := [Cond.selects RX1 yX1_turn yX1_turn, Cond.code yX1_turn cX1_turn 4 (some .int), Cond.fieldLink RX1 9 "PolyCuts$Corners" "x" "[I", Cond.fieldLink RX1 15 "PolyCuts$Corners" "y" "[I", Cond.methodLink RX2 119 yX3_hand, Cond.instanceMethod yX3_hand, Cond.selects RX3 yX3_hand yX3_hand, Cond.initialized RX3, Cond.code yX3_hand cX3_hand 1 (some .int), Cond.fieldLink RX3 23 "PolyCuts$Shape" "doubleArea" "I"]
def wsX2_isConvexWithout : List Cond := .code yX2_isConvexWithout cX2_isConvexWithout 6 (some .boolean) :: ((wsX2_isConvexWithout_r1 ++ wsX2_isConvexWithout_r2) ++ wsX30 ++ wsX10 ++ wsX20)
def wsX2_merge_r1 : List Cond := [Cond.fieldLink RX2 98 "PolyCuts$Shape" "partCount" "I", Cond.fieldLink RX2 92 "PolyCuts$Shape" "diagonalLesser" "[I", Cond.fieldLink RX2 95 "PolyCuts$Shape" "diagonalGreater" "[I", Cond.fieldLink RX2 105 "PolyCuts$Shape" "diagonalStays" "[I", Cond.methodLink RX2 89 yX3_diagonalCount, Cond.instanceMethod yX3_diagonalCount, Cond.selects RX3 yX3_diagonalCount yX3_diagonalCount, Cond.initialized RX3, Cond.code yX3_diagonalCount cX3_diagonalCount 1 (some .int), Cond.fieldLink RX3 12 "PolyCuts$Shape" "corners" "LPolyCuts$Corners;", Cond.fieldLink RX3 59 "PolyCuts$Corners" "size" "I", Cond.methodLink RX2 101 yX2_isConvexWithout, Cond.instanceMethod yX2_isConvexWithout, Cond.selects RX2 yX2_isConvexWithout yX2_isConvexWithout, Cond.initialized RX2, Cond.code yX2_isConvexWithout cX2_isConvexWithout 6 (some .boolean), Cond.fieldLink RX2 25 "PolyCuts$Shape" "corners" "LPolyCuts$Corners;", Cond.methodLink RX2 108 yX2_joinedBefore, Cond.instanceMethod yX2_joinedBefore, Cond.selects RX2 yX2_joinedBefore yX2_joinedBefore, Cond.code yX2_joinedBefore cX2_joinedBefore 6 (some .int), Cond.fieldLink RX2 31 "PolyCuts$Corners" "size" "I", Cond.fieldLink RX2 22 "PolyCuts$Cutter" "joined" "[[I", Cond.methodLink RX2 122 yX1_before]
def wsX2_merge_r2 : List Cond := [Cond.instanceMethod yX1_before, Cond.selects RX1 yX1_before yX1_before, Cond.initialized RX1, Cond.code yX1_before cX1_before 2 (some .int), Cond.fieldLink RX1 18 "PolyCuts$Corners" "size" "I", Cond.methodLink RX2 112 yX2_joinedAfter, Cond.instanceMethod yX2_joinedAfter, Cond.selects RX2 yX2_joinedAfter yX2_joinedAfter, Cond.code yX2_joinedAfter cX2_joinedAfter 6 (some .int), Cond.methodLink RX2 126 yX1_after, Cond.instanceMethod yX1_after, Cond.selects RX1 yX1_after yX1_after, Cond.code yX1_after cX1_after 2 (some .int), Cond.methodLink RX2 115 yX1_turn, Cond.instanceMethod yX1_turn, Cond.selects RX1 yX1_turn yX1_turn, Cond.code yX1_turn cX1_turn 4 (some .int), Cond.fieldLink RX1 9 "PolyCuts$Corners" "x" "[I", Cond.fieldLink RX1 15 "PolyCuts$Corners" "y" "[I", Cond.methodLink RX2 119 yX3_hand, Cond.instanceMethod yX3_hand, Cond.selects RX3 yX3_hand yX3_hand, Cond.code yX3_hand cX3_hand 1 (some .int), Cond.fieldLink RX3 23 "PolyCuts$Shape" "doubleArea" "I"]
def wsX2_merge_r3 : List Cond := [Cond.methodLink RX2 85 yX2_join, Cond.instanceMethod yX2_join, Cond.selects RX2 yX2_join yX2_join, Cond.code yX2_join cX2_join 4 none]
def wsX2_merge : List Cond := .code yX2_merge cX2_merge 5 none :: ((wsX2_merge_r1 ++ (wsX2_merge_r2 ++ wsX2_merge_r3)) ++ wsX30 ++ wsX10 ++ wsX20)
def wsX2_cut_r1 : List Cond := [Cond.fieldLink RX2 25 "PolyCuts$Shape" "corners" "LPolyCuts$Corners;", Cond.fieldLink RX2 31 "PolyCuts$Corners" "size" "I", Cond.fieldLink RX2 11 "PolyCuts$Cutter" "ways" "[[I", Cond.fieldLink RX2 41 "PolyCuts$Shape" "triangulationCount" "I", Cond.fieldLink RX2 16 "PolyCuts$Cutter" "sum" "[[I", Cond.fieldLink RX2 44 "PolyCuts$Shape" "leastSum" "I", Cond.methodLink RX2 37 yX2_weighSpans, Cond.instanceMethod yX2_weighSpans, Cond.selects RX2 yX2_weighSpans yX2_weighSpans, Cond.initialized RX2, Cond.code yX2_weighSpans cX2_weighSpans 5 none, Cond.methodLink RX2 56 yX2_weighSpan, Cond.instanceMethod yX2_weighSpan, Cond.selects RX2 yX2_weighSpan yX2_weighSpan, Cond.code yX2_weighSpan cX2_weighSpan 7 none, Cond.fieldLink RX2 19 "PolyCuts$Cutter" "third" "[[I", Cond.fieldLink RX2 60 "PolyCuts$Shape" "sight" "[[I", Cond.methodLink RX2 63 yX1_squaredLength, Cond.instanceMethod yX1_squaredLength, Cond.selects RX1 yX1_squaredLength yX1_squaredLength, Cond.initialized RX1, Cond.code yX1_squaredLength cX1_squaredLength 5 (some .int), Cond.fieldLink RX1 9 "PolyCuts$Corners" "x" "[I", Cond.fieldLink RX1 15 "PolyCuts$Corners" "y" "[I"]
def wsX2_cut_r2 : List Cond := [Cond.methodLink RX2 47 yX2_nameTriangles, Cond.instanceMethod yX2_nameTriangles, Cond.selects RX2 yX2_nameTriangles yX2_nameTriangles, Cond.code yX2_nameTriangles cX2_nameTriangles 6 none, Cond.fieldLink RX2 67 "PolyCuts$Shape" "triangleFrom" "[I", Cond.fieldLink RX2 71 "PolyCuts$Shape" "triangleTo" "[I", Cond.fieldLink RX2 78 "PolyCuts$Shape" "triangleThird" "[I", Cond.methodLink RX2 74 yX3_triangleCount, Cond.instanceMethod yX3_triangleCount, Cond.selects RX3 yX3_triangleCount yX3_triangleCount, Cond.initialized RX3, Cond.code yX3_triangleCount cX3_triangleCount 1 (some .int), Cond.fieldLink RX3 12 "PolyCuts$Shape" "corners" "LPolyCuts$Corners;", Cond.fieldLink RX3 59 "PolyCuts$Corners" "size" "I", Cond.methodLink RX2 81 yX2_nameSpan, Cond.static yX2_nameSpan, Cond.code yX2_nameSpan cX2_nameSpan 4 none, Cond.methodLink RX2 50 yX2_nameDiagonals, Cond.instanceMethod yX2_nameDiagonals, Cond.selects RX2 yX2_nameDiagonals yX2_nameDiagonals, Cond.code yX2_nameDiagonals cX2_nameDiagonals 7 none, Cond.fieldLink RX2 22 "PolyCuts$Cutter" "joined" "[[I", Cond.fieldLink RX2 92 "PolyCuts$Shape" "diagonalLesser" "[I", Cond.fieldLink RX2 95 "PolyCuts$Shape" "diagonalGreater" "[I"]
def wsX2_cut_r3 : List Cond := [Cond.methodLink RX2 85 yX2_join, Cond.instanceMethod yX2_join, Cond.selects RX2 yX2_join yX2_join, Cond.code yX2_join cX2_join 4 none, Cond.methodLink RX2 89 yX3_diagonalCount, Cond.instanceMethod yX3_diagonalCount, Cond.selects RX3 yX3_diagonalCount yX3_diagonalCount, Cond.code yX3_diagonalCount cX3_diagonalCount 1 (some .int), Cond.methodLink RX2 53 yX2_merge, Cond.instanceMethod yX2_merge, Cond.selects RX2 yX2_merge yX2_merge, Cond.code yX2_merge cX2_merge 5 none, Cond.fieldLink RX2 98 "PolyCuts$Shape" "partCount" "I", Cond.fieldLink RX2 105 "PolyCuts$Shape" "diagonalStays" "[I", Cond.methodLink RX2 101 yX2_isConvexWithout, Cond.instanceMethod yX2_isConvexWithout, Cond.selects RX2 yX2_isConvexWithout yX2_isConvexWithout, Cond.code yX2_isConvexWithout cX2_isConvexWithout 6 (some .boolean), Cond.methodLink RX2 108 yX2_joinedBefore, Cond.instanceMethod yX2_joinedBefore, Cond.selects RX2 yX2_joinedBefore yX2_joinedBefore, Cond.code yX2_joinedBefore cX2_joinedBefore 6 (some .int), Cond.methodLink RX2 122 yX1_before, Cond.instanceMethod yX1_before]
def wsX2_cut_r4 : List Cond := [Cond.selects RX1 yX1_before yX1_before, Cond.code yX1_before cX1_before 2 (some .int), Cond.fieldLink RX1 18 "PolyCuts$Corners" "size" "I", Cond.methodLink RX2 112 yX2_joinedAfter, Cond.instanceMethod yX2_joinedAfter, Cond.selects RX2 yX2_joinedAfter yX2_joinedAfter, Cond.code yX2_joinedAfter cX2_joinedAfter 6 (some .int), Cond.methodLink RX2 126 yX1_after, Cond.instanceMethod yX1_after, Cond.selects RX1 yX1_after yX1_after, Cond.code yX1_after cX1_after 2 (some .int), Cond.methodLink RX2 115 yX1_turn, Cond.instanceMethod yX1_turn, Cond.selects RX1 yX1_turn yX1_turn, Cond.code yX1_turn cX1_turn 4 (some .int), Cond.methodLink RX2 119 yX3_hand, Cond.instanceMethod yX3_hand, Cond.selects RX3 yX3_hand yX3_hand, Cond.code yX3_hand cX3_hand 1 (some .int), Cond.fieldLink RX3 23 "PolyCuts$Shape" "doubleArea" "I"]
def wsX2_cut : List Cond := .code yX2_cut cX2_cut 3 none :: ((wsX2_cut_r1 ++ (wsX2_cut_r2 ++ (wsX2_cut_r3 ++ wsX2_cut_r4))) ++ wsX30 ++ wsX10 ++ wsX20)
def wsX3_init_r1 : List Cond := [Cond.methodLink RX3 3 objectInit, Cond.instanceMethod objectInit, Cond.code objectInit ⟨#[0xb1]⟩ 1 none, Cond.classLink RX3 9 RX1, Cond.instantiable RX1 3, Cond.initialized RX1, Cond.fieldLink RX3 12 "PolyCuts$Shape" "corners" "LPolyCuts$Corners;", Cond.classLink RX3 18 "[[I", Cond.arrayClass .int, Cond.fieldLink RX3 20 "PolyCuts$Shape" "sight" "[[I", Cond.fieldLink RX3 23 "PolyCuts$Shape" "doubleArea" "I", Cond.fieldLink RX3 27 "PolyCuts$Shape" "triangulationCount" "I", Cond.fieldLink RX3 30 "PolyCuts$Shape" "leastSum" "I", Cond.fieldLink RX3 33 "PolyCuts$Shape" "partCount" "I", Cond.fieldLink RX3 36 "PolyCuts$Shape" "triangleFrom" "[I", Cond.fieldLink RX3 40 "PolyCuts$Shape" "triangleThird" "[I", Cond.fieldLink RX3 43 "PolyCuts$Shape" "triangleTo" "[I", Cond.fieldLink RX3 46 "PolyCuts$Shape" "diagonalLesser" "[I", Cond.fieldLink RX3 49 "PolyCuts$Shape" "diagonalGreater" "[I", Cond.fieldLink RX3 52 "PolyCuts$Shape" "diagonalStays" "[I", Cond.instanceMethod yX1_init, Cond.code yX1_init cX1_init 1 none, Cond.methodLink RX1 3 objectInit, Cond.fieldLink RX1 9 "PolyCuts$Corners" "x" "[I"]
def wsX3_init_r2 : List Cond := [Cond.fieldLink RX1 15 "PolyCuts$Corners" "y" "[I", Cond.fieldLink RX1 18 "PolyCuts$Corners" "size" "I"]
def wsX3_init : List Cond := .code yX3_init cX3_init 1 none :: ((wsX3_init_r1 ++ wsX3_init_r2) ++ wsX10 ++ wsX30)
def wsX3_crossOfEdge : List Cond := .code yX3_crossOfEdge cX3_crossOfEdge 3 (some .int) :: ([.fieldLink RX3 12 "PolyCuts$Shape" "corners" "LPolyCuts$Corners;", .fieldLink RX3 77 "PolyCuts$Corners" "x" "[I", .fieldLink RX3 80 "PolyCuts$Corners" "y" "[I", .methodLink RX3 74 yX1_after, .instanceMethod yX1_after, .selects RX1 yX1_after yX1_after, .initialized RX1, .code yX1_after cX1_after 2 (some .int), .fieldLink RX1 18 "PolyCuts$Corners" "size" "I"] ++ wsX30 ++ wsX10)
def wsX3_become_r1 : List Cond := [Cond.fieldLink RX3 12 "PolyCuts$Shape" "corners" "LPolyCuts$Corners;", Cond.fieldLink RX3 23 "PolyCuts$Shape" "doubleArea" "I", Cond.fieldLink RX3 59 "PolyCuts$Corners" "size" "I", Cond.methodLink RX3 55 yX1_copyOf, Cond.instanceMethod yX1_copyOf, Cond.selects RX1 yX1_copyOf yX1_copyOf, Cond.initialized RX1, Cond.code yX1_copyOf cX1_copyOf 2 none, Cond.fieldLink RX1 18 "PolyCuts$Corners" "size" "I", Cond.fieldLink RX1 9 "PolyCuts$Corners" "x" "[I", Cond.methodLink RX1 26 arraycopyName, Cond.native arraycopyName, Cond.static arraycopyName, Cond.initialized "java/lang/System", Cond.fieldLink RX1 15 "PolyCuts$Corners" "y" "[I", Cond.methodLink RX3 62 yX3_crossOfEdge, Cond.instanceMethod yX3_crossOfEdge, Cond.selects RX3 yX3_crossOfEdge yX3_crossOfEdge, Cond.initialized RX3, Cond.code yX3_crossOfEdge cX3_crossOfEdge 3 (some .int), Cond.fieldLink RX3 77 "PolyCuts$Corners" "x" "[I", Cond.fieldLink RX3 80 "PolyCuts$Corners" "y" "[I", Cond.methodLink RX3 74 yX1_after, Cond.instanceMethod yX1_after]
def wsX3_become_r2 : List Cond := [Cond.selects RX1 yX1_after yX1_after, Cond.code yX1_after cX1_after 2 (some .int)]
def wsX3_become : List Cond := .code yX3_become cX3_become 3 none :: ((wsX3_become_r1 ++ wsX3_become_r2) ++ wsX30 ++ wsX10)
def wsX3_isFree_r1 : List Cond := [Cond.fieldLink RX3 12 "PolyCuts$Shape" "corners" "LPolyCuts$Corners;", Cond.fieldLink RX3 59 "PolyCuts$Corners" "size" "I", Cond.methodLink RX3 74 yX1_after, Cond.instanceMethod yX1_after, Cond.selects RX1 yX1_after yX1_after, Cond.initialized RX1, Cond.code yX1_after cX1_after 2 (some .int), Cond.fieldLink RX1 18 "PolyCuts$Corners" "size" "I", Cond.methodLink RX3 99 yX1_meet, Cond.instanceMethod yX1_meet, Cond.selects RX1 yX1_meet yX1_meet, Cond.code yX1_meet cX1_meet 5 (some .boolean), Cond.fieldLink RX1 9 "PolyCuts$Corners" "x" "[I", Cond.fieldLink RX1 15 "PolyCuts$Corners" "y" "[I", Cond.methodLink RX1 32 yX1_rangesMeet, Cond.static yX1_rangesMeet, Cond.code yX1_rangesMeet cX1_rangesMeet 5 (some .boolean), Cond.methodLink RX1 40 Lib.Math.max.name, Cond.static Lib.Math.max.name, Cond.initialized "java/lang/Math", Cond.code Lib.Math.max.name Lib.Math.max.code 2 (some .int), Cond.methodLink RX1 46 Lib.Math.min.name, Cond.static Lib.Math.min.name, Cond.code Lib.Math.min.name Lib.Math.min.code 2 (some .int)]
def wsX3_isFree_r2 : List Cond := [Cond.methodLink RX1 36 yX1_straddles, Cond.instanceMethod yX1_straddles, Cond.selects RX1 yX1_straddles yX1_straddles, Cond.code yX1_straddles cX1_straddles 5 (some .boolean), Cond.methodLink RX1 49 yX1_turn, Cond.instanceMethod yX1_turn, Cond.selects RX1 yX1_turn yX1_turn, Cond.code yX1_turn cX1_turn 4 (some .int)]
def wsX3_isFree : List Cond := .code yX3_isFree cX3_isFree 6 (some .boolean) :: ((wsX3_isFree_r1 ++ wsX3_isFree_r2) ++ wsX30 ++ wsX10)
def wsX3_placeOf : List Cond := .code yX3_placeOf cX3_placeOf 13 (some .int) :: ([.fieldLink RX3 12 "PolyCuts$Shape" "corners" "LPolyCuts$Corners;", .fieldLink RX3 59 "PolyCuts$Corners" "size" "I", .fieldLink RX3 77 "PolyCuts$Corners" "x" "[I", .fieldLink RX3 80 "PolyCuts$Corners" "y" "[I", .methodLink RX3 74 yX1_after, .instanceMethod yX1_after, .selects RX1 yX1_after yX1_after, .initialized RX1, .code yX1_after cX1_after 2 (some .int), .fieldLink RX1 18 "PolyCuts$Corners" "size" "I"] ++ wsX30 ++ wsX10)
def wsX3_look_r1 : List Cond := [Cond.fieldLink RX3 12 "PolyCuts$Shape" "corners" "LPolyCuts$Corners;", Cond.fieldLink RX3 77 "PolyCuts$Corners" "x" "[I", Cond.fieldLink RX3 80 "PolyCuts$Corners" "y" "[I", Cond.methodLink RX3 74 yX1_after, Cond.instanceMethod yX1_after, Cond.selects RX1 yX1_after yX1_after, Cond.initialized RX1, Cond.code yX1_after cX1_after 2 (some .int), Cond.fieldLink RX1 18 "PolyCuts$Corners" "size" "I", Cond.methodLink RX3 91 yX3_isFree, Cond.instanceMethod yX3_isFree, Cond.selects RX3 yX3_isFree yX3_isFree, Cond.initialized RX3, Cond.code yX3_isFree cX3_isFree 6 (some .boolean), Cond.fieldLink RX3 59 "PolyCuts$Corners" "size" "I", Cond.methodLink RX3 99 yX1_meet, Cond.instanceMethod yX1_meet, Cond.selects RX1 yX1_meet yX1_meet, Cond.code yX1_meet cX1_meet 5 (some .boolean), Cond.fieldLink RX1 9 "PolyCuts$Corners" "x" "[I", Cond.fieldLink RX1 15 "PolyCuts$Corners" "y" "[I", Cond.methodLink RX1 32 yX1_rangesMeet, Cond.static yX1_rangesMeet, Cond.code yX1_rangesMeet cX1_rangesMeet 5 (some .boolean)]
def wsX3_look_r2 : List Cond := [Cond.methodLink RX1 40 Lib.Math.max.name, Cond.static Lib.Math.max.name, Cond.initialized "java/lang/Math", Cond.code Lib.Math.max.name Lib.Math.max.code 2 (some .int), Cond.methodLink RX1 46 Lib.Math.min.name, Cond.static Lib.Math.min.name, Cond.code Lib.Math.min.name Lib.Math.min.code 2 (some .int), Cond.methodLink RX1 36 yX1_straddles, Cond.instanceMethod yX1_straddles, Cond.selects RX1 yX1_straddles yX1_straddles, Cond.code yX1_straddles cX1_straddles 5 (some .boolean), Cond.methodLink RX1 49 yX1_turn, Cond.instanceMethod yX1_turn, Cond.selects RX1 yX1_turn yX1_turn, Cond.code yX1_turn cX1_turn 4 (some .int), Cond.methodLink RX3 95 yX3_placeOf, Cond.instanceMethod yX3_placeOf, Cond.selects RX3 yX3_placeOf yX3_placeOf, Cond.code yX3_placeOf cX3_placeOf 13 (some .int)]
def wsX3_look : List Cond := .code yX3_look cX3_look 5 (some .int) :: ((wsX3_look_r1 ++ wsX3_look_r2) ++ wsX30 ++ wsX10)
def wsX3_lookAround_r1 : List Cond := [Cond.fieldLink RX3 12 "PolyCuts$Shape" "corners" "LPolyCuts$Corners;", Cond.fieldLink RX3 59 "PolyCuts$Corners" "size" "I", Cond.fieldLink RX3 20 "PolyCuts$Shape" "sight" "[[I", Cond.methodLink RX3 66 yX3_look, Cond.instanceMethod yX3_look, Cond.selects RX3 yX3_look yX3_look, Cond.initialized RX3, Cond.code yX3_look cX3_look 5 (some .int), Cond.fieldLink RX3 77 "PolyCuts$Corners" "x" "[I", Cond.fieldLink RX3 80 "PolyCuts$Corners" "y" "[I", Cond.methodLink RX3 74 yX1_after, Cond.instanceMethod yX1_after, Cond.selects RX1 yX1_after yX1_after, Cond.initialized RX1, Cond.code yX1_after cX1_after 2 (some .int), Cond.fieldLink RX1 18 "PolyCuts$Corners" "size" "I", Cond.methodLink RX3 91 yX3_isFree, Cond.instanceMethod yX3_isFree, Cond.selects RX3 yX3_isFree yX3_isFree, Cond.code yX3_isFree cX3_isFree 6 (some .boolean), Cond.methodLink RX3 99 yX1_meet, Cond.instanceMethod yX1_meet, Cond.selects RX1 yX1_meet yX1_meet, Cond.code yX1_meet cX1_meet 5 (some .boolean)]
def wsX3_lookAround_r2 : List Cond := [Cond.fieldLink RX1 9 "PolyCuts$Corners" "x" "[I", Cond.fieldLink RX1 15 "PolyCuts$Corners" "y" "[I", Cond.methodLink RX1 32 yX1_rangesMeet, Cond.static yX1_rangesMeet, Cond.code yX1_rangesMeet cX1_rangesMeet 5 (some .boolean), Cond.methodLink RX1 40 Lib.Math.max.name, Cond.static Lib.Math.max.name, Cond.initialized "java/lang/Math", Cond.code Lib.Math.max.name Lib.Math.max.code 2 (some .int), Cond.methodLink RX1 46 Lib.Math.min.name, Cond.static Lib.Math.min.name, Cond.code Lib.Math.min.name Lib.Math.min.code 2 (some .int), Cond.methodLink RX1 36 yX1_straddles, Cond.instanceMethod yX1_straddles, Cond.selects RX1 yX1_straddles yX1_straddles, Cond.code yX1_straddles cX1_straddles 5 (some .boolean), Cond.methodLink RX1 49 yX1_turn, Cond.instanceMethod yX1_turn, Cond.selects RX1 yX1_turn yX1_turn, Cond.code yX1_turn cX1_turn 4 (some .int), Cond.methodLink RX3 95 yX3_placeOf, Cond.instanceMethod yX3_placeOf, Cond.selects RX3 yX3_placeOf yX3_placeOf, Cond.code yX3_placeOf cX3_placeOf 13 (some .int)]
def wsX3_lookAround : List Cond := .code yX3_lookAround cX3_lookAround 3 none :: ((wsX3_lookAround_r1 ++ wsX3_lookAround_r2) ++ wsX30 ++ wsX10)
def wsX3_centroidMoment : List Cond := .code yX3_centroidMoment cX3_centroidMoment 6 (some .long) :: ([.fieldLink RX3 12 "PolyCuts$Shape" "corners" "LPolyCuts$Corners;", .fieldLink RX3 59 "PolyCuts$Corners" "size" "I", .methodLink RX3 70 yX1_along, .instanceMethod yX1_along, .selects RX1 yX1_along yX1_along, .initialized RX1, .code yX1_along cX1_along 2 (some (.array .int)), .fieldLink RX1 9 "PolyCuts$Corners" "x" "[I", .fieldLink RX1 15 "PolyCuts$Corners" "y" "[I", .methodLink RX3 74 yX1_after, .instanceMethod yX1_after, .selects RX1 yX1_after yX1_after, .code yX1_after cX1_after 2 (some .int), .fieldLink RX1 18 "PolyCuts$Corners" "size" "I", .methodLink RX3 62 yX3_crossOfEdge, .instanceMethod yX3_crossOfEdge, .selects RX3 yX3_crossOfEdge yX3_crossOfEdge, .initialized RX3, .code yX3_crossOfEdge cX3_crossOfEdge 3 (some .int), .fieldLink RX3 77 "PolyCuts$Corners" "x" "[I", .fieldLink RX3 80 "PolyCuts$Corners" "y" "[I"] ++ wsX30 ++ wsX10)
def wsX5_greatestDivisor : List Cond := .code yX5_greatestDivisor cX5_greatestDivisor 11 (some .long) :: ([.methodLink RX5 190 Lib.MathLoose.abs_long.x, .static Lib.MathLoose.abs_long.x, .initialized "java/lang/Math", .code Lib.MathLoose.abs_long.x Lib.MathLoose.abs_long.code 2 (some .long)])
def wsX3_pointsOnEdges : List Cond := .code yX3_pointsOnEdges cX3_pointsOnEdges 4 (some .int) :: ([.fieldLink RX3 12 "PolyCuts$Shape" "corners" "LPolyCuts$Corners;", .fieldLink RX3 59 "PolyCuts$Corners" "size" "I", .fieldLink RX3 77 "PolyCuts$Corners" "x" "[I", .fieldLink RX3 80 "PolyCuts$Corners" "y" "[I", .methodLink RX3 74 yX1_after, .instanceMethod yX1_after, .selects RX1 yX1_after yX1_after, .initialized RX1, .code yX1_after cX1_after 2 (some .int), .fieldLink RX1 18 "PolyCuts$Corners" "size" "I", .static yX5_greatestDivisor, .initialized RX5, .code yX5_greatestDivisor cX5_greatestDivisor 11 (some .long), .methodLink RX5 190 Lib.MathLoose.abs_long.x, .static Lib.MathLoose.abs_long.x, .initialized "java/lang/Math", .code Lib.MathLoose.abs_long.x Lib.MathLoose.abs_long.code 2 (some .long)] ++ wsX30 ++ wsX10)
def wsX3_fitsCorner_r1 : List Cond := [Cond.fieldLink RX3 12 "PolyCuts$Shape" "corners" "LPolyCuts$Corners;", Cond.methodLink RX3 107 yX1_before, Cond.instanceMethod yX1_before, Cond.selects RX1 yX1_before yX1_before, Cond.initialized RX1, Cond.code yX1_before cX1_before 2 (some .int), Cond.fieldLink RX1 18 "PolyCuts$Corners" "size" "I", Cond.methodLink RX3 74 yX1_after, Cond.instanceMethod yX1_after, Cond.selects RX1 yX1_after yX1_after, Cond.code yX1_after cX1_after 2 (some .int), Cond.methodLink RX3 114 yX1_squaredLength, Cond.instanceMethod yX1_squaredLength, Cond.selects RX1 yX1_squaredLength yX1_squaredLength, Cond.code yX1_squaredLength cX1_squaredLength 5 (some .int), Cond.fieldLink RX1 9 "PolyCuts$Corners" "x" "[I", Cond.fieldLink RX1 15 "PolyCuts$Corners" "y" "[I", Cond.methodLink RX3 117 yX1_turn, Cond.instanceMethod yX1_turn, Cond.selects RX1 yX1_turn yX1_turn, Cond.code yX1_turn cX1_turn 4 (some .int), Cond.methodLink RX3 120 yX1_advance, Cond.instanceMethod yX1_advance, Cond.selects RX1 yX1_advance yX1_advance]
def wsX3_fitsCorner_r2 : List Cond := [Cond.code yX1_advance cX1_advance 4 (some .int)]
def wsX3_fitsCorner : List Cond := .code yX3_fitsCorner cX3_fitsCorner 9 (some .boolean) :: ((wsX3_fitsCorner_r1 ++ wsX3_fitsCorner_r2) ++ wsX30 ++ wsX10)
def wsX3_fits_r1 : List Cond := [Cond.fieldLink RX3 12 "PolyCuts$Shape" "corners" "LPolyCuts$Corners;", Cond.fieldLink RX3 59 "PolyCuts$Corners" "size" "I", Cond.methodLink RX3 103 yX3_hand, Cond.instanceMethod yX3_hand, Cond.selects RX3 yX3_hand yX3_hand, Cond.initialized RX3, Cond.code yX3_hand cX3_hand 1 (some .int), Cond.fieldLink RX3 23 "PolyCuts$Shape" "doubleArea" "I", Cond.methodLink RX3 74 yX1_after, Cond.instanceMethod yX1_after, Cond.selects RX1 yX1_after yX1_after, Cond.initialized RX1, Cond.code yX1_after cX1_after 2 (some .int), Cond.fieldLink RX1 18 "PolyCuts$Corners" "size" "I", Cond.methodLink RX3 107 yX1_before, Cond.instanceMethod yX1_before, Cond.selects RX1 yX1_before yX1_before, Cond.code yX1_before cX1_before 2 (some .int), Cond.methodLink RX3 110 yX3_fitsCorner, Cond.instanceMethod yX3_fitsCorner, Cond.selects RX3 yX3_fitsCorner yX3_fitsCorner, Cond.code yX3_fitsCorner cX3_fitsCorner 9 (some .boolean), Cond.methodLink RX3 114 yX1_squaredLength, Cond.instanceMethod yX1_squaredLength]
def wsX3_fits_r2 : List Cond := [Cond.selects RX1 yX1_squaredLength yX1_squaredLength, Cond.code yX1_squaredLength cX1_squaredLength 5 (some .int), Cond.fieldLink RX1 9 "PolyCuts$Corners" "x" "[I", Cond.fieldLink RX1 15 "PolyCuts$Corners" "y" "[I", Cond.methodLink RX3 117 yX1_turn, Cond.instanceMethod yX1_turn, Cond.selects RX1 yX1_turn yX1_turn, Cond.code yX1_turn cX1_turn 4 (some .int), Cond.methodLink RX3 120 yX1_advance, Cond.instanceMethod yX1_advance, Cond.selects RX1 yX1_advance yX1_advance, Cond.code yX1_advance cX1_advance 4 (some .int)]
def wsX3_fits : List Cond := .code yX3_fits cX3_fits 10 (some .boolean) :: ((wsX3_fits_r1 ++ wsX3_fits_r2) ++ wsX30 ++ wsX10)
def wsX3_leastStart_r1 : List Cond := [Cond.fieldLink RX3 12 "PolyCuts$Shape" "corners" "LPolyCuts$Corners;", Cond.fieldLink RX3 59 "PolyCuts$Corners" "size" "I", Cond.methodLink RX3 87 yX3_fits, Cond.instanceMethod yX3_fits, Cond.selects RX3 yX3_fits yX3_fits, Cond.initialized RX3, Cond.code yX3_fits cX3_fits 10 (some .boolean), Cond.methodLink RX3 103 yX3_hand, Cond.instanceMethod yX3_hand, Cond.selects RX3 yX3_hand yX3_hand, Cond.code yX3_hand cX3_hand 1 (some .int), Cond.fieldLink RX3 23 "PolyCuts$Shape" "doubleArea" "I", Cond.methodLink RX3 74 yX1_after, Cond.instanceMethod yX1_after, Cond.selects RX1 yX1_after yX1_after, Cond.initialized RX1, Cond.code yX1_after cX1_after 2 (some .int), Cond.fieldLink RX1 18 "PolyCuts$Corners" "size" "I", Cond.methodLink RX3 107 yX1_before, Cond.instanceMethod yX1_before, Cond.selects RX1 yX1_before yX1_before, Cond.code yX1_before cX1_before 2 (some .int), Cond.methodLink RX3 110 yX3_fitsCorner, Cond.instanceMethod yX3_fitsCorner]
def wsX3_leastStart_r2 : List Cond := [Cond.selects RX3 yX3_fitsCorner yX3_fitsCorner, Cond.code yX3_fitsCorner cX3_fitsCorner 9 (some .boolean), Cond.methodLink RX3 114 yX1_squaredLength, Cond.instanceMethod yX1_squaredLength, Cond.selects RX1 yX1_squaredLength yX1_squaredLength, Cond.code yX1_squaredLength cX1_squaredLength 5 (some .int), Cond.fieldLink RX1 9 "PolyCuts$Corners" "x" "[I", Cond.fieldLink RX1 15 "PolyCuts$Corners" "y" "[I", Cond.methodLink RX3 117 yX1_turn, Cond.instanceMethod yX1_turn, Cond.selects RX1 yX1_turn yX1_turn, Cond.code yX1_turn cX1_turn 4 (some .int), Cond.methodLink RX3 120 yX1_advance, Cond.instanceMethod yX1_advance, Cond.selects RX1 yX1_advance yX1_advance, Cond.code yX1_advance cX1_advance 4 (some .int)]
def wsX3_leastStart : List Cond := .code yX3_leastStart cX3_leastStart 4 (some .int) :: ((wsX3_leastStart_r1 ++ wsX3_leastStart_r2) ++ wsX30 ++ wsX10)
def wsX3_startCount_r1 : List Cond := [Cond.fieldLink RX3 12 "PolyCuts$Shape" "corners" "LPolyCuts$Corners;", Cond.fieldLink RX3 59 "PolyCuts$Corners" "size" "I", Cond.methodLink RX3 87 yX3_fits, Cond.instanceMethod yX3_fits, Cond.selects RX3 yX3_fits yX3_fits, Cond.initialized RX3, Cond.code yX3_fits cX3_fits 10 (some .boolean), Cond.methodLink RX3 103 yX3_hand, Cond.instanceMethod yX3_hand, Cond.selects RX3 yX3_hand yX3_hand, Cond.code yX3_hand cX3_hand 1 (some .int), Cond.fieldLink RX3 23 "PolyCuts$Shape" "doubleArea" "I", Cond.methodLink RX3 74 yX1_after, Cond.instanceMethod yX1_after, Cond.selects RX1 yX1_after yX1_after, Cond.initialized RX1, Cond.code yX1_after cX1_after 2 (some .int), Cond.fieldLink RX1 18 "PolyCuts$Corners" "size" "I", Cond.methodLink RX3 107 yX1_before, Cond.instanceMethod yX1_before, Cond.selects RX1 yX1_before yX1_before, Cond.code yX1_before cX1_before 2 (some .int), Cond.methodLink RX3 110 yX3_fitsCorner, Cond.instanceMethod yX3_fitsCorner]
def wsX3_startCount_r2 : List Cond := [Cond.selects RX3 yX3_fitsCorner yX3_fitsCorner, Cond.code yX3_fitsCorner cX3_fitsCorner 9 (some .boolean), Cond.methodLink RX3 114 yX1_squaredLength, Cond.instanceMethod yX1_squaredLength, Cond.selects RX1 yX1_squaredLength yX1_squaredLength, Cond.code yX1_squaredLength cX1_squaredLength 5 (some .int), Cond.fieldLink RX1 9 "PolyCuts$Corners" "x" "[I", Cond.fieldLink RX1 15 "PolyCuts$Corners" "y" "[I", Cond.methodLink RX3 117 yX1_turn, Cond.instanceMethod yX1_turn, Cond.selects RX1 yX1_turn yX1_turn, Cond.code yX1_turn cX1_turn 4 (some .int), Cond.methodLink RX3 120 yX1_advance, Cond.instanceMethod yX1_advance, Cond.selects RX1 yX1_advance yX1_advance, Cond.code yX1_advance cX1_advance 4 (some .int)]
def wsX3_startCount : List Cond := .code yX3_startCount cX3_startCount 4 (some .int) :: ((wsX3_startCount_r1 ++ wsX3_startCount_r2) ++ wsX30 ++ wsX10)
def wsX4_init : List Cond := .code yX4_init cX4_init 1 none :: ([.methodLink RX4 3 objectInit, .instanceMethod objectInit, .code objectInit ⟨#[0xb1]⟩ 1 none, .arrayClass .int, .fieldLink RX4 9 "PolyCuts$Walk" "stepsLeft" "[I"] ++ wsX40)
def wsX4_leastNext : List Cond := .code yX4_leastNext cX4_leastNext 5 (some .int) :: ([.fieldLink RX4 15 "PolyCuts$Shape" "corners" "LPolyCuts$Corners;", .fieldLink RX4 21 "PolyCuts$Corners" "size" "I", .fieldLink RX4 31 "PolyCuts$Shape" "sight" "[[I", .fieldLink RX4 9 "PolyCuts$Walk" "stepsLeft" "[I"] ++ wsX30 ++ wsX10 ++ wsX40)
def wsX4_measure : List Cond := .code yX4_measure cX4_measure 6 none :: ([.fieldLink RX4 15 "PolyCuts$Shape" "corners" "LPolyCuts$Corners;", .fieldLink RX4 21 "PolyCuts$Corners" "size" "I", .fieldLink RX4 9 "PolyCuts$Walk" "stepsLeft" "[I", .methodLink RX4 27 yX4_leastNext, .instanceMethod yX4_leastNext, .selects RX4 yX4_leastNext yX4_leastNext, .initialized RX4, .code yX4_leastNext cX4_leastNext 5 (some .int), .fieldLink RX4 31 "PolyCuts$Shape" "sight" "[[I"] ++ wsX30 ++ wsX10 ++ wsX40)
def wsX4_cornerAfter : List Cond := .code yX4_cornerAfter cX4_cornerAfter 7 (some .int) :: ([.fieldLink RX4 9 "PolyCuts$Walk" "stepsLeft" "[I", .methodLink RX4 27 yX4_leastNext, .instanceMethod yX4_leastNext, .selects RX4 yX4_leastNext yX4_leastNext, .initialized RX4, .code yX4_leastNext cX4_leastNext 5 (some .int), .fieldLink RX4 15 "PolyCuts$Shape" "corners" "LPolyCuts$Corners;", .fieldLink RX4 21 "PolyCuts$Corners" "size" "I", .fieldLink RX4 31 "PolyCuts$Shape" "sight" "[[I"] ++ wsX40 ++ wsX30 ++ wsX10)
def wsX5_init_r1 : List Cond := [Cond.methodLink RX5 1 objectInit, Cond.instanceMethod objectInit, Cond.code objectInit ⟨#[0xb1]⟩ 1 none, Cond.classLink RX5 7 RX1, Cond.instantiable RX1 3, Cond.initialized RX1, Cond.fieldLink RX5 10 "PolyCuts" "row" "LPolyCuts$Corners;", Cond.classLink RX5 16 RX0, Cond.instantiable RX0 3, Cond.initialized RX0, Cond.fieldLink RX5 19 "PolyCuts" "check" "LPolyCuts$Check;", Cond.classLink RX5 23 RX2, Cond.instantiable RX2 4, Cond.initialized RX2, Cond.fieldLink RX5 26 "PolyCuts" "cutter" "LPolyCuts$Cutter;", Cond.classLink RX5 30 RX4, Cond.instantiable RX4 1, Cond.initialized RX4, Cond.fieldLink RX5 33 "PolyCuts" "walk" "LPolyCuts$Walk;", Cond.classLink RX5 37 RX3, Cond.fieldLink RX5 39 "PolyCuts" "shapes" "[LPolyCuts$Shape;", Cond.instantiable RX3 12, Cond.initialized RX3, Cond.fieldLink RX5 44 "PolyCuts" "shapeCount" "I"]
def wsX5_init_r2 : List Cond := [Cond.instanceMethod yX1_init, Cond.code yX1_init cX1_init 1 none, Cond.methodLink RX1 3 objectInit, Cond.arrayClass .int, Cond.fieldLink RX1 9 "PolyCuts$Corners" "x" "[I", Cond.fieldLink RX1 15 "PolyCuts$Corners" "y" "[I", Cond.fieldLink RX1 18 "PolyCuts$Corners" "size" "I", Cond.instanceMethod yX0_init, Cond.code yX0_init cX0_init 1 none, Cond.methodLink RX0 3 objectInit, Cond.fieldLink RX0 9 "PolyCuts$Check" "kind" "I", Cond.fieldLink RX0 15 "PolyCuts$Check" "first" "I", Cond.fieldLink RX0 18 "PolyCuts$Check" "second" "I", Cond.instanceMethod yX2_init, Cond.code yX2_init cX2_init 1 none, Cond.methodLink RX2 3 objectInit, Cond.classLink RX2 9 "[[I", Cond.fieldLink RX2 11 "PolyCuts$Cutter" "ways" "[[I", Cond.fieldLink RX2 16 "PolyCuts$Cutter" "sum" "[[I", Cond.fieldLink RX2 19 "PolyCuts$Cutter" "third" "[[I", Cond.fieldLink RX2 22 "PolyCuts$Cutter" "joined" "[[I", Cond.instanceMethod yX4_init, Cond.code yX4_init cX4_init 1 none, Cond.methodLink RX4 3 objectInit]
def wsX5_init_r3 : List Cond := [Cond.fieldLink RX4 9 "PolyCuts$Walk" "stepsLeft" "[I", Cond.instanceMethod yX3_init, Cond.code yX3_init cX3_init 1 none, Cond.methodLink RX3 3 objectInit, Cond.classLink RX3 9 RX1, Cond.fieldLink RX3 12 "PolyCuts$Shape" "corners" "LPolyCuts$Corners;", Cond.classLink RX3 18 "[[I", Cond.fieldLink RX3 20 "PolyCuts$Shape" "sight" "[[I", Cond.fieldLink RX3 23 "PolyCuts$Shape" "doubleArea" "I", Cond.fieldLink RX3 27 "PolyCuts$Shape" "triangulationCount" "I", Cond.fieldLink RX3 30 "PolyCuts$Shape" "leastSum" "I", Cond.fieldLink RX3 33 "PolyCuts$Shape" "partCount" "I", Cond.fieldLink RX3 36 "PolyCuts$Shape" "triangleFrom" "[I", Cond.fieldLink RX3 40 "PolyCuts$Shape" "triangleThird" "[I", Cond.fieldLink RX3 43 "PolyCuts$Shape" "triangleTo" "[I", Cond.fieldLink RX3 46 "PolyCuts$Shape" "diagonalLesser" "[I", Cond.fieldLink RX3 49 "PolyCuts$Shape" "diagonalGreater" "[I", Cond.fieldLink RX3 52 "PolyCuts$Shape" "diagonalStays" "[I"]
def wsX5_init : List Cond := .code yX5_init cX5_init 2 none :: ((wsX5_init_r1 ++ (wsX5_init_r2 ++ wsX5_init_r3)) ++ wsX10 ++ wsX50 ++ wsX00 ++ wsX20 ++ wsX40 ++ wsX30)
def wsX5_isWithin : List Cond := .code yX5_isWithin cX5_isWithin 2 (some .boolean) :: ([])
def wsX5_corner : List Cond := .code yX5_corner cX5_corner 3 (some .int) :: ([.fieldLink RX5 10 "PolyCuts" "row" "LPolyCuts$Corners;", .fieldLink RX5 60 "PolyCuts$Corners" "size" "I", .methodLink RX5 48 yX5_isWithin, .static yX5_isWithin, .initialized RX5, .code yX5_isWithin cX5_isWithin 2 (some .boolean), .methodLink RX5 52 yX1_isFull, .instanceMethod yX1_isFull, .selects RX1 yX1_isFull yX1_isFull, .initialized RX1, .code yX1_isFull cX1_isFull 1 (some .boolean), .fieldLink RX1 18 "PolyCuts$Corners" "size" "I", .methodLink RX5 56 yX1_append, .instanceMethod yX1_append, .selects RX1 yX1_append yX1_append, .code yX1_append cX1_append 3 none, .fieldLink RX1 9 "PolyCuts$Corners" "x" "[I", .fieldLink RX1 15 "PolyCuts$Corners" "y" "[I", .methodLink RX1 22 yX1_isFull] ++ wsX50 ++ wsX10)
def wsX5_polygon_r1 : List Cond := [Cond.fieldLink RX5 44 "PolyCuts" "shapeCount" "I", Cond.fieldLink RX5 19 "PolyCuts" "check" "LPolyCuts$Check;", Cond.fieldLink RX5 10 "PolyCuts" "row" "LPolyCuts$Corners;", Cond.fieldLink RX5 67 "PolyCuts$Check" "kind" "I", Cond.fieldLink RX5 39 "PolyCuts" "shapes" "[LPolyCuts$Shape;", Cond.fieldLink RX5 26 "PolyCuts" "cutter" "LPolyCuts$Cutter;", Cond.methodLink RX5 63 yX0_examine, Cond.instanceMethod yX0_examine, Cond.selects RX0 yX0_examine yX0_examine, Cond.initialized RX0, Cond.code yX0_examine cX0_examine 2 none, Cond.fieldLink RX0 25 "PolyCuts$Corners" "size" "I", Cond.fieldLink RX0 9 "PolyCuts$Check" "kind" "I", Cond.methodLink RX0 21 yX0_note, Cond.instanceMethod yX0_note, Cond.selects RX0 yX0_note yX0_note, Cond.code yX0_note cX0_note 4 none, Cond.fieldLink RX0 15 "PolyCuts$Check" "first" "I", Cond.fieldLink RX0 18 "PolyCuts$Check" "second" "I", Cond.methodLink RX0 30 yX0_findFlatCorner, Cond.instanceMethod yX0_findFlatCorner, Cond.selects RX0 yX0_findFlatCorner yX0_findFlatCorner, Cond.code yX0_findFlatCorner cX0_findFlatCorner 3 none, Cond.methodLink RX0 37 yX1_before]
def wsX5_polygon_r2 : List Cond := [Cond.instanceMethod yX1_before, Cond.selects RX1 yX1_before yX1_before, Cond.initialized RX1, Cond.code yX1_before cX1_before 2 (some .int), Cond.fieldLink RX1 18 "PolyCuts$Corners" "size" "I", Cond.methodLink RX0 41 yX1_after, Cond.instanceMethod yX1_after, Cond.selects RX1 yX1_after yX1_after, Cond.code yX1_after cX1_after 2 (some .int), Cond.methodLink RX0 44 yX1_turn, Cond.instanceMethod yX1_turn, Cond.selects RX1 yX1_turn yX1_turn, Cond.code yX1_turn cX1_turn 4 (some .int), Cond.fieldLink RX1 9 "PolyCuts$Corners" "x" "[I", Cond.fieldLink RX1 15 "PolyCuts$Corners" "y" "[I", Cond.methodLink RX0 34 yX0_findMeetingEdges, Cond.instanceMethod yX0_findMeetingEdges, Cond.selects RX0 yX0_findMeetingEdges yX0_findMeetingEdges, Cond.code yX0_findMeetingEdges cX0_findMeetingEdges 4 none, Cond.methodLink RX0 48 yX1_meet, Cond.instanceMethod yX1_meet, Cond.selects RX1 yX1_meet yX1_meet, Cond.code yX1_meet cX1_meet 5 (some .boolean), Cond.methodLink RX1 32 yX1_rangesMeet]
def wsX5_polygon_r3 : List Cond := [Cond.static yX1_rangesMeet, Cond.code yX1_rangesMeet cX1_rangesMeet 5 (some .boolean), Cond.methodLink RX1 40 Lib.Math.max.name, Cond.static Lib.Math.max.name, Cond.initialized "java/lang/Math", Cond.code Lib.Math.max.name Lib.Math.max.code 2 (some .int), Cond.methodLink RX1 46 Lib.Math.min.name, Cond.static Lib.Math.min.name, Cond.code Lib.Math.min.name Lib.Math.min.code 2 (some .int), Cond.methodLink RX1 36 yX1_straddles, Cond.instanceMethod yX1_straddles, Cond.selects RX1 yX1_straddles yX1_straddles, Cond.code yX1_straddles cX1_straddles 5 (some .boolean), Cond.methodLink RX1 49 yX1_turn, Cond.methodLink RX5 70 yX3_become, Cond.instanceMethod yX3_become, Cond.selects RX3 yX3_become yX3_become, Cond.initialized RX3, Cond.code yX3_become cX3_become 3 none, Cond.fieldLink RX3 12 "PolyCuts$Shape" "corners" "LPolyCuts$Corners;", Cond.fieldLink RX3 23 "PolyCuts$Shape" "doubleArea" "I", Cond.fieldLink RX3 59 "PolyCuts$Corners" "size" "I", Cond.methodLink RX3 55 yX1_copyOf, Cond.instanceMethod yX1_copyOf]
def wsX5_polygon_r4 : List Cond := [Cond.selects RX1 yX1_copyOf yX1_copyOf, Cond.code yX1_copyOf cX1_copyOf 2 none, Cond.methodLink RX1 26 arraycopyName, Cond.native arraycopyName, Cond.static arraycopyName, Cond.initialized "java/lang/System", Cond.methodLink RX3 62 yX3_crossOfEdge, Cond.instanceMethod yX3_crossOfEdge, Cond.selects RX3 yX3_crossOfEdge yX3_crossOfEdge, Cond.code yX3_crossOfEdge cX3_crossOfEdge 3 (some .int), Cond.fieldLink RX3 77 "PolyCuts$Corners" "x" "[I", Cond.fieldLink RX3 80 "PolyCuts$Corners" "y" "[I", Cond.methodLink RX3 74 yX1_after, Cond.methodLink RX5 73 yX3_lookAround, Cond.instanceMethod yX3_lookAround, Cond.selects RX3 yX3_lookAround yX3_lookAround, Cond.code yX3_lookAround cX3_lookAround 3 none, Cond.fieldLink RX3 20 "PolyCuts$Shape" "sight" "[[I", Cond.methodLink RX3 66 yX3_look, Cond.instanceMethod yX3_look, Cond.selects RX3 yX3_look yX3_look, Cond.code yX3_look cX3_look 5 (some .int), Cond.methodLink RX3 91 yX3_isFree, Cond.instanceMethod yX3_isFree]
def wsX5_polygon_r5 : List Cond := [Cond.selects RX3 yX3_isFree yX3_isFree, Cond.code yX3_isFree cX3_isFree 6 (some .boolean), Cond.methodLink RX3 99 yX1_meet, Cond.methodLink RX3 95 yX3_placeOf, Cond.instanceMethod yX3_placeOf, Cond.selects RX3 yX3_placeOf yX3_placeOf, Cond.code yX3_placeOf cX3_placeOf 13 (some .int), Cond.methodLink RX5 76 yX2_cut, Cond.instanceMethod yX2_cut, Cond.selects RX2 yX2_cut yX2_cut, Cond.initialized RX2, Cond.code yX2_cut cX2_cut 3 none, Cond.fieldLink RX2 25 "PolyCuts$Shape" "corners" "LPolyCuts$Corners;", Cond.fieldLink RX2 31 "PolyCuts$Corners" "size" "I", Cond.fieldLink RX2 11 "PolyCuts$Cutter" "ways" "[[I", Cond.fieldLink RX2 41 "PolyCuts$Shape" "triangulationCount" "I", Cond.fieldLink RX2 16 "PolyCuts$Cutter" "sum" "[[I", Cond.fieldLink RX2 44 "PolyCuts$Shape" "leastSum" "I", Cond.methodLink RX2 37 yX2_weighSpans, Cond.instanceMethod yX2_weighSpans, Cond.selects RX2 yX2_weighSpans yX2_weighSpans, Cond.code yX2_weighSpans cX2_weighSpans 5 none, Cond.methodLink RX2 56 yX2_weighSpan, Cond.instanceMethod yX2_weighSpan]
def wsX5_polygon_r6 : List Cond := [Cond.selects RX2 yX2_weighSpan yX2_weighSpan, Cond.code yX2_weighSpan cX2_weighSpan 7 none, Cond.fieldLink RX2 19 "PolyCuts$Cutter" "third" "[[I", Cond.fieldLink RX2 60 "PolyCuts$Shape" "sight" "[[I", Cond.methodLink RX2 63 yX1_squaredLength, Cond.instanceMethod yX1_squaredLength, Cond.selects RX1 yX1_squaredLength yX1_squaredLength, Cond.code yX1_squaredLength cX1_squaredLength 5 (some .int), Cond.methodLink RX2 47 yX2_nameTriangles, Cond.instanceMethod yX2_nameTriangles, Cond.selects RX2 yX2_nameTriangles yX2_nameTriangles, Cond.code yX2_nameTriangles cX2_nameTriangles 6 none, Cond.fieldLink RX2 67 "PolyCuts$Shape" "triangleFrom" "[I", Cond.fieldLink RX2 71 "PolyCuts$Shape" "triangleTo" "[I", Cond.fieldLink RX2 78 "PolyCuts$Shape" "triangleThird" "[I", Cond.methodLink RX2 74 yX3_triangleCount, Cond.instanceMethod yX3_triangleCount, Cond.selects RX3 yX3_triangleCount yX3_triangleCount, Cond.code yX3_triangleCount cX3_triangleCount 1 (some .int), Cond.methodLink RX2 81 yX2_nameSpan, Cond.static yX2_nameSpan, Cond.code yX2_nameSpan cX2_nameSpan 4 none, Cond.methodLink RX2 50 yX2_nameDiagonals, Cond.instanceMethod yX2_nameDiagonals]
def wsX5_polygon_r7 : List Cond := [Cond.selects RX2 yX2_nameDiagonals yX2_nameDiagonals, Cond.code yX2_nameDiagonals cX2_nameDiagonals 7 none, Cond.fieldLink RX2 22 "PolyCuts$Cutter" "joined" "[[I", Cond.fieldLink RX2 92 "PolyCuts$Shape" "diagonalLesser" "[I", Cond.fieldLink RX2 95 "PolyCuts$Shape" "diagonalGreater" "[I", Cond.methodLink RX2 85 yX2_join, Cond.instanceMethod yX2_join, Cond.selects RX2 yX2_join yX2_join, Cond.code yX2_join cX2_join 4 none, Cond.methodLink RX2 89 yX3_diagonalCount, Cond.instanceMethod yX3_diagonalCount, Cond.selects RX3 yX3_diagonalCount yX3_diagonalCount, Cond.code yX3_diagonalCount cX3_diagonalCount 1 (some .int), Cond.methodLink RX2 53 yX2_merge, Cond.instanceMethod yX2_merge, Cond.selects RX2 yX2_merge yX2_merge, Cond.code yX2_merge cX2_merge 5 none, Cond.fieldLink RX2 98 "PolyCuts$Shape" "partCount" "I", Cond.fieldLink RX2 105 "PolyCuts$Shape" "diagonalStays" "[I", Cond.methodLink RX2 101 yX2_isConvexWithout, Cond.instanceMethod yX2_isConvexWithout, Cond.selects RX2 yX2_isConvexWithout yX2_isConvexWithout, Cond.code yX2_isConvexWithout cX2_isConvexWithout 6 (some .boolean), Cond.methodLink RX2 108 yX2_joinedBefore]
def wsX5_polygon_r8 : List Cond := [Cond.instanceMethod yX2_joinedBefore, Cond.selects RX2 yX2_joinedBefore yX2_joinedBefore, Cond.code yX2_joinedBefore cX2_joinedBefore 6 (some .int), Cond.methodLink RX2 122 yX1_before, Cond.methodLink RX2 112 yX2_joinedAfter, Cond.instanceMethod yX2_joinedAfter, Cond.selects RX2 yX2_joinedAfter yX2_joinedAfter, Cond.code yX2_joinedAfter cX2_joinedAfter 6 (some .int), Cond.methodLink RX2 126 yX1_after, Cond.methodLink RX2 115 yX1_turn, Cond.methodLink RX2 119 yX3_hand, Cond.instanceMethod yX3_hand, Cond.selects RX3 yX3_hand yX3_hand, Cond.code yX3_hand cX3_hand 1 (some .int), Cond.methodLink RX5 80 yX1_clear, Cond.instanceMethod yX1_clear, Cond.selects RX1 yX1_clear yX1_clear, Cond.code yX1_clear cX1_clear 1 none]
def wsX5_polygon : List Cond := .code yX5_polygon cX5_polygon 2 (some .int) :: ((wsX5_polygon_r1 ++ (wsX5_polygon_r2 ++ (wsX5_polygon_r3 ++ (wsX5_polygon_r4 ++ (wsX5_polygon_r5 ++ (wsX5_polygon_r6 ++ (wsX5_polygon_r7 ++ wsX5_polygon_r8))))))) ++ wsX50 ++ wsX00 ++ wsX10 ++ wsX30 ++ wsX20)
def wsX5_fault : List Cond := .code yX5_fault cX5_fault 2 (some .int) :: ([.fieldLink RX5 19 "PolyCuts" "check" "LPolyCuts$Check;", .fieldLink RX5 83 "PolyCuts$Check" "first" "I", .fieldLink RX5 86 "PolyCuts$Check" "second" "I"] ++ wsX50 ++ wsX00)
def wsX5_drop : List Cond := .code yX5_drop cX5_drop 1 (some .int) :: ([.fieldLink RX5 44 "PolyCuts" "shapeCount" "I"] ++ wsX50)
def wsX5_shapeOf : List Cond := .code yX5_shapeOf cX5_shapeOf 2 (some (.object "PolyCuts$Shape")) :: ([.fieldLink RX5 44 "PolyCuts" "shapeCount" "I", .fieldLink RX5 39 "PolyCuts" "shapes" "[LPolyCuts$Shape;"] ++ wsX50)
def wsX5_count : List Cond := .code yX5_count cX5_count 3 (some .int) :: ([.fieldLink RX5 44 "PolyCuts" "shapeCount" "I", .fieldLink RX5 93 "PolyCuts$Shape" "corners" "LPolyCuts$Corners;", .fieldLink RX5 60 "PolyCuts$Corners" "size" "I", .methodLink RX5 89 yX5_shapeOf, .instanceMethod yX5_shapeOf, .selects RX5 yX5_shapeOf yX5_shapeOf, .initialized RX5, .code yX5_shapeOf cX5_shapeOf 2 (some (.object "PolyCuts$Shape")), .fieldLink RX5 39 "PolyCuts" "shapes" "[LPolyCuts$Shape;"] ++ wsX50 ++ wsX30 ++ wsX10)
def wsX5_isZeroOrOne : List Cond := .code yX5_isZeroOrOne cX5_isZeroOrOne 1 (some .boolean) :: ([])
def wsX5_at : List Cond := .code yX5_at cX5_at 5 (some .int) :: ([.fieldLink RX5 93 "PolyCuts$Shape" "corners" "LPolyCuts$Corners;", .methodLink RX5 89 yX5_shapeOf, .instanceMethod yX5_shapeOf, .selects RX5 yX5_shapeOf yX5_shapeOf, .initialized RX5, .code yX5_shapeOf cX5_shapeOf 2 (some (.object "PolyCuts$Shape")), .fieldLink RX5 44 "PolyCuts" "shapeCount" "I", .fieldLink RX5 39 "PolyCuts" "shapes" "[LPolyCuts$Shape;", .methodLink RX5 96 yX1_has, .instanceMethod yX1_has, .selects RX1 yX1_has yX1_has, .initialized RX1, .code yX1_has cX1_has 2 (some .boolean), .fieldLink RX1 18 "PolyCuts$Corners" "size" "I", .methodLink RX5 100 yX5_isZeroOrOne, .static yX5_isZeroOrOne, .code yX5_isZeroOrOne cX5_isZeroOrOne 1 (some .boolean), .methodLink RX5 103 yX1_along, .instanceMethod yX1_along, .selects RX1 yX1_along yX1_along, .code yX1_along cX1_along 2 (some (.array .int)), .fieldLink RX1 9 "PolyCuts$Corners" "x" "[I", .fieldLink RX1 15 "PolyCuts$Corners" "y" "[I"] ++ wsX30 ++ wsX50 ++ wsX10)
def wsX5_area : List Cond := .code yX5_area cX5_area 3 (some .int) :: ([.fieldLink RX5 107 "PolyCuts$Shape" "doubleArea" "I", .methodLink RX5 89 yX5_shapeOf, .instanceMethod yX5_shapeOf, .selects RX5 yX5_shapeOf yX5_shapeOf, .initialized RX5, .code yX5_shapeOf cX5_shapeOf 2 (some (.object "PolyCuts$Shape")), .fieldLink RX5 44 "PolyCuts" "shapeCount" "I", .fieldLink RX5 39 "PolyCuts" "shapes" "[LPolyCuts$Shape;"] ++ wsX30 ++ wsX50)
def wsX5_centroid_r1 : List Cond := [Cond.constantLong RX5 114 (3), Cond.fieldLink RX5 107 "PolyCuts$Shape" "doubleArea" "I", Cond.methodLink RX5 89 yX5_shapeOf, Cond.instanceMethod yX5_shapeOf, Cond.selects RX5 yX5_shapeOf yX5_shapeOf, Cond.initialized RX5, Cond.code yX5_shapeOf cX5_shapeOf 2 (some (.object "PolyCuts$Shape")), Cond.fieldLink RX5 44 "PolyCuts" "shapeCount" "I", Cond.fieldLink RX5 39 "PolyCuts" "shapes" "[LPolyCuts$Shape;", Cond.methodLink RX5 100 yX5_isZeroOrOne, Cond.static yX5_isZeroOrOne, Cond.code yX5_isZeroOrOne cX5_isZeroOrOne 1 (some .boolean), Cond.methodLink RX5 110 yX3_centroidMoment, Cond.instanceMethod yX3_centroidMoment, Cond.selects RX3 yX3_centroidMoment yX3_centroidMoment, Cond.initialized RX3, Cond.code yX3_centroidMoment cX3_centroidMoment 6 (some .long), Cond.fieldLink RX3 12 "PolyCuts$Shape" "corners" "LPolyCuts$Corners;", Cond.fieldLink RX3 59 "PolyCuts$Corners" "size" "I", Cond.methodLink RX3 70 yX1_along, Cond.instanceMethod yX1_along, Cond.selects RX1 yX1_along yX1_along, Cond.initialized RX1, Cond.code yX1_along cX1_along 2 (some (.array .int))]
def wsX5_centroid_r2 : List Cond := [Cond.fieldLink RX1 9 "PolyCuts$Corners" "x" "[I", Cond.fieldLink RX1 15 "PolyCuts$Corners" "y" "[I", Cond.methodLink RX3 74 yX1_after, Cond.instanceMethod yX1_after, Cond.selects RX1 yX1_after yX1_after, Cond.code yX1_after cX1_after 2 (some .int), Cond.fieldLink RX1 18 "PolyCuts$Corners" "size" "I", Cond.methodLink RX3 62 yX3_crossOfEdge, Cond.instanceMethod yX3_crossOfEdge, Cond.selects RX3 yX3_crossOfEdge yX3_crossOfEdge, Cond.code yX3_crossOfEdge cX3_crossOfEdge 3 (some .int), Cond.fieldLink RX3 77 "PolyCuts$Corners" "x" "[I", Cond.fieldLink RX3 80 "PolyCuts$Corners" "y" "[I", Cond.methodLink RX5 116 yX5_greatestDivisor, Cond.static yX5_greatestDivisor, Cond.code yX5_greatestDivisor cX5_greatestDivisor 11 (some .long), Cond.methodLink RX5 190 Lib.MathLoose.abs_long.x, Cond.static Lib.MathLoose.abs_long.x, Cond.initialized "java/lang/Math", Cond.code Lib.MathLoose.abs_long.x Lib.MathLoose.abs_long.code 2 (some .long)]
def wsX5_centroid : List Cond := .code yX5_centroid cX5_centroid 13 (some .long) :: ((wsX5_centroid_r1 ++ wsX5_centroid_r2) ++ wsX30 ++ wsX50 ++ wsX10)
def wsX5_points_r1 : List Cond := [Cond.fieldLink RX5 107 "PolyCuts$Shape" "doubleArea" "I", Cond.methodLink RX5 124 Lib.Math.abs.name, Cond.static Lib.Math.abs.name, Cond.initialized "java/lang/Math", Cond.code Lib.Math.abs.name Lib.Math.abs.code 1 (some .int), Cond.methodLink RX5 89 yX5_shapeOf, Cond.instanceMethod yX5_shapeOf, Cond.selects RX5 yX5_shapeOf yX5_shapeOf, Cond.initialized RX5, Cond.code yX5_shapeOf cX5_shapeOf 2 (some (.object "PolyCuts$Shape")), Cond.fieldLink RX5 44 "PolyCuts" "shapeCount" "I", Cond.fieldLink RX5 39 "PolyCuts" "shapes" "[LPolyCuts$Shape;", Cond.methodLink RX5 100 yX5_isZeroOrOne, Cond.static yX5_isZeroOrOne, Cond.code yX5_isZeroOrOne cX5_isZeroOrOne 1 (some .boolean), Cond.methodLink RX5 120 yX3_pointsOnEdges, Cond.instanceMethod yX3_pointsOnEdges, Cond.selects RX3 yX3_pointsOnEdges yX3_pointsOnEdges, Cond.initialized RX3, Cond.code yX3_pointsOnEdges cX3_pointsOnEdges 4 (some .int), Cond.fieldLink RX3 12 "PolyCuts$Shape" "corners" "LPolyCuts$Corners;", Cond.fieldLink RX3 59 "PolyCuts$Corners" "size" "I", Cond.fieldLink RX3 77 "PolyCuts$Corners" "x" "[I", Cond.fieldLink RX3 80 "PolyCuts$Corners" "y" "[I"]
def wsX5_points_r2 : List Cond := [Cond.methodLink RX3 74 yX1_after, Cond.instanceMethod yX1_after, Cond.selects RX1 yX1_after yX1_after, Cond.initialized RX1, Cond.code yX1_after cX1_after 2 (some .int), Cond.fieldLink RX1 18 "PolyCuts$Corners" "size" "I", Cond.static yX5_greatestDivisor, Cond.code yX5_greatestDivisor cX5_greatestDivisor 11 (some .long), Cond.methodLink RX5 190 Lib.MathLoose.abs_long.x, Cond.static Lib.MathLoose.abs_long.x, Cond.code Lib.MathLoose.abs_long.x Lib.MathLoose.abs_long.code 2 (some .long)]
def wsX5_points : List Cond := .code yX5_points cX5_points 5 (some .int) :: ((wsX5_points_r1 ++ wsX5_points_r2) ++ wsX30 ++ wsX50 ++ wsX10)
def wsX5_in_r1 : List Cond := [Cond.methodLink RX5 89 yX5_shapeOf, Cond.instanceMethod yX5_shapeOf, Cond.selects RX5 yX5_shapeOf yX5_shapeOf, Cond.initialized RX5, Cond.code yX5_shapeOf cX5_shapeOf 2 (some (.object "PolyCuts$Shape")), Cond.fieldLink RX5 44 "PolyCuts" "shapeCount" "I", Cond.fieldLink RX5 39 "PolyCuts" "shapes" "[LPolyCuts$Shape;", Cond.methodLink RX5 48 yX5_isWithin, Cond.static yX5_isWithin, Cond.code yX5_isWithin cX5_isWithin 2 (some .boolean), Cond.methodLink RX5 130 yX3_placeOf, Cond.instanceMethod yX3_placeOf, Cond.selects RX3 yX3_placeOf yX3_placeOf, Cond.initialized RX3, Cond.code yX3_placeOf cX3_placeOf 13 (some .int), Cond.fieldLink RX3 12 "PolyCuts$Shape" "corners" "LPolyCuts$Corners;", Cond.fieldLink RX3 59 "PolyCuts$Corners" "size" "I", Cond.fieldLink RX3 77 "PolyCuts$Corners" "x" "[I", Cond.fieldLink RX3 80 "PolyCuts$Corners" "y" "[I", Cond.methodLink RX3 74 yX1_after, Cond.instanceMethod yX1_after, Cond.selects RX1 yX1_after yX1_after, Cond.initialized RX1, Cond.code yX1_after cX1_after 2 (some .int)]
def wsX5_in_r2 : List Cond := [Cond.fieldLink RX1 18 "PolyCuts$Corners" "size" "I"]
def wsX5_in : List Cond := .code yX5_in cX5_in 5 (some .int) :: ((wsX5_in_r1 ++ wsX5_in_r2) ++ wsX50 ++ wsX30 ++ wsX10)
def wsX5_sees : List Cond := .code yX5_sees cX5_sees 5 (some .int) :: ([.fieldLink RX5 93 "PolyCuts$Shape" "corners" "LPolyCuts$Corners;", .fieldLink RX5 134 "PolyCuts$Shape" "sight" "[[I", .methodLink RX5 89 yX5_shapeOf, .instanceMethod yX5_shapeOf, .selects RX5 yX5_shapeOf yX5_shapeOf, .initialized RX5, .code yX5_shapeOf cX5_shapeOf 2 (some (.object "PolyCuts$Shape")), .fieldLink RX5 44 "PolyCuts" "shapeCount" "I", .fieldLink RX5 39 "PolyCuts" "shapes" "[LPolyCuts$Shape;", .methodLink RX5 96 yX1_has, .instanceMethod yX1_has, .selects RX1 yX1_has yX1_has, .initialized RX1, .code yX1_has cX1_has 2 (some .boolean), .fieldLink RX1 18 "PolyCuts$Corners" "size" "I"] ++ wsX30 ++ wsX50 ++ wsX10)
def wsX5_way_r1 : List Cond := [Cond.fieldLink RX5 93 "PolyCuts$Shape" "corners" "LPolyCuts$Corners;", Cond.fieldLink RX5 33 "PolyCuts" "walk" "LPolyCuts$Walk;", Cond.fieldLink RX5 142 "PolyCuts$Walk" "stepsLeft" "[I", Cond.methodLink RX5 89 yX5_shapeOf, Cond.instanceMethod yX5_shapeOf, Cond.selects RX5 yX5_shapeOf yX5_shapeOf, Cond.initialized RX5, Cond.code yX5_shapeOf cX5_shapeOf 2 (some (.object "PolyCuts$Shape")), Cond.fieldLink RX5 44 "PolyCuts" "shapeCount" "I", Cond.fieldLink RX5 39 "PolyCuts" "shapes" "[LPolyCuts$Shape;", Cond.methodLink RX5 96 yX1_has, Cond.instanceMethod yX1_has, Cond.selects RX1 yX1_has yX1_has, Cond.initialized RX1, Cond.code yX1_has cX1_has 2 (some .boolean), Cond.fieldLink RX1 18 "PolyCuts$Corners" "size" "I", Cond.methodLink RX5 138 yX4_measure, Cond.instanceMethod yX4_measure, Cond.selects RX4 yX4_measure yX4_measure, Cond.initialized RX4, Cond.code yX4_measure cX4_measure 6 none, Cond.fieldLink RX4 15 "PolyCuts$Shape" "corners" "LPolyCuts$Corners;", Cond.fieldLink RX4 21 "PolyCuts$Corners" "size" "I", Cond.fieldLink RX4 9 "PolyCuts$Walk" "stepsLeft" "[I"]
def wsX5_way_r2 : List Cond := [Cond.methodLink RX4 27 yX4_leastNext, Cond.instanceMethod yX4_leastNext, Cond.selects RX4 yX4_leastNext yX4_leastNext, Cond.code yX4_leastNext cX4_leastNext 5 (some .int), Cond.fieldLink RX4 31 "PolyCuts$Shape" "sight" "[[I"]
def wsX5_way : List Cond := .code yX5_way cX5_way 5 (some .int) :: ((wsX5_way_r1 ++ wsX5_way_r2) ++ wsX30 ++ wsX50 ++ wsX40 ++ wsX10)
def wsX5_step_r1 : List Cond := [Cond.fieldLink RX5 93 "PolyCuts$Shape" "corners" "LPolyCuts$Corners;", Cond.fieldLink RX5 33 "PolyCuts" "walk" "LPolyCuts$Walk;", Cond.methodLink RX5 89 yX5_shapeOf, Cond.instanceMethod yX5_shapeOf, Cond.selects RX5 yX5_shapeOf yX5_shapeOf, Cond.initialized RX5, Cond.code yX5_shapeOf cX5_shapeOf 2 (some (.object "PolyCuts$Shape")), Cond.fieldLink RX5 44 "PolyCuts" "shapeCount" "I", Cond.fieldLink RX5 39 "PolyCuts" "shapes" "[LPolyCuts$Shape;", Cond.methodLink RX5 96 yX1_has, Cond.instanceMethod yX1_has, Cond.selects RX1 yX1_has yX1_has, Cond.initialized RX1, Cond.code yX1_has cX1_has 2 (some .boolean), Cond.fieldLink RX1 18 "PolyCuts$Corners" "size" "I", Cond.methodLink RX5 138 yX4_measure, Cond.instanceMethod yX4_measure, Cond.selects RX4 yX4_measure yX4_measure, Cond.initialized RX4, Cond.code yX4_measure cX4_measure 6 none, Cond.fieldLink RX4 15 "PolyCuts$Shape" "corners" "LPolyCuts$Corners;", Cond.fieldLink RX4 21 "PolyCuts$Corners" "size" "I", Cond.fieldLink RX4 9 "PolyCuts$Walk" "stepsLeft" "[I", Cond.methodLink RX4 27 yX4_leastNext]
def wsX5_step_r2 : List Cond := [Cond.instanceMethod yX4_leastNext, Cond.selects RX4 yX4_leastNext yX4_leastNext, Cond.code yX4_leastNext cX4_leastNext 5 (some .int), Cond.fieldLink RX4 31 "PolyCuts$Shape" "sight" "[[I", Cond.methodLink RX5 146 yX4_cornerAfter, Cond.instanceMethod yX4_cornerAfter, Cond.selects RX4 yX4_cornerAfter yX4_cornerAfter, Cond.code yX4_cornerAfter cX4_cornerAfter 7 (some .int)]
def wsX5_step : List Cond := .code yX5_step cX5_step 6 (some .int) :: ((wsX5_step_r1 ++ wsX5_step_r2) ++ wsX30 ++ wsX50 ++ wsX10 ++ wsX40)
def wsX5_triangulations : List Cond := .code yX5_triangulations cX5_triangulations 3 (some .int) :: ([.fieldLink RX5 150 "PolyCuts$Shape" "triangulationCount" "I", .methodLink RX5 89 yX5_shapeOf, .instanceMethod yX5_shapeOf, .selects RX5 yX5_shapeOf yX5_shapeOf, .initialized RX5, .code yX5_shapeOf cX5_shapeOf 2 (some (.object "PolyCuts$Shape")), .fieldLink RX5 44 "PolyCuts" "shapeCount" "I", .fieldLink RX5 39 "PolyCuts" "shapes" "[LPolyCuts$Shape;"] ++ wsX30 ++ wsX50)
def wsX5_best : List Cond := .code yX5_best cX5_best 3 (some .int) :: ([.fieldLink RX5 153 "PolyCuts$Shape" "leastSum" "I", .methodLink RX5 89 yX5_shapeOf, .instanceMethod yX5_shapeOf, .selects RX5 yX5_shapeOf yX5_shapeOf, .initialized RX5, .code yX5_shapeOf cX5_shapeOf 2 (some (.object "PolyCuts$Shape")), .fieldLink RX5 44 "PolyCuts" "shapeCount" "I", .fieldLink RX5 39 "PolyCuts" "shapes" "[LPolyCuts$Shape;"] ++ wsX30 ++ wsX50)
def wsX5_triangle : List Cond := .code yX5_triangle cX5_triangle 5 (some .int) :: ([.fieldLink RX5 159 "PolyCuts$Shape" "triangleThird" "[I", .fieldLink RX5 162 "PolyCuts$Shape" "triangleFrom" "[I", .fieldLink RX5 165 "PolyCuts$Shape" "triangleTo" "[I", .methodLink RX5 89 yX5_shapeOf, .instanceMethod yX5_shapeOf, .selects RX5 yX5_shapeOf yX5_shapeOf, .initialized RX5, .code yX5_shapeOf cX5_shapeOf 2 (some (.object "PolyCuts$Shape")), .fieldLink RX5 44 "PolyCuts" "shapeCount" "I", .fieldLink RX5 39 "PolyCuts" "shapes" "[LPolyCuts$Shape;", .methodLink RX5 156 yX3_triangleCount, .instanceMethod yX3_triangleCount, .selects RX3 yX3_triangleCount yX3_triangleCount, .initialized RX3, .code yX3_triangleCount cX3_triangleCount 1 (some .int), .fieldLink RX3 12 "PolyCuts$Shape" "corners" "LPolyCuts$Corners;", .fieldLink RX3 59 "PolyCuts$Corners" "size" "I"] ++ wsX30 ++ wsX50 ++ wsX10)
def wsX5_diagonal : List Cond := .code yX5_diagonal cX5_diagonal 5 (some .int) :: ([.fieldLink RX5 171 "PolyCuts$Shape" "diagonalStays" "[I", .fieldLink RX5 174 "PolyCuts$Shape" "diagonalLesser" "[I", .fieldLink RX5 177 "PolyCuts$Shape" "diagonalGreater" "[I", .methodLink RX5 89 yX5_shapeOf, .instanceMethod yX5_shapeOf, .selects RX5 yX5_shapeOf yX5_shapeOf, .initialized RX5, .code yX5_shapeOf cX5_shapeOf 2 (some (.object "PolyCuts$Shape")), .fieldLink RX5 44 "PolyCuts" "shapeCount" "I", .fieldLink RX5 39 "PolyCuts" "shapes" "[LPolyCuts$Shape;", .methodLink RX5 168 yX3_diagonalCount, .instanceMethod yX3_diagonalCount, .selects RX3 yX3_diagonalCount yX3_diagonalCount, .initialized RX3, .code yX3_diagonalCount cX3_diagonalCount 1 (some .int), .fieldLink RX3 12 "PolyCuts$Shape" "corners" "LPolyCuts$Corners;", .fieldLink RX3 59 "PolyCuts$Corners" "size" "I"] ++ wsX30 ++ wsX50 ++ wsX10)
def wsX5_parts : List Cond := .code yX5_parts cX5_parts 3 (some .int) :: ([.fieldLink RX5 180 "PolyCuts$Shape" "partCount" "I", .methodLink RX5 89 yX5_shapeOf, .instanceMethod yX5_shapeOf, .selects RX5 yX5_shapeOf yX5_shapeOf, .initialized RX5, .code yX5_shapeOf cX5_shapeOf 2 (some (.object "PolyCuts$Shape")), .fieldLink RX5 44 "PolyCuts" "shapeCount" "I", .fieldLink RX5 39 "PolyCuts" "shapes" "[LPolyCuts$Shape;"] ++ wsX30 ++ wsX50)
def wsX5_same_r1 : List Cond := [Cond.methodLink RX5 89 yX5_shapeOf, Cond.instanceMethod yX5_shapeOf, Cond.selects RX5 yX5_shapeOf yX5_shapeOf, Cond.initialized RX5, Cond.code yX5_shapeOf cX5_shapeOf 2 (some (.object "PolyCuts$Shape")), Cond.fieldLink RX5 44 "PolyCuts" "shapeCount" "I", Cond.fieldLink RX5 39 "PolyCuts" "shapes" "[LPolyCuts$Shape;", Cond.methodLink RX5 183 yX3_leastStart, Cond.instanceMethod yX3_leastStart, Cond.selects RX3 yX3_leastStart yX3_leastStart, Cond.initialized RX3, Cond.code yX3_leastStart cX3_leastStart 4 (some .int), Cond.fieldLink RX3 12 "PolyCuts$Shape" "corners" "LPolyCuts$Corners;", Cond.fieldLink RX3 59 "PolyCuts$Corners" "size" "I", Cond.methodLink RX3 87 yX3_fits, Cond.instanceMethod yX3_fits, Cond.selects RX3 yX3_fits yX3_fits, Cond.code yX3_fits cX3_fits 10 (some .boolean), Cond.methodLink RX3 103 yX3_hand, Cond.instanceMethod yX3_hand, Cond.selects RX3 yX3_hand yX3_hand, Cond.code yX3_hand cX3_hand 1 (some .int), Cond.fieldLink RX3 23 "PolyCuts$Shape" "doubleArea" "I", Cond.methodLink RX3 74 yX1_after]
def wsX5_same_r2 : List Cond := [Cond.instanceMethod yX1_after, Cond.selects RX1 yX1_after yX1_after, Cond.initialized RX1, Cond.code yX1_after cX1_after 2 (some .int), Cond.fieldLink RX1 18 "PolyCuts$Corners" "size" "I", Cond.methodLink RX3 107 yX1_before, Cond.instanceMethod yX1_before, Cond.selects RX1 yX1_before yX1_before, Cond.code yX1_before cX1_before 2 (some .int), Cond.methodLink RX3 110 yX3_fitsCorner, Cond.instanceMethod yX3_fitsCorner, Cond.selects RX3 yX3_fitsCorner yX3_fitsCorner, Cond.code yX3_fitsCorner cX3_fitsCorner 9 (some .boolean), Cond.methodLink RX3 114 yX1_squaredLength, Cond.instanceMethod yX1_squaredLength, Cond.selects RX1 yX1_squaredLength yX1_squaredLength, Cond.code yX1_squaredLength cX1_squaredLength 5 (some .int), Cond.fieldLink RX1 9 "PolyCuts$Corners" "x" "[I", Cond.fieldLink RX1 15 "PolyCuts$Corners" "y" "[I", Cond.methodLink RX3 117 yX1_turn, Cond.instanceMethod yX1_turn, Cond.selects RX1 yX1_turn yX1_turn, Cond.code yX1_turn cX1_turn 4 (some .int), Cond.methodLink RX3 120 yX1_advance]
def wsX5_same_r3 : List Cond := [Cond.instanceMethod yX1_advance, Cond.selects RX1 yX1_advance yX1_advance, Cond.code yX1_advance cX1_advance 4 (some .int)]
def wsX5_same : List Cond := .code yX5_same cX5_same 5 (some .int) :: ((wsX5_same_r1 ++ (wsX5_same_r2 ++ wsX5_same_r3)) ++ wsX50 ++ wsX30 ++ wsX10)
def wsX5_onto_r1 : List Cond := [Cond.methodLink RX5 89 yX5_shapeOf, Cond.instanceMethod yX5_shapeOf, Cond.selects RX5 yX5_shapeOf yX5_shapeOf, Cond.initialized RX5, Cond.code yX5_shapeOf cX5_shapeOf 2 (some (.object "PolyCuts$Shape")), Cond.fieldLink RX5 44 "PolyCuts" "shapeCount" "I", Cond.fieldLink RX5 39 "PolyCuts" "shapes" "[LPolyCuts$Shape;", Cond.methodLink RX5 183 yX3_leastStart, Cond.instanceMethod yX3_leastStart, Cond.selects RX3 yX3_leastStart yX3_leastStart, Cond.initialized RX3, Cond.code yX3_leastStart cX3_leastStart 4 (some .int), Cond.fieldLink RX3 12 "PolyCuts$Shape" "corners" "LPolyCuts$Corners;", Cond.fieldLink RX3 59 "PolyCuts$Corners" "size" "I", Cond.methodLink RX3 87 yX3_fits, Cond.instanceMethod yX3_fits, Cond.selects RX3 yX3_fits yX3_fits, Cond.code yX3_fits cX3_fits 10 (some .boolean), Cond.methodLink RX3 103 yX3_hand, Cond.instanceMethod yX3_hand, Cond.selects RX3 yX3_hand yX3_hand, Cond.code yX3_hand cX3_hand 1 (some .int), Cond.fieldLink RX3 23 "PolyCuts$Shape" "doubleArea" "I", Cond.methodLink RX3 74 yX1_after]
def wsX5_onto_r2 : List Cond := [Cond.instanceMethod yX1_after, Cond.selects RX1 yX1_after yX1_after, Cond.initialized RX1, Cond.code yX1_after cX1_after 2 (some .int), Cond.fieldLink RX1 18 "PolyCuts$Corners" "size" "I", Cond.methodLink RX3 107 yX1_before, Cond.instanceMethod yX1_before, Cond.selects RX1 yX1_before yX1_before, Cond.code yX1_before cX1_before 2 (some .int), Cond.methodLink RX3 110 yX3_fitsCorner, Cond.instanceMethod yX3_fitsCorner, Cond.selects RX3 yX3_fitsCorner yX3_fitsCorner, Cond.code yX3_fitsCorner cX3_fitsCorner 9 (some .boolean), Cond.methodLink RX3 114 yX1_squaredLength, Cond.instanceMethod yX1_squaredLength, Cond.selects RX1 yX1_squaredLength yX1_squaredLength, Cond.code yX1_squaredLength cX1_squaredLength 5 (some .int), Cond.fieldLink RX1 9 "PolyCuts$Corners" "x" "[I", Cond.fieldLink RX1 15 "PolyCuts$Corners" "y" "[I", Cond.methodLink RX3 117 yX1_turn, Cond.instanceMethod yX1_turn, Cond.selects RX1 yX1_turn yX1_turn, Cond.code yX1_turn cX1_turn 4 (some .int), Cond.methodLink RX3 120 yX1_advance]
def wsX5_onto_r3 : List Cond := [Cond.instanceMethod yX1_advance, Cond.selects RX1 yX1_advance yX1_advance, Cond.code yX1_advance cX1_advance 4 (some .int)]
def wsX5_onto : List Cond := .code yX5_onto cX5_onto 6 (some .int) :: ((wsX5_onto_r1 ++ (wsX5_onto_r2 ++ wsX5_onto_r3)) ++ wsX50 ++ wsX30 ++ wsX10)
def wsX5_symmetries_r1 : List Cond := [Cond.methodLink RX5 89 yX5_shapeOf, Cond.instanceMethod yX5_shapeOf, Cond.selects RX5 yX5_shapeOf yX5_shapeOf, Cond.initialized RX5, Cond.code yX5_shapeOf cX5_shapeOf 2 (some (.object "PolyCuts$Shape")), Cond.fieldLink RX5 44 "PolyCuts" "shapeCount" "I", Cond.fieldLink RX5 39 "PolyCuts" "shapes" "[LPolyCuts$Shape;", Cond.methodLink RX5 100 yX5_isZeroOrOne, Cond.static yX5_isZeroOrOne, Cond.code yX5_isZeroOrOne cX5_isZeroOrOne 1 (some .boolean), Cond.methodLink RX5 187 yX3_startCount, Cond.instanceMethod yX3_startCount, Cond.selects RX3 yX3_startCount yX3_startCount, Cond.initialized RX3, Cond.code yX3_startCount cX3_startCount 4 (some .int), Cond.fieldLink RX3 12 "PolyCuts$Shape" "corners" "LPolyCuts$Corners;", Cond.fieldLink RX3 59 "PolyCuts$Corners" "size" "I", Cond.methodLink RX3 87 yX3_fits, Cond.instanceMethod yX3_fits, Cond.selects RX3 yX3_fits yX3_fits, Cond.code yX3_fits cX3_fits 10 (some .boolean), Cond.methodLink RX3 103 yX3_hand, Cond.instanceMethod yX3_hand, Cond.selects RX3 yX3_hand yX3_hand]
def wsX5_symmetries_r2 : List Cond := [Cond.code yX3_hand cX3_hand 1 (some .int), Cond.fieldLink RX3 23 "PolyCuts$Shape" "doubleArea" "I", Cond.methodLink RX3 74 yX1_after, Cond.instanceMethod yX1_after, Cond.selects RX1 yX1_after yX1_after, Cond.initialized RX1, Cond.code yX1_after cX1_after 2 (some .int), Cond.fieldLink RX1 18 "PolyCuts$Corners" "size" "I", Cond.methodLink RX3 107 yX1_before, Cond.instanceMethod yX1_before, Cond.selects RX1 yX1_before yX1_before, Cond.code yX1_before cX1_before 2 (some .int), Cond.methodLink RX3 110 yX3_fitsCorner, Cond.instanceMethod yX3_fitsCorner, Cond.selects RX3 yX3_fitsCorner yX3_fitsCorner, Cond.code yX3_fitsCorner cX3_fitsCorner 9 (some .boolean), Cond.methodLink RX3 114 yX1_squaredLength, Cond.instanceMethod yX1_squaredLength, Cond.selects RX1 yX1_squaredLength yX1_squaredLength, Cond.code yX1_squaredLength cX1_squaredLength 5 (some .int), Cond.fieldLink RX1 9 "PolyCuts$Corners" "x" "[I", Cond.fieldLink RX1 15 "PolyCuts$Corners" "y" "[I", Cond.methodLink RX3 117 yX1_turn, Cond.instanceMethod yX1_turn]
def wsX5_symmetries_r3 : List Cond := [Cond.selects RX1 yX1_turn yX1_turn, Cond.code yX1_turn cX1_turn 4 (some .int), Cond.methodLink RX3 120 yX1_advance, Cond.instanceMethod yX1_advance, Cond.selects RX1 yX1_advance yX1_advance, Cond.code yX1_advance cX1_advance 4 (some .int)]
def wsX5_symmetries : List Cond := .code yX5_symmetries cX5_symmetries 5 (some .int) :: ((wsX5_symmetries_r1 ++ (wsX5_symmetries_r2 ++ wsX5_symmetries_r3)) ++ wsX50 ++ wsX30 ++ wsX10)
def wsX6_init : List Cond := .code yX6_init cX6_init 1 none :: ([.methodLink RX6 1 objectInit, .instanceMethod objectInit, .code objectInit ⟨#[0xb1]⟩ 1 none, .arrayClass .int, .fieldLink RX6 7 "PolyCutsModel" "rowX" "[I", .fieldLink RX6 13 "PolyCutsModel" "rowY" "[I", .fieldLink RX6 16 "PolyCutsModel" "corners" "[I", .fieldLink RX6 19 "PolyCutsModel" "xs" "[I", .fieldLink RX6 22 "PolyCutsModel" "ys" "[I", .fieldLink RX6 25 "PolyCutsModel" "faultFirst" "I", .fieldLink RX6 29 "PolyCutsModel" "faultSecond" "I", .fieldLink RX6 32 "PolyCutsModel" "far" "[I", .fieldLink RX6 35 "PolyCutsModel" "ways" "[I", .fieldLink RX6 38 "PolyCutsModel" "sums" "[I", .fieldLink RX6 41 "PolyCutsModel" "joins" "[I", .fieldLink RX6 44 "PolyCutsModel" "triangleI" "[I", .fieldLink RX6 47 "PolyCutsModel" "triangleK" "[I", .fieldLink RX6 50 "PolyCutsModel" "triangleJ" "[I", .fieldLink RX6 53 "PolyCutsModel" "pile" "[I", .fieldLink RX6 56 "PolyCutsModel" "diagonalA" "[I", .fieldLink RX6 59 "PolyCutsModel" "diagonalB" "[I", .arrayClass .boolean, .fieldLink RX6 62 "PolyCutsModel" "stays" "[Z", .fieldLink RX6 66 "PolyCutsModel" "isJoined" "[Z"] ++ wsX60)
def wsX6_within : List Cond := .code yX6_within cX6_within 3 (some .boolean) :: ([])
def wsX6_corner : List Cond := .code yX6_corner cX6_corner 3 (some .int) :: ([.fieldLink RX6 73 "PolyCutsModel" "rowMany" "I", .fieldLink RX6 7 "PolyCutsModel" "rowX" "[I", .fieldLink RX6 13 "PolyCutsModel" "rowY" "[I", .methodLink RX6 69 yX6_within, .static yX6_within, .initialized RX6, .code yX6_within cX6_within 3 (some .boolean)] ++ wsX60)
def wsX6_turn : List Cond := .code yX6_turn cX6_turn 6 (some .int) :: ([])
def wsX6_isBetween : List Cond := .code yX6_isBetween cX6_isBetween 8 (some .boolean) :: ([.methodLink RX6 76 yX6_turn, .static yX6_turn, .initialized RX6, .code yX6_turn cX6_turn 6 (some .int)])
def wsX6_sign : List Cond := .code yX6_sign cX6_sign 1 (some .int) :: ([])
def wsX6_meet : List Cond := .code yX6_meet cX6_meet 12 (some .boolean) :: ([.methodLink RX6 76 yX6_turn, .static yX6_turn, .initialized RX6, .code yX6_turn cX6_turn 6 (some .int), .methodLink RX6 80 yX6_sign, .static yX6_sign, .code yX6_sign cX6_sign 1 (some .int), .methodLink RX6 84 yX6_isBetween, .static yX6_isBetween, .code yX6_isBetween cX6_isBetween 8 (some .boolean)])
def wsX6_straight : List Cond := .code yX6_straight cX6_straight 4 (some .int) :: ([.fieldLink RX6 73 "PolyCutsModel" "rowMany" "I", .fieldLink RX6 7 "PolyCutsModel" "rowX" "[I", .fieldLink RX6 13 "PolyCutsModel" "rowY" "[I", .methodLink RX6 76 yX6_turn, .static yX6_turn, .initialized RX6, .code yX6_turn cX6_turn 6 (some .int)] ++ wsX60)
def wsX6_crossed : List Cond := .code yX6_crossed cX6_crossed 6 (some .int) :: ([.fieldLink RX6 73 "PolyCutsModel" "rowMany" "I", .fieldLink RX6 7 "PolyCutsModel" "rowX" "[I", .fieldLink RX6 13 "PolyCutsModel" "rowY" "[I", .fieldLink RX6 29 "PolyCutsModel" "faultSecond" "I", .methodLink RX6 88 yX6_meet, .static yX6_meet, .initialized RX6, .code yX6_meet cX6_meet 12 (some .boolean), .methodLink RX6 76 yX6_turn, .static yX6_turn, .code yX6_turn cX6_turn 6 (some .int), .methodLink RX6 80 yX6_sign, .static yX6_sign, .code yX6_sign cX6_sign 1 (some .int), .methodLink RX6 84 yX6_isBetween, .static yX6_isBetween, .code yX6_isBetween cX6_isBetween 8 (some .boolean)] ++ wsX60)
def wsX6_polygon_r1 : List Cond := [Cond.fieldLink RX6 92 "PolyCutsModel" "polygons" "I", Cond.fieldLink RX6 25 "PolyCutsModel" "faultFirst" "I", Cond.fieldLink RX6 29 "PolyCutsModel" "faultSecond" "I", Cond.fieldLink RX6 73 "PolyCutsModel" "rowMany" "I", Cond.fieldLink RX6 16 "PolyCutsModel" "corners" "[I", Cond.fieldLink RX6 19 "PolyCutsModel" "xs" "[I", Cond.fieldLink RX6 7 "PolyCutsModel" "rowX" "[I", Cond.fieldLink RX6 22 "PolyCutsModel" "ys" "[I", Cond.fieldLink RX6 13 "PolyCutsModel" "rowY" "[I", Cond.methodLink RX6 95 yX6_straight, Cond.instanceMethod yX6_straight, Cond.selects RX6 yX6_straight yX6_straight, Cond.initialized RX6, Cond.code yX6_straight cX6_straight 4 (some .int), Cond.methodLink RX6 76 yX6_turn, Cond.static yX6_turn, Cond.code yX6_turn cX6_turn 6 (some .int), Cond.methodLink RX6 99 yX6_crossed, Cond.instanceMethod yX6_crossed, Cond.selects RX6 yX6_crossed yX6_crossed, Cond.code yX6_crossed cX6_crossed 6 (some .int), Cond.methodLink RX6 88 yX6_meet, Cond.static yX6_meet, Cond.code yX6_meet cX6_meet 12 (some .boolean)]
def wsX6_polygon_r2 : List Cond := [Cond.methodLink RX6 80 yX6_sign, Cond.static yX6_sign, Cond.code yX6_sign cX6_sign 1 (some .int), Cond.methodLink RX6 84 yX6_isBetween, Cond.static yX6_isBetween, Cond.code yX6_isBetween cX6_isBetween 8 (some .boolean)]
def wsX6_polygon : List Cond := .code yX6_polygon cX6_polygon 3 (some .int) :: ((wsX6_polygon_r1 ++ wsX6_polygon_r2) ++ wsX60)
def wsX6_fault : List Cond := .code yX6_fault cX6_fault 2 (some .int) :: ([.fieldLink RX6 25 "PolyCutsModel" "faultFirst" "I", .fieldLink RX6 29 "PolyCutsModel" "faultSecond" "I", .methodLink RX6 69 yX6_within, .static yX6_within, .initialized RX6, .code yX6_within cX6_within 3 (some .boolean)] ++ wsX60)
def wsX6_isPolygon : List Cond := .code yX6_isPolygon cX6_isPolygon 2 (some .boolean) :: ([.fieldLink RX6 92 "PolyCutsModel" "polygons" "I", .methodLink RX6 69 yX6_within, .static yX6_within, .initialized RX6, .code yX6_within cX6_within 3 (some .boolean)] ++ wsX60)
def wsX6_isCorner : List Cond := .code yX6_isCorner cX6_isCorner 3 (some .boolean) :: ([.fieldLink RX6 16 "PolyCutsModel" "corners" "[I", .methodLink RX6 102 yX6_isPolygon, .instanceMethod yX6_isPolygon, .selects RX6 yX6_isPolygon yX6_isPolygon, .initialized RX6, .code yX6_isPolygon cX6_isPolygon 2 (some .boolean), .fieldLink RX6 92 "PolyCutsModel" "polygons" "I", .methodLink RX6 69 yX6_within, .static yX6_within, .code yX6_within cX6_within 3 (some .boolean)] ++ wsX60)
def wsX6_drop : List Cond := .code yX6_drop cX6_drop 1 (some .int) :: ([.fieldLink RX6 92 "PolyCutsModel" "polygons" "I"] ++ wsX60)
def wsX6_count : List Cond := .code yX6_count cX6_count 2 (some .int) :: ([.fieldLink RX6 92 "PolyCutsModel" "polygons" "I", .fieldLink RX6 16 "PolyCutsModel" "corners" "[I", .methodLink RX6 102 yX6_isPolygon, .instanceMethod yX6_isPolygon, .selects RX6 yX6_isPolygon yX6_isPolygon, .initialized RX6, .code yX6_isPolygon cX6_isPolygon 2 (some .boolean), .methodLink RX6 69 yX6_within, .static yX6_within, .code yX6_within cX6_within 3 (some .boolean)] ++ wsX60)
def wsX6_xOf : List Cond := .code yX6_xOf cX6_xOf 3 (some .int) :: ([.fieldLink RX6 19 "PolyCutsModel" "xs" "[I", .fieldLink RX6 16 "PolyCutsModel" "corners" "[I"] ++ wsX60)
def wsX6_yOf : List Cond := .code yX6_yOf cX6_yOf 3 (some .int) :: ([.fieldLink RX6 22 "PolyCutsModel" "ys" "[I", .fieldLink RX6 16 "PolyCutsModel" "corners" "[I"] ++ wsX60)
def wsX6_at : List Cond := .code yX6_at cX6_at 4 (some .int) :: ([.methodLink RX6 106 yX6_isCorner, .instanceMethod yX6_isCorner, .selects RX6 yX6_isCorner yX6_isCorner, .initialized RX6, .code yX6_isCorner cX6_isCorner 3 (some .boolean), .fieldLink RX6 16 "PolyCutsModel" "corners" "[I", .methodLink RX6 102 yX6_isPolygon, .instanceMethod yX6_isPolygon, .selects RX6 yX6_isPolygon yX6_isPolygon, .code yX6_isPolygon cX6_isPolygon 2 (some .boolean), .fieldLink RX6 92 "PolyCutsModel" "polygons" "I", .methodLink RX6 69 yX6_within, .static yX6_within, .code yX6_within cX6_within 3 (some .boolean), .methodLink RX6 110 yX6_xOf, .instanceMethod yX6_xOf, .selects RX6 yX6_xOf yX6_xOf, .code yX6_xOf cX6_xOf 3 (some .int), .fieldLink RX6 19 "PolyCutsModel" "xs" "[I", .methodLink RX6 114 yX6_yOf, .instanceMethod yX6_yOf, .selects RX6 yX6_yOf yX6_yOf, .code yX6_yOf cX6_yOf 3 (some .int), .fieldLink RX6 22 "PolyCutsModel" "ys" "[I"] ++ wsX60)
def wsX6_twice : List Cond := .code yX6_twice cX6_twice 4 (some .int) :: ([.fieldLink RX6 16 "PolyCutsModel" "corners" "[I", .methodLink RX6 110 yX6_xOf, .instanceMethod yX6_xOf, .selects RX6 yX6_xOf yX6_xOf, .initialized RX6, .code yX6_xOf cX6_xOf 3 (some .int), .fieldLink RX6 19 "PolyCutsModel" "xs" "[I", .methodLink RX6 114 yX6_yOf, .instanceMethod yX6_yOf, .selects RX6 yX6_yOf yX6_yOf, .code yX6_yOf cX6_yOf 3 (some .int), .fieldLink RX6 22 "PolyCutsModel" "ys" "[I", .methodLink RX6 76 yX6_turn, .static yX6_turn, .code yX6_turn cX6_turn 6 (some .int)] ++ wsX60)
def wsX6_area_r1 : List Cond := [Cond.methodLink RX6 102 yX6_isPolygon, Cond.instanceMethod yX6_isPolygon, Cond.selects RX6 yX6_isPolygon yX6_isPolygon, Cond.initialized RX6, Cond.code yX6_isPolygon cX6_isPolygon 2 (some .boolean), Cond.fieldLink RX6 92 "PolyCutsModel" "polygons" "I", Cond.methodLink RX6 69 yX6_within, Cond.static yX6_within, Cond.code yX6_within cX6_within 3 (some .boolean), Cond.methodLink RX6 117 yX6_twice, Cond.instanceMethod yX6_twice, Cond.selects RX6 yX6_twice yX6_twice, Cond.code yX6_twice cX6_twice 4 (some .int), Cond.fieldLink RX6 16 "PolyCutsModel" "corners" "[I", Cond.methodLink RX6 110 yX6_xOf, Cond.instanceMethod yX6_xOf, Cond.selects RX6 yX6_xOf yX6_xOf, Cond.code yX6_xOf cX6_xOf 3 (some .int), Cond.fieldLink RX6 19 "PolyCutsModel" "xs" "[I", Cond.methodLink RX6 114 yX6_yOf, Cond.instanceMethod yX6_yOf, Cond.selects RX6 yX6_yOf yX6_yOf, Cond.code yX6_yOf cX6_yOf 3 (some .int), Cond.fieldLink RX6 22 "PolyCutsModel" "ys" "[I"]
def wsX6_area_r2 : List Cond := [Cond.methodLink RX6 76 yX6_turn, Cond.static yX6_turn, Cond.code yX6_turn cX6_turn 6 (some .int)]
def wsX6_area : List Cond := .code yX6_area cX6_area 2 (some .int) :: ((wsX6_area_r1 ++ wsX6_area_r2) ++ wsX60)
def wsX6_common : List Cond := .code yX6_common cX6_common 10 (some .long) :: ([])
def wsX6_centroid_r1 : List Cond := [Cond.fieldLink RX6 16 "PolyCutsModel" "corners" "[I", Cond.constantLong RX6 120 (3), Cond.methodLink RX6 102 yX6_isPolygon, Cond.instanceMethod yX6_isPolygon, Cond.selects RX6 yX6_isPolygon yX6_isPolygon, Cond.initialized RX6, Cond.code yX6_isPolygon cX6_isPolygon 2 (some .boolean), Cond.fieldLink RX6 92 "PolyCutsModel" "polygons" "I", Cond.methodLink RX6 69 yX6_within, Cond.static yX6_within, Cond.code yX6_within cX6_within 3 (some .boolean), Cond.methodLink RX6 110 yX6_xOf, Cond.instanceMethod yX6_xOf, Cond.selects RX6 yX6_xOf yX6_xOf, Cond.code yX6_xOf cX6_xOf 3 (some .int), Cond.fieldLink RX6 19 "PolyCutsModel" "xs" "[I", Cond.methodLink RX6 114 yX6_yOf, Cond.instanceMethod yX6_yOf, Cond.selects RX6 yX6_yOf yX6_yOf, Cond.code yX6_yOf cX6_yOf 3 (some .int), Cond.fieldLink RX6 22 "PolyCutsModel" "ys" "[I", Cond.methodLink RX6 76 yX6_turn, Cond.static yX6_turn, Cond.code yX6_turn cX6_turn 6 (some .int)]
def wsX6_centroid_r2 : List Cond := [Cond.methodLink RX6 117 yX6_twice, Cond.instanceMethod yX6_twice, Cond.selects RX6 yX6_twice yX6_twice, Cond.code yX6_twice cX6_twice 4 (some .int), Cond.methodLink RX6 122 yX6_common, Cond.static yX6_common, Cond.code yX6_common cX6_common 10 (some .long)]
def wsX6_centroid : List Cond := .code yX6_centroid cX6_centroid 11 (some .long) :: ((wsX6_centroid_r1 ++ wsX6_centroid_r2) ++ wsX60)
def wsX6_points_r1 : List Cond := [Cond.fieldLink RX6 16 "PolyCutsModel" "corners" "[I", Cond.methodLink RX6 102 yX6_isPolygon, Cond.instanceMethod yX6_isPolygon, Cond.selects RX6 yX6_isPolygon yX6_isPolygon, Cond.initialized RX6, Cond.code yX6_isPolygon cX6_isPolygon 2 (some .boolean), Cond.fieldLink RX6 92 "PolyCutsModel" "polygons" "I", Cond.methodLink RX6 69 yX6_within, Cond.static yX6_within, Cond.code yX6_within cX6_within 3 (some .boolean), Cond.methodLink RX6 110 yX6_xOf, Cond.instanceMethod yX6_xOf, Cond.selects RX6 yX6_xOf yX6_xOf, Cond.code yX6_xOf cX6_xOf 3 (some .int), Cond.fieldLink RX6 19 "PolyCutsModel" "xs" "[I", Cond.methodLink RX6 114 yX6_yOf, Cond.instanceMethod yX6_yOf, Cond.selects RX6 yX6_yOf yX6_yOf, Cond.code yX6_yOf cX6_yOf 3 (some .int), Cond.fieldLink RX6 22 "PolyCutsModel" "ys" "[I", Cond.methodLink RX6 122 yX6_common, Cond.static yX6_common, Cond.code yX6_common cX6_common 10 (some .long), Cond.methodLink RX6 117 yX6_twice]
def wsX6_points_r2 : List Cond := [Cond.instanceMethod yX6_twice, Cond.selects RX6 yX6_twice yX6_twice, Cond.code yX6_twice cX6_twice 4 (some .int), Cond.methodLink RX6 76 yX6_turn, Cond.static yX6_turn, Cond.code yX6_turn cX6_turn 6 (some .int)]
def wsX6_points : List Cond := .code yX6_points cX6_points 5 (some .int) :: ((wsX6_points_r1 ++ wsX6_points_r2) ++ wsX60)
def wsX6_lies : List Cond := .code yX6_lies cX6_lies 12 (some .int) :: ([.fieldLink RX6 16 "PolyCutsModel" "corners" "[I", .methodLink RX6 110 yX6_xOf, .instanceMethod yX6_xOf, .selects RX6 yX6_xOf yX6_xOf, .initialized RX6, .code yX6_xOf cX6_xOf 3 (some .int), .fieldLink RX6 19 "PolyCutsModel" "xs" "[I", .methodLink RX6 114 yX6_yOf, .instanceMethod yX6_yOf, .selects RX6 yX6_yOf yX6_yOf, .code yX6_yOf cX6_yOf 3 (some .int), .fieldLink RX6 22 "PolyCutsModel" "ys" "[I", .methodLink RX6 84 yX6_isBetween, .static yX6_isBetween, .code yX6_isBetween cX6_isBetween 8 (some .boolean), .methodLink RX6 76 yX6_turn, .static yX6_turn, .code yX6_turn cX6_turn 6 (some .int)] ++ wsX60)
def wsX6_in_r1 : List Cond := [Cond.methodLink RX6 102 yX6_isPolygon, Cond.instanceMethod yX6_isPolygon, Cond.selects RX6 yX6_isPolygon yX6_isPolygon, Cond.initialized RX6, Cond.code yX6_isPolygon cX6_isPolygon 2 (some .boolean), Cond.fieldLink RX6 92 "PolyCutsModel" "polygons" "I", Cond.methodLink RX6 69 yX6_within, Cond.static yX6_within, Cond.code yX6_within cX6_within 3 (some .boolean), Cond.methodLink RX6 126 yX6_lies, Cond.instanceMethod yX6_lies, Cond.selects RX6 yX6_lies yX6_lies, Cond.code yX6_lies cX6_lies 12 (some .int), Cond.fieldLink RX6 16 "PolyCutsModel" "corners" "[I", Cond.methodLink RX6 110 yX6_xOf, Cond.instanceMethod yX6_xOf, Cond.selects RX6 yX6_xOf yX6_xOf, Cond.code yX6_xOf cX6_xOf 3 (some .int), Cond.fieldLink RX6 19 "PolyCutsModel" "xs" "[I", Cond.methodLink RX6 114 yX6_yOf, Cond.instanceMethod yX6_yOf, Cond.selects RX6 yX6_yOf yX6_yOf, Cond.code yX6_yOf cX6_yOf 3 (some .int), Cond.fieldLink RX6 22 "PolyCutsModel" "ys" "[I"]
def wsX6_in_r2 : List Cond := [Cond.methodLink RX6 84 yX6_isBetween, Cond.static yX6_isBetween, Cond.code yX6_isBetween cX6_isBetween 8 (some .boolean), Cond.methodLink RX6 76 yX6_turn, Cond.static yX6_turn, Cond.code yX6_turn cX6_turn 6 (some .int)]
def wsX6_in : List Cond := .code yX6_in cX6_in 4 (some .int) :: ((wsX6_in_r1 ++ wsX6_in_r2) ++ wsX60)
def wsX6_isNear : List Cond := .code yX6_isNear cX6_isNear 4 (some .boolean) :: ([.fieldLink RX6 16 "PolyCutsModel" "corners" "[I"] ++ wsX60)
def wsX6_isSeen_r1 : List Cond := [Cond.fieldLink RX6 16 "PolyCutsModel" "corners" "[I", Cond.methodLink RX6 110 yX6_xOf, Cond.instanceMethod yX6_xOf, Cond.selects RX6 yX6_xOf yX6_xOf, Cond.initialized RX6, Cond.code yX6_xOf cX6_xOf 3 (some .int), Cond.fieldLink RX6 19 "PolyCutsModel" "xs" "[I", Cond.methodLink RX6 114 yX6_yOf, Cond.instanceMethod yX6_yOf, Cond.selects RX6 yX6_yOf yX6_yOf, Cond.code yX6_yOf cX6_yOf 3 (some .int), Cond.fieldLink RX6 22 "PolyCutsModel" "ys" "[I", Cond.methodLink RX6 88 yX6_meet, Cond.static yX6_meet, Cond.code yX6_meet cX6_meet 12 (some .boolean), Cond.methodLink RX6 76 yX6_turn, Cond.static yX6_turn, Cond.code yX6_turn cX6_turn 6 (some .int), Cond.methodLink RX6 80 yX6_sign, Cond.static yX6_sign, Cond.code yX6_sign cX6_sign 1 (some .int), Cond.methodLink RX6 84 yX6_isBetween, Cond.static yX6_isBetween, Cond.code yX6_isBetween cX6_isBetween 8 (some .boolean)]
def wsX6_isSeen_r2 : List Cond := [Cond.methodLink RX6 126 yX6_lies, Cond.instanceMethod yX6_lies, Cond.selects RX6 yX6_lies yX6_lies, Cond.code yX6_lies cX6_lies 12 (some .int)]
def wsX6_isSeen : List Cond := .code yX6_isSeen cX6_isSeen 8 (some .boolean) :: ((wsX6_isSeen_r1 ++ wsX6_isSeen_r2) ++ wsX60)
def wsX6_sight_r1 : List Cond := [Cond.methodLink RX6 130 yX6_isNear, Cond.instanceMethod yX6_isNear, Cond.selects RX6 yX6_isNear yX6_isNear, Cond.initialized RX6, Cond.code yX6_isNear cX6_isNear 4 (some .boolean), Cond.fieldLink RX6 16 "PolyCutsModel" "corners" "[I", Cond.methodLink RX6 133 yX6_isSeen, Cond.instanceMethod yX6_isSeen, Cond.selects RX6 yX6_isSeen yX6_isSeen, Cond.code yX6_isSeen cX6_isSeen 8 (some .boolean), Cond.methodLink RX6 110 yX6_xOf, Cond.instanceMethod yX6_xOf, Cond.selects RX6 yX6_xOf yX6_xOf, Cond.code yX6_xOf cX6_xOf 3 (some .int), Cond.fieldLink RX6 19 "PolyCutsModel" "xs" "[I", Cond.methodLink RX6 114 yX6_yOf, Cond.instanceMethod yX6_yOf, Cond.selects RX6 yX6_yOf yX6_yOf, Cond.code yX6_yOf cX6_yOf 3 (some .int), Cond.fieldLink RX6 22 "PolyCutsModel" "ys" "[I", Cond.methodLink RX6 88 yX6_meet, Cond.static yX6_meet, Cond.code yX6_meet cX6_meet 12 (some .boolean), Cond.methodLink RX6 76 yX6_turn]
def wsX6_sight_r2 : List Cond := [Cond.static yX6_turn, Cond.code yX6_turn cX6_turn 6 (some .int), Cond.methodLink RX6 80 yX6_sign, Cond.static yX6_sign, Cond.code yX6_sign cX6_sign 1 (some .int), Cond.methodLink RX6 84 yX6_isBetween, Cond.static yX6_isBetween, Cond.code yX6_isBetween cX6_isBetween 8 (some .boolean), Cond.methodLink RX6 126 yX6_lies, Cond.instanceMethod yX6_lies, Cond.selects RX6 yX6_lies yX6_lies, Cond.code yX6_lies cX6_lies 12 (some .int)]
def wsX6_sight : List Cond := .code yX6_sight cX6_sight 4 (some .int) :: ((wsX6_sight_r1 ++ wsX6_sight_r2) ++ wsX60)
def wsX6_sees_r1 : List Cond := [Cond.methodLink RX6 106 yX6_isCorner, Cond.instanceMethod yX6_isCorner, Cond.selects RX6 yX6_isCorner yX6_isCorner, Cond.initialized RX6, Cond.code yX6_isCorner cX6_isCorner 3 (some .boolean), Cond.fieldLink RX6 16 "PolyCutsModel" "corners" "[I", Cond.methodLink RX6 102 yX6_isPolygon, Cond.instanceMethod yX6_isPolygon, Cond.selects RX6 yX6_isPolygon yX6_isPolygon, Cond.code yX6_isPolygon cX6_isPolygon 2 (some .boolean), Cond.fieldLink RX6 92 "PolyCutsModel" "polygons" "I", Cond.methodLink RX6 69 yX6_within, Cond.static yX6_within, Cond.code yX6_within cX6_within 3 (some .boolean), Cond.methodLink RX6 136 yX6_sight, Cond.instanceMethod yX6_sight, Cond.selects RX6 yX6_sight yX6_sight, Cond.code yX6_sight cX6_sight 4 (some .int), Cond.methodLink RX6 130 yX6_isNear, Cond.instanceMethod yX6_isNear, Cond.selects RX6 yX6_isNear yX6_isNear, Cond.code yX6_isNear cX6_isNear 4 (some .boolean), Cond.methodLink RX6 133 yX6_isSeen, Cond.instanceMethod yX6_isSeen]
def wsX6_sees_r2 : List Cond := [Cond.selects RX6 yX6_isSeen yX6_isSeen, Cond.code yX6_isSeen cX6_isSeen 8 (some .boolean), Cond.methodLink RX6 110 yX6_xOf, Cond.instanceMethod yX6_xOf, Cond.selects RX6 yX6_xOf yX6_xOf, Cond.code yX6_xOf cX6_xOf 3 (some .int), Cond.fieldLink RX6 19 "PolyCutsModel" "xs" "[I", Cond.methodLink RX6 114 yX6_yOf, Cond.instanceMethod yX6_yOf, Cond.selects RX6 yX6_yOf yX6_yOf, Cond.code yX6_yOf cX6_yOf 3 (some .int), Cond.fieldLink RX6 22 "PolyCutsModel" "ys" "[I", Cond.methodLink RX6 88 yX6_meet, Cond.static yX6_meet, Cond.code yX6_meet cX6_meet 12 (some .boolean), Cond.methodLink RX6 76 yX6_turn, Cond.static yX6_turn, Cond.code yX6_turn cX6_turn 6 (some .int), Cond.methodLink RX6 80 yX6_sign, Cond.static yX6_sign, Cond.code yX6_sign cX6_sign 1 (some .int), Cond.methodLink RX6 84 yX6_isBetween, Cond.static yX6_isBetween, Cond.code yX6_isBetween cX6_isBetween 8 (some .boolean)]
def wsX6_sees_r3 : List Cond := [Cond.methodLink RX6 126 yX6_lies, Cond.instanceMethod yX6_lies, Cond.selects RX6 yX6_lies yX6_lies, Cond.code yX6_lies cX6_lies 12 (some .int)]
def wsX6_sees : List Cond := .code yX6_sees cX6_sees 4 (some .int) :: ((wsX6_sees_r1 ++ (wsX6_sees_r2 ++ wsX6_sees_r3)) ++ wsX60)
def wsX6_findFar_r1 : List Cond := [Cond.fieldLink RX6 32 "PolyCutsModel" "far" "[I", Cond.fieldLink RX6 16 "PolyCutsModel" "corners" "[I", Cond.methodLink RX6 136 yX6_sight, Cond.instanceMethod yX6_sight, Cond.selects RX6 yX6_sight yX6_sight, Cond.initialized RX6, Cond.code yX6_sight cX6_sight 4 (some .int), Cond.methodLink RX6 130 yX6_isNear, Cond.instanceMethod yX6_isNear, Cond.selects RX6 yX6_isNear yX6_isNear, Cond.code yX6_isNear cX6_isNear 4 (some .boolean), Cond.methodLink RX6 133 yX6_isSeen, Cond.instanceMethod yX6_isSeen, Cond.selects RX6 yX6_isSeen yX6_isSeen, Cond.code yX6_isSeen cX6_isSeen 8 (some .boolean), Cond.methodLink RX6 110 yX6_xOf, Cond.instanceMethod yX6_xOf, Cond.selects RX6 yX6_xOf yX6_xOf, Cond.code yX6_xOf cX6_xOf 3 (some .int), Cond.fieldLink RX6 19 "PolyCutsModel" "xs" "[I", Cond.methodLink RX6 114 yX6_yOf, Cond.instanceMethod yX6_yOf, Cond.selects RX6 yX6_yOf yX6_yOf, Cond.code yX6_yOf cX6_yOf 3 (some .int)]
def wsX6_findFar_r2 : List Cond := [Cond.fieldLink RX6 22 "PolyCutsModel" "ys" "[I", Cond.methodLink RX6 88 yX6_meet, Cond.static yX6_meet, Cond.code yX6_meet cX6_meet 12 (some .boolean), Cond.methodLink RX6 76 yX6_turn, Cond.static yX6_turn, Cond.code yX6_turn cX6_turn 6 (some .int), Cond.methodLink RX6 80 yX6_sign, Cond.static yX6_sign, Cond.code yX6_sign cX6_sign 1 (some .int), Cond.methodLink RX6 84 yX6_isBetween, Cond.static yX6_isBetween, Cond.code yX6_isBetween cX6_isBetween 8 (some .boolean), Cond.methodLink RX6 126 yX6_lies, Cond.instanceMethod yX6_lies, Cond.selects RX6 yX6_lies yX6_lies, Cond.code yX6_lies cX6_lies 12 (some .int)]
def wsX6_findFar : List Cond := .code yX6_findFar cX6_findFar 6 none :: ((wsX6_findFar_r1 ++ wsX6_findFar_r2) ++ wsX60)
def wsX6_way_r1 : List Cond := [Cond.fieldLink RX6 32 "PolyCutsModel" "far" "[I", Cond.methodLink RX6 106 yX6_isCorner, Cond.instanceMethod yX6_isCorner, Cond.selects RX6 yX6_isCorner yX6_isCorner, Cond.initialized RX6, Cond.code yX6_isCorner cX6_isCorner 3 (some .boolean), Cond.fieldLink RX6 16 "PolyCutsModel" "corners" "[I", Cond.methodLink RX6 102 yX6_isPolygon, Cond.instanceMethod yX6_isPolygon, Cond.selects RX6 yX6_isPolygon yX6_isPolygon, Cond.code yX6_isPolygon cX6_isPolygon 2 (some .boolean), Cond.fieldLink RX6 92 "PolyCutsModel" "polygons" "I", Cond.methodLink RX6 69 yX6_within, Cond.static yX6_within, Cond.code yX6_within cX6_within 3 (some .boolean), Cond.methodLink RX6 140 yX6_findFar, Cond.instanceMethod yX6_findFar, Cond.selects RX6 yX6_findFar yX6_findFar, Cond.code yX6_findFar cX6_findFar 6 none, Cond.methodLink RX6 136 yX6_sight, Cond.instanceMethod yX6_sight, Cond.selects RX6 yX6_sight yX6_sight, Cond.code yX6_sight cX6_sight 4 (some .int), Cond.methodLink RX6 130 yX6_isNear]
def wsX6_way_r2 : List Cond := [Cond.instanceMethod yX6_isNear, Cond.selects RX6 yX6_isNear yX6_isNear, Cond.code yX6_isNear cX6_isNear 4 (some .boolean), Cond.methodLink RX6 133 yX6_isSeen, Cond.instanceMethod yX6_isSeen, Cond.selects RX6 yX6_isSeen yX6_isSeen, Cond.code yX6_isSeen cX6_isSeen 8 (some .boolean), Cond.methodLink RX6 110 yX6_xOf, Cond.instanceMethod yX6_xOf, Cond.selects RX6 yX6_xOf yX6_xOf, Cond.code yX6_xOf cX6_xOf 3 (some .int), Cond.fieldLink RX6 19 "PolyCutsModel" "xs" "[I", Cond.methodLink RX6 114 yX6_yOf, Cond.instanceMethod yX6_yOf, Cond.selects RX6 yX6_yOf yX6_yOf, Cond.code yX6_yOf cX6_yOf 3 (some .int), Cond.fieldLink RX6 22 "PolyCutsModel" "ys" "[I", Cond.methodLink RX6 88 yX6_meet, Cond.static yX6_meet, Cond.code yX6_meet cX6_meet 12 (some .boolean), Cond.methodLink RX6 76 yX6_turn, Cond.static yX6_turn, Cond.code yX6_turn cX6_turn 6 (some .int), Cond.methodLink RX6 80 yX6_sign]
def wsX6_way_r3 : List Cond := [Cond.static yX6_sign, Cond.code yX6_sign cX6_sign 1 (some .int), Cond.methodLink RX6 84 yX6_isBetween, Cond.static yX6_isBetween, Cond.code yX6_isBetween cX6_isBetween 8 (some .boolean), Cond.methodLink RX6 126 yX6_lies, Cond.instanceMethod yX6_lies, Cond.selects RX6 yX6_lies yX6_lies, Cond.code yX6_lies cX6_lies 12 (some .int)]
def wsX6_way : List Cond := .code yX6_way cX6_way 4 (some .int) :: ((wsX6_way_r1 ++ (wsX6_way_r2 ++ wsX6_way_r3)) ++ wsX60)
def wsX6_step_r1 : List Cond := [Cond.fieldLink RX6 32 "PolyCutsModel" "far" "[I", Cond.methodLink RX6 106 yX6_isCorner, Cond.instanceMethod yX6_isCorner, Cond.selects RX6 yX6_isCorner yX6_isCorner, Cond.initialized RX6, Cond.code yX6_isCorner cX6_isCorner 3 (some .boolean), Cond.fieldLink RX6 16 "PolyCutsModel" "corners" "[I", Cond.methodLink RX6 102 yX6_isPolygon, Cond.instanceMethod yX6_isPolygon, Cond.selects RX6 yX6_isPolygon yX6_isPolygon, Cond.code yX6_isPolygon cX6_isPolygon 2 (some .boolean), Cond.fieldLink RX6 92 "PolyCutsModel" "polygons" "I", Cond.methodLink RX6 69 yX6_within, Cond.static yX6_within, Cond.code yX6_within cX6_within 3 (some .boolean), Cond.methodLink RX6 140 yX6_findFar, Cond.instanceMethod yX6_findFar, Cond.selects RX6 yX6_findFar yX6_findFar, Cond.code yX6_findFar cX6_findFar 6 none, Cond.methodLink RX6 136 yX6_sight, Cond.instanceMethod yX6_sight, Cond.selects RX6 yX6_sight yX6_sight, Cond.code yX6_sight cX6_sight 4 (some .int), Cond.methodLink RX6 130 yX6_isNear]
def wsX6_step_r2 : List Cond := [Cond.instanceMethod yX6_isNear, Cond.selects RX6 yX6_isNear yX6_isNear, Cond.code yX6_isNear cX6_isNear 4 (some .boolean), Cond.methodLink RX6 133 yX6_isSeen, Cond.instanceMethod yX6_isSeen, Cond.selects RX6 yX6_isSeen yX6_isSeen, Cond.code yX6_isSeen cX6_isSeen 8 (some .boolean), Cond.methodLink RX6 110 yX6_xOf, Cond.instanceMethod yX6_xOf, Cond.selects RX6 yX6_xOf yX6_xOf, Cond.code yX6_xOf cX6_xOf 3 (some .int), Cond.fieldLink RX6 19 "PolyCutsModel" "xs" "[I", Cond.methodLink RX6 114 yX6_yOf, Cond.instanceMethod yX6_yOf, Cond.selects RX6 yX6_yOf yX6_yOf, Cond.code yX6_yOf cX6_yOf 3 (some .int), Cond.fieldLink RX6 22 "PolyCutsModel" "ys" "[I", Cond.methodLink RX6 88 yX6_meet, Cond.static yX6_meet, Cond.code yX6_meet cX6_meet 12 (some .boolean), Cond.methodLink RX6 76 yX6_turn, Cond.static yX6_turn, Cond.code yX6_turn cX6_turn 6 (some .int), Cond.methodLink RX6 80 yX6_sign]
def wsX6_step_r3 : List Cond := [Cond.static yX6_sign, Cond.code yX6_sign cX6_sign 1 (some .int), Cond.methodLink RX6 84 yX6_isBetween, Cond.static yX6_isBetween, Cond.code yX6_isBetween cX6_isBetween 8 (some .boolean), Cond.methodLink RX6 126 yX6_lies, Cond.instanceMethod yX6_lies, Cond.selects RX6 yX6_lies yX6_lies, Cond.code yX6_lies cX6_lies 12 (some .int)]
def wsX6_step : List Cond := .code yX6_step cX6_step 8 (some .int) :: ((wsX6_step_r1 ++ (wsX6_step_r2 ++ wsX6_step_r3)) ++ wsX60)
def wsX6_square : List Cond := .code yX6_square cX6_square 6 (some .int) :: ([.methodLink RX6 110 yX6_xOf, .instanceMethod yX6_xOf, .selects RX6 yX6_xOf yX6_xOf, .initialized RX6, .code yX6_xOf cX6_xOf 3 (some .int), .fieldLink RX6 19 "PolyCutsModel" "xs" "[I", .fieldLink RX6 16 "PolyCutsModel" "corners" "[I", .methodLink RX6 114 yX6_yOf, .instanceMethod yX6_yOf, .selects RX6 yX6_yOf yX6_yOf, .code yX6_yOf cX6_yOf 3 (some .int), .fieldLink RX6 22 "PolyCutsModel" "ys" "[I"] ++ wsX60)
def wsX6_sumBy : List Cond := .code yX6_sumBy cX6_sumBy 4 (some .int) :: ([.fieldLink RX6 41 "PolyCutsModel" "joins" "[I", .fieldLink RX6 38 "PolyCutsModel" "sums" "[I"] ++ wsX60)
def wsX6_partChain : List Cond := .code yX6_partChain cX6_partChain 7 none :: ([.fieldLink RX6 35 "PolyCutsModel" "ways" "[I", .fieldLink RX6 38 "PolyCutsModel" "sums" "[I", .methodLink RX6 150 yX6_sumBy, .instanceMethod yX6_sumBy, .selects RX6 yX6_sumBy yX6_sumBy, .initialized RX6, .code yX6_sumBy cX6_sumBy 4 (some .int), .fieldLink RX6 41 "PolyCutsModel" "joins" "[I"] ++ wsX60)
def wsX6_part_r1 : List Cond := [Cond.fieldLink RX6 16 "PolyCutsModel" "corners" "[I", Cond.fieldLink RX6 41 "PolyCutsModel" "joins" "[I", Cond.fieldLink RX6 35 "PolyCutsModel" "ways" "[I", Cond.fieldLink RX6 38 "PolyCutsModel" "sums" "[I", Cond.methodLink RX6 136 yX6_sight, Cond.instanceMethod yX6_sight, Cond.selects RX6 yX6_sight yX6_sight, Cond.initialized RX6, Cond.code yX6_sight cX6_sight 4 (some .int), Cond.methodLink RX6 130 yX6_isNear, Cond.instanceMethod yX6_isNear, Cond.selects RX6 yX6_isNear yX6_isNear, Cond.code yX6_isNear cX6_isNear 4 (some .boolean), Cond.methodLink RX6 133 yX6_isSeen, Cond.instanceMethod yX6_isSeen, Cond.selects RX6 yX6_isSeen yX6_isSeen, Cond.code yX6_isSeen cX6_isSeen 8 (some .boolean), Cond.methodLink RX6 110 yX6_xOf, Cond.instanceMethod yX6_xOf, Cond.selects RX6 yX6_xOf yX6_xOf, Cond.code yX6_xOf cX6_xOf 3 (some .int), Cond.fieldLink RX6 19 "PolyCutsModel" "xs" "[I", Cond.methodLink RX6 114 yX6_yOf, Cond.instanceMethod yX6_yOf]
def wsX6_part_r2 : List Cond := [Cond.selects RX6 yX6_yOf yX6_yOf, Cond.code yX6_yOf cX6_yOf 3 (some .int), Cond.fieldLink RX6 22 "PolyCutsModel" "ys" "[I", Cond.methodLink RX6 88 yX6_meet, Cond.static yX6_meet, Cond.code yX6_meet cX6_meet 12 (some .boolean), Cond.methodLink RX6 76 yX6_turn, Cond.static yX6_turn, Cond.code yX6_turn cX6_turn 6 (some .int), Cond.methodLink RX6 80 yX6_sign, Cond.static yX6_sign, Cond.code yX6_sign cX6_sign 1 (some .int), Cond.methodLink RX6 84 yX6_isBetween, Cond.static yX6_isBetween, Cond.code yX6_isBetween cX6_isBetween 8 (some .boolean), Cond.methodLink RX6 126 yX6_lies, Cond.instanceMethod yX6_lies, Cond.selects RX6 yX6_lies yX6_lies, Cond.code yX6_lies cX6_lies 12 (some .int), Cond.methodLink RX6 144 yX6_square, Cond.instanceMethod yX6_square, Cond.selects RX6 yX6_square yX6_square, Cond.code yX6_square cX6_square 6 (some .int), Cond.methodLink RX6 147 yX6_partChain]
def wsX6_part_r3 : List Cond := [Cond.instanceMethod yX6_partChain, Cond.selects RX6 yX6_partChain yX6_partChain, Cond.code yX6_partChain cX6_partChain 7 none, Cond.methodLink RX6 150 yX6_sumBy, Cond.instanceMethod yX6_sumBy, Cond.selects RX6 yX6_sumBy yX6_sumBy, Cond.code yX6_sumBy cX6_sumBy 4 (some .int)]
def wsX6_part : List Cond := .code yX6_part cX6_part 6 none :: ((wsX6_part_r1 ++ (wsX6_part_r2 ++ wsX6_part_r3)) ++ wsX60)
def wsX6_triangulations_r1 : List Cond := [Cond.fieldLink RX6 35 "PolyCutsModel" "ways" "[I", Cond.fieldLink RX6 16 "PolyCutsModel" "corners" "[I", Cond.methodLink RX6 102 yX6_isPolygon, Cond.instanceMethod yX6_isPolygon, Cond.selects RX6 yX6_isPolygon yX6_isPolygon, Cond.initialized RX6, Cond.code yX6_isPolygon cX6_isPolygon 2 (some .boolean), Cond.fieldLink RX6 92 "PolyCutsModel" "polygons" "I", Cond.methodLink RX6 69 yX6_within, Cond.static yX6_within, Cond.code yX6_within cX6_within 3 (some .boolean), Cond.methodLink RX6 153 yX6_part, Cond.instanceMethod yX6_part, Cond.selects RX6 yX6_part yX6_part, Cond.code yX6_part cX6_part 6 none, Cond.fieldLink RX6 41 "PolyCutsModel" "joins" "[I", Cond.fieldLink RX6 38 "PolyCutsModel" "sums" "[I", Cond.methodLink RX6 136 yX6_sight, Cond.instanceMethod yX6_sight, Cond.selects RX6 yX6_sight yX6_sight, Cond.code yX6_sight cX6_sight 4 (some .int), Cond.methodLink RX6 130 yX6_isNear, Cond.instanceMethod yX6_isNear, Cond.selects RX6 yX6_isNear yX6_isNear]
def wsX6_triangulations_r2 : List Cond := [Cond.code yX6_isNear cX6_isNear 4 (some .boolean), Cond.methodLink RX6 133 yX6_isSeen, Cond.instanceMethod yX6_isSeen, Cond.selects RX6 yX6_isSeen yX6_isSeen, Cond.code yX6_isSeen cX6_isSeen 8 (some .boolean), Cond.methodLink RX6 110 yX6_xOf, Cond.instanceMethod yX6_xOf, Cond.selects RX6 yX6_xOf yX6_xOf, Cond.code yX6_xOf cX6_xOf 3 (some .int), Cond.fieldLink RX6 19 "PolyCutsModel" "xs" "[I", Cond.methodLink RX6 114 yX6_yOf, Cond.instanceMethod yX6_yOf, Cond.selects RX6 yX6_yOf yX6_yOf, Cond.code yX6_yOf cX6_yOf 3 (some .int), Cond.fieldLink RX6 22 "PolyCutsModel" "ys" "[I", Cond.methodLink RX6 88 yX6_meet, Cond.static yX6_meet, Cond.code yX6_meet cX6_meet 12 (some .boolean), Cond.methodLink RX6 76 yX6_turn, Cond.static yX6_turn, Cond.code yX6_turn cX6_turn 6 (some .int), Cond.methodLink RX6 80 yX6_sign, Cond.static yX6_sign, Cond.code yX6_sign cX6_sign 1 (some .int)]
def wsX6_triangulations_r3 : List Cond := [Cond.methodLink RX6 84 yX6_isBetween, Cond.static yX6_isBetween, Cond.code yX6_isBetween cX6_isBetween 8 (some .boolean), Cond.methodLink RX6 126 yX6_lies, Cond.instanceMethod yX6_lies, Cond.selects RX6 yX6_lies yX6_lies, Cond.code yX6_lies cX6_lies 12 (some .int), Cond.methodLink RX6 144 yX6_square, Cond.instanceMethod yX6_square, Cond.selects RX6 yX6_square yX6_square, Cond.code yX6_square cX6_square 6 (some .int), Cond.methodLink RX6 147 yX6_partChain, Cond.instanceMethod yX6_partChain, Cond.selects RX6 yX6_partChain yX6_partChain, Cond.code yX6_partChain cX6_partChain 7 none, Cond.methodLink RX6 150 yX6_sumBy, Cond.instanceMethod yX6_sumBy, Cond.selects RX6 yX6_sumBy yX6_sumBy, Cond.code yX6_sumBy cX6_sumBy 4 (some .int)]
def wsX6_triangulations : List Cond := .code yX6_triangulations cX6_triangulations 2 (some .int) :: ((wsX6_triangulations_r1 ++ (wsX6_triangulations_r2 ++ wsX6_triangulations_r3)) ++ wsX60)
def wsX6_best_r1 : List Cond := [Cond.fieldLink RX6 38 "PolyCutsModel" "sums" "[I", Cond.fieldLink RX6 16 "PolyCutsModel" "corners" "[I", Cond.methodLink RX6 102 yX6_isPolygon, Cond.instanceMethod yX6_isPolygon, Cond.selects RX6 yX6_isPolygon yX6_isPolygon, Cond.initialized RX6, Cond.code yX6_isPolygon cX6_isPolygon 2 (some .boolean), Cond.fieldLink RX6 92 "PolyCutsModel" "polygons" "I", Cond.methodLink RX6 69 yX6_within, Cond.static yX6_within, Cond.code yX6_within cX6_within 3 (some .boolean), Cond.methodLink RX6 153 yX6_part, Cond.instanceMethod yX6_part, Cond.selects RX6 yX6_part yX6_part, Cond.code yX6_part cX6_part 6 none, Cond.fieldLink RX6 41 "PolyCutsModel" "joins" "[I", Cond.fieldLink RX6 35 "PolyCutsModel" "ways" "[I", Cond.methodLink RX6 136 yX6_sight, Cond.instanceMethod yX6_sight, Cond.selects RX6 yX6_sight yX6_sight, Cond.code yX6_sight cX6_sight 4 (some .int), Cond.methodLink RX6 130 yX6_isNear, Cond.instanceMethod yX6_isNear, Cond.selects RX6 yX6_isNear yX6_isNear]
def wsX6_best_r2 : List Cond := [Cond.code yX6_isNear cX6_isNear 4 (some .boolean), Cond.methodLink RX6 133 yX6_isSeen, Cond.instanceMethod yX6_isSeen, Cond.selects RX6 yX6_isSeen yX6_isSeen, Cond.code yX6_isSeen cX6_isSeen 8 (some .boolean), Cond.methodLink RX6 110 yX6_xOf, Cond.instanceMethod yX6_xOf, Cond.selects RX6 yX6_xOf yX6_xOf, Cond.code yX6_xOf cX6_xOf 3 (some .int), Cond.fieldLink RX6 19 "PolyCutsModel" "xs" "[I", Cond.methodLink RX6 114 yX6_yOf, Cond.instanceMethod yX6_yOf, Cond.selects RX6 yX6_yOf yX6_yOf, Cond.code yX6_yOf cX6_yOf 3 (some .int), Cond.fieldLink RX6 22 "PolyCutsModel" "ys" "[I", Cond.methodLink RX6 88 yX6_meet, Cond.static yX6_meet, Cond.code yX6_meet cX6_meet 12 (some .boolean), Cond.methodLink RX6 76 yX6_turn, Cond.static yX6_turn, Cond.code yX6_turn cX6_turn 6 (some .int), Cond.methodLink RX6 80 yX6_sign, Cond.static yX6_sign, Cond.code yX6_sign cX6_sign 1 (some .int)]
def wsX6_best_r3 : List Cond := [Cond.methodLink RX6 84 yX6_isBetween, Cond.static yX6_isBetween, Cond.code yX6_isBetween cX6_isBetween 8 (some .boolean), Cond.methodLink RX6 126 yX6_lies, Cond.instanceMethod yX6_lies, Cond.selects RX6 yX6_lies yX6_lies, Cond.code yX6_lies cX6_lies 12 (some .int), Cond.methodLink RX6 144 yX6_square, Cond.instanceMethod yX6_square, Cond.selects RX6 yX6_square yX6_square, Cond.code yX6_square cX6_square 6 (some .int), Cond.methodLink RX6 147 yX6_partChain, Cond.instanceMethod yX6_partChain, Cond.selects RX6 yX6_partChain yX6_partChain, Cond.code yX6_partChain cX6_partChain 7 none, Cond.methodLink RX6 150 yX6_sumBy, Cond.instanceMethod yX6_sumBy, Cond.selects RX6 yX6_sumBy yX6_sumBy, Cond.code yX6_sumBy cX6_sumBy 4 (some .int)]
def wsX6_best : List Cond := .code yX6_best cX6_best 2 (some .int) :: ((wsX6_best_r1 ++ (wsX6_best_r2 ++ wsX6_best_r3)) ++ wsX60)
def wsX6_layTriangles_r1 : List Cond := [Cond.fieldLink RX6 157 "PolyCutsModel" "triangles" "I", Cond.fieldLink RX6 53 "PolyCutsModel" "pile" "[I", Cond.fieldLink RX6 16 "PolyCutsModel" "corners" "[I", Cond.fieldLink RX6 38 "PolyCutsModel" "sums" "[I", Cond.fieldLink RX6 44 "PolyCutsModel" "triangleI" "[I", Cond.fieldLink RX6 47 "PolyCutsModel" "triangleK" "[I", Cond.fieldLink RX6 50 "PolyCutsModel" "triangleJ" "[I", Cond.methodLink RX6 153 yX6_part, Cond.instanceMethod yX6_part, Cond.selects RX6 yX6_part yX6_part, Cond.initialized RX6, Cond.code yX6_part cX6_part 6 none, Cond.fieldLink RX6 41 "PolyCutsModel" "joins" "[I", Cond.fieldLink RX6 35 "PolyCutsModel" "ways" "[I", Cond.methodLink RX6 136 yX6_sight, Cond.instanceMethod yX6_sight, Cond.selects RX6 yX6_sight yX6_sight, Cond.code yX6_sight cX6_sight 4 (some .int), Cond.methodLink RX6 130 yX6_isNear, Cond.instanceMethod yX6_isNear, Cond.selects RX6 yX6_isNear yX6_isNear, Cond.code yX6_isNear cX6_isNear 4 (some .boolean), Cond.methodLink RX6 133 yX6_isSeen, Cond.instanceMethod yX6_isSeen]
def wsX6_layTriangles_r2 : List Cond := [Cond.selects RX6 yX6_isSeen yX6_isSeen, Cond.code yX6_isSeen cX6_isSeen 8 (some .boolean), Cond.methodLink RX6 110 yX6_xOf, Cond.instanceMethod yX6_xOf, Cond.selects RX6 yX6_xOf yX6_xOf, Cond.code yX6_xOf cX6_xOf 3 (some .int), Cond.fieldLink RX6 19 "PolyCutsModel" "xs" "[I", Cond.methodLink RX6 114 yX6_yOf, Cond.instanceMethod yX6_yOf, Cond.selects RX6 yX6_yOf yX6_yOf, Cond.code yX6_yOf cX6_yOf 3 (some .int), Cond.fieldLink RX6 22 "PolyCutsModel" "ys" "[I", Cond.methodLink RX6 88 yX6_meet, Cond.static yX6_meet, Cond.code yX6_meet cX6_meet 12 (some .boolean), Cond.methodLink RX6 76 yX6_turn, Cond.static yX6_turn, Cond.code yX6_turn cX6_turn 6 (some .int), Cond.methodLink RX6 80 yX6_sign, Cond.static yX6_sign, Cond.code yX6_sign cX6_sign 1 (some .int), Cond.methodLink RX6 84 yX6_isBetween, Cond.static yX6_isBetween, Cond.code yX6_isBetween cX6_isBetween 8 (some .boolean)]
def wsX6_layTriangles_r3 : List Cond := [Cond.methodLink RX6 126 yX6_lies, Cond.instanceMethod yX6_lies, Cond.selects RX6 yX6_lies yX6_lies, Cond.code yX6_lies cX6_lies 12 (some .int), Cond.methodLink RX6 144 yX6_square, Cond.instanceMethod yX6_square, Cond.selects RX6 yX6_square yX6_square, Cond.code yX6_square cX6_square 6 (some .int), Cond.methodLink RX6 147 yX6_partChain, Cond.instanceMethod yX6_partChain, Cond.selects RX6 yX6_partChain yX6_partChain, Cond.code yX6_partChain cX6_partChain 7 none, Cond.methodLink RX6 150 yX6_sumBy, Cond.instanceMethod yX6_sumBy, Cond.selects RX6 yX6_sumBy yX6_sumBy, Cond.code yX6_sumBy cX6_sumBy 4 (some .int)]
def wsX6_layTriangles : List Cond := .code yX6_layTriangles cX6_layTriangles 6 none :: ((wsX6_layTriangles_r1 ++ (wsX6_layTriangles_r2 ++ wsX6_layTriangles_r3)) ++ wsX60)
def wsX6_triangle_r1 : List Cond := [Cond.fieldLink RX6 157 "PolyCutsModel" "triangles" "I", Cond.fieldLink RX6 44 "PolyCutsModel" "triangleI" "[I", Cond.fieldLink RX6 47 "PolyCutsModel" "triangleK" "[I", Cond.fieldLink RX6 50 "PolyCutsModel" "triangleJ" "[I", Cond.methodLink RX6 102 yX6_isPolygon, Cond.instanceMethod yX6_isPolygon, Cond.selects RX6 yX6_isPolygon yX6_isPolygon, Cond.initialized RX6, Cond.code yX6_isPolygon cX6_isPolygon 2 (some .boolean), Cond.fieldLink RX6 92 "PolyCutsModel" "polygons" "I", Cond.methodLink RX6 69 yX6_within, Cond.static yX6_within, Cond.code yX6_within cX6_within 3 (some .boolean), Cond.methodLink RX6 160 yX6_layTriangles, Cond.instanceMethod yX6_layTriangles, Cond.selects RX6 yX6_layTriangles yX6_layTriangles, Cond.code yX6_layTriangles cX6_layTriangles 6 none, Cond.fieldLink RX6 53 "PolyCutsModel" "pile" "[I", Cond.fieldLink RX6 16 "PolyCutsModel" "corners" "[I", Cond.fieldLink RX6 38 "PolyCutsModel" "sums" "[I", Cond.methodLink RX6 153 yX6_part, Cond.instanceMethod yX6_part, Cond.selects RX6 yX6_part yX6_part, Cond.code yX6_part cX6_part 6 none]
def wsX6_triangle_r2 : List Cond := [Cond.fieldLink RX6 41 "PolyCutsModel" "joins" "[I", Cond.fieldLink RX6 35 "PolyCutsModel" "ways" "[I", Cond.methodLink RX6 136 yX6_sight, Cond.instanceMethod yX6_sight, Cond.selects RX6 yX6_sight yX6_sight, Cond.code yX6_sight cX6_sight 4 (some .int), Cond.methodLink RX6 130 yX6_isNear, Cond.instanceMethod yX6_isNear, Cond.selects RX6 yX6_isNear yX6_isNear, Cond.code yX6_isNear cX6_isNear 4 (some .boolean), Cond.methodLink RX6 133 yX6_isSeen, Cond.instanceMethod yX6_isSeen, Cond.selects RX6 yX6_isSeen yX6_isSeen, Cond.code yX6_isSeen cX6_isSeen 8 (some .boolean), Cond.methodLink RX6 110 yX6_xOf, Cond.instanceMethod yX6_xOf, Cond.selects RX6 yX6_xOf yX6_xOf, Cond.code yX6_xOf cX6_xOf 3 (some .int), Cond.fieldLink RX6 19 "PolyCutsModel" "xs" "[I", Cond.methodLink RX6 114 yX6_yOf, Cond.instanceMethod yX6_yOf, Cond.selects RX6 yX6_yOf yX6_yOf, Cond.code yX6_yOf cX6_yOf 3 (some .int), Cond.fieldLink RX6 22 "PolyCutsModel" "ys" "[I"]
def wsX6_triangle_r3 : List Cond := [Cond.methodLink RX6 88 yX6_meet, Cond.static yX6_meet, Cond.code yX6_meet cX6_meet 12 (some .boolean), Cond.methodLink RX6 76 yX6_turn, Cond.static yX6_turn, Cond.code yX6_turn cX6_turn 6 (some .int), Cond.methodLink RX6 80 yX6_sign, Cond.static yX6_sign, Cond.code yX6_sign cX6_sign 1 (some .int), Cond.methodLink RX6 84 yX6_isBetween, Cond.static yX6_isBetween, Cond.code yX6_isBetween cX6_isBetween 8 (some .boolean), Cond.methodLink RX6 126 yX6_lies, Cond.instanceMethod yX6_lies, Cond.selects RX6 yX6_lies yX6_lies, Cond.code yX6_lies cX6_lies 12 (some .int), Cond.methodLink RX6 144 yX6_square, Cond.instanceMethod yX6_square, Cond.selects RX6 yX6_square yX6_square, Cond.code yX6_square cX6_square 6 (some .int), Cond.methodLink RX6 147 yX6_partChain, Cond.instanceMethod yX6_partChain, Cond.selects RX6 yX6_partChain yX6_partChain, Cond.code yX6_partChain cX6_partChain 7 none]
def wsX6_triangle_r4 : List Cond := [Cond.methodLink RX6 150 yX6_sumBy, Cond.instanceMethod yX6_sumBy, Cond.selects RX6 yX6_sumBy yX6_sumBy, Cond.code yX6_sumBy cX6_sumBy 4 (some .int)]
def wsX6_triangle : List Cond := .code yX6_triangle cX6_triangle 4 (some .int) :: ((wsX6_triangle_r1 ++ (wsX6_triangle_r2 ++ (wsX6_triangle_r3 ++ wsX6_triangle_r4))) ++ wsX60)
def wsX6_isFlat : List Cond := .code yX6_isFlat cX6_isFlat 12 (some .boolean) :: ([.fieldLink RX6 16 "PolyCutsModel" "corners" "[I", .fieldLink RX6 163 "PolyCutsModel" "diagonals" "I", .fieldLink RX6 56 "PolyCutsModel" "diagonalA" "[I", .fieldLink RX6 59 "PolyCutsModel" "diagonalB" "[I", .fieldLink RX6 62 "PolyCutsModel" "stays" "[Z", .methodLink RX6 110 yX6_xOf, .instanceMethod yX6_xOf, .selects RX6 yX6_xOf yX6_xOf, .initialized RX6, .code yX6_xOf cX6_xOf 3 (some .int), .fieldLink RX6 19 "PolyCutsModel" "xs" "[I", .methodLink RX6 114 yX6_yOf, .instanceMethod yX6_yOf, .selects RX6 yX6_yOf yX6_yOf, .code yX6_yOf cX6_yOf 3 (some .int), .fieldLink RX6 22 "PolyCutsModel" "ys" "[I", .methodLink RX6 76 yX6_turn, .static yX6_turn, .code yX6_turn cX6_turn 6 (some .int), .methodLink RX6 117 yX6_twice, .instanceMethod yX6_twice, .selects RX6 yX6_twice yX6_twice, .code yX6_twice cX6_twice 4 (some .int)] ++ wsX60)
def wsX6_layDiagonals_r1 : List Cond := [Cond.fieldLink RX6 66 "PolyCutsModel" "isJoined" "[Z", Cond.fieldLink RX6 157 "PolyCutsModel" "triangles" "I", Cond.fieldLink RX6 44 "PolyCutsModel" "triangleI" "[I", Cond.fieldLink RX6 47 "PolyCutsModel" "triangleK" "[I", Cond.fieldLink RX6 50 "PolyCutsModel" "triangleJ" "[I", Cond.fieldLink RX6 163 "PolyCutsModel" "diagonals" "I", Cond.fieldLink RX6 16 "PolyCutsModel" "corners" "[I", Cond.fieldLink RX6 56 "PolyCutsModel" "diagonalA" "[I", Cond.fieldLink RX6 59 "PolyCutsModel" "diagonalB" "[I", Cond.fieldLink RX6 62 "PolyCutsModel" "stays" "[Z", Cond.methodLink RX6 160 yX6_layTriangles, Cond.instanceMethod yX6_layTriangles, Cond.selects RX6 yX6_layTriangles yX6_layTriangles, Cond.initialized RX6, Cond.code yX6_layTriangles cX6_layTriangles 6 none, Cond.fieldLink RX6 53 "PolyCutsModel" "pile" "[I", Cond.fieldLink RX6 38 "PolyCutsModel" "sums" "[I", Cond.methodLink RX6 153 yX6_part, Cond.instanceMethod yX6_part, Cond.selects RX6 yX6_part yX6_part, Cond.code yX6_part cX6_part 6 none, Cond.fieldLink RX6 41 "PolyCutsModel" "joins" "[I", Cond.fieldLink RX6 35 "PolyCutsModel" "ways" "[I", Cond.methodLink RX6 136 yX6_sight]
def wsX6_layDiagonals_r2 : List Cond := [Cond.instanceMethod yX6_sight, Cond.selects RX6 yX6_sight yX6_sight, Cond.code yX6_sight cX6_sight 4 (some .int), Cond.methodLink RX6 130 yX6_isNear, Cond.instanceMethod yX6_isNear, Cond.selects RX6 yX6_isNear yX6_isNear, Cond.code yX6_isNear cX6_isNear 4 (some .boolean), Cond.methodLink RX6 133 yX6_isSeen, Cond.instanceMethod yX6_isSeen, Cond.selects RX6 yX6_isSeen yX6_isSeen, Cond.code yX6_isSeen cX6_isSeen 8 (some .boolean), Cond.methodLink RX6 110 yX6_xOf, Cond.instanceMethod yX6_xOf, Cond.selects RX6 yX6_xOf yX6_xOf, Cond.code yX6_xOf cX6_xOf 3 (some .int), Cond.fieldLink RX6 19 "PolyCutsModel" "xs" "[I", Cond.methodLink RX6 114 yX6_yOf, Cond.instanceMethod yX6_yOf, Cond.selects RX6 yX6_yOf yX6_yOf, Cond.code yX6_yOf cX6_yOf 3 (some .int), Cond.fieldLink RX6 22 "PolyCutsModel" "ys" "[I", Cond.methodLink RX6 88 yX6_meet, Cond.static yX6_meet, Cond.code yX6_meet cX6_meet 12 (some .boolean)]
def wsX6_layDiagonals_r3 : List Cond := [Cond.methodLink RX6 76 yX6_turn, Cond.static yX6_turn, Cond.code yX6_turn cX6_turn 6 (some .int), Cond.methodLink RX6 80 yX6_sign, Cond.static yX6_sign, Cond.code yX6_sign cX6_sign 1 (some .int), Cond.methodLink RX6 84 yX6_isBetween, Cond.static yX6_isBetween, Cond.code yX6_isBetween cX6_isBetween 8 (some .boolean), Cond.methodLink RX6 126 yX6_lies, Cond.instanceMethod yX6_lies, Cond.selects RX6 yX6_lies yX6_lies, Cond.code yX6_lies cX6_lies 12 (some .int), Cond.methodLink RX6 144 yX6_square, Cond.instanceMethod yX6_square, Cond.selects RX6 yX6_square yX6_square, Cond.code yX6_square cX6_square 6 (some .int), Cond.methodLink RX6 147 yX6_partChain, Cond.instanceMethod yX6_partChain, Cond.selects RX6 yX6_partChain yX6_partChain, Cond.code yX6_partChain cX6_partChain 7 none, Cond.methodLink RX6 150 yX6_sumBy, Cond.instanceMethod yX6_sumBy, Cond.selects RX6 yX6_sumBy yX6_sumBy]
def wsX6_layDiagonals_r4 : List Cond := [Cond.code yX6_sumBy cX6_sumBy 4 (some .int), Cond.methodLink RX6 166 yX6_isFlat, Cond.instanceMethod yX6_isFlat, Cond.selects RX6 yX6_isFlat yX6_isFlat, Cond.code yX6_isFlat cX6_isFlat 12 (some .boolean), Cond.methodLink RX6 117 yX6_twice, Cond.instanceMethod yX6_twice, Cond.selects RX6 yX6_twice yX6_twice, Cond.code yX6_twice cX6_twice 4 (some .int)]
def wsX6_layDiagonals : List Cond := .code yX6_layDiagonals cX6_layDiagonals 6 none :: ((wsX6_layDiagonals_r1 ++ (wsX6_layDiagonals_r2 ++ (wsX6_layDiagonals_r3 ++ wsX6_layDiagonals_r4))) ++ wsX60)
def wsX6_diagonal_r1 : List Cond := [Cond.fieldLink RX6 163 "PolyCutsModel" "diagonals" "I", Cond.fieldLink RX6 56 "PolyCutsModel" "diagonalA" "[I", Cond.fieldLink RX6 59 "PolyCutsModel" "diagonalB" "[I", Cond.fieldLink RX6 62 "PolyCutsModel" "stays" "[Z", Cond.methodLink RX6 102 yX6_isPolygon, Cond.instanceMethod yX6_isPolygon, Cond.selects RX6 yX6_isPolygon yX6_isPolygon, Cond.initialized RX6, Cond.code yX6_isPolygon cX6_isPolygon 2 (some .boolean), Cond.fieldLink RX6 92 "PolyCutsModel" "polygons" "I", Cond.methodLink RX6 69 yX6_within, Cond.static yX6_within, Cond.code yX6_within cX6_within 3 (some .boolean), Cond.methodLink RX6 170 yX6_layDiagonals, Cond.instanceMethod yX6_layDiagonals, Cond.selects RX6 yX6_layDiagonals yX6_layDiagonals, Cond.code yX6_layDiagonals cX6_layDiagonals 6 none, Cond.fieldLink RX6 66 "PolyCutsModel" "isJoined" "[Z", Cond.fieldLink RX6 157 "PolyCutsModel" "triangles" "I", Cond.fieldLink RX6 44 "PolyCutsModel" "triangleI" "[I", Cond.fieldLink RX6 47 "PolyCutsModel" "triangleK" "[I", Cond.fieldLink RX6 50 "PolyCutsModel" "triangleJ" "[I", Cond.fieldLink RX6 16 "PolyCutsModel" "corners" "[I", Cond.methodLink RX6 160 yX6_layTriangles]
def wsX6_diagonal_r2 : List Cond := [Cond.instanceMethod yX6_layTriangles, Cond.selects RX6 yX6_layTriangles yX6_layTriangles, Cond.code yX6_layTriangles cX6_layTriangles 6 none, Cond.fieldLink RX6 53 "PolyCutsModel" "pile" "[I", Cond.fieldLink RX6 38 "PolyCutsModel" "sums" "[I", Cond.methodLink RX6 153 yX6_part, Cond.instanceMethod yX6_part, Cond.selects RX6 yX6_part yX6_part, Cond.code yX6_part cX6_part 6 none, Cond.fieldLink RX6 41 "PolyCutsModel" "joins" "[I", Cond.fieldLink RX6 35 "PolyCutsModel" "ways" "[I", Cond.methodLink RX6 136 yX6_sight, Cond.instanceMethod yX6_sight, Cond.selects RX6 yX6_sight yX6_sight, Cond.code yX6_sight cX6_sight 4 (some .int), Cond.methodLink RX6 130 yX6_isNear, Cond.instanceMethod yX6_isNear, Cond.selects RX6 yX6_isNear yX6_isNear, Cond.code yX6_isNear cX6_isNear 4 (some .boolean), Cond.methodLink RX6 133 yX6_isSeen, Cond.instanceMethod yX6_isSeen, Cond.selects RX6 yX6_isSeen yX6_isSeen, Cond.code yX6_isSeen cX6_isSeen 8 (some .boolean), Cond.methodLink RX6 110 yX6_xOf]
def wsX6_diagonal_r3 : List Cond := [Cond.instanceMethod yX6_xOf, Cond.selects RX6 yX6_xOf yX6_xOf, Cond.code yX6_xOf cX6_xOf 3 (some .int), Cond.fieldLink RX6 19 "PolyCutsModel" "xs" "[I", Cond.methodLink RX6 114 yX6_yOf, Cond.instanceMethod yX6_yOf, Cond.selects RX6 yX6_yOf yX6_yOf, Cond.code yX6_yOf cX6_yOf 3 (some .int), Cond.fieldLink RX6 22 "PolyCutsModel" "ys" "[I", Cond.methodLink RX6 88 yX6_meet, Cond.static yX6_meet, Cond.code yX6_meet cX6_meet 12 (some .boolean), Cond.methodLink RX6 76 yX6_turn, Cond.static yX6_turn, Cond.code yX6_turn cX6_turn 6 (some .int), Cond.methodLink RX6 80 yX6_sign, Cond.static yX6_sign, Cond.code yX6_sign cX6_sign 1 (some .int), Cond.methodLink RX6 84 yX6_isBetween, Cond.static yX6_isBetween, Cond.code yX6_isBetween cX6_isBetween 8 (some .boolean), Cond.methodLink RX6 126 yX6_lies, Cond.instanceMethod yX6_lies, Cond.selects RX6 yX6_lies yX6_lies]
def wsX6_diagonal_r4 : List Cond := [Cond.code yX6_lies cX6_lies 12 (some .int), Cond.methodLink RX6 144 yX6_square, Cond.instanceMethod yX6_square, Cond.selects RX6 yX6_square yX6_square, Cond.code yX6_square cX6_square 6 (some .int), Cond.methodLink RX6 147 yX6_partChain, Cond.instanceMethod yX6_partChain, Cond.selects RX6 yX6_partChain yX6_partChain, Cond.code yX6_partChain cX6_partChain 7 none, Cond.methodLink RX6 150 yX6_sumBy, Cond.instanceMethod yX6_sumBy, Cond.selects RX6 yX6_sumBy yX6_sumBy, Cond.code yX6_sumBy cX6_sumBy 4 (some .int), Cond.methodLink RX6 166 yX6_isFlat, Cond.instanceMethod yX6_isFlat, Cond.selects RX6 yX6_isFlat yX6_isFlat, Cond.code yX6_isFlat cX6_isFlat 12 (some .boolean), Cond.methodLink RX6 117 yX6_twice, Cond.instanceMethod yX6_twice, Cond.selects RX6 yX6_twice yX6_twice, Cond.code yX6_twice cX6_twice 4 (some .int)]
def wsX6_diagonal : List Cond := .code yX6_diagonal cX6_diagonal 4 (some .int) :: ((wsX6_diagonal_r1 ++ (wsX6_diagonal_r2 ++ (wsX6_diagonal_r3 ++ wsX6_diagonal_r4))) ++ wsX60)
def wsX6_parts_r1 : List Cond := [Cond.fieldLink RX6 163 "PolyCutsModel" "diagonals" "I", Cond.fieldLink RX6 62 "PolyCutsModel" "stays" "[Z", Cond.methodLink RX6 102 yX6_isPolygon, Cond.instanceMethod yX6_isPolygon, Cond.selects RX6 yX6_isPolygon yX6_isPolygon, Cond.initialized RX6, Cond.code yX6_isPolygon cX6_isPolygon 2 (some .boolean), Cond.fieldLink RX6 92 "PolyCutsModel" "polygons" "I", Cond.methodLink RX6 69 yX6_within, Cond.static yX6_within, Cond.code yX6_within cX6_within 3 (some .boolean), Cond.methodLink RX6 170 yX6_layDiagonals, Cond.instanceMethod yX6_layDiagonals, Cond.selects RX6 yX6_layDiagonals yX6_layDiagonals, Cond.code yX6_layDiagonals cX6_layDiagonals 6 none, Cond.fieldLink RX6 66 "PolyCutsModel" "isJoined" "[Z", Cond.fieldLink RX6 157 "PolyCutsModel" "triangles" "I", Cond.fieldLink RX6 44 "PolyCutsModel" "triangleI" "[I", Cond.fieldLink RX6 47 "PolyCutsModel" "triangleK" "[I", Cond.fieldLink RX6 50 "PolyCutsModel" "triangleJ" "[I", Cond.fieldLink RX6 16 "PolyCutsModel" "corners" "[I", Cond.fieldLink RX6 56 "PolyCutsModel" "diagonalA" "[I", Cond.fieldLink RX6 59 "PolyCutsModel" "diagonalB" "[I", Cond.methodLink RX6 160 yX6_layTriangles]
def wsX6_parts_r2 : List Cond := [Cond.instanceMethod yX6_layTriangles, Cond.selects RX6 yX6_layTriangles yX6_layTriangles, Cond.code yX6_layTriangles cX6_layTriangles 6 none, Cond.fieldLink RX6 53 "PolyCutsModel" "pile" "[I", Cond.fieldLink RX6 38 "PolyCutsModel" "sums" "[I", Cond.methodLink RX6 153 yX6_part, Cond.instanceMethod yX6_part, Cond.selects RX6 yX6_part yX6_part, Cond.code yX6_part cX6_part 6 none, Cond.fieldLink RX6 41 "PolyCutsModel" "joins" "[I", Cond.fieldLink RX6 35 "PolyCutsModel" "ways" "[I", Cond.methodLink RX6 136 yX6_sight, Cond.instanceMethod yX6_sight, Cond.selects RX6 yX6_sight yX6_sight, Cond.code yX6_sight cX6_sight 4 (some .int), Cond.methodLink RX6 130 yX6_isNear, Cond.instanceMethod yX6_isNear, Cond.selects RX6 yX6_isNear yX6_isNear, Cond.code yX6_isNear cX6_isNear 4 (some .boolean), Cond.methodLink RX6 133 yX6_isSeen, Cond.instanceMethod yX6_isSeen, Cond.selects RX6 yX6_isSeen yX6_isSeen, Cond.code yX6_isSeen cX6_isSeen 8 (some .boolean), Cond.methodLink RX6 110 yX6_xOf]
def wsX6_parts_r3 : List Cond := [Cond.instanceMethod yX6_xOf, Cond.selects RX6 yX6_xOf yX6_xOf, Cond.code yX6_xOf cX6_xOf 3 (some .int), Cond.fieldLink RX6 19 "PolyCutsModel" "xs" "[I", Cond.methodLink RX6 114 yX6_yOf, Cond.instanceMethod yX6_yOf, Cond.selects RX6 yX6_yOf yX6_yOf, Cond.code yX6_yOf cX6_yOf 3 (some .int), Cond.fieldLink RX6 22 "PolyCutsModel" "ys" "[I", Cond.methodLink RX6 88 yX6_meet, Cond.static yX6_meet, Cond.code yX6_meet cX6_meet 12 (some .boolean), Cond.methodLink RX6 76 yX6_turn, Cond.static yX6_turn, Cond.code yX6_turn cX6_turn 6 (some .int), Cond.methodLink RX6 80 yX6_sign, Cond.static yX6_sign, Cond.code yX6_sign cX6_sign 1 (some .int), Cond.methodLink RX6 84 yX6_isBetween, Cond.static yX6_isBetween, Cond.code yX6_isBetween cX6_isBetween 8 (some .boolean), Cond.methodLink RX6 126 yX6_lies, Cond.instanceMethod yX6_lies, Cond.selects RX6 yX6_lies yX6_lies]
def wsX6_parts_r4 : List Cond := [Cond.code yX6_lies cX6_lies 12 (some .int), Cond.methodLink RX6 144 yX6_square, Cond.instanceMethod yX6_square, Cond.selects RX6 yX6_square yX6_square, Cond.code yX6_square cX6_square 6 (some .int), Cond.methodLink RX6 147 yX6_partChain, Cond.instanceMethod yX6_partChain, Cond.selects RX6 yX6_partChain yX6_partChain, Cond.code yX6_partChain cX6_partChain 7 none, Cond.methodLink RX6 150 yX6_sumBy, Cond.instanceMethod yX6_sumBy, Cond.selects RX6 yX6_sumBy yX6_sumBy, Cond.code yX6_sumBy cX6_sumBy 4 (some .int), Cond.methodLink RX6 166 yX6_isFlat, Cond.instanceMethod yX6_isFlat, Cond.selects RX6 yX6_isFlat yX6_isFlat, Cond.code yX6_isFlat cX6_isFlat 12 (some .boolean), Cond.methodLink RX6 117 yX6_twice, Cond.instanceMethod yX6_twice, Cond.selects RX6 yX6_twice yX6_twice, Cond.code yX6_twice cX6_twice 4 (some .int)]
def wsX6_parts : List Cond := .code yX6_parts cX6_parts 4 (some .int) :: ((wsX6_parts_r1 ++ (wsX6_parts_r2 ++ (wsX6_parts_r3 ++ wsX6_parts_r4))) ++ wsX60)
def wsX6_go : List Cond := .code yX6_go cX6_go 6 (some .int) :: ([.fieldLink RX6 16 "PolyCutsModel" "corners" "[I"] ++ wsX60)
def wsX6_fits : List Cond := .code yX6_fits cX6_fits 14 (some .boolean) :: ([.fieldLink RX6 16 "PolyCutsModel" "corners" "[I", .methodLink RX6 173 yX6_go, .instanceMethod yX6_go, .selects RX6 yX6_go yX6_go, .initialized RX6, .code yX6_go cX6_go 6 (some .int), .methodLink RX6 110 yX6_xOf, .instanceMethod yX6_xOf, .selects RX6 yX6_xOf yX6_xOf, .code yX6_xOf cX6_xOf 3 (some .int), .fieldLink RX6 19 "PolyCutsModel" "xs" "[I", .methodLink RX6 114 yX6_yOf, .instanceMethod yX6_yOf, .selects RX6 yX6_yOf yX6_yOf, .code yX6_yOf cX6_yOf 3 (some .int), .fieldLink RX6 22 "PolyCutsModel" "ys" "[I", .methodLink RX6 76 yX6_turn, .static yX6_turn, .code yX6_turn cX6_turn 6 (some .int), .methodLink RX6 144 yX6_square, .instanceMethod yX6_square, .selects RX6 yX6_square yX6_square, .code yX6_square cX6_square 6 (some .int)] ++ wsX60)
def wsX6_fitting_r1 : List Cond := [Cond.fieldLink RX6 177 "PolyCutsModel" "least" "I", Cond.fieldLink RX6 16 "PolyCutsModel" "corners" "[I", Cond.methodLink RX6 180 yX6_fits, Cond.instanceMethod yX6_fits, Cond.selects RX6 yX6_fits yX6_fits, Cond.initialized RX6, Cond.code yX6_fits cX6_fits 14 (some .boolean), Cond.methodLink RX6 173 yX6_go, Cond.instanceMethod yX6_go, Cond.selects RX6 yX6_go yX6_go, Cond.code yX6_go cX6_go 6 (some .int), Cond.methodLink RX6 110 yX6_xOf, Cond.instanceMethod yX6_xOf, Cond.selects RX6 yX6_xOf yX6_xOf, Cond.code yX6_xOf cX6_xOf 3 (some .int), Cond.fieldLink RX6 19 "PolyCutsModel" "xs" "[I", Cond.methodLink RX6 114 yX6_yOf, Cond.instanceMethod yX6_yOf, Cond.selects RX6 yX6_yOf yX6_yOf, Cond.code yX6_yOf cX6_yOf 3 (some .int), Cond.fieldLink RX6 22 "PolyCutsModel" "ys" "[I", Cond.methodLink RX6 76 yX6_turn, Cond.static yX6_turn, Cond.code yX6_turn cX6_turn 6 (some .int)]
def wsX6_fitting_r2 : List Cond := [Cond.methodLink RX6 144 yX6_square, Cond.instanceMethod yX6_square, Cond.selects RX6 yX6_square yX6_square, Cond.code yX6_square cX6_square 6 (some .int)]
def wsX6_fitting : List Cond := .code yX6_fitting cX6_fitting 7 (some .int) :: ((wsX6_fitting_r1 ++ wsX6_fitting_r2) ++ wsX60)
def wsX6_same_r1 : List Cond := [Cond.methodLink RX6 102 yX6_isPolygon, Cond.instanceMethod yX6_isPolygon, Cond.selects RX6 yX6_isPolygon yX6_isPolygon, Cond.initialized RX6, Cond.code yX6_isPolygon cX6_isPolygon 2 (some .boolean), Cond.fieldLink RX6 92 "PolyCutsModel" "polygons" "I", Cond.methodLink RX6 69 yX6_within, Cond.static yX6_within, Cond.code yX6_within cX6_within 3 (some .boolean), Cond.methodLink RX6 184 yX6_fitting, Cond.instanceMethod yX6_fitting, Cond.selects RX6 yX6_fitting yX6_fitting, Cond.code yX6_fitting cX6_fitting 7 (some .int), Cond.fieldLink RX6 177 "PolyCutsModel" "least" "I", Cond.fieldLink RX6 16 "PolyCutsModel" "corners" "[I", Cond.methodLink RX6 180 yX6_fits, Cond.instanceMethod yX6_fits, Cond.selects RX6 yX6_fits yX6_fits, Cond.code yX6_fits cX6_fits 14 (some .boolean), Cond.methodLink RX6 173 yX6_go, Cond.instanceMethod yX6_go, Cond.selects RX6 yX6_go yX6_go, Cond.code yX6_go cX6_go 6 (some .int), Cond.methodLink RX6 110 yX6_xOf]
def wsX6_same_r2 : List Cond := [Cond.instanceMethod yX6_xOf, Cond.selects RX6 yX6_xOf yX6_xOf, Cond.code yX6_xOf cX6_xOf 3 (some .int), Cond.fieldLink RX6 19 "PolyCutsModel" "xs" "[I", Cond.methodLink RX6 114 yX6_yOf, Cond.instanceMethod yX6_yOf, Cond.selects RX6 yX6_yOf yX6_yOf, Cond.code yX6_yOf cX6_yOf 3 (some .int), Cond.fieldLink RX6 22 "PolyCutsModel" "ys" "[I", Cond.methodLink RX6 76 yX6_turn, Cond.static yX6_turn, Cond.code yX6_turn cX6_turn 6 (some .int), Cond.methodLink RX6 144 yX6_square, Cond.instanceMethod yX6_square, Cond.selects RX6 yX6_square yX6_square, Cond.code yX6_square cX6_square 6 (some .int)]
def wsX6_same : List Cond := .code yX6_same cX6_same 3 (some .int) :: ((wsX6_same_r1 ++ wsX6_same_r2) ++ wsX60)
def wsX6_onto_r1 : List Cond := [Cond.fieldLink RX6 177 "PolyCutsModel" "least" "I", Cond.methodLink RX6 102 yX6_isPolygon, Cond.instanceMethod yX6_isPolygon, Cond.selects RX6 yX6_isPolygon yX6_isPolygon, Cond.initialized RX6, Cond.code yX6_isPolygon cX6_isPolygon 2 (some .boolean), Cond.fieldLink RX6 92 "PolyCutsModel" "polygons" "I", Cond.methodLink RX6 69 yX6_within, Cond.static yX6_within, Cond.code yX6_within cX6_within 3 (some .boolean), Cond.methodLink RX6 184 yX6_fitting, Cond.instanceMethod yX6_fitting, Cond.selects RX6 yX6_fitting yX6_fitting, Cond.code yX6_fitting cX6_fitting 7 (some .int), Cond.fieldLink RX6 16 "PolyCutsModel" "corners" "[I", Cond.methodLink RX6 180 yX6_fits, Cond.instanceMethod yX6_fits, Cond.selects RX6 yX6_fits yX6_fits, Cond.code yX6_fits cX6_fits 14 (some .boolean), Cond.methodLink RX6 173 yX6_go, Cond.instanceMethod yX6_go, Cond.selects RX6 yX6_go yX6_go, Cond.code yX6_go cX6_go 6 (some .int), Cond.methodLink RX6 110 yX6_xOf]
def wsX6_onto_r2 : List Cond := [Cond.instanceMethod yX6_xOf, Cond.selects RX6 yX6_xOf yX6_xOf, Cond.code yX6_xOf cX6_xOf 3 (some .int), Cond.fieldLink RX6 19 "PolyCutsModel" "xs" "[I", Cond.methodLink RX6 114 yX6_yOf, Cond.instanceMethod yX6_yOf, Cond.selects RX6 yX6_yOf yX6_yOf, Cond.code yX6_yOf cX6_yOf 3 (some .int), Cond.fieldLink RX6 22 "PolyCutsModel" "ys" "[I", Cond.methodLink RX6 76 yX6_turn, Cond.static yX6_turn, Cond.code yX6_turn cX6_turn 6 (some .int), Cond.methodLink RX6 144 yX6_square, Cond.instanceMethod yX6_square, Cond.selects RX6 yX6_square yX6_square, Cond.code yX6_square cX6_square 6 (some .int)]
def wsX6_onto : List Cond := .code yX6_onto cX6_onto 4 (some .int) :: ((wsX6_onto_r1 ++ wsX6_onto_r2) ++ wsX60)
def wsX6_symmetries_r1 : List Cond := [Cond.methodLink RX6 102 yX6_isPolygon, Cond.instanceMethod yX6_isPolygon, Cond.selects RX6 yX6_isPolygon yX6_isPolygon, Cond.initialized RX6, Cond.code yX6_isPolygon cX6_isPolygon 2 (some .boolean), Cond.fieldLink RX6 92 "PolyCutsModel" "polygons" "I", Cond.methodLink RX6 69 yX6_within, Cond.static yX6_within, Cond.code yX6_within cX6_within 3 (some .boolean), Cond.methodLink RX6 184 yX6_fitting, Cond.instanceMethod yX6_fitting, Cond.selects RX6 yX6_fitting yX6_fitting, Cond.code yX6_fitting cX6_fitting 7 (some .int), Cond.fieldLink RX6 177 "PolyCutsModel" "least" "I", Cond.fieldLink RX6 16 "PolyCutsModel" "corners" "[I", Cond.methodLink RX6 180 yX6_fits, Cond.instanceMethod yX6_fits, Cond.selects RX6 yX6_fits yX6_fits, Cond.code yX6_fits cX6_fits 14 (some .boolean), Cond.methodLink RX6 173 yX6_go, Cond.instanceMethod yX6_go, Cond.selects RX6 yX6_go yX6_go, Cond.code yX6_go cX6_go 6 (some .int), Cond.methodLink RX6 110 yX6_xOf]
def wsX6_symmetries_r2 : List Cond := [Cond.instanceMethod yX6_xOf, Cond.selects RX6 yX6_xOf yX6_xOf, Cond.code yX6_xOf cX6_xOf 3 (some .int), Cond.fieldLink RX6 19 "PolyCutsModel" "xs" "[I", Cond.methodLink RX6 114 yX6_yOf, Cond.instanceMethod yX6_yOf, Cond.selects RX6 yX6_yOf yX6_yOf, Cond.code yX6_yOf cX6_yOf 3 (some .int), Cond.fieldLink RX6 22 "PolyCutsModel" "ys" "[I", Cond.methodLink RX6 76 yX6_turn, Cond.static yX6_turn, Cond.code yX6_turn cX6_turn 6 (some .int), Cond.methodLink RX6 144 yX6_square, Cond.instanceMethod yX6_square, Cond.selects RX6 yX6_square yX6_square, Cond.code yX6_square cX6_square 6 (some .int)]
def wsX6_symmetries : List Cond := .code yX6_symmetries cX6_symmetries 3 (some .int) :: ((wsX6_symmetries_r1 ++ wsX6_symmetries_r2) ++ wsX60)
def wsJ9_abs_0f7a4 : List Cond := .code yJ9_abs_0f7a4 cJ9_abs_0f7a4 1 (some .int) :: ([])
def wsJ9_abs_067f4 : List Cond := .code yJ9_abs_067f4 cJ9_abs_067f4 2 (some .long) :: ([])
def wsJ9_max_7cf53 : List Cond := .code yJ9_max_7cf53 cJ9_max_7cf53 2 (some .int) :: ([])
def wsJ9_min_7cf53 : List Cond := .code yJ9_min_7cf53 cJ9_min_7cf53 2 (some .int) :: ([])
abbrev vwCl : List vw_C := [(RX0, TX0, 3), (RX1, TX1, 3), (RX2, TX2, 4), (RX3, TX3, 12), (RX4, TX4, 1), (RX5, TX5, 6), (RX6, TX6, 24)]
end
section
theorem dX0_init_0 : decode cX0_init 0 = .ok (.aload_n 0, 1) := by decide +kernel
theorem dX0_init_1 : decode cX0_init 1 = .ok (.invokespecial 3, 3) := by decide +kernel
theorem dX0_init_4 : decode cX0_init 4 = .ok (.aload_n 0, 1) := by decide +kernel
theorem dX0_init_5 : decode cX0_init 5 = .ok (.iconst 0, 1) := by decide +kernel
theorem dX0_init_6 : decode cX0_init 6 = .ok (.putfield 9, 3) := by decide +kernel
theorem dX0_init_9 : decode cX0_init 9 = .ok (.aload_n 0, 1) := by decide +kernel
theorem dX0_init_10 : decode cX0_init 10 = .ok (.iconst (-1), 1) := by decide +kernel
theorem dX0_init_11 : decode cX0_init 11 = .ok (.putfield 15, 3) := by decide +kernel
theorem dX0_init_14 : decode cX0_init 14 = .ok (.aload_n 0, 1) := by decide +kernel
theorem dX0_init_15 : decode cX0_init 15 = .ok (.iconst (-1), 1) := by decide +kernel
theorem dX0_init_16 : decode cX0_init 16 = .ok (.putfield 18, 3) := by decide +kernel
theorem dX0_init_19 : decode cX0_init 19 = .ok (.return_, 1) := by decide +kernel
set_option maxRecDepth 20000 in
theorem ggX0_examine_X0_note : GoodIn wsX0_examine wsX0_note := goodIn_r _ [7, 2, 8, 9, 56, 57, 58] (by decide +kernel) (by decide +kernel)
set_option maxRecDepth 20000 in
theorem gX0_examine_X0_note : GoodIn wsX0_examine (wsV RX0 21 RX0 yX0_note wsX0_note) := goodIn_app (goodIn_of _ (by decide +kernel)) ggX0_examine_X0_note
set_option maxRecDepth 20000 in
theorem ggX0_examine_X0_findFlatCorner : GoodIn wsX0_examine wsX0_findFlatCorner := goodIn_r _ [13, 1, 14, 15, 16, 17, 18, 19, 20, 21, 22, 23, 24, 25, 26, 27, 28, 29, 3, 4, 5, 6, 7, 2, 8, 9, 53, 54, 55, 56, 57, 58] (by decide +kernel) (by decide +kernel)
set_option maxRecDepth 20000 in
theorem gX0_examine_X0_findFlatCorner : GoodIn wsX0_examine (wsV RX0 30 RX0 yX0_findFlatCorner wsX0_findFlatCorner) := goodIn_app (goodIn_of _ (by decide +kernel)) ggX0_examine_X0_findFlatCorner
set_option maxRecDepth 20000 in
theorem ggX0_examine_X0_findMeetingEdges : GoodIn wsX0_examine wsX0_findMeetingEdges := goodIn_r _ [33, 1, 20, 21, 22, 17, 23, 19, 34, 35, 36, 37, 28, 29, 38, 39, 40, 41, 42, 43, 44, 45, 46, 47, 48, 49, 50, 51, 52, 25, 26, 27, 3, 4, 5, 6, 7, 2, 8, 9, 53, 54, 55, 56, 57, 58] (by decide +kernel) (by decide +kernel)
set_option maxRecDepth 20000 in
theorem gX0_examine_X0_findMeetingEdges : GoodIn wsX0_examine (wsV RX0 34 RX0 yX0_findMeetingEdges wsX0_findMeetingEdges) := goodIn_app (goodIn_of _ (by decide +kernel)) ggX0_examine_X0_findMeetingEdges
theorem dX0_examine_0 : decode cX0_examine 0 = .ok (.aload_n 0, 1) := by decide +kernel
theorem dX0_examine_1 : decode cX0_examine 1 = .ok (.iconst 0, 1) := by decide +kernel
theorem dX0_examine_2 : decode cX0_examine 2 = .ok (.iconst (-1), 1) := by decide +kernel
theorem dX0_examine_3 : decode cX0_examine 3 = .ok (.iconst (-1), 1) := by decide +kernel
theorem dX0_examine_4 : decode cX0_examine 4 = .ok (.invokevirtual 21, 3) := by decide +kernel
theorem dX0_examine_7 : decode cX0_examine 7 = .ok (.aload_n 1, 1) := by decide +kernel
theorem dX0_examine_8 : decode cX0_examine 8 = .ok (.getfield 25, 3) := by decide +kernel
theorem dX0_examine_11 : decode cX0_examine 11 = .ok (.iconst 3, 1) := by decide +kernel
theorem dX0_examine_12 : decode cX0_examine 12 = .ok (.if_icmp .ge 11, 3) := by decide +kernel
theorem dX0_examine_15 : decode cX0_examine 15 = .ok (.aload_n 0, 1) := by decide +kernel
theorem dX0_examine_16 : decode cX0_examine 16 = .ok (.iconst 1, 1) := by decide +kernel
theorem dX0_examine_17 : decode cX0_examine 17 = .ok (.iconst (-1), 1) := by decide +kernel
theorem dX0_examine_18 : decode cX0_examine 18 = .ok (.iconst (-1), 1) := by decide +kernel
theorem dX0_examine_19 : decode cX0_examine 19 = .ok (.invokevirtual 21, 3) := by decide +kernel
theorem dX0_examine_22 : decode cX0_examine 22 = .ok (.return_, 1) := by decide +kernel
theorem dX0_examine_23 : decode cX0_examine 23 = .ok (.aload_n 0, 1) := by decide +kernel
theorem dX0_examine_24 : decode cX0_examine 24 = .ok (.aload_n 1, 1) := by decide +kernel
theorem dX0_examine_25 : decode cX0_examine 25 = .ok (.invokevirtual 30, 3) := by decide +kernel
theorem dX0_examine_28 : decode cX0_examine 28 = .ok (.aload_n 0, 1) := by decide +kernel
theorem dX0_examine_29 : decode cX0_examine 29 = .ok (.getfield 9, 3) := by decide +kernel
theorem dX0_examine_32 : decode cX0_examine 32 = .ok (.ifCond .ne 8, 3) := by decide +kernel
theorem dX0_examine_35 : decode cX0_examine 35 = .ok (.aload_n 0, 1) := by decide +kernel
theorem dX0_examine_36 : decode cX0_examine 36 = .ok (.aload_n 1, 1) := by decide +kernel
theorem dX0_examine_37 : decode cX0_examine 37 = .ok (.invokevirtual 34, 3) := by decide +kernel
theorem dX0_examine_40 : decode cX0_examine 40 = .ok (.return_, 1) := by decide +kernel
theorem dX0_note_0 : decode cX0_note 0 = .ok (.aload_n 0, 1) := by decide +kernel
theorem dX0_note_1 : decode cX0_note 1 = .ok (.iload_n 1, 1) := by decide +kernel
theorem dX0_note_2 : decode cX0_note 2 = .ok (.putfield 9, 3) := by decide +kernel
theorem dX0_note_5 : decode cX0_note 5 = .ok (.aload_n 0, 1) := by decide +kernel
theorem dX0_note_6 : decode cX0_note 6 = .ok (.iload_n 2, 1) := by decide +kernel
theorem dX0_note_7 : decode cX0_note 7 = .ok (.putfield 15, 3) := by decide +kernel
theorem dX0_note_10 : decode cX0_note 10 = .ok (.aload_n 0, 1) := by decide +kernel
theorem dX0_note_11 : decode cX0_note 11 = .ok (.iload_n 3, 1) := by decide +kernel
theorem dX0_note_12 : decode cX0_note 12 = .ok (.putfield 18, 3) := by decide +kernel
theorem dX0_note_15 : decode cX0_note 15 = .ok (.return_, 1) := by decide +kernel
set_option maxRecDepth 20000 in
theorem ggX0_findFlatCorner_X1_before : GoodIn wsX0_findFlatCorner wsX1_before := goodIn_r _ [6, 7, 26, 27, 28] (by decide +kernel) (by decide +kernel)
set_option maxRecDepth 20000 in
theorem gX0_findFlatCorner_X1_before : GoodIn wsX0_findFlatCorner (wsV RX0 37 RX1 yX1_before wsX1_before) := goodIn_app (goodIn_of _ (by decide +kernel)) ggX0_findFlatCorner_X1_before
set_option maxRecDepth 20000 in
theorem ggX0_findFlatCorner_X1_after : GoodIn wsX0_findFlatCorner wsX1_after := goodIn_r _ [11, 7, 26, 27, 28] (by decide +kernel) (by decide +kernel)
set_option maxRecDepth 20000 in
theorem gX0_findFlatCorner_X1_after : GoodIn wsX0_findFlatCorner (wsV RX0 41 RX1 yX1_after wsX1_after) := goodIn_app (goodIn_of _ (by decide +kernel)) ggX0_findFlatCorner_X1_after
set_option maxRecDepth 20000 in
theorem ggX0_findFlatCorner_X1_turn : GoodIn wsX0_findFlatCorner wsX1_turn := goodIn_r _ [15, 16, 17, 26, 27, 28] (by decide +kernel) (by decide +kernel)
set_option maxRecDepth 20000 in
theorem gX0_findFlatCorner_X1_turn : GoodIn wsX0_findFlatCorner (wsV RX0 44 RX1 yX1_turn wsX1_turn) := goodIn_app (goodIn_of _ (by decide +kernel)) ggX0_findFlatCorner_X1_turn
set_option maxRecDepth 20000 in
theorem ggX0_findFlatCorner_X0_note : GoodIn wsX0_findFlatCorner wsX0_note := goodIn_r _ [22, 23, 24, 25, 29, 30, 31] (by decide +kernel) (by decide +kernel)
set_option maxRecDepth 20000 in
theorem gX0_findFlatCorner_X0_note : GoodIn wsX0_findFlatCorner (wsV RX0 21 RX0 yX0_note wsX0_note) := goodIn_app (goodIn_of _ (by decide +kernel)) ggX0_findFlatCorner_X0_note
theorem dX0_findFlatCorner_0 : decode cX0_findFlatCorner 0 = .ok (.iconst 0, 1) := by decide +kernel
theorem dX0_findFlatCorner_1 : decode cX0_findFlatCorner 1 = .ok (.istore_n 2, 1) := by decide +kernel
theorem dX0_findFlatCorner_2 : decode cX0_findFlatCorner 2 = .ok (.iload_n 2, 1) := by decide +kernel
theorem dX0_findFlatCorner_3 : decode cX0_findFlatCorner 3 = .ok (.aload_n 1, 1) := by decide +kernel
theorem dX0_findFlatCorner_4 : decode cX0_findFlatCorner 4 = .ok (.getfield 25, 3) := by decide +kernel
theorem dX0_findFlatCorner_7 : decode cX0_findFlatCorner 7 = .ok (.if_icmp .ge 35, 3) := by decide +kernel
theorem dX0_findFlatCorner_10 : decode cX0_findFlatCorner 10 = .ok (.aload_n 1, 1) := by decide +kernel
theorem dX0_findFlatCorner_11 : decode cX0_findFlatCorner 11 = .ok (.aload_n 1, 1) := by decide +kernel
theorem dX0_findFlatCorner_12 : decode cX0_findFlatCorner 12 = .ok (.iload_n 2, 1) := by decide +kernel
theorem dX0_findFlatCorner_13 : decode cX0_findFlatCorner 13 = .ok (.invokevirtual 37, 3) := by decide +kernel
theorem dX0_findFlatCorner_16 : decode cX0_findFlatCorner 16 = .ok (.iload_n 2, 1) := by decide +kernel
theorem dX0_findFlatCorner_17 : decode cX0_findFlatCorner 17 = .ok (.aload_n 1, 1) := by decide +kernel
theorem dX0_findFlatCorner_18 : decode cX0_findFlatCorner 18 = .ok (.iload_n 2, 1) := by decide +kernel
theorem dX0_findFlatCorner_19 : decode cX0_findFlatCorner 19 = .ok (.invokevirtual 41, 3) := by decide +kernel
theorem dX0_findFlatCorner_22 : decode cX0_findFlatCorner 22 = .ok (.invokevirtual 44, 3) := by decide +kernel
theorem dX0_findFlatCorner_25 : decode cX0_findFlatCorner 25 = .ok (.ifCond .ne 11, 3) := by decide +kernel
theorem dX0_findFlatCorner_28 : decode cX0_findFlatCorner 28 = .ok (.aload_n 0, 1) := by decide +kernel
theorem dX0_findFlatCorner_29 : decode cX0_findFlatCorner 29 = .ok (.iconst 2, 1) := by decide +kernel
theorem dX0_findFlatCorner_30 : decode cX0_findFlatCorner 30 = .ok (.iload_n 2, 1) := by decide +kernel
theorem dX0_findFlatCorner_31 : decode cX0_findFlatCorner 31 = .ok (.iconst (-1), 1) := by decide +kernel
theorem dX0_findFlatCorner_32 : decode cX0_findFlatCorner 32 = .ok (.invokevirtual 21, 3) := by decide +kernel
theorem dX0_findFlatCorner_35 : decode cX0_findFlatCorner 35 = .ok (.return_, 1) := by decide +kernel
theorem dX0_findFlatCorner_36 : decode cX0_findFlatCorner 36 = .ok (.iinc 2 1, 3) := by decide +kernel
theorem dX0_findFlatCorner_39 : decode cX0_findFlatCorner 39 = .ok (.goto (-37), 3) := by decide +kernel
theorem dX0_findFlatCorner_42 : decode cX0_findFlatCorner 42 = .ok (.return_, 1) := by decide +kernel
set_option maxRecDepth 20000 in
theorem ggX0_findMeetingEdges_X1_after : GoodIn wsX0_findMeetingEdges wsX1_after := goodIn_r _ [6, 7, 40, 41, 42] (by decide +kernel) (by decide +kernel)
set_option maxRecDepth 20000 in
theorem gX0_findMeetingEdges_X1_after : GoodIn wsX0_findMeetingEdges (wsV RX0 41 RX1 yX1_after wsX1_after) := goodIn_app (goodIn_of _ (by decide +kernel)) ggX0_findMeetingEdges_X1_after
set_option maxRecDepth 20000 in
theorem ggX0_findMeetingEdges_X1_meet : GoodIn wsX0_findMeetingEdges wsX1_meet := goodIn_r _ [11, 12, 13, 14, 15, 5, 16, 17, 18, 19, 20, 21, 22, 23, 24, 25, 26, 27, 28, 29, 30, 31, 40, 41, 42] (by decide +kernel) (by decide +kernel)
set_option maxRecDepth 20000 in
theorem gX0_findMeetingEdges_X1_meet : GoodIn wsX0_findMeetingEdges (wsV RX0 48 RX1 yX1_meet wsX1_meet) := goodIn_app (goodIn_of _ (by decide +kernel)) ggX0_findMeetingEdges_X1_meet
set_option maxRecDepth 20000 in
theorem ggX0_findMeetingEdges_X0_note : GoodIn wsX0_findMeetingEdges wsX0_note := goodIn_r _ [36, 37, 38, 39, 43, 44, 45] (by decide +kernel) (by decide +kernel)
set_option maxRecDepth 20000 in
theorem gX0_findMeetingEdges_X0_note : GoodIn wsX0_findMeetingEdges (wsV RX0 21 RX0 yX0_note wsX0_note) := goodIn_app (goodIn_of _ (by decide +kernel)) ggX0_findMeetingEdges_X0_note
theorem dX0_findMeetingEdges_0 : decode cX0_findMeetingEdges 0 = .ok (.iconst 0, 1) := by decide +kernel
theorem dX0_findMeetingEdges_1 : decode cX0_findMeetingEdges 1 = .ok (.istore_n 2, 1) := by decide +kernel
theorem dX0_findMeetingEdges_2 : decode cX0_findMeetingEdges 2 = .ok (.iload_n 2, 1) := by decide +kernel
theorem dX0_findMeetingEdges_3 : decode cX0_findMeetingEdges 3 = .ok (.aload_n 1, 1) := by decide +kernel
theorem dX0_findMeetingEdges_4 : decode cX0_findMeetingEdges 4 = .ok (.getfield 25, 3) := by decide +kernel
theorem dX0_findMeetingEdges_7 : decode cX0_findMeetingEdges 7 = .ok (.if_icmp .ge 63, 3) := by decide +kernel
theorem dX0_findMeetingEdges_10 : decode cX0_findMeetingEdges 10 = .ok (.iload_n 2, 1) := by decide +kernel
theorem dX0_findMeetingEdges_11 : decode cX0_findMeetingEdges 11 = .ok (.iconst 2, 1) := by decide +kernel
theorem dX0_findMeetingEdges_12 : decode cX0_findMeetingEdges 12 = .ok (.iadd, 1) := by decide +kernel
theorem dX0_findMeetingEdges_13 : decode cX0_findMeetingEdges 13 = .ok (.istore_n 3, 1) := by decide +kernel
theorem dX0_findMeetingEdges_14 : decode cX0_findMeetingEdges 14 = .ok (.iload_n 3, 1) := by decide +kernel
theorem dX0_findMeetingEdges_15 : decode cX0_findMeetingEdges 15 = .ok (.aload_n 1, 1) := by decide +kernel
theorem dX0_findMeetingEdges_16 : decode cX0_findMeetingEdges 16 = .ok (.getfield 25, 3) := by decide +kernel
theorem dX0_findMeetingEdges_19 : decode cX0_findMeetingEdges 19 = .ok (.if_icmp .ge 45, 3) := by decide +kernel
theorem dX0_findMeetingEdges_22 : decode cX0_findMeetingEdges 22 = .ok (.aload_n 1, 1) := by decide +kernel
theorem dX0_findMeetingEdges_23 : decode cX0_findMeetingEdges 23 = .ok (.iload_n 3, 1) := by decide +kernel
theorem dX0_findMeetingEdges_24 : decode cX0_findMeetingEdges 24 = .ok (.invokevirtual 41, 3) := by decide +kernel
theorem dX0_findMeetingEdges_27 : decode cX0_findMeetingEdges 27 = .ok (.iload_n 2, 1) := by decide +kernel
theorem dX0_findMeetingEdges_28 : decode cX0_findMeetingEdges 28 = .ok (.if_icmp .eq 30, 3) := by decide +kernel
theorem dX0_findMeetingEdges_31 : decode cX0_findMeetingEdges 31 = .ok (.aload_n 1, 1) := by decide +kernel
theorem dX0_findMeetingEdges_32 : decode cX0_findMeetingEdges 32 = .ok (.iload_n 2, 1) := by decide +kernel
theorem dX0_findMeetingEdges_33 : decode cX0_findMeetingEdges 33 = .ok (.aload_n 1, 1) := by decide +kernel
theorem dX0_findMeetingEdges_34 : decode cX0_findMeetingEdges 34 = .ok (.iload_n 2, 1) := by decide +kernel
theorem dX0_findMeetingEdges_35 : decode cX0_findMeetingEdges 35 = .ok (.invokevirtual 41, 3) := by decide +kernel
theorem dX0_findMeetingEdges_38 : decode cX0_findMeetingEdges 38 = .ok (.iload_n 3, 1) := by decide +kernel
theorem dX0_findMeetingEdges_39 : decode cX0_findMeetingEdges 39 = .ok (.aload_n 1, 1) := by decide +kernel
theorem dX0_findMeetingEdges_40 : decode cX0_findMeetingEdges 40 = .ok (.iload_n 3, 1) := by decide +kernel
theorem dX0_findMeetingEdges_41 : decode cX0_findMeetingEdges 41 = .ok (.invokevirtual 41, 3) := by decide +kernel
theorem dX0_findMeetingEdges_44 : decode cX0_findMeetingEdges 44 = .ok (.invokevirtual 48, 3) := by decide +kernel
theorem dX0_findMeetingEdges_47 : decode cX0_findMeetingEdges 47 = .ok (.ifCond .eq 11, 3) := by decide +kernel
theorem dX0_findMeetingEdges_50 : decode cX0_findMeetingEdges 50 = .ok (.aload_n 0, 1) := by decide +kernel
theorem dX0_findMeetingEdges_51 : decode cX0_findMeetingEdges 51 = .ok (.iconst 3, 1) := by decide +kernel
theorem dX0_findMeetingEdges_52 : decode cX0_findMeetingEdges 52 = .ok (.iload_n 2, 1) := by decide +kernel
theorem dX0_findMeetingEdges_53 : decode cX0_findMeetingEdges 53 = .ok (.iload_n 3, 1) := by decide +kernel
theorem dX0_findMeetingEdges_54 : decode cX0_findMeetingEdges 54 = .ok (.invokevirtual 21, 3) := by decide +kernel
theorem dX0_findMeetingEdges_57 : decode cX0_findMeetingEdges 57 = .ok (.return_, 1) := by decide +kernel
theorem dX0_findMeetingEdges_58 : decode cX0_findMeetingEdges 58 = .ok (.iinc 3 1, 3) := by decide +kernel
theorem dX0_findMeetingEdges_61 : decode cX0_findMeetingEdges 61 = .ok (.goto (-47), 3) := by decide +kernel
theorem dX0_findMeetingEdges_64 : decode cX0_findMeetingEdges 64 = .ok (.iinc 2 1, 3) := by decide +kernel
theorem dX0_findMeetingEdges_67 : decode cX0_findMeetingEdges 67 = .ok (.goto (-65), 3) := by decide +kernel
theorem dX0_findMeetingEdges_70 : decode cX0_findMeetingEdges 70 = .ok (.return_, 1) := by decide +kernel
theorem dX1_init_0 : decode cX1_init 0 = .ok (.aload_n 0, 1) := by decide +kernel
theorem dX1_init_1 : decode cX1_init 1 = .ok (.invokespecial 3, 3) := by decide +kernel
theorem dX1_init_4 : decode cX1_init 4 = .ok (.aload_n 0, 1) := by decide +kernel
theorem dX1_init_5 : decode cX1_init 5 = .ok (.bipush 14, 2) := by decide +kernel
theorem dX1_init_7 : decode cX1_init 7 = .ok (.newarray .int, 2) := by decide +kernel
theorem dX1_init_9 : decode cX1_init 9 = .ok (.putfield 9, 3) := by decide +kernel
theorem dX1_init_12 : decode cX1_init 12 = .ok (.aload_n 0, 1) := by decide +kernel
theorem dX1_init_13 : decode cX1_init 13 = .ok (.bipush 14, 2) := by decide +kernel
theorem dX1_init_15 : decode cX1_init 15 = .ok (.newarray .int, 2) := by decide +kernel
theorem dX1_init_17 : decode cX1_init 17 = .ok (.putfield 15, 3) := by decide +kernel
theorem dX1_init_20 : decode cX1_init 20 = .ok (.aload_n 0, 1) := by decide +kernel
theorem dX1_init_21 : decode cX1_init 21 = .ok (.iconst 0, 1) := by decide +kernel
theorem dX1_init_22 : decode cX1_init 22 = .ok (.putfield 18, 3) := by decide +kernel
theorem dX1_init_25 : decode cX1_init 25 = .ok (.return_, 1) := by decide +kernel
theorem dX1_isFull_0 : decode cX1_isFull 0 = .ok (.aload_n 0, 1) := by decide +kernel
theorem dX1_isFull_1 : decode cX1_isFull 1 = .ok (.getfield 18, 3) := by decide +kernel
theorem dX1_isFull_4 : decode cX1_isFull 4 = .ok (.bipush 14, 2) := by decide +kernel
theorem dX1_isFull_6 : decode cX1_isFull 6 = .ok (.if_icmp .lt 7, 3) := by decide +kernel
theorem dX1_isFull_9 : decode cX1_isFull 9 = .ok (.iconst 1, 1) := by decide +kernel
theorem dX1_isFull_10 : decode cX1_isFull 10 = .ok (.goto 4, 3) := by decide +kernel
theorem dX1_isFull_13 : decode cX1_isFull 13 = .ok (.iconst 0, 1) := by decide +kernel
theorem dX1_isFull_14 : decode cX1_isFull 14 = .ok (.ireturn, 1) := by decide +kernel
theorem dX1_has_0 : decode cX1_has 0 = .ok (.iload_n 1, 1) := by decide +kernel
theorem dX1_has_1 : decode cX1_has 1 = .ok (.ifCond .lt 15, 3) := by decide +kernel
theorem dX1_has_4 : decode cX1_has 4 = .ok (.iload_n 1, 1) := by decide +kernel
theorem dX1_has_5 : decode cX1_has 5 = .ok (.aload_n 0, 1) := by decide +kernel
theorem dX1_has_6 : decode cX1_has 6 = .ok (.getfield 18, 3) := by decide +kernel
theorem dX1_has_9 : decode cX1_has 9 = .ok (.if_icmp .ge 7, 3) := by decide +kernel
theorem dX1_has_12 : decode cX1_has 12 = .ok (.iconst 1, 1) := by decide +kernel
theorem dX1_has_13 : decode cX1_has 13 = .ok (.goto 4, 3) := by decide +kernel
theorem dX1_has_16 : decode cX1_has 16 = .ok (.iconst 0, 1) := by decide +kernel
theorem dX1_has_17 : decode cX1_has 17 = .ok (.ireturn, 1) := by decide +kernel
set_option maxRecDepth 20000 in
theorem ggX1_append_X1_isFull : GoodIn wsX1_append wsX1_isFull := goodIn_r _ [8, 2, 9, 10, 11] (by decide +kernel) (by decide +kernel)
set_option maxRecDepth 20000 in
theorem gX1_append_X1_isFull : GoodIn wsX1_append (wsV RX1 22 RX1 yX1_isFull wsX1_isFull) := goodIn_app (goodIn_of _ (by decide +kernel)) ggX1_append_X1_isFull
theorem dX1_append_0 : decode cX1_append 0 = .ok (.aload_n 0, 1) := by decide +kernel
theorem dX1_append_1 : decode cX1_append 1 = .ok (.invokevirtual 22, 3) := by decide +kernel
theorem dX1_append_4 : decode cX1_append 4 = .ok (.ifCond .ne 33, 3) := by decide +kernel
theorem dX1_append_7 : decode cX1_append 7 = .ok (.aload_n 0, 1) := by decide +kernel
theorem dX1_append_8 : decode cX1_append 8 = .ok (.getfield 9, 3) := by decide +kernel
theorem dX1_append_11 : decode cX1_append 11 = .ok (.aload_n 0, 1) := by decide +kernel
theorem dX1_append_12 : decode cX1_append 12 = .ok (.getfield 18, 3) := by decide +kernel
theorem dX1_append_15 : decode cX1_append 15 = .ok (.iload_n 1, 1) := by decide +kernel
theorem dX1_append_16 : decode cX1_append 16 = .ok (.iastore, 1) := by decide +kernel
theorem dX1_append_17 : decode cX1_append 17 = .ok (.aload_n 0, 1) := by decide +kernel
theorem dX1_append_18 : decode cX1_append 18 = .ok (.getfield 15, 3) := by decide +kernel
theorem dX1_append_21 : decode cX1_append 21 = .ok (.aload_n 0, 1) := by decide +kernel
theorem dX1_append_22 : decode cX1_append 22 = .ok (.getfield 18, 3) := by decide +kernel
theorem dX1_append_25 : decode cX1_append 25 = .ok (.iload_n 2, 1) := by decide +kernel
theorem dX1_append_26 : decode cX1_append 26 = .ok (.iastore, 1) := by decide +kernel
theorem dX1_append_27 : decode cX1_append 27 = .ok (.aload_n 0, 1) := by decide +kernel
theorem dX1_append_28 : decode cX1_append 28 = .ok (.dup, 1) := by decide +kernel
theorem dX1_append_29 : decode cX1_append 29 = .ok (.getfield 18, 3) := by decide +kernel
theorem dX1_append_32 : decode cX1_append 32 = .ok (.iconst 1, 1) := by decide +kernel
theorem dX1_append_33 : decode cX1_append 33 = .ok (.iadd, 1) := by decide +kernel
theorem dX1_append_34 : decode cX1_append 34 = .ok (.putfield 18, 3) := by decide +kernel
theorem dX1_append_37 : decode cX1_append 37 = .ok (.return_, 1) := by decide +kernel
theorem dX1_clear_0 : decode cX1_clear 0 = .ok (.aload_n 0, 1) := by decide +kernel
theorem dX1_clear_1 : decode cX1_clear 1 = .ok (.iconst 0, 1) := by decide +kernel
theorem dX1_clear_2 : decode cX1_clear 2 = .ok (.putfield 18, 3) := by decide +kernel
theorem dX1_clear_5 : decode cX1_clear 5 = .ok (.return_, 1) := by decide +kernel
theorem dX1_copyOf_0 : decode cX1_copyOf 0 = .ok (.aload_n 0, 1) := by decide +kernel
theorem dX1_copyOf_1 : decode cX1_copyOf 1 = .ok (.aload_n 1, 1) := by decide +kernel
theorem dX1_copyOf_2 : decode cX1_copyOf 2 = .ok (.getfield 18, 3) := by decide +kernel
theorem dX1_copyOf_5 : decode cX1_copyOf 5 = .ok (.putfield 18, 3) := by decide +kernel
theorem dX1_copyOf_8 : decode cX1_copyOf 8 = .ok (.aload_n 1, 1) := by decide +kernel
theorem dX1_copyOf_9 : decode cX1_copyOf 9 = .ok (.getfield 9, 3) := by decide +kernel
theorem dX1_copyOf_12 : decode cX1_copyOf 12 = .ok (.iconst 0, 1) := by decide +kernel
theorem dX1_copyOf_13 : decode cX1_copyOf 13 = .ok (.aload_n 0, 1) := by decide +kernel
theorem dX1_copyOf_14 : decode cX1_copyOf 14 = .ok (.getfield 9, 3) := by decide +kernel
theorem dX1_copyOf_17 : decode cX1_copyOf 17 = .ok (.iconst 0, 1) := by decide +kernel
theorem dX1_copyOf_18 : decode cX1_copyOf 18 = .ok (.aload_n 0, 1) := by decide +kernel
theorem dX1_copyOf_19 : decode cX1_copyOf 19 = .ok (.getfield 18, 3) := by decide +kernel
theorem dX1_copyOf_22 : decode cX1_copyOf 22 = .ok (.invokestatic 26, 3) := by decide +kernel
theorem dX1_copyOf_25 : decode cX1_copyOf 25 = .ok (.aload_n 1, 1) := by decide +kernel
theorem dX1_copyOf_26 : decode cX1_copyOf 26 = .ok (.getfield 15, 3) := by decide +kernel
theorem dX1_copyOf_29 : decode cX1_copyOf 29 = .ok (.iconst 0, 1) := by decide +kernel
theorem dX1_copyOf_30 : decode cX1_copyOf 30 = .ok (.aload_n 0, 1) := by decide +kernel
theorem dX1_copyOf_31 : decode cX1_copyOf 31 = .ok (.getfield 15, 3) := by decide +kernel
theorem dX1_copyOf_34 : decode cX1_copyOf 34 = .ok (.iconst 0, 1) := by decide +kernel
theorem dX1_copyOf_35 : decode cX1_copyOf 35 = .ok (.aload_n 0, 1) := by decide +kernel
theorem dX1_copyOf_36 : decode cX1_copyOf 36 = .ok (.getfield 18, 3) := by decide +kernel
theorem dX1_copyOf_39 : decode cX1_copyOf 39 = .ok (.invokestatic 26, 3) := by decide +kernel
theorem dX1_copyOf_42 : decode cX1_copyOf 42 = .ok (.return_, 1) := by decide +kernel
theorem dX1_along_0 : decode cX1_along 0 = .ok (.iload_n 1, 1) := by decide +kernel
theorem dX1_along_1 : decode cX1_along 1 = .ok (.ifCond .ne 10, 3) := by decide +kernel
theorem dX1_along_4 : decode cX1_along 4 = .ok (.aload_n 0, 1) := by decide +kernel
theorem dX1_along_5 : decode cX1_along 5 = .ok (.getfield 9, 3) := by decide +kernel
theorem dX1_along_8 : decode cX1_along 8 = .ok (.goto 7, 3) := by decide +kernel
theorem dX1_along_11 : decode cX1_along 11 = .ok (.aload_n 0, 1) := by decide +kernel
theorem dX1_along_12 : decode cX1_along 12 = .ok (.getfield 15, 3) := by decide +kernel
theorem dX1_along_15 : decode cX1_along 15 = .ok (.areturn, 1) := by decide +kernel
theorem dX1_after_0 : decode cX1_after 0 = .ok (.iload_n 1, 1) := by decide +kernel
theorem dX1_after_1 : decode cX1_after 1 = .ok (.iconst 1, 1) := by decide +kernel
theorem dX1_after_2 : decode cX1_after 2 = .ok (.iadd, 1) := by decide +kernel
theorem dX1_after_3 : decode cX1_after 3 = .ok (.aload_n 0, 1) := by decide +kernel
theorem dX1_after_4 : decode cX1_after 4 = .ok (.getfield 18, 3) := by decide +kernel
theorem dX1_after_7 : decode cX1_after 7 = .ok (.if_icmp .ge 9, 3) := by decide +kernel
theorem dX1_after_10 : decode cX1_after 10 = .ok (.iload_n 1, 1) := by decide +kernel
theorem dX1_after_11 : decode cX1_after 11 = .ok (.iconst 1, 1) := by decide +kernel
theorem dX1_after_12 : decode cX1_after 12 = .ok (.iadd, 1) := by decide +kernel
theorem dX1_after_13 : decode cX1_after 13 = .ok (.goto 4, 3) := by decide +kernel
theorem dX1_after_16 : decode cX1_after 16 = .ok (.iconst 0, 1) := by decide +kernel
theorem dX1_after_17 : decode cX1_after 17 = .ok (.ireturn, 1) := by decide +kernel
theorem dX1_before_0 : decode cX1_before 0 = .ok (.iload_n 1, 1) := by decide +kernel
theorem dX1_before_1 : decode cX1_before 1 = .ok (.ifCond .le 9, 3) := by decide +kernel
theorem dX1_before_4 : decode cX1_before 4 = .ok (.iload_n 1, 1) := by decide +kernel
theorem dX1_before_5 : decode cX1_before 5 = .ok (.iconst 1, 1) := by decide +kernel
theorem dX1_before_6 : decode cX1_before 6 = .ok (.isub, 1) := by decide +kernel
theorem dX1_before_7 : decode cX1_before 7 = .ok (.goto 9, 3) := by decide +kernel
theorem dX1_before_10 : decode cX1_before 10 = .ok (.aload_n 0, 1) := by decide +kernel
theorem dX1_before_11 : decode cX1_before 11 = .ok (.getfield 18, 3) := by decide +kernel
theorem dX1_before_14 : decode cX1_before 14 = .ok (.iconst 1, 1) := by decide +kernel
theorem dX1_before_15 : decode cX1_before 15 = .ok (.isub, 1) := by decide +kernel
theorem dX1_before_16 : decode cX1_before 16 = .ok (.ireturn, 1) := by decide +kernel
theorem dX1_turn_0 : decode cX1_turn 0 = .ok (.aload_n 0, 1) := by decide +kernel
theorem dX1_turn_1 : decode cX1_turn 1 = .ok (.getfield 9, 3) := by decide +kernel
theorem dX1_turn_4 : decode cX1_turn 4 = .ok (.iload_n 2, 1) := by decide +kernel
theorem dX1_turn_5 : decode cX1_turn 5 = .ok (.iaload, 1) := by decide +kernel
theorem dX1_turn_6 : decode cX1_turn 6 = .ok (.aload_n 0, 1) := by decide +kernel
theorem dX1_turn_7 : decode cX1_turn 7 = .ok (.getfield 9, 3) := by decide +kernel
theorem dX1_turn_10 : decode cX1_turn 10 = .ok (.iload_n 1, 1) := by decide +kernel
theorem dX1_turn_11 : decode cX1_turn 11 = .ok (.iaload, 1) := by decide +kernel
theorem dX1_turn_12 : decode cX1_turn 12 = .ok (.isub, 1) := by decide +kernel
theorem dX1_turn_13 : decode cX1_turn 13 = .ok (.aload_n 0, 1) := by decide +kernel
theorem dX1_turn_14 : decode cX1_turn 14 = .ok (.getfield 15, 3) := by decide +kernel
theorem dX1_turn_17 : decode cX1_turn 17 = .ok (.iload_n 3, 1) := by decide +kernel
theorem dX1_turn_18 : decode cX1_turn 18 = .ok (.iaload, 1) := by decide +kernel
theorem dX1_turn_19 : decode cX1_turn 19 = .ok (.aload_n 0, 1) := by decide +kernel
theorem dX1_turn_20 : decode cX1_turn 20 = .ok (.getfield 15, 3) := by decide +kernel
theorem dX1_turn_23 : decode cX1_turn 23 = .ok (.iload_n 1, 1) := by decide +kernel
theorem dX1_turn_24 : decode cX1_turn 24 = .ok (.iaload, 1) := by decide +kernel
theorem dX1_turn_25 : decode cX1_turn 25 = .ok (.isub, 1) := by decide +kernel
theorem dX1_turn_26 : decode cX1_turn 26 = .ok (.imul, 1) := by decide +kernel
theorem dX1_turn_27 : decode cX1_turn 27 = .ok (.aload_n 0, 1) := by decide +kernel
theorem dX1_turn_28 : decode cX1_turn 28 = .ok (.getfield 15, 3) := by decide +kernel
theorem dX1_turn_31 : decode cX1_turn 31 = .ok (.iload_n 2, 1) := by decide +kernel
theorem dX1_turn_32 : decode cX1_turn 32 = .ok (.iaload, 1) := by decide +kernel
theorem dX1_turn_33 : decode cX1_turn 33 = .ok (.aload_n 0, 1) := by decide +kernel
theorem dX1_turn_34 : decode cX1_turn 34 = .ok (.getfield 15, 3) := by decide +kernel
theorem dX1_turn_37 : decode cX1_turn 37 = .ok (.iload_n 1, 1) := by decide +kernel
theorem dX1_turn_38 : decode cX1_turn 38 = .ok (.iaload, 1) := by decide +kernel
theorem dX1_turn_39 : decode cX1_turn 39 = .ok (.isub, 1) := by decide +kernel
theorem dX1_turn_40 : decode cX1_turn 40 = .ok (.aload_n 0, 1) := by decide +kernel
theorem dX1_turn_41 : decode cX1_turn 41 = .ok (.getfield 9, 3) := by decide +kernel
theorem dX1_turn_44 : decode cX1_turn 44 = .ok (.iload_n 3, 1) := by decide +kernel
theorem dX1_turn_45 : decode cX1_turn 45 = .ok (.iaload, 1) := by decide +kernel
theorem dX1_turn_46 : decode cX1_turn 46 = .ok (.aload_n 0, 1) := by decide +kernel
theorem dX1_turn_47 : decode cX1_turn 47 = .ok (.getfield 9, 3) := by decide +kernel
theorem dX1_turn_50 : decode cX1_turn 50 = .ok (.iload_n 1, 1) := by decide +kernel
theorem dX1_turn_51 : decode cX1_turn 51 = .ok (.iaload, 1) := by decide +kernel
theorem dX1_turn_52 : decode cX1_turn 52 = .ok (.isub, 1) := by decide +kernel
theorem dX1_turn_53 : decode cX1_turn 53 = .ok (.imul, 1) := by decide +kernel
theorem dX1_turn_54 : decode cX1_turn 54 = .ok (.isub, 1) := by decide +kernel
theorem dX1_turn_55 : decode cX1_turn 55 = .ok (.ireturn, 1) := by decide +kernel
theorem dX1_advance_0 : decode cX1_advance 0 = .ok (.aload_n 0, 1) := by decide +kernel
theorem dX1_advance_1 : decode cX1_advance 1 = .ok (.getfield 9, 3) := by decide +kernel
theorem dX1_advance_4 : decode cX1_advance 4 = .ok (.iload_n 2, 1) := by decide +kernel
theorem dX1_advance_5 : decode cX1_advance 5 = .ok (.iaload, 1) := by decide +kernel
theorem dX1_advance_6 : decode cX1_advance 6 = .ok (.aload_n 0, 1) := by decide +kernel
theorem dX1_advance_7 : decode cX1_advance 7 = .ok (.getfield 9, 3) := by decide +kernel
theorem dX1_advance_10 : decode cX1_advance 10 = .ok (.iload_n 1, 1) := by decide +kernel
theorem dX1_advance_11 : decode cX1_advance 11 = .ok (.iaload, 1) := by decide +kernel
theorem dX1_advance_12 : decode cX1_advance 12 = .ok (.isub, 1) := by decide +kernel
theorem dX1_advance_13 : decode cX1_advance 13 = .ok (.aload_n 0, 1) := by decide +kernel
theorem dX1_advance_14 : decode cX1_advance 14 = .ok (.getfield 9, 3) := by decide +kernel
theorem dX1_advance_17 : decode cX1_advance 17 = .ok (.iload_n 3, 1) := by decide +kernel
theorem dX1_advance_18 : decode cX1_advance 18 = .ok (.iaload, 1) := by decide +kernel
theorem dX1_advance_19 : decode cX1_advance 19 = .ok (.aload_n 0, 1) := by decide +kernel
theorem dX1_advance_20 : decode cX1_advance 20 = .ok (.getfield 9, 3) := by decide +kernel
theorem dX1_advance_23 : decode cX1_advance 23 = .ok (.iload_n 2, 1) := by decide +kernel
theorem dX1_advance_24 : decode cX1_advance 24 = .ok (.iaload, 1) := by decide +kernel
theorem dX1_advance_25 : decode cX1_advance 25 = .ok (.isub, 1) := by decide +kernel
theorem dX1_advance_26 : decode cX1_advance 26 = .ok (.imul, 1) := by decide +kernel
theorem dX1_advance_27 : decode cX1_advance 27 = .ok (.aload_n 0, 1) := by decide +kernel
theorem dX1_advance_28 : decode cX1_advance 28 = .ok (.getfield 15, 3) := by decide +kernel
theorem dX1_advance_31 : decode cX1_advance 31 = .ok (.iload_n 2, 1) := by decide +kernel
theorem dX1_advance_32 : decode cX1_advance 32 = .ok (.iaload, 1) := by decide +kernel
theorem dX1_advance_33 : decode cX1_advance 33 = .ok (.aload_n 0, 1) := by decide +kernel
theorem dX1_advance_34 : decode cX1_advance 34 = .ok (.getfield 15, 3) := by decide +kernel
theorem dX1_advance_37 : decode cX1_advance 37 = .ok (.iload_n 1, 1) := by decide +kernel
theorem dX1_advance_38 : decode cX1_advance 38 = .ok (.iaload, 1) := by decide +kernel
theorem dX1_advance_39 : decode cX1_advance 39 = .ok (.isub, 1) := by decide +kernel
theorem dX1_advance_40 : decode cX1_advance 40 = .ok (.aload_n 0, 1) := by decide +kernel
theorem dX1_advance_41 : decode cX1_advance 41 = .ok (.getfield 15, 3) := by decide +kernel
theorem dX1_advance_44 : decode cX1_advance 44 = .ok (.iload_n 3, 1) := by decide +kernel
theorem dX1_advance_45 : decode cX1_advance 45 = .ok (.iaload, 1) := by decide +kernel
theorem dX1_advance_46 : decode cX1_advance 46 = .ok (.aload_n 0, 1) := by decide +kernel
theorem dX1_advance_47 : decode cX1_advance 47 = .ok (.getfield 15, 3) := by decide +kernel
theorem dX1_advance_50 : decode cX1_advance 50 = .ok (.iload_n 2, 1) := by decide +kernel
theorem dX1_advance_51 : decode cX1_advance 51 = .ok (.iaload, 1) := by decide +kernel
theorem dX1_advance_52 : decode cX1_advance 52 = .ok (.isub, 1) := by decide +kernel
theorem dX1_advance_53 : decode cX1_advance 53 = .ok (.imul, 1) := by decide +kernel
theorem dX1_advance_54 : decode cX1_advance 54 = .ok (.iadd, 1) := by decide +kernel
theorem dX1_advance_55 : decode cX1_advance 55 = .ok (.ireturn, 1) := by decide +kernel
theorem dX1_squaredLength_0 : decode cX1_squaredLength 0 = .ok (.aload_n 0, 1) := by decide +kernel
theorem dX1_squaredLength_1 : decode cX1_squaredLength 1 = .ok (.getfield 9, 3) := by decide +kernel
theorem dX1_squaredLength_4 : decode cX1_squaredLength 4 = .ok (.iload_n 2, 1) := by decide +kernel
theorem dX1_squaredLength_5 : decode cX1_squaredLength 5 = .ok (.iaload, 1) := by decide +kernel
theorem dX1_squaredLength_6 : decode cX1_squaredLength 6 = .ok (.aload_n 0, 1) := by decide +kernel
theorem dX1_squaredLength_7 : decode cX1_squaredLength 7 = .ok (.getfield 9, 3) := by decide +kernel
theorem dX1_squaredLength_10 : decode cX1_squaredLength 10 = .ok (.iload_n 1, 1) := by decide +kernel
theorem dX1_squaredLength_11 : decode cX1_squaredLength 11 = .ok (.iaload, 1) := by decide +kernel
theorem dX1_squaredLength_12 : decode cX1_squaredLength 12 = .ok (.isub, 1) := by decide +kernel
theorem dX1_squaredLength_13 : decode cX1_squaredLength 13 = .ok (.istore_n 3, 1) := by decide +kernel
theorem dX1_squaredLength_14 : decode cX1_squaredLength 14 = .ok (.aload_n 0, 1) := by decide +kernel
theorem dX1_squaredLength_15 : decode cX1_squaredLength 15 = .ok (.getfield 15, 3) := by decide +kernel
theorem dX1_squaredLength_18 : decode cX1_squaredLength 18 = .ok (.iload_n 2, 1) := by decide +kernel
theorem dX1_squaredLength_19 : decode cX1_squaredLength 19 = .ok (.iaload, 1) := by decide +kernel
theorem dX1_squaredLength_20 : decode cX1_squaredLength 20 = .ok (.aload_n 0, 1) := by decide +kernel
theorem dX1_squaredLength_21 : decode cX1_squaredLength 21 = .ok (.getfield 15, 3) := by decide +kernel
theorem dX1_squaredLength_24 : decode cX1_squaredLength 24 = .ok (.iload_n 1, 1) := by decide +kernel
theorem dX1_squaredLength_25 : decode cX1_squaredLength 25 = .ok (.iaload, 1) := by decide +kernel
theorem dX1_squaredLength_26 : decode cX1_squaredLength 26 = .ok (.isub, 1) := by decide +kernel
theorem dX1_squaredLength_27 : decode cX1_squaredLength 27 = .ok (.istore 4, 2) := by decide +kernel
theorem dX1_squaredLength_29 : decode cX1_squaredLength 29 = .ok (.iload_n 3, 1) := by decide +kernel
theorem dX1_squaredLength_30 : decode cX1_squaredLength 30 = .ok (.iload_n 3, 1) := by decide +kernel
theorem dX1_squaredLength_31 : decode cX1_squaredLength 31 = .ok (.imul, 1) := by decide +kernel
theorem dX1_squaredLength_32 : decode cX1_squaredLength 32 = .ok (.iload 4, 2) := by decide +kernel
theorem dX1_squaredLength_34 : decode cX1_squaredLength 34 = .ok (.iload 4, 2) := by decide +kernel
theorem dX1_squaredLength_36 : decode cX1_squaredLength 36 = .ok (.imul, 1) := by decide +kernel
theorem dX1_squaredLength_37 : decode cX1_squaredLength 37 = .ok (.iadd, 1) := by decide +kernel
theorem dX1_squaredLength_38 : decode cX1_squaredLength 38 = .ok (.ireturn, 1) := by decide +kernel
set_option maxRecDepth 20000 in
theorem ggX1_meet_X1_rangesMeet : GoodIn wsX1_meet wsX1_rangesMeet := goodIn_r _ [6, 7, 8, 9, 10, 11, 12, 13] (by decide +kernel) (by decide +kernel)
set_option maxRecDepth 20000 in
theorem gX1_meet_X1_rangesMeet : GoodIn wsX1_meet (va_wsS RX1 32 yX1_rangesMeet wsX1_rangesMeet) := goodIn_app (goodIn_of _ (by decide +kernel)) ggX1_meet_X1_rangesMeet
set_option maxRecDepth 20000 in
theorem ggX1_meet_X1_straddles : GoodIn wsX1_meet wsX1_straddles := goodIn_r _ [17, 18, 19, 20, 5, 21, 1, 2, 22, 23, 24] (by decide +kernel) (by decide +kernel)
set_option maxRecDepth 20000 in
theorem gX1_meet_X1_straddles : GoodIn wsX1_meet (wsV RX1 36 RX1 yX1_straddles wsX1_straddles) := goodIn_app (goodIn_of _ (by decide +kernel)) ggX1_meet_X1_straddles
theorem dX1_meet_0 : decode cX1_meet 0 = .ok (.aload_n 0, 1) := by decide +kernel
theorem dX1_meet_1 : decode cX1_meet 1 = .ok (.getfield 9, 3) := by decide +kernel
theorem dX1_meet_4 : decode cX1_meet 4 = .ok (.iload_n 1, 1) := by decide +kernel
theorem dX1_meet_5 : decode cX1_meet 5 = .ok (.iload_n 2, 1) := by decide +kernel
theorem dX1_meet_6 : decode cX1_meet 6 = .ok (.iload_n 3, 1) := by decide +kernel
theorem dX1_meet_7 : decode cX1_meet 7 = .ok (.iload 4, 2) := by decide +kernel
theorem dX1_meet_9 : decode cX1_meet 9 = .ok (.invokestatic 32, 3) := by decide +kernel
theorem dX1_meet_12 : decode cX1_meet 12 = .ok (.ifCond .eq 46, 3) := by decide +kernel
theorem dX1_meet_15 : decode cX1_meet 15 = .ok (.aload_n 0, 1) := by decide +kernel
theorem dX1_meet_16 : decode cX1_meet 16 = .ok (.getfield 15, 3) := by decide +kernel
theorem dX1_meet_19 : decode cX1_meet 19 = .ok (.iload_n 1, 1) := by decide +kernel
theorem dX1_meet_20 : decode cX1_meet 20 = .ok (.iload_n 2, 1) := by decide +kernel
theorem dX1_meet_21 : decode cX1_meet 21 = .ok (.iload_n 3, 1) := by decide +kernel
theorem dX1_meet_22 : decode cX1_meet 22 = .ok (.iload 4, 2) := by decide +kernel
theorem dX1_meet_24 : decode cX1_meet 24 = .ok (.invokestatic 32, 3) := by decide +kernel
theorem dX1_meet_27 : decode cX1_meet 27 = .ok (.ifCond .eq 31, 3) := by decide +kernel
theorem dX1_meet_30 : decode cX1_meet 30 = .ok (.aload_n 0, 1) := by decide +kernel
theorem dX1_meet_31 : decode cX1_meet 31 = .ok (.iload_n 1, 1) := by decide +kernel
theorem dX1_meet_32 : decode cX1_meet 32 = .ok (.iload_n 2, 1) := by decide +kernel
theorem dX1_meet_33 : decode cX1_meet 33 = .ok (.iload_n 3, 1) := by decide +kernel
theorem dX1_meet_34 : decode cX1_meet 34 = .ok (.iload 4, 2) := by decide +kernel
theorem dX1_meet_36 : decode cX1_meet 36 = .ok (.invokevirtual 36, 3) := by decide +kernel
theorem dX1_meet_39 : decode cX1_meet 39 = .ok (.ifCond .eq 19, 3) := by decide +kernel
theorem dX1_meet_42 : decode cX1_meet 42 = .ok (.aload_n 0, 1) := by decide +kernel
theorem dX1_meet_43 : decode cX1_meet 43 = .ok (.iload_n 3, 1) := by decide +kernel
theorem dX1_meet_44 : decode cX1_meet 44 = .ok (.iload 4, 2) := by decide +kernel
theorem dX1_meet_46 : decode cX1_meet 46 = .ok (.iload_n 1, 1) := by decide +kernel
theorem dX1_meet_47 : decode cX1_meet 47 = .ok (.iload_n 2, 1) := by decide +kernel
theorem dX1_meet_48 : decode cX1_meet 48 = .ok (.invokevirtual 36, 3) := by decide +kernel
theorem dX1_meet_51 : decode cX1_meet 51 = .ok (.ifCond .eq 7, 3) := by decide +kernel
theorem dX1_meet_54 : decode cX1_meet 54 = .ok (.iconst 1, 1) := by decide +kernel
theorem dX1_meet_55 : decode cX1_meet 55 = .ok (.goto 4, 3) := by decide +kernel
theorem dX1_meet_58 : decode cX1_meet 58 = .ok (.iconst 0, 1) := by decide +kernel
theorem dX1_meet_59 : decode cX1_meet 59 = .ok (.ireturn, 1) := by decide +kernel
theorem dX1_rangesMeet_0 : decode cX1_rangesMeet 0 = .ok (.aload_n 0, 1) := by decide +kernel
theorem dX1_rangesMeet_1 : decode cX1_rangesMeet 1 = .ok (.iload_n 1, 1) := by decide +kernel
theorem dX1_rangesMeet_2 : decode cX1_rangesMeet 2 = .ok (.iaload, 1) := by decide +kernel
theorem dX1_rangesMeet_3 : decode cX1_rangesMeet 3 = .ok (.aload_n 0, 1) := by decide +kernel
theorem dX1_rangesMeet_4 : decode cX1_rangesMeet 4 = .ok (.iload_n 2, 1) := by decide +kernel
theorem dX1_rangesMeet_5 : decode cX1_rangesMeet 5 = .ok (.iaload, 1) := by decide +kernel
theorem dX1_rangesMeet_6 : decode cX1_rangesMeet 6 = .ok (.invokestatic 40, 3) := by decide +kernel
theorem dX1_rangesMeet_9 : decode cX1_rangesMeet 9 = .ok (.aload_n 0, 1) := by decide +kernel
theorem dX1_rangesMeet_10 : decode cX1_rangesMeet 10 = .ok (.iload_n 3, 1) := by decide +kernel
theorem dX1_rangesMeet_11 : decode cX1_rangesMeet 11 = .ok (.iaload, 1) := by decide +kernel
theorem dX1_rangesMeet_12 : decode cX1_rangesMeet 12 = .ok (.aload_n 0, 1) := by decide +kernel
theorem dX1_rangesMeet_13 : decode cX1_rangesMeet 13 = .ok (.iload 4, 2) := by decide +kernel
theorem dX1_rangesMeet_15 : decode cX1_rangesMeet 15 = .ok (.iaload, 1) := by decide +kernel
theorem dX1_rangesMeet_16 : decode cX1_rangesMeet 16 = .ok (.invokestatic 46, 3) := by decide +kernel
theorem dX1_rangesMeet_19 : decode cX1_rangesMeet 19 = .ok (.if_icmp .lt 29, 3) := by decide +kernel
theorem dX1_rangesMeet_22 : decode cX1_rangesMeet 22 = .ok (.aload_n 0, 1) := by decide +kernel
theorem dX1_rangesMeet_23 : decode cX1_rangesMeet 23 = .ok (.iload_n 3, 1) := by decide +kernel
theorem dX1_rangesMeet_24 : decode cX1_rangesMeet 24 = .ok (.iaload, 1) := by decide +kernel
theorem dX1_rangesMeet_25 : decode cX1_rangesMeet 25 = .ok (.aload_n 0, 1) := by decide +kernel
theorem dX1_rangesMeet_26 : decode cX1_rangesMeet 26 = .ok (.iload 4, 2) := by decide +kernel
theorem dX1_rangesMeet_28 : decode cX1_rangesMeet 28 = .ok (.iaload, 1) := by decide +kernel
theorem dX1_rangesMeet_29 : decode cX1_rangesMeet 29 = .ok (.invokestatic 40, 3) := by decide +kernel
theorem dX1_rangesMeet_32 : decode cX1_rangesMeet 32 = .ok (.aload_n 0, 1) := by decide +kernel
theorem dX1_rangesMeet_33 : decode cX1_rangesMeet 33 = .ok (.iload_n 1, 1) := by decide +kernel
theorem dX1_rangesMeet_34 : decode cX1_rangesMeet 34 = .ok (.iaload, 1) := by decide +kernel
theorem dX1_rangesMeet_35 : decode cX1_rangesMeet 35 = .ok (.aload_n 0, 1) := by decide +kernel
theorem dX1_rangesMeet_36 : decode cX1_rangesMeet 36 = .ok (.iload_n 2, 1) := by decide +kernel
theorem dX1_rangesMeet_37 : decode cX1_rangesMeet 37 = .ok (.iaload, 1) := by decide +kernel
theorem dX1_rangesMeet_38 : decode cX1_rangesMeet 38 = .ok (.invokestatic 46, 3) := by decide +kernel
theorem dX1_rangesMeet_41 : decode cX1_rangesMeet 41 = .ok (.if_icmp .lt 7, 3) := by decide +kernel
theorem dX1_rangesMeet_44 : decode cX1_rangesMeet 44 = .ok (.iconst 1, 1) := by decide +kernel
theorem dX1_rangesMeet_45 : decode cX1_rangesMeet 45 = .ok (.goto 4, 3) := by decide +kernel
theorem dX1_rangesMeet_48 : decode cX1_rangesMeet 48 = .ok (.iconst 0, 1) := by decide +kernel
theorem dX1_rangesMeet_49 : decode cX1_rangesMeet 49 = .ok (.ireturn, 1) := by decide +kernel
set_option maxRecDepth 20000 in
theorem ggX1_straddles_X1_turn : GoodIn wsX1_straddles wsX1_turn := goodIn_r _ [5, 6, 7, 8, 9, 10] (by decide +kernel) (by decide +kernel)
set_option maxRecDepth 20000 in
theorem gX1_straddles_X1_turn : GoodIn wsX1_straddles (wsV RX1 49 RX1 yX1_turn wsX1_turn) := goodIn_app (goodIn_of _ (by decide +kernel)) ggX1_straddles_X1_turn
theorem dX1_straddles_0 : decode cX1_straddles 0 = .ok (.aload_n 0, 1) := by decide +kernel
theorem dX1_straddles_1 : decode cX1_straddles 1 = .ok (.iload_n 1, 1) := by decide +kernel
theorem dX1_straddles_2 : decode cX1_straddles 2 = .ok (.iload_n 2, 1) := by decide +kernel
theorem dX1_straddles_3 : decode cX1_straddles 3 = .ok (.iload_n 3, 1) := by decide +kernel
theorem dX1_straddles_4 : decode cX1_straddles 4 = .ok (.invokevirtual 49, 3) := by decide +kernel
theorem dX1_straddles_7 : decode cX1_straddles 7 = .ok (.i2l, 1) := by decide +kernel
theorem dX1_straddles_8 : decode cX1_straddles 8 = .ok (.aload_n 0, 1) := by decide +kernel
theorem dX1_straddles_9 : decode cX1_straddles 9 = .ok (.iload_n 1, 1) := by decide +kernel
theorem dX1_straddles_10 : decode cX1_straddles 10 = .ok (.iload_n 2, 1) := by decide +kernel
theorem dX1_straddles_11 : decode cX1_straddles 11 = .ok (.iload 4, 2) := by decide +kernel
theorem dX1_straddles_13 : decode cX1_straddles 13 = .ok (.invokevirtual 49, 3) := by decide +kernel
theorem dX1_straddles_16 : decode cX1_straddles 16 = .ok (.i2l, 1) := by decide +kernel
theorem dX1_straddles_17 : decode cX1_straddles 17 = .ok (.lmul, 1) := by decide +kernel
theorem dX1_straddles_18 : decode cX1_straddles 18 = .ok (.lconst 0, 1) := by decide +kernel
theorem dX1_straddles_19 : decode cX1_straddles 19 = .ok (.lcmp, 1) := by decide +kernel
theorem dX1_straddles_20 : decode cX1_straddles 20 = .ok (.ifCond .gt 7, 3) := by decide +kernel
theorem dX1_straddles_23 : decode cX1_straddles 23 = .ok (.iconst 1, 1) := by decide +kernel
theorem dX1_straddles_24 : decode cX1_straddles 24 = .ok (.goto 4, 3) := by decide +kernel
theorem dX1_straddles_27 : decode cX1_straddles 27 = .ok (.iconst 0, 1) := by decide +kernel
theorem dX1_straddles_28 : decode cX1_straddles 28 = .ok (.ireturn, 1) := by decide +kernel
end
section
theorem dX2_init_0 : decode cX2_init 0 = .ok (.aload_n 0, 1) := by decide +kernel
theorem dX2_init_1 : decode cX2_init 1 = .ok (.invokespecial 3, 3) := by decide +kernel
theorem dX2_init_4 : decode cX2_init 4 = .ok (.aload_n 0, 1) := by decide +kernel
theorem dX2_init_5 : decode cX2_init 5 = .ok (.bipush 14, 2) := by decide +kernel
theorem dX2_init_7 : decode cX2_init 7 = .ok (.bipush 14, 2) := by decide +kernel
theorem dX2_init_9 : decode cX2_init 9 = .ok (.multianewarray 9 2, 4) := by decide +kernel
theorem dX2_init_13 : decode cX2_init 13 = .ok (.putfield 11, 3) := by decide +kernel
theorem dX2_init_16 : decode cX2_init 16 = .ok (.aload_n 0, 1) := by decide +kernel
theorem dX2_init_17 : decode cX2_init 17 = .ok (.bipush 14, 2) := by decide +kernel
theorem dX2_init_19 : decode cX2_init 19 = .ok (.bipush 14, 2) := by decide +kernel
theorem dX2_init_21 : decode cX2_init 21 = .ok (.multianewarray 9 2, 4) := by decide +kernel
theorem dX2_init_25 : decode cX2_init 25 = .ok (.putfield 16, 3) := by decide +kernel
theorem dX2_init_28 : decode cX2_init 28 = .ok (.aload_n 0, 1) := by decide +kernel
theorem dX2_init_29 : decode cX2_init 29 = .ok (.bipush 14, 2) := by decide +kernel
theorem dX2_init_31 : decode cX2_init 31 = .ok (.bipush 14, 2) := by decide +kernel
theorem dX2_init_33 : decode cX2_init 33 = .ok (.multianewarray 9 2, 4) := by decide +kernel
theorem dX2_init_37 : decode cX2_init 37 = .ok (.putfield 19, 3) := by decide +kernel
theorem dX2_init_40 : decode cX2_init 40 = .ok (.aload_n 0, 1) := by decide +kernel
theorem dX2_init_41 : decode cX2_init 41 = .ok (.bipush 14, 2) := by decide +kernel
theorem dX2_init_43 : decode cX2_init 43 = .ok (.bipush 14, 2) := by decide +kernel
theorem dX2_init_45 : decode cX2_init 45 = .ok (.multianewarray 9 2, 4) := by decide +kernel
theorem dX2_init_49 : decode cX2_init 49 = .ok (.putfield 22, 3) := by decide +kernel
theorem dX2_init_52 : decode cX2_init 52 = .ok (.return_, 1) := by decide +kernel
set_option maxRecDepth 20000 in
theorem ggX2_cut_X2_weighSpans : GoodIn wsX2_cut wsX2_weighSpans := goodIn_r _ [11, 1, 2, 3, 5, 12, 13, 14, 10, 15, 16, 17, 18, 19, 20, 21, 22, 23, 24, 93, 94, 95, 96, 97, 98, 99, 100, 101, 102, 103, 104, 105, 106, 107, 108, 109, 110, 111] (by decide +kernel) (by decide +kernel)
set_option maxRecDepth 20000 in
theorem gX2_cut_X2_weighSpans : GoodIn wsX2_cut (wsV RX2 37 RX2 yX2_weighSpans wsX2_weighSpans) := goodIn_app (goodIn_of _ (by decide +kernel)) ggX2_cut_X2_weighSpans
set_option maxRecDepth 20000 in
theorem ggX2_cut_X2_nameTriangles : GoodIn wsX2_cut wsX2_nameTriangles := goodIn_r _ [28, 29, 30, 1, 2, 16, 31, 32, 33, 34, 35, 36, 37, 38, 39, 40, 10, 41, 93, 94, 95, 96, 97, 98, 99, 100, 101, 102, 103, 104, 105, 106, 107, 108, 109, 110, 111] (by decide +kernel) (by decide +kernel)
set_option maxRecDepth 20000 in
theorem gX2_cut_X2_nameTriangles : GoodIn wsX2_cut (wsV RX2 47 RX2 yX2_nameTriangles wsX2_nameTriangles) := goodIn_app (goodIn_of _ (by decide +kernel)) ggX2_cut_X2_nameTriangles
set_option maxRecDepth 20000 in
theorem ggX2_cut_X2_nameDiagonals : GoodIn wsX2_cut wsX2_nameDiagonals := goodIn_r _ [45, 1, 2, 46, 17, 29, 30, 47, 48, 32, 33, 34, 35, 36, 37, 38, 49, 50, 51, 10, 52, 53, 54, 55, 56, 93, 94, 95, 96, 97, 98, 99, 100, 101, 102, 103, 104, 105, 106, 107, 108, 109, 110, 111] (by decide +kernel) (by decide +kernel)
set_option maxRecDepth 20000 in
theorem gX2_cut_X2_nameDiagonals : GoodIn wsX2_cut (wsV RX2 50 RX2 yX2_nameDiagonals wsX2_nameDiagonals) := goodIn_app (goodIn_of _ (by decide +kernel)) ggX2_cut_X2_nameDiagonals
set_option maxRecDepth 20000 in
theorem ggX2_cut_X2_merge : GoodIn wsX2_cut wsX2_merge := goodIn_r _ [60, 61, 47, 48, 62, 53, 54, 55, 35, 56, 37, 38, 63, 64, 65, 10, 66, 1, 67, 68, 69, 70, 2, 46, 71, 72, 73, 21, 74, 75, 76, 77, 78, 79, 80, 81, 82, 83, 84, 85, 86, 87, 23, 24, 88, 89, 90, 91, 92, 49, 50, 51, 52, 93, 94, 95, 96, 97, 98, 99, 100, 101, 102, 103, 104, 105, 106, 107, 108, 109, 110, 111] (by decide +kernel) (by decide +kernel)
set_option maxRecDepth 20000 in
theorem gX2_cut_X2_merge : GoodIn wsX2_cut (wsV RX2 53 RX2 yX2_merge wsX2_merge) := goodIn_app (goodIn_of _ (by decide +kernel)) ggX2_cut_X2_merge
theorem dX2_cut_0 : decode cX2_cut 0 = .ok (.aload_n 1, 1) := by decide +kernel
theorem dX2_cut_1 : decode cX2_cut 1 = .ok (.getfield 25, 3) := by decide +kernel
theorem dX2_cut_4 : decode cX2_cut 4 = .ok (.getfield 31, 3) := by decide +kernel
theorem dX2_cut_7 : decode cX2_cut 7 = .ok (.iconst 1, 1) := by decide +kernel
theorem dX2_cut_8 : decode cX2_cut 8 = .ok (.isub, 1) := by decide +kernel
theorem dX2_cut_9 : decode cX2_cut 9 = .ok (.istore_n 2, 1) := by decide +kernel
theorem dX2_cut_10 : decode cX2_cut 10 = .ok (.aload_n 0, 1) := by decide +kernel
theorem dX2_cut_11 : decode cX2_cut 11 = .ok (.aload_n 1, 1) := by decide +kernel
theorem dX2_cut_12 : decode cX2_cut 12 = .ok (.invokevirtual 37, 3) := by decide +kernel
theorem dX2_cut_15 : decode cX2_cut 15 = .ok (.aload_n 1, 1) := by decide +kernel
theorem dX2_cut_16 : decode cX2_cut 16 = .ok (.aload_n 0, 1) := by decide +kernel
theorem dX2_cut_17 : decode cX2_cut 17 = .ok (.getfield 11, 3) := by decide +kernel
theorem dX2_cut_20 : decode cX2_cut 20 = .ok (.iconst 0, 1) := by decide +kernel
theorem dX2_cut_21 : decode cX2_cut 21 = .ok (.aaload, 1) := by decide +kernel
theorem dX2_cut_22 : decode cX2_cut 22 = .ok (.iload_n 2, 1) := by decide +kernel
theorem dX2_cut_23 : decode cX2_cut 23 = .ok (.iaload, 1) := by decide +kernel
theorem dX2_cut_24 : decode cX2_cut 24 = .ok (.putfield 41, 3) := by decide +kernel
theorem dX2_cut_27 : decode cX2_cut 27 = .ok (.aload_n 1, 1) := by decide +kernel
theorem dX2_cut_28 : decode cX2_cut 28 = .ok (.aload_n 0, 1) := by decide +kernel
theorem dX2_cut_29 : decode cX2_cut 29 = .ok (.getfield 16, 3) := by decide +kernel
theorem dX2_cut_32 : decode cX2_cut 32 = .ok (.iconst 0, 1) := by decide +kernel
theorem dX2_cut_33 : decode cX2_cut 33 = .ok (.aaload, 1) := by decide +kernel
theorem dX2_cut_34 : decode cX2_cut 34 = .ok (.iload_n 2, 1) := by decide +kernel
theorem dX2_cut_35 : decode cX2_cut 35 = .ok (.iaload, 1) := by decide +kernel
theorem dX2_cut_36 : decode cX2_cut 36 = .ok (.putfield 44, 3) := by decide +kernel
theorem dX2_cut_39 : decode cX2_cut 39 = .ok (.aload_n 0, 1) := by decide +kernel
theorem dX2_cut_40 : decode cX2_cut 40 = .ok (.aload_n 1, 1) := by decide +kernel
theorem dX2_cut_41 : decode cX2_cut 41 = .ok (.invokevirtual 47, 3) := by decide +kernel
theorem dX2_cut_44 : decode cX2_cut 44 = .ok (.aload_n 0, 1) := by decide +kernel
theorem dX2_cut_45 : decode cX2_cut 45 = .ok (.aload_n 1, 1) := by decide +kernel
theorem dX2_cut_46 : decode cX2_cut 46 = .ok (.invokevirtual 50, 3) := by decide +kernel
theorem dX2_cut_49 : decode cX2_cut 49 = .ok (.aload_n 0, 1) := by decide +kernel
theorem dX2_cut_50 : decode cX2_cut 50 = .ok (.aload_n 1, 1) := by decide +kernel
theorem dX2_cut_51 : decode cX2_cut 51 = .ok (.invokevirtual 53, 3) := by decide +kernel
theorem dX2_cut_54 : decode cX2_cut 54 = .ok (.return_, 1) := by decide +kernel
set_option maxRecDepth 20000 in
theorem ggX2_weighSpans_X2_weighSpan : GoodIn wsX2_weighSpans wsX2_weighSpan := goodIn_r _ [9, 3, 4, 10, 11, 1, 12, 13, 14, 15, 16, 17, 18, 34, 35, 36, 37, 19, 20, 21, 22, 23, 24, 25, 26, 27, 28, 29, 30, 31, 32, 33] (by decide +kernel) (by decide +kernel)
set_option maxRecDepth 20000 in
theorem gX2_weighSpans_X2_weighSpan : GoodIn wsX2_weighSpans (wsV RX2 56 RX2 yX2_weighSpan wsX2_weighSpan) := goodIn_app (goodIn_of _ (by decide +kernel)) ggX2_weighSpans_X2_weighSpan
theorem dX2_weighSpans_0 : decode cX2_weighSpans 0 = .ok (.aload_n 1, 1) := by decide +kernel
theorem dX2_weighSpans_1 : decode cX2_weighSpans 1 = .ok (.getfield 25, 3) := by decide +kernel
theorem dX2_weighSpans_4 : decode cX2_weighSpans 4 = .ok (.getfield 31, 3) := by decide +kernel
theorem dX2_weighSpans_7 : decode cX2_weighSpans 7 = .ok (.istore_n 2, 1) := by decide +kernel
theorem dX2_weighSpans_8 : decode cX2_weighSpans 8 = .ok (.iconst 0, 1) := by decide +kernel
theorem dX2_weighSpans_9 : decode cX2_weighSpans 9 = .ok (.istore_n 3, 1) := by decide +kernel
theorem dX2_weighSpans_10 : decode cX2_weighSpans 10 = .ok (.iload_n 3, 1) := by decide +kernel
theorem dX2_weighSpans_11 : decode cX2_weighSpans 11 = .ok (.iconst 1, 1) := by decide +kernel
theorem dX2_weighSpans_12 : decode cX2_weighSpans 12 = .ok (.iadd, 1) := by decide +kernel
theorem dX2_weighSpans_13 : decode cX2_weighSpans 13 = .ok (.iload_n 2, 1) := by decide +kernel
theorem dX2_weighSpans_14 : decode cX2_weighSpans 14 = .ok (.if_icmp .ge 31, 3) := by decide +kernel
theorem dX2_weighSpans_17 : decode cX2_weighSpans 17 = .ok (.aload_n 0, 1) := by decide +kernel
theorem dX2_weighSpans_18 : decode cX2_weighSpans 18 = .ok (.getfield 11, 3) := by decide +kernel
theorem dX2_weighSpans_21 : decode cX2_weighSpans 21 = .ok (.iload_n 3, 1) := by decide +kernel
theorem dX2_weighSpans_22 : decode cX2_weighSpans 22 = .ok (.aaload, 1) := by decide +kernel
theorem dX2_weighSpans_23 : decode cX2_weighSpans 23 = .ok (.iload_n 3, 1) := by decide +kernel
theorem dX2_weighSpans_24 : decode cX2_weighSpans 24 = .ok (.iconst 1, 1) := by decide +kernel
theorem dX2_weighSpans_25 : decode cX2_weighSpans 25 = .ok (.iadd, 1) := by decide +kernel
theorem dX2_weighSpans_26 : decode cX2_weighSpans 26 = .ok (.iconst 1, 1) := by decide +kernel
theorem dX2_weighSpans_27 : decode cX2_weighSpans 27 = .ok (.iastore, 1) := by decide +kernel
theorem dX2_weighSpans_28 : decode cX2_weighSpans 28 = .ok (.aload_n 0, 1) := by decide +kernel
theorem dX2_weighSpans_29 : decode cX2_weighSpans 29 = .ok (.getfield 16, 3) := by decide +kernel
theorem dX2_weighSpans_32 : decode cX2_weighSpans 32 = .ok (.iload_n 3, 1) := by decide +kernel
theorem dX2_weighSpans_33 : decode cX2_weighSpans 33 = .ok (.aaload, 1) := by decide +kernel
theorem dX2_weighSpans_34 : decode cX2_weighSpans 34 = .ok (.iload_n 3, 1) := by decide +kernel
theorem dX2_weighSpans_35 : decode cX2_weighSpans 35 = .ok (.iconst 1, 1) := by decide +kernel
theorem dX2_weighSpans_36 : decode cX2_weighSpans 36 = .ok (.iadd, 1) := by decide +kernel
theorem dX2_weighSpans_37 : decode cX2_weighSpans 37 = .ok (.iconst 0, 1) := by decide +kernel
theorem dX2_weighSpans_38 : decode cX2_weighSpans 38 = .ok (.iastore, 1) := by decide +kernel
theorem dX2_weighSpans_39 : decode cX2_weighSpans 39 = .ok (.iinc 3 1, 3) := by decide +kernel
theorem dX2_weighSpans_42 : decode cX2_weighSpans 42 = .ok (.goto (-32), 3) := by decide +kernel
theorem dX2_weighSpans_45 : decode cX2_weighSpans 45 = .ok (.iconst 2, 1) := by decide +kernel
theorem dX2_weighSpans_46 : decode cX2_weighSpans 46 = .ok (.istore_n 3, 1) := by decide +kernel
theorem dX2_weighSpans_47 : decode cX2_weighSpans 47 = .ok (.iload_n 3, 1) := by decide +kernel
theorem dX2_weighSpans_48 : decode cX2_weighSpans 48 = .ok (.iload_n 2, 1) := by decide +kernel
theorem dX2_weighSpans_49 : decode cX2_weighSpans 49 = .ok (.if_icmp .ge 37, 3) := by decide +kernel
theorem dX2_weighSpans_52 : decode cX2_weighSpans 52 = .ok (.iconst 0, 1) := by decide +kernel
theorem dX2_weighSpans_53 : decode cX2_weighSpans 53 = .ok (.istore 4, 2) := by decide +kernel
theorem dX2_weighSpans_55 : decode cX2_weighSpans 55 = .ok (.iload 4, 2) := by decide +kernel
theorem dX2_weighSpans_57 : decode cX2_weighSpans 57 = .ok (.iload_n 3, 1) := by decide +kernel
theorem dX2_weighSpans_58 : decode cX2_weighSpans 58 = .ok (.iadd, 1) := by decide +kernel
theorem dX2_weighSpans_59 : decode cX2_weighSpans 59 = .ok (.iload_n 2, 1) := by decide +kernel
theorem dX2_weighSpans_60 : decode cX2_weighSpans 60 = .ok (.if_icmp .ge 20, 3) := by decide +kernel
theorem dX2_weighSpans_63 : decode cX2_weighSpans 63 = .ok (.aload_n 0, 1) := by decide +kernel
theorem dX2_weighSpans_64 : decode cX2_weighSpans 64 = .ok (.aload_n 1, 1) := by decide +kernel
theorem dX2_weighSpans_65 : decode cX2_weighSpans 65 = .ok (.iload 4, 2) := by decide +kernel
theorem dX2_weighSpans_67 : decode cX2_weighSpans 67 = .ok (.iload 4, 2) := by decide +kernel
theorem dX2_weighSpans_69 : decode cX2_weighSpans 69 = .ok (.iload_n 3, 1) := by decide +kernel
theorem dX2_weighSpans_70 : decode cX2_weighSpans 70 = .ok (.iadd, 1) := by decide +kernel
theorem dX2_weighSpans_71 : decode cX2_weighSpans 71 = .ok (.invokevirtual 56, 3) := by decide +kernel
theorem dX2_weighSpans_74 : decode cX2_weighSpans 74 = .ok (.iinc 4 1, 3) := by decide +kernel
theorem dX2_weighSpans_77 : decode cX2_weighSpans 77 = .ok (.goto (-22), 3) := by decide +kernel
theorem dX2_weighSpans_80 : decode cX2_weighSpans 80 = .ok (.iinc 3 1, 3) := by decide +kernel
theorem dX2_weighSpans_83 : decode cX2_weighSpans 83 = .ok (.goto (-36), 3) := by decide +kernel
theorem dX2_weighSpans_86 : decode cX2_weighSpans 86 = .ok (.return_, 1) := by decide +kernel
set_option maxRecDepth 20000 in
theorem ggX2_weighSpan_X1_squaredLength : GoodIn wsX2_weighSpan wsX1_squaredLength := goodIn_r _ [10, 11, 12, 29, 30, 31] (by decide +kernel) (by decide +kernel)
set_option maxRecDepth 20000 in
theorem gX2_weighSpan_X1_squaredLength : GoodIn wsX2_weighSpan (wsV RX2 63 RX1 yX1_squaredLength wsX1_squaredLength) := goodIn_app (goodIn_of _ (by decide +kernel)) ggX2_weighSpan_X1_squaredLength
theorem dX2_weighSpan_0 : decode cX2_weighSpan 0 = .ok (.aload_n 0, 1) := by decide +kernel
theorem dX2_weighSpan_1 : decode cX2_weighSpan 1 = .ok (.getfield 11, 3) := by decide +kernel
theorem dX2_weighSpan_4 : decode cX2_weighSpan 4 = .ok (.iload_n 2, 1) := by decide +kernel
theorem dX2_weighSpan_5 : decode cX2_weighSpan 5 = .ok (.aaload, 1) := by decide +kernel
theorem dX2_weighSpan_6 : decode cX2_weighSpan 6 = .ok (.iload_n 3, 1) := by decide +kernel
theorem dX2_weighSpan_7 : decode cX2_weighSpan 7 = .ok (.iconst 0, 1) := by decide +kernel
theorem dX2_weighSpan_8 : decode cX2_weighSpan 8 = .ok (.iastore, 1) := by decide +kernel
theorem dX2_weighSpan_9 : decode cX2_weighSpan 9 = .ok (.aload_n 0, 1) := by decide +kernel
theorem dX2_weighSpan_10 : decode cX2_weighSpan 10 = .ok (.getfield 16, 3) := by decide +kernel
theorem dX2_weighSpan_13 : decode cX2_weighSpan 13 = .ok (.iload_n 2, 1) := by decide +kernel
theorem dX2_weighSpan_14 : decode cX2_weighSpan 14 = .ok (.aaload, 1) := by decide +kernel
theorem dX2_weighSpan_15 : decode cX2_weighSpan 15 = .ok (.iload_n 3, 1) := by decide +kernel
theorem dX2_weighSpan_16 : decode cX2_weighSpan 16 = .ok (.iconst 0, 1) := by decide +kernel
theorem dX2_weighSpan_17 : decode cX2_weighSpan 17 = .ok (.iastore, 1) := by decide +kernel
theorem dX2_weighSpan_18 : decode cX2_weighSpan 18 = .ok (.aload_n 0, 1) := by decide +kernel
theorem dX2_weighSpan_19 : decode cX2_weighSpan 19 = .ok (.getfield 19, 3) := by decide +kernel
theorem dX2_weighSpan_22 : decode cX2_weighSpan 22 = .ok (.iload_n 2, 1) := by decide +kernel
theorem dX2_weighSpan_23 : decode cX2_weighSpan 23 = .ok (.aaload, 1) := by decide +kernel
theorem dX2_weighSpan_24 : decode cX2_weighSpan 24 = .ok (.iload_n 3, 1) := by decide +kernel
theorem dX2_weighSpan_25 : decode cX2_weighSpan 25 = .ok (.iload_n 2, 1) := by decide +kernel
theorem dX2_weighSpan_26 : decode cX2_weighSpan 26 = .ok (.iconst 1, 1) := by decide +kernel
theorem dX2_weighSpan_27 : decode cX2_weighSpan 27 = .ok (.iadd, 1) := by decide +kernel
theorem dX2_weighSpan_28 : decode cX2_weighSpan 28 = .ok (.iastore, 1) := by decide +kernel
theorem dX2_weighSpan_29 : decode cX2_weighSpan 29 = .ok (.aload_n 1, 1) := by decide +kernel
theorem dX2_weighSpan_30 : decode cX2_weighSpan 30 = .ok (.getfield 60, 3) := by decide +kernel
theorem dX2_weighSpan_33 : decode cX2_weighSpan 33 = .ok (.iload_n 2, 1) := by decide +kernel
theorem dX2_weighSpan_34 : decode cX2_weighSpan 34 = .ok (.aaload, 1) := by decide +kernel
theorem dX2_weighSpan_35 : decode cX2_weighSpan 35 = .ok (.iload_n 3, 1) := by decide +kernel
theorem dX2_weighSpan_36 : decode cX2_weighSpan 36 = .ok (.iaload, 1) := by decide +kernel
theorem dX2_weighSpan_37 : decode cX2_weighSpan 37 = .ok (.ifCond .ne 4, 3) := by decide +kernel
theorem dX2_weighSpan_40 : decode cX2_weighSpan 40 = .ok (.return_, 1) := by decide +kernel
theorem dX2_weighSpan_41 : decode cX2_weighSpan 41 = .ok (.iload_n 2, 1) := by decide +kernel
theorem dX2_weighSpan_42 : decode cX2_weighSpan 42 = .ok (.iconst 1, 1) := by decide +kernel
theorem dX2_weighSpan_43 : decode cX2_weighSpan 43 = .ok (.iadd, 1) := by decide +kernel
theorem dX2_weighSpan_44 : decode cX2_weighSpan 44 = .ok (.istore 4, 2) := by decide +kernel
theorem dX2_weighSpan_46 : decode cX2_weighSpan 46 = .ok (.iload 4, 2) := by decide +kernel
theorem dX2_weighSpan_48 : decode cX2_weighSpan 48 = .ok (.iload_n 3, 1) := by decide +kernel
theorem dX2_weighSpan_49 : decode cX2_weighSpan 49 = .ok (.if_icmp .ge 113, 3) := by decide +kernel
theorem dX2_weighSpan_52 : decode cX2_weighSpan 52 = .ok (.aload_n 0, 1) := by decide +kernel
theorem dX2_weighSpan_53 : decode cX2_weighSpan 53 = .ok (.getfield 11, 3) := by decide +kernel
theorem dX2_weighSpan_56 : decode cX2_weighSpan 56 = .ok (.iload_n 2, 1) := by decide +kernel
theorem dX2_weighSpan_57 : decode cX2_weighSpan 57 = .ok (.aaload, 1) := by decide +kernel
theorem dX2_weighSpan_58 : decode cX2_weighSpan 58 = .ok (.iload 4, 2) := by decide +kernel
theorem dX2_weighSpan_60 : decode cX2_weighSpan 60 = .ok (.iaload, 1) := by decide +kernel
theorem dX2_weighSpan_61 : decode cX2_weighSpan 61 = .ok (.aload_n 0, 1) := by decide +kernel
theorem dX2_weighSpan_62 : decode cX2_weighSpan 62 = .ok (.getfield 11, 3) := by decide +kernel
theorem dX2_weighSpan_65 : decode cX2_weighSpan 65 = .ok (.iload 4, 2) := by decide +kernel
theorem dX2_weighSpan_67 : decode cX2_weighSpan 67 = .ok (.aaload, 1) := by decide +kernel
theorem dX2_weighSpan_68 : decode cX2_weighSpan 68 = .ok (.iload_n 3, 1) := by decide +kernel
theorem dX2_weighSpan_69 : decode cX2_weighSpan 69 = .ok (.iaload, 1) := by decide +kernel
theorem dX2_weighSpan_70 : decode cX2_weighSpan 70 = .ok (.imul, 1) := by decide +kernel
theorem dX2_weighSpan_71 : decode cX2_weighSpan 71 = .ok (.istore 5, 2) := by decide +kernel
theorem dX2_weighSpan_73 : decode cX2_weighSpan 73 = .ok (.aload_n 0, 1) := by decide +kernel
theorem dX2_weighSpan_74 : decode cX2_weighSpan 74 = .ok (.getfield 16, 3) := by decide +kernel
theorem dX2_weighSpan_77 : decode cX2_weighSpan 77 = .ok (.iload_n 2, 1) := by decide +kernel
theorem dX2_weighSpan_78 : decode cX2_weighSpan 78 = .ok (.aaload, 1) := by decide +kernel
theorem dX2_weighSpan_79 : decode cX2_weighSpan 79 = .ok (.iload 4, 2) := by decide +kernel
theorem dX2_weighSpan_81 : decode cX2_weighSpan 81 = .ok (.iaload, 1) := by decide +kernel
theorem dX2_weighSpan_82 : decode cX2_weighSpan 82 = .ok (.aload_n 0, 1) := by decide +kernel
theorem dX2_weighSpan_83 : decode cX2_weighSpan 83 = .ok (.getfield 16, 3) := by decide +kernel
theorem dX2_weighSpan_86 : decode cX2_weighSpan 86 = .ok (.iload 4, 2) := by decide +kernel
theorem dX2_weighSpan_88 : decode cX2_weighSpan 88 = .ok (.aaload, 1) := by decide +kernel
theorem dX2_weighSpan_89 : decode cX2_weighSpan 89 = .ok (.iload_n 3, 1) := by decide +kernel
theorem dX2_weighSpan_90 : decode cX2_weighSpan 90 = .ok (.iaload, 1) := by decide +kernel
theorem dX2_weighSpan_91 : decode cX2_weighSpan 91 = .ok (.iadd, 1) := by decide +kernel
theorem dX2_weighSpan_92 : decode cX2_weighSpan 92 = .ok (.istore 6, 2) := by decide +kernel
theorem dX2_weighSpan_94 : decode cX2_weighSpan 94 = .ok (.iload 5, 2) := by decide +kernel
theorem dX2_weighSpan_96 : decode cX2_weighSpan 96 = .ok (.ifCond .le 47, 3) := by decide +kernel
theorem dX2_weighSpan_99 : decode cX2_weighSpan 99 = .ok (.aload_n 0, 1) := by decide +kernel
theorem dX2_weighSpan_100 : decode cX2_weighSpan 100 = .ok (.getfield 11, 3) := by decide +kernel
theorem dX2_weighSpan_103 : decode cX2_weighSpan 103 = .ok (.iload_n 2, 1) := by decide +kernel
theorem dX2_weighSpan_104 : decode cX2_weighSpan 104 = .ok (.aaload, 1) := by decide +kernel
theorem dX2_weighSpan_105 : decode cX2_weighSpan 105 = .ok (.iload_n 3, 1) := by decide +kernel
theorem dX2_weighSpan_106 : decode cX2_weighSpan 106 = .ok (.iaload, 1) := by decide +kernel
theorem dX2_weighSpan_107 : decode cX2_weighSpan 107 = .ok (.ifCond .eq 16, 3) := by decide +kernel
theorem dX2_weighSpan_110 : decode cX2_weighSpan 110 = .ok (.iload 6, 2) := by decide +kernel
theorem dX2_weighSpan_112 : decode cX2_weighSpan 112 = .ok (.aload_n 0, 1) := by decide +kernel
theorem dX2_weighSpan_113 : decode cX2_weighSpan 113 = .ok (.getfield 16, 3) := by decide +kernel
theorem dX2_weighSpan_116 : decode cX2_weighSpan 116 = .ok (.iload_n 2, 1) := by decide +kernel
theorem dX2_weighSpan_117 : decode cX2_weighSpan 117 = .ok (.aaload, 1) := by decide +kernel
theorem dX2_weighSpan_118 : decode cX2_weighSpan 118 = .ok (.iload_n 3, 1) := by decide +kernel
theorem dX2_weighSpan_119 : decode cX2_weighSpan 119 = .ok (.iaload, 1) := by decide +kernel
theorem dX2_weighSpan_120 : decode cX2_weighSpan 120 = .ok (.if_icmp .ge 23, 3) := by decide +kernel
theorem dX2_weighSpan_123 : decode cX2_weighSpan 123 = .ok (.aload_n 0, 1) := by decide +kernel
theorem dX2_weighSpan_124 : decode cX2_weighSpan 124 = .ok (.getfield 16, 3) := by decide +kernel
theorem dX2_weighSpan_127 : decode cX2_weighSpan 127 = .ok (.iload_n 2, 1) := by decide +kernel
theorem dX2_weighSpan_128 : decode cX2_weighSpan 128 = .ok (.aaload, 1) := by decide +kernel
theorem dX2_weighSpan_129 : decode cX2_weighSpan 129 = .ok (.iload_n 3, 1) := by decide +kernel
theorem dX2_weighSpan_130 : decode cX2_weighSpan 130 = .ok (.iload 6, 2) := by decide +kernel
theorem dX2_weighSpan_132 : decode cX2_weighSpan 132 = .ok (.iastore, 1) := by decide +kernel
theorem dX2_weighSpan_133 : decode cX2_weighSpan 133 = .ok (.aload_n 0, 1) := by decide +kernel
theorem dX2_weighSpan_134 : decode cX2_weighSpan 134 = .ok (.getfield 19, 3) := by decide +kernel
theorem dX2_weighSpan_137 : decode cX2_weighSpan 137 = .ok (.iload_n 2, 1) := by decide +kernel
theorem dX2_weighSpan_138 : decode cX2_weighSpan 138 = .ok (.aaload, 1) := by decide +kernel
theorem dX2_weighSpan_139 : decode cX2_weighSpan 139 = .ok (.iload_n 3, 1) := by decide +kernel
theorem dX2_weighSpan_140 : decode cX2_weighSpan 140 = .ok (.iload 4, 2) := by decide +kernel
theorem dX2_weighSpan_142 : decode cX2_weighSpan 142 = .ok (.iastore, 1) := by decide +kernel
theorem dX2_weighSpan_143 : decode cX2_weighSpan 143 = .ok (.aload_n 0, 1) := by decide +kernel
theorem dX2_weighSpan_144 : decode cX2_weighSpan 144 = .ok (.getfield 11, 3) := by decide +kernel
theorem dX2_weighSpan_147 : decode cX2_weighSpan 147 = .ok (.iload_n 2, 1) := by decide +kernel
theorem dX2_weighSpan_148 : decode cX2_weighSpan 148 = .ok (.aaload, 1) := by decide +kernel
theorem dX2_weighSpan_149 : decode cX2_weighSpan 149 = .ok (.iload_n 3, 1) := by decide +kernel
theorem dX2_weighSpan_150 : decode cX2_weighSpan 150 = .ok (.dup2, 1) := by decide +kernel
theorem dX2_weighSpan_151 : decode cX2_weighSpan 151 = .ok (.iaload, 1) := by decide +kernel
theorem dX2_weighSpan_152 : decode cX2_weighSpan 152 = .ok (.iload 5, 2) := by decide +kernel
theorem dX2_weighSpan_154 : decode cX2_weighSpan 154 = .ok (.iadd, 1) := by decide +kernel
theorem dX2_weighSpan_155 : decode cX2_weighSpan 155 = .ok (.iastore, 1) := by decide +kernel
theorem dX2_weighSpan_156 : decode cX2_weighSpan 156 = .ok (.iinc 4 1, 3) := by decide +kernel
theorem dX2_weighSpan_159 : decode cX2_weighSpan 159 = .ok (.goto (-113), 3) := by decide +kernel
theorem dX2_weighSpan_162 : decode cX2_weighSpan 162 = .ok (.aload_n 1, 1) := by decide +kernel
theorem dX2_weighSpan_163 : decode cX2_weighSpan 163 = .ok (.getfield 60, 3) := by decide +kernel
theorem dX2_weighSpan_166 : decode cX2_weighSpan 166 = .ok (.iload_n 2, 1) := by decide +kernel
theorem dX2_weighSpan_167 : decode cX2_weighSpan 167 = .ok (.aaload, 1) := by decide +kernel
theorem dX2_weighSpan_168 : decode cX2_weighSpan 168 = .ok (.iload_n 3, 1) := by decide +kernel
theorem dX2_weighSpan_169 : decode cX2_weighSpan 169 = .ok (.iaload, 1) := by decide +kernel
theorem dX2_weighSpan_170 : decode cX2_weighSpan 170 = .ok (.iconst 1, 1) := by decide +kernel
theorem dX2_weighSpan_171 : decode cX2_weighSpan 171 = .ok (.if_icmp .ne 23, 3) := by decide +kernel
theorem dX2_weighSpan_174 : decode cX2_weighSpan 174 = .ok (.aload_n 0, 1) := by decide +kernel
theorem dX2_weighSpan_175 : decode cX2_weighSpan 175 = .ok (.getfield 16, 3) := by decide +kernel
theorem dX2_weighSpan_178 : decode cX2_weighSpan 178 = .ok (.iload_n 2, 1) := by decide +kernel
theorem dX2_weighSpan_179 : decode cX2_weighSpan 179 = .ok (.aaload, 1) := by decide +kernel
theorem dX2_weighSpan_180 : decode cX2_weighSpan 180 = .ok (.iload_n 3, 1) := by decide +kernel
theorem dX2_weighSpan_181 : decode cX2_weighSpan 181 = .ok (.dup2, 1) := by decide +kernel
theorem dX2_weighSpan_182 : decode cX2_weighSpan 182 = .ok (.iaload, 1) := by decide +kernel
theorem dX2_weighSpan_183 : decode cX2_weighSpan 183 = .ok (.aload_n 1, 1) := by decide +kernel
theorem dX2_weighSpan_184 : decode cX2_weighSpan 184 = .ok (.getfield 25, 3) := by decide +kernel
theorem dX2_weighSpan_187 : decode cX2_weighSpan 187 = .ok (.iload_n 2, 1) := by decide +kernel
theorem dX2_weighSpan_188 : decode cX2_weighSpan 188 = .ok (.iload_n 3, 1) := by decide +kernel
theorem dX2_weighSpan_189 : decode cX2_weighSpan 189 = .ok (.invokevirtual 63, 3) := by decide +kernel
theorem dX2_weighSpan_192 : decode cX2_weighSpan 192 = .ok (.iadd, 1) := by decide +kernel
theorem dX2_weighSpan_193 : decode cX2_weighSpan 193 = .ok (.iastore, 1) := by decide +kernel
theorem dX2_weighSpan_194 : decode cX2_weighSpan 194 = .ok (.return_, 1) := by decide +kernel
set_option maxRecDepth 20000 in
theorem ggX2_nameTriangles_X3_triangleCount : GoodIn wsX2_nameTriangles wsX3_triangleCount := goodIn_r _ [11, 12, 13, 18, 19, 20, 21, 22, 23, 24, 25, 26, 27, 28, 29, 30, 31, 32] (by decide +kernel) (by decide +kernel)
set_option maxRecDepth 20000 in
theorem gX2_nameTriangles_X3_triangleCount : GoodIn wsX2_nameTriangles (wsV RX2 74 RX3 yX3_triangleCount wsX3_triangleCount) := goodIn_app (goodIn_of _ (by decide +kernel)) ggX2_nameTriangles_X3_triangleCount
set_option maxRecDepth 20000 in
theorem ggX2_nameTriangles_X2_nameSpan : GoodIn wsX2_nameTriangles wsX2_nameSpan := goodIn_r _ [17, 1, 2, 18, 19, 20, 21, 22, 23, 24, 25, 26, 27, 28, 29] (by decide +kernel) (by decide +kernel)
set_option maxRecDepth 20000 in
theorem gX2_nameTriangles_X2_nameSpan : GoodIn wsX2_nameTriangles (va_wsS RX2 81 yX2_nameSpan wsX2_nameSpan) := goodIn_app (goodIn_of _ (by decide +kernel)) ggX2_nameTriangles_X2_nameSpan
theorem dX2_nameTriangles_0 : decode cX2_nameTriangles 0 = .ok (.aload_n 1, 1) := by decide +kernel
theorem dX2_nameTriangles_1 : decode cX2_nameTriangles 1 = .ok (.getfield 67, 3) := by decide +kernel
theorem dX2_nameTriangles_4 : decode cX2_nameTriangles 4 = .ok (.iconst 0, 1) := by decide +kernel
theorem dX2_nameTriangles_5 : decode cX2_nameTriangles 5 = .ok (.iconst 0, 1) := by decide +kernel
theorem dX2_nameTriangles_6 : decode cX2_nameTriangles 6 = .ok (.iastore, 1) := by decide +kernel
theorem dX2_nameTriangles_7 : decode cX2_nameTriangles 7 = .ok (.aload_n 1, 1) := by decide +kernel
theorem dX2_nameTriangles_8 : decode cX2_nameTriangles 8 = .ok (.getfield 71, 3) := by decide +kernel
theorem dX2_nameTriangles_11 : decode cX2_nameTriangles 11 = .ok (.iconst 0, 1) := by decide +kernel
theorem dX2_nameTriangles_12 : decode cX2_nameTriangles 12 = .ok (.aload_n 1, 1) := by decide +kernel
theorem dX2_nameTriangles_13 : decode cX2_nameTriangles 13 = .ok (.getfield 25, 3) := by decide +kernel
theorem dX2_nameTriangles_16 : decode cX2_nameTriangles 16 = .ok (.getfield 31, 3) := by decide +kernel
theorem dX2_nameTriangles_19 : decode cX2_nameTriangles 19 = .ok (.iconst 1, 1) := by decide +kernel
theorem dX2_nameTriangles_20 : decode cX2_nameTriangles 20 = .ok (.isub, 1) := by decide +kernel
theorem dX2_nameTriangles_21 : decode cX2_nameTriangles 21 = .ok (.iastore, 1) := by decide +kernel
theorem dX2_nameTriangles_22 : decode cX2_nameTriangles 22 = .ok (.iconst 0, 1) := by decide +kernel
theorem dX2_nameTriangles_23 : decode cX2_nameTriangles 23 = .ok (.istore_n 2, 1) := by decide +kernel
theorem dX2_nameTriangles_24 : decode cX2_nameTriangles 24 = .ok (.iload_n 2, 1) := by decide +kernel
theorem dX2_nameTriangles_25 : decode cX2_nameTriangles 25 = .ok (.aload_n 1, 1) := by decide +kernel
theorem dX2_nameTriangles_26 : decode cX2_nameTriangles 26 = .ok (.invokevirtual 74, 3) := by decide +kernel
theorem dX2_nameTriangles_29 : decode cX2_nameTriangles 29 = .ok (.if_icmp .ge 84, 3) := by decide +kernel
theorem dX2_nameTriangles_32 : decode cX2_nameTriangles 32 = .ok (.aload_n 1, 1) := by decide +kernel
theorem dX2_nameTriangles_33 : decode cX2_nameTriangles 33 = .ok (.getfield 67, 3) := by decide +kernel
theorem dX2_nameTriangles_36 : decode cX2_nameTriangles 36 = .ok (.iload_n 2, 1) := by decide +kernel
theorem dX2_nameTriangles_37 : decode cX2_nameTriangles 37 = .ok (.iaload, 1) := by decide +kernel
theorem dX2_nameTriangles_38 : decode cX2_nameTriangles 38 = .ok (.istore_n 3, 1) := by decide +kernel
theorem dX2_nameTriangles_39 : decode cX2_nameTriangles 39 = .ok (.aload_n 1, 1) := by decide +kernel
theorem dX2_nameTriangles_40 : decode cX2_nameTriangles 40 = .ok (.getfield 71, 3) := by decide +kernel
theorem dX2_nameTriangles_43 : decode cX2_nameTriangles 43 = .ok (.iload_n 2, 1) := by decide +kernel
theorem dX2_nameTriangles_44 : decode cX2_nameTriangles 44 = .ok (.iaload, 1) := by decide +kernel
theorem dX2_nameTriangles_45 : decode cX2_nameTriangles 45 = .ok (.istore 4, 2) := by decide +kernel
theorem dX2_nameTriangles_47 : decode cX2_nameTriangles 47 = .ok (.aload_n 0, 1) := by decide +kernel
theorem dX2_nameTriangles_48 : decode cX2_nameTriangles 48 = .ok (.getfield 19, 3) := by decide +kernel
theorem dX2_nameTriangles_51 : decode cX2_nameTriangles 51 = .ok (.iload_n 3, 1) := by decide +kernel
theorem dX2_nameTriangles_52 : decode cX2_nameTriangles 52 = .ok (.aaload, 1) := by decide +kernel
theorem dX2_nameTriangles_53 : decode cX2_nameTriangles 53 = .ok (.iload 4, 2) := by decide +kernel
theorem dX2_nameTriangles_55 : decode cX2_nameTriangles 55 = .ok (.iaload, 1) := by decide +kernel
theorem dX2_nameTriangles_56 : decode cX2_nameTriangles 56 = .ok (.istore 5, 2) := by decide +kernel
theorem dX2_nameTriangles_58 : decode cX2_nameTriangles 58 = .ok (.aload_n 1, 1) := by decide +kernel
theorem dX2_nameTriangles_59 : decode cX2_nameTriangles 59 = .ok (.getfield 78, 3) := by decide +kernel
theorem dX2_nameTriangles_62 : decode cX2_nameTriangles 62 = .ok (.iload_n 2, 1) := by decide +kernel
theorem dX2_nameTriangles_63 : decode cX2_nameTriangles 63 = .ok (.iload 5, 2) := by decide +kernel
theorem dX2_nameTriangles_65 : decode cX2_nameTriangles 65 = .ok (.iastore, 1) := by decide +kernel
theorem dX2_nameTriangles_66 : decode cX2_nameTriangles 66 = .ok (.iload 5, 2) := by decide +kernel
theorem dX2_nameTriangles_68 : decode cX2_nameTriangles 68 = .ok (.iload_n 3, 1) := by decide +kernel
theorem dX2_nameTriangles_69 : decode cX2_nameTriangles 69 = .ok (.isub, 1) := by decide +kernel
theorem dX2_nameTriangles_70 : decode cX2_nameTriangles 70 = .ok (.iconst 1, 1) := by decide +kernel
theorem dX2_nameTriangles_71 : decode cX2_nameTriangles 71 = .ok (.if_icmp .le 13, 3) := by decide +kernel
theorem dX2_nameTriangles_74 : decode cX2_nameTriangles 74 = .ok (.aload_n 1, 1) := by decide +kernel
theorem dX2_nameTriangles_75 : decode cX2_nameTriangles 75 = .ok (.iload_n 2, 1) := by decide +kernel
theorem dX2_nameTriangles_76 : decode cX2_nameTriangles 76 = .ok (.iconst 1, 1) := by decide +kernel
theorem dX2_nameTriangles_77 : decode cX2_nameTriangles 77 = .ok (.iadd, 1) := by decide +kernel
theorem dX2_nameTriangles_78 : decode cX2_nameTriangles 78 = .ok (.iload_n 3, 1) := by decide +kernel
theorem dX2_nameTriangles_79 : decode cX2_nameTriangles 79 = .ok (.iload 5, 2) := by decide +kernel
theorem dX2_nameTriangles_81 : decode cX2_nameTriangles 81 = .ok (.invokestatic 81, 3) := by decide +kernel
theorem dX2_nameTriangles_84 : decode cX2_nameTriangles 84 = .ok (.iload 4, 2) := by decide +kernel
theorem dX2_nameTriangles_86 : decode cX2_nameTriangles 86 = .ok (.iload 5, 2) := by decide +kernel
theorem dX2_nameTriangles_88 : decode cX2_nameTriangles 88 = .ok (.isub, 1) := by decide +kernel
theorem dX2_nameTriangles_89 : decode cX2_nameTriangles 89 = .ok (.iconst 1, 1) := by decide +kernel
theorem dX2_nameTriangles_90 : decode cX2_nameTriangles 90 = .ok (.if_icmp .le 17, 3) := by decide +kernel
theorem dX2_nameTriangles_93 : decode cX2_nameTriangles 93 = .ok (.aload_n 1, 1) := by decide +kernel
theorem dX2_nameTriangles_94 : decode cX2_nameTriangles 94 = .ok (.iload_n 2, 1) := by decide +kernel
theorem dX2_nameTriangles_95 : decode cX2_nameTriangles 95 = .ok (.iload 5, 2) := by decide +kernel
theorem dX2_nameTriangles_97 : decode cX2_nameTriangles 97 = .ok (.iadd, 1) := by decide +kernel
theorem dX2_nameTriangles_98 : decode cX2_nameTriangles 98 = .ok (.iload_n 3, 1) := by decide +kernel
theorem dX2_nameTriangles_99 : decode cX2_nameTriangles 99 = .ok (.isub, 1) := by decide +kernel
theorem dX2_nameTriangles_100 : decode cX2_nameTriangles 100 = .ok (.iload 5, 2) := by decide +kernel
theorem dX2_nameTriangles_102 : decode cX2_nameTriangles 102 = .ok (.iload 4, 2) := by decide +kernel
theorem dX2_nameTriangles_104 : decode cX2_nameTriangles 104 = .ok (.invokestatic 81, 3) := by decide +kernel
theorem dX2_nameTriangles_107 : decode cX2_nameTriangles 107 = .ok (.iinc 2 1, 3) := by decide +kernel
theorem dX2_nameTriangles_110 : decode cX2_nameTriangles 110 = .ok (.goto (-86), 3) := by decide +kernel
theorem dX2_nameTriangles_113 : decode cX2_nameTriangles 113 = .ok (.return_, 1) := by decide +kernel
theorem dX2_nameSpan_0 : decode cX2_nameSpan 0 = .ok (.aload_n 0, 1) := by decide +kernel
theorem dX2_nameSpan_1 : decode cX2_nameSpan 1 = .ok (.getfield 67, 3) := by decide +kernel
theorem dX2_nameSpan_4 : decode cX2_nameSpan 4 = .ok (.iload_n 1, 1) := by decide +kernel
theorem dX2_nameSpan_5 : decode cX2_nameSpan 5 = .ok (.iload_n 2, 1) := by decide +kernel
theorem dX2_nameSpan_6 : decode cX2_nameSpan 6 = .ok (.iastore, 1) := by decide +kernel
theorem dX2_nameSpan_7 : decode cX2_nameSpan 7 = .ok (.aload_n 0, 1) := by decide +kernel
theorem dX2_nameSpan_8 : decode cX2_nameSpan 8 = .ok (.getfield 71, 3) := by decide +kernel
theorem dX2_nameSpan_11 : decode cX2_nameSpan 11 = .ok (.iload_n 1, 1) := by decide +kernel
theorem dX2_nameSpan_12 : decode cX2_nameSpan 12 = .ok (.iload_n 3, 1) := by decide +kernel
theorem dX2_nameSpan_13 : decode cX2_nameSpan 13 = .ok (.iastore, 1) := by decide +kernel
theorem dX2_nameSpan_14 : decode cX2_nameSpan 14 = .ok (.return_, 1) := by decide +kernel
set_option maxRecDepth 20000 in
theorem ggX2_nameDiagonals_X3_triangleCount : GoodIn wsX2_nameDiagonals wsX3_triangleCount := goodIn_r _ [13, 14, 15, 25, 26, 27, 28, 29, 30, 31, 32, 33, 34, 35, 36, 37, 38, 39] (by decide +kernel) (by decide +kernel)
set_option maxRecDepth 20000 in
theorem gX2_nameDiagonals_X3_triangleCount : GoodIn wsX2_nameDiagonals (wsV RX2 74 RX3 yX3_triangleCount wsX3_triangleCount) := goodIn_app (goodIn_of _ (by decide +kernel)) ggX2_nameDiagonals_X3_triangleCount
set_option maxRecDepth 20000 in
theorem ggX2_nameDiagonals_X2_join : GoodIn wsX2_nameDiagonals wsX2_join := goodIn_r _ [20, 3, 40, 41, 42, 43] (by decide +kernel) (by decide +kernel)
set_option maxRecDepth 20000 in
theorem gX2_nameDiagonals_X2_join : GoodIn wsX2_nameDiagonals (wsV RX2 85 RX2 yX2_join wsX2_join) := goodIn_app (goodIn_of _ (by decide +kernel)) ggX2_nameDiagonals_X2_join
set_option maxRecDepth 20000 in
theorem ggX2_nameDiagonals_X3_diagonalCount : GoodIn wsX2_nameDiagonals wsX3_diagonalCount := goodIn_r _ [24, 14, 15, 25, 26, 27, 28, 29, 30, 31, 32, 33, 34, 35, 36, 37, 38, 39] (by decide +kernel) (by decide +kernel)
set_option maxRecDepth 20000 in
theorem gX2_nameDiagonals_X3_diagonalCount : GoodIn wsX2_nameDiagonals (wsV RX2 89 RX3 yX3_diagonalCount wsX3_diagonalCount) := goodIn_app (goodIn_of _ (by decide +kernel)) ggX2_nameDiagonals_X3_diagonalCount
theorem dX2_nameDiagonals_0 : decode cX2_nameDiagonals 0 = .ok (.aload_n 1, 1) := by decide +kernel
theorem dX2_nameDiagonals_1 : decode cX2_nameDiagonals 1 = .ok (.getfield 25, 3) := by decide +kernel
theorem dX2_nameDiagonals_4 : decode cX2_nameDiagonals 4 = .ok (.getfield 31, 3) := by decide +kernel
theorem dX2_nameDiagonals_7 : decode cX2_nameDiagonals 7 = .ok (.istore_n 2, 1) := by decide +kernel
theorem dX2_nameDiagonals_8 : decode cX2_nameDiagonals 8 = .ok (.iconst 0, 1) := by decide +kernel
theorem dX2_nameDiagonals_9 : decode cX2_nameDiagonals 9 = .ok (.istore_n 3, 1) := by decide +kernel
theorem dX2_nameDiagonals_10 : decode cX2_nameDiagonals 10 = .ok (.iload_n 3, 1) := by decide +kernel
theorem dX2_nameDiagonals_11 : decode cX2_nameDiagonals 11 = .ok (.iload_n 2, 1) := by decide +kernel
theorem dX2_nameDiagonals_12 : decode cX2_nameDiagonals 12 = .ok (.if_icmp .ge 51, 3) := by decide +kernel
theorem dX2_nameDiagonals_15 : decode cX2_nameDiagonals 15 = .ok (.iconst 0, 1) := by decide +kernel
theorem dX2_nameDiagonals_16 : decode cX2_nameDiagonals 16 = .ok (.istore 4, 2) := by decide +kernel
theorem dX2_nameDiagonals_18 : decode cX2_nameDiagonals 18 = .ok (.iload 4, 2) := by decide +kernel
theorem dX2_nameDiagonals_20 : decode cX2_nameDiagonals 20 = .ok (.iload_n 2, 1) := by decide +kernel
theorem dX2_nameDiagonals_21 : decode cX2_nameDiagonals 21 = .ok (.if_icmp .ge 36, 3) := by decide +kernel
theorem dX2_nameDiagonals_24 : decode cX2_nameDiagonals 24 = .ok (.aload_n 0, 1) := by decide +kernel
theorem dX2_nameDiagonals_25 : decode cX2_nameDiagonals 25 = .ok (.getfield 22, 3) := by decide +kernel
theorem dX2_nameDiagonals_28 : decode cX2_nameDiagonals 28 = .ok (.iload_n 3, 1) := by decide +kernel
theorem dX2_nameDiagonals_29 : decode cX2_nameDiagonals 29 = .ok (.aaload, 1) := by decide +kernel
theorem dX2_nameDiagonals_30 : decode cX2_nameDiagonals 30 = .ok (.iload 4, 2) := by decide +kernel
theorem dX2_nameDiagonals_32 : decode cX2_nameDiagonals 32 = .ok (.aload_n 1, 1) := by decide +kernel
theorem dX2_nameDiagonals_33 : decode cX2_nameDiagonals 33 = .ok (.getfield 60, 3) := by decide +kernel
theorem dX2_nameDiagonals_36 : decode cX2_nameDiagonals 36 = .ok (.iload_n 3, 1) := by decide +kernel
theorem dX2_nameDiagonals_37 : decode cX2_nameDiagonals 37 = .ok (.aaload, 1) := by decide +kernel
theorem dX2_nameDiagonals_38 : decode cX2_nameDiagonals 38 = .ok (.iload 4, 2) := by decide +kernel
theorem dX2_nameDiagonals_40 : decode cX2_nameDiagonals 40 = .ok (.iaload, 1) := by decide +kernel
theorem dX2_nameDiagonals_41 : decode cX2_nameDiagonals 41 = .ok (.iconst 2, 1) := by decide +kernel
theorem dX2_nameDiagonals_42 : decode cX2_nameDiagonals 42 = .ok (.if_icmp .ne 7, 3) := by decide +kernel
theorem dX2_nameDiagonals_45 : decode cX2_nameDiagonals 45 = .ok (.iconst 1, 1) := by decide +kernel
theorem dX2_nameDiagonals_46 : decode cX2_nameDiagonals 46 = .ok (.goto 4, 3) := by decide +kernel
theorem dX2_nameDiagonals_49 : decode cX2_nameDiagonals 49 = .ok (.iconst 0, 1) := by decide +kernel
theorem dX2_nameDiagonals_50 : decode cX2_nameDiagonals 50 = .ok (.iastore, 1) := by decide +kernel
theorem dX2_nameDiagonals_51 : decode cX2_nameDiagonals 51 = .ok (.iinc 4 1, 3) := by decide +kernel
theorem dX2_nameDiagonals_54 : decode cX2_nameDiagonals 54 = .ok (.goto (-36), 3) := by decide +kernel
theorem dX2_nameDiagonals_57 : decode cX2_nameDiagonals 57 = .ok (.iinc 3 1, 3) := by decide +kernel
theorem dX2_nameDiagonals_60 : decode cX2_nameDiagonals 60 = .ok (.goto (-50), 3) := by decide +kernel
theorem dX2_nameDiagonals_63 : decode cX2_nameDiagonals 63 = .ok (.iconst 1, 1) := by decide +kernel
theorem dX2_nameDiagonals_64 : decode cX2_nameDiagonals 64 = .ok (.istore_n 3, 1) := by decide +kernel
theorem dX2_nameDiagonals_65 : decode cX2_nameDiagonals 65 = .ok (.iload_n 3, 1) := by decide +kernel
theorem dX2_nameDiagonals_66 : decode cX2_nameDiagonals 66 = .ok (.aload_n 1, 1) := by decide +kernel
theorem dX2_nameDiagonals_67 : decode cX2_nameDiagonals 67 = .ok (.invokevirtual 74, 3) := by decide +kernel
theorem dX2_nameDiagonals_70 : decode cX2_nameDiagonals 70 = .ok (.if_icmp .ge 26, 3) := by decide +kernel
theorem dX2_nameDiagonals_73 : decode cX2_nameDiagonals 73 = .ok (.aload_n 0, 1) := by decide +kernel
theorem dX2_nameDiagonals_74 : decode cX2_nameDiagonals 74 = .ok (.aload_n 1, 1) := by decide +kernel
theorem dX2_nameDiagonals_75 : decode cX2_nameDiagonals 75 = .ok (.getfield 67, 3) := by decide +kernel
theorem dX2_nameDiagonals_78 : decode cX2_nameDiagonals 78 = .ok (.iload_n 3, 1) := by decide +kernel
theorem dX2_nameDiagonals_79 : decode cX2_nameDiagonals 79 = .ok (.iaload, 1) := by decide +kernel
theorem dX2_nameDiagonals_80 : decode cX2_nameDiagonals 80 = .ok (.aload_n 1, 1) := by decide +kernel
theorem dX2_nameDiagonals_81 : decode cX2_nameDiagonals 81 = .ok (.getfield 71, 3) := by decide +kernel
theorem dX2_nameDiagonals_84 : decode cX2_nameDiagonals 84 = .ok (.iload_n 3, 1) := by decide +kernel
theorem dX2_nameDiagonals_85 : decode cX2_nameDiagonals 85 = .ok (.iaload, 1) := by decide +kernel
theorem dX2_nameDiagonals_86 : decode cX2_nameDiagonals 86 = .ok (.iconst 1, 1) := by decide +kernel
theorem dX2_nameDiagonals_87 : decode cX2_nameDiagonals 87 = .ok (.invokevirtual 85, 3) := by decide +kernel
theorem dX2_nameDiagonals_90 : decode cX2_nameDiagonals 90 = .ok (.iinc 3 1, 3) := by decide +kernel
theorem dX2_nameDiagonals_93 : decode cX2_nameDiagonals 93 = .ok (.goto (-28), 3) := by decide +kernel
theorem dX2_nameDiagonals_96 : decode cX2_nameDiagonals 96 = .ok (.iconst 0, 1) := by decide +kernel
theorem dX2_nameDiagonals_97 : decode cX2_nameDiagonals 97 = .ok (.istore_n 3, 1) := by decide +kernel
theorem dX2_nameDiagonals_98 : decode cX2_nameDiagonals 98 = .ok (.iconst 0, 1) := by decide +kernel
theorem dX2_nameDiagonals_99 : decode cX2_nameDiagonals 99 = .ok (.istore 4, 2) := by decide +kernel
theorem dX2_nameDiagonals_101 : decode cX2_nameDiagonals 101 = .ok (.iload 4, 2) := by decide +kernel
theorem dX2_nameDiagonals_103 : decode cX2_nameDiagonals 103 = .ok (.iload_n 2, 1) := by decide +kernel
theorem dX2_nameDiagonals_104 : decode cX2_nameDiagonals 104 = .ok (.if_icmp .ge 94, 3) := by decide +kernel
theorem dX2_nameDiagonals_107 : decode cX2_nameDiagonals 107 = .ok (.iload 4, 2) := by decide +kernel
theorem dX2_nameDiagonals_109 : decode cX2_nameDiagonals 109 = .ok (.iconst 1, 1) := by decide +kernel
theorem dX2_nameDiagonals_110 : decode cX2_nameDiagonals 110 = .ok (.iadd, 1) := by decide +kernel
theorem dX2_nameDiagonals_111 : decode cX2_nameDiagonals 111 = .ok (.istore 5, 2) := by decide +kernel
theorem dX2_nameDiagonals_113 : decode cX2_nameDiagonals 113 = .ok (.iload 5, 2) := by decide +kernel
theorem dX2_nameDiagonals_115 : decode cX2_nameDiagonals 115 = .ok (.iload_n 2, 1) := by decide +kernel
theorem dX2_nameDiagonals_116 : decode cX2_nameDiagonals 116 = .ok (.if_icmp .ge 76, 3) := by decide +kernel
theorem dX2_nameDiagonals_119 : decode cX2_nameDiagonals 119 = .ok (.aload_n 0, 1) := by decide +kernel
theorem dX2_nameDiagonals_120 : decode cX2_nameDiagonals 120 = .ok (.getfield 22, 3) := by decide +kernel
theorem dX2_nameDiagonals_123 : decode cX2_nameDiagonals 123 = .ok (.iload 4, 2) := by decide +kernel
theorem dX2_nameDiagonals_125 : decode cX2_nameDiagonals 125 = .ok (.aaload, 1) := by decide +kernel
theorem dX2_nameDiagonals_126 : decode cX2_nameDiagonals 126 = .ok (.iload 5, 2) := by decide +kernel
theorem dX2_nameDiagonals_128 : decode cX2_nameDiagonals 128 = .ok (.iaload, 1) := by decide +kernel
theorem dX2_nameDiagonals_129 : decode cX2_nameDiagonals 129 = .ok (.iconst 1, 1) := by decide +kernel
theorem dX2_nameDiagonals_130 : decode cX2_nameDiagonals 130 = .ok (.if_icmp .ne 21, 3) := by decide +kernel
theorem dX2_nameDiagonals_133 : decode cX2_nameDiagonals 133 = .ok (.aload_n 1, 1) := by decide +kernel
theorem dX2_nameDiagonals_134 : decode cX2_nameDiagonals 134 = .ok (.getfield 60, 3) := by decide +kernel
theorem dX2_nameDiagonals_137 : decode cX2_nameDiagonals 137 = .ok (.iload 4, 2) := by decide +kernel
theorem dX2_nameDiagonals_139 : decode cX2_nameDiagonals 139 = .ok (.aaload, 1) := by decide +kernel
theorem dX2_nameDiagonals_140 : decode cX2_nameDiagonals 140 = .ok (.iload 5, 2) := by decide +kernel
theorem dX2_nameDiagonals_142 : decode cX2_nameDiagonals 142 = .ok (.iaload, 1) := by decide +kernel
theorem dX2_nameDiagonals_143 : decode cX2_nameDiagonals 143 = .ok (.iconst 1, 1) := by decide +kernel
theorem dX2_nameDiagonals_144 : decode cX2_nameDiagonals 144 = .ok (.if_icmp .ne 7, 3) := by decide +kernel
theorem dX2_nameDiagonals_147 : decode cX2_nameDiagonals 147 = .ok (.iconst 1, 1) := by decide +kernel
theorem dX2_nameDiagonals_148 : decode cX2_nameDiagonals 148 = .ok (.goto 4, 3) := by decide +kernel
theorem dX2_nameDiagonals_151 : decode cX2_nameDiagonals 151 = .ok (.iconst 0, 1) := by decide +kernel
theorem dX2_nameDiagonals_152 : decode cX2_nameDiagonals 152 = .ok (.istore 6, 2) := by decide +kernel
theorem dX2_nameDiagonals_154 : decode cX2_nameDiagonals 154 = .ok (.iload 6, 2) := by decide +kernel
theorem dX2_nameDiagonals_156 : decode cX2_nameDiagonals 156 = .ok (.ifCond .eq 30, 3) := by decide +kernel
theorem dX2_nameDiagonals_159 : decode cX2_nameDiagonals 159 = .ok (.iload_n 3, 1) := by decide +kernel
theorem dX2_nameDiagonals_160 : decode cX2_nameDiagonals 160 = .ok (.aload_n 1, 1) := by decide +kernel
theorem dX2_nameDiagonals_161 : decode cX2_nameDiagonals 161 = .ok (.invokevirtual 89, 3) := by decide +kernel
theorem dX2_nameDiagonals_164 : decode cX2_nameDiagonals 164 = .ok (.if_icmp .ge 22, 3) := by decide +kernel
theorem dX2_nameDiagonals_167 : decode cX2_nameDiagonals 167 = .ok (.aload_n 1, 1) := by decide +kernel
theorem dX2_nameDiagonals_168 : decode cX2_nameDiagonals 168 = .ok (.getfield 92, 3) := by decide +kernel
theorem dX2_nameDiagonals_171 : decode cX2_nameDiagonals 171 = .ok (.iload_n 3, 1) := by decide +kernel
theorem dX2_nameDiagonals_172 : decode cX2_nameDiagonals 172 = .ok (.iload 4, 2) := by decide +kernel
theorem dX2_nameDiagonals_174 : decode cX2_nameDiagonals 174 = .ok (.iastore, 1) := by decide +kernel
theorem dX2_nameDiagonals_175 : decode cX2_nameDiagonals 175 = .ok (.aload_n 1, 1) := by decide +kernel
theorem dX2_nameDiagonals_176 : decode cX2_nameDiagonals 176 = .ok (.getfield 95, 3) := by decide +kernel
theorem dX2_nameDiagonals_179 : decode cX2_nameDiagonals 179 = .ok (.iload_n 3, 1) := by decide +kernel
theorem dX2_nameDiagonals_180 : decode cX2_nameDiagonals 180 = .ok (.iload 5, 2) := by decide +kernel
theorem dX2_nameDiagonals_182 : decode cX2_nameDiagonals 182 = .ok (.iastore, 1) := by decide +kernel
theorem dX2_nameDiagonals_183 : decode cX2_nameDiagonals 183 = .ok (.iinc 3 1, 3) := by decide +kernel
theorem dX2_nameDiagonals_186 : decode cX2_nameDiagonals 186 = .ok (.iinc 5 1, 3) := by decide +kernel
theorem dX2_nameDiagonals_189 : decode cX2_nameDiagonals 189 = .ok (.goto (-76), 3) := by decide +kernel
theorem dX2_nameDiagonals_192 : decode cX2_nameDiagonals 192 = .ok (.iinc 4 1, 3) := by decide +kernel
theorem dX2_nameDiagonals_195 : decode cX2_nameDiagonals 195 = .ok (.goto (-94), 3) := by decide +kernel
theorem dX2_nameDiagonals_198 : decode cX2_nameDiagonals 198 = .ok (.return_, 1) := by decide +kernel
theorem dX2_join_0 : decode cX2_join 0 = .ok (.aload_n 0, 1) := by decide +kernel
theorem dX2_join_1 : decode cX2_join 1 = .ok (.getfield 22, 3) := by decide +kernel
theorem dX2_join_4 : decode cX2_join 4 = .ok (.iload_n 1, 1) := by decide +kernel
theorem dX2_join_5 : decode cX2_join 5 = .ok (.aaload, 1) := by decide +kernel
theorem dX2_join_6 : decode cX2_join 6 = .ok (.iload_n 2, 1) := by decide +kernel
theorem dX2_join_7 : decode cX2_join 7 = .ok (.iload_n 3, 1) := by decide +kernel
theorem dX2_join_8 : decode cX2_join 8 = .ok (.iastore, 1) := by decide +kernel
theorem dX2_join_9 : decode cX2_join 9 = .ok (.aload_n 0, 1) := by decide +kernel
theorem dX2_join_10 : decode cX2_join 10 = .ok (.getfield 22, 3) := by decide +kernel
theorem dX2_join_13 : decode cX2_join 13 = .ok (.iload_n 2, 1) := by decide +kernel
theorem dX2_join_14 : decode cX2_join 14 = .ok (.aaload, 1) := by decide +kernel
theorem dX2_join_15 : decode cX2_join 15 = .ok (.iload_n 1, 1) := by decide +kernel
theorem dX2_join_16 : decode cX2_join 16 = .ok (.iload_n 3, 1) := by decide +kernel
theorem dX2_join_17 : decode cX2_join 17 = .ok (.iastore, 1) := by decide +kernel
theorem dX2_join_18 : decode cX2_join 18 = .ok (.return_, 1) := by decide +kernel
set_option maxRecDepth 20000 in
theorem ggX2_merge_X3_diagonalCount : GoodIn wsX2_merge wsX3_diagonalCount := goodIn_r _ [9, 10, 11, 53, 54, 55, 56, 57, 58, 59, 60, 61, 62, 63, 64, 65, 66, 67] (by decide +kernel) (by decide +kernel)
set_option maxRecDepth 20000 in
theorem gX2_merge_X3_diagonalCount : GoodIn wsX2_merge (wsV RX2 89 RX3 yX3_diagonalCount wsX3_diagonalCount) := goodIn_app (goodIn_of _ (by decide +kernel)) ggX2_merge_X3_diagonalCount
set_option maxRecDepth 20000 in
theorem ggX2_merge_X2_isConvexWithout : GoodIn wsX2_merge wsX2_isConvexWithout := goodIn_r _ [16, 17, 18, 19, 20, 15, 21, 22, 23, 24, 25, 26, 27, 28, 29, 30, 31, 32, 33, 34, 35, 36, 37, 38, 39, 40, 41, 42, 43, 44, 45, 46, 8, 47, 48, 53, 54, 55, 56, 57, 58, 59, 60, 61, 62, 63, 64, 65, 66, 67, 68, 69, 70, 71] (by decide +kernel) (by decide +kernel)
set_option maxRecDepth 20000 in
theorem gX2_merge_X2_isConvexWithout : GoodIn wsX2_merge (wsV RX2 101 RX2 yX2_isConvexWithout wsX2_isConvexWithout) := goodIn_app (goodIn_of _ (by decide +kernel)) ggX2_merge_X2_isConvexWithout
set_option maxRecDepth 20000 in
theorem ggX2_merge_X2_join : GoodIn wsX2_merge wsX2_join := goodIn_r _ [52, 23, 68, 69, 70, 71] (by decide +kernel) (by decide +kernel)
set_option maxRecDepth 20000 in
theorem gX2_merge_X2_join : GoodIn wsX2_merge (wsV RX2 85 RX2 yX2_join wsX2_join) := goodIn_app (goodIn_of _ (by decide +kernel)) ggX2_merge_X2_join
theorem dX2_merge_0 : decode cX2_merge 0 = .ok (.aload_n 1, 1) := by decide +kernel
theorem dX2_merge_1 : decode cX2_merge 1 = .ok (.iconst 1, 1) := by decide +kernel
theorem dX2_merge_2 : decode cX2_merge 2 = .ok (.putfield 98, 3) := by decide +kernel
theorem dX2_merge_5 : decode cX2_merge 5 = .ok (.iconst 0, 1) := by decide +kernel
theorem dX2_merge_6 : decode cX2_merge 6 = .ok (.istore_n 2, 1) := by decide +kernel
theorem dX2_merge_7 : decode cX2_merge 7 = .ok (.iload_n 2, 1) := by decide +kernel
theorem dX2_merge_8 : decode cX2_merge 8 = .ok (.aload_n 1, 1) := by decide +kernel
theorem dX2_merge_9 : decode cX2_merge 9 = .ok (.invokevirtual 89, 3) := by decide +kernel
theorem dX2_merge_12 : decode cX2_merge 12 = .ok (.if_icmp .ge 81, 3) := by decide +kernel
theorem dX2_merge_15 : decode cX2_merge 15 = .ok (.aload_n 1, 1) := by decide +kernel
theorem dX2_merge_16 : decode cX2_merge 16 = .ok (.getfield 92, 3) := by decide +kernel
theorem dX2_merge_19 : decode cX2_merge 19 = .ok (.iload_n 2, 1) := by decide +kernel
theorem dX2_merge_20 : decode cX2_merge 20 = .ok (.iaload, 1) := by decide +kernel
theorem dX2_merge_21 : decode cX2_merge 21 = .ok (.istore_n 3, 1) := by decide +kernel
theorem dX2_merge_22 : decode cX2_merge 22 = .ok (.aload_n 1, 1) := by decide +kernel
theorem dX2_merge_23 : decode cX2_merge 23 = .ok (.getfield 95, 3) := by decide +kernel
theorem dX2_merge_26 : decode cX2_merge 26 = .ok (.iload_n 2, 1) := by decide +kernel
theorem dX2_merge_27 : decode cX2_merge 27 = .ok (.iaload, 1) := by decide +kernel
theorem dX2_merge_28 : decode cX2_merge 28 = .ok (.istore 4, 2) := by decide +kernel
theorem dX2_merge_30 : decode cX2_merge 30 = .ok (.aload_n 0, 1) := by decide +kernel
theorem dX2_merge_31 : decode cX2_merge 31 = .ok (.aload_n 1, 1) := by decide +kernel
theorem dX2_merge_32 : decode cX2_merge 32 = .ok (.iload_n 3, 1) := by decide +kernel
theorem dX2_merge_33 : decode cX2_merge 33 = .ok (.iload 4, 2) := by decide +kernel
theorem dX2_merge_35 : decode cX2_merge 35 = .ok (.invokevirtual 101, 3) := by decide +kernel
theorem dX2_merge_38 : decode cX2_merge 38 = .ok (.ifCond .eq 32, 3) := by decide +kernel
theorem dX2_merge_41 : decode cX2_merge 41 = .ok (.aload_n 0, 1) := by decide +kernel
theorem dX2_merge_42 : decode cX2_merge 42 = .ok (.aload_n 1, 1) := by decide +kernel
theorem dX2_merge_43 : decode cX2_merge 43 = .ok (.iload 4, 2) := by decide +kernel
theorem dX2_merge_45 : decode cX2_merge 45 = .ok (.iload_n 3, 1) := by decide +kernel
theorem dX2_merge_46 : decode cX2_merge 46 = .ok (.invokevirtual 101, 3) := by decide +kernel
theorem dX2_merge_49 : decode cX2_merge 49 = .ok (.ifCond .eq 21, 3) := by decide +kernel
theorem dX2_merge_52 : decode cX2_merge 52 = .ok (.aload_n 0, 1) := by decide +kernel
theorem dX2_merge_53 : decode cX2_merge 53 = .ok (.iload_n 3, 1) := by decide +kernel
theorem dX2_merge_54 : decode cX2_merge 54 = .ok (.iload 4, 2) := by decide +kernel
theorem dX2_merge_56 : decode cX2_merge 56 = .ok (.iconst 0, 1) := by decide +kernel
theorem dX2_merge_57 : decode cX2_merge 57 = .ok (.invokevirtual 85, 3) := by decide +kernel
theorem dX2_merge_60 : decode cX2_merge 60 = .ok (.aload_n 1, 1) := by decide +kernel
theorem dX2_merge_61 : decode cX2_merge 61 = .ok (.getfield 105, 3) := by decide +kernel
theorem dX2_merge_64 : decode cX2_merge 64 = .ok (.iload_n 2, 1) := by decide +kernel
theorem dX2_merge_65 : decode cX2_merge 65 = .ok (.iconst 0, 1) := by decide +kernel
theorem dX2_merge_66 : decode cX2_merge 66 = .ok (.iastore, 1) := by decide +kernel
theorem dX2_merge_67 : decode cX2_merge 67 = .ok (.goto 20, 3) := by decide +kernel
theorem dX2_merge_70 : decode cX2_merge 70 = .ok (.aload_n 1, 1) := by decide +kernel
theorem dX2_merge_71 : decode cX2_merge 71 = .ok (.getfield 105, 3) := by decide +kernel
theorem dX2_merge_74 : decode cX2_merge 74 = .ok (.iload_n 2, 1) := by decide +kernel
theorem dX2_merge_75 : decode cX2_merge 75 = .ok (.iconst 1, 1) := by decide +kernel
theorem dX2_merge_76 : decode cX2_merge 76 = .ok (.iastore, 1) := by decide +kernel
theorem dX2_merge_77 : decode cX2_merge 77 = .ok (.aload_n 1, 1) := by decide +kernel
theorem dX2_merge_78 : decode cX2_merge 78 = .ok (.dup, 1) := by decide +kernel
theorem dX2_merge_79 : decode cX2_merge 79 = .ok (.getfield 98, 3) := by decide +kernel
theorem dX2_merge_82 : decode cX2_merge 82 = .ok (.iconst 1, 1) := by decide +kernel
theorem dX2_merge_83 : decode cX2_merge 83 = .ok (.iadd, 1) := by decide +kernel
theorem dX2_merge_84 : decode cX2_merge 84 = .ok (.putfield 98, 3) := by decide +kernel
theorem dX2_merge_87 : decode cX2_merge 87 = .ok (.iinc 2 1, 3) := by decide +kernel
theorem dX2_merge_90 : decode cX2_merge 90 = .ok (.goto (-83), 3) := by decide +kernel
theorem dX2_merge_93 : decode cX2_merge 93 = .ok (.return_, 1) := by decide +kernel
set_option maxRecDepth 20000 in
theorem ggX2_isConvexWithout_X2_joinedBefore : GoodIn wsX2_isConvexWithout wsX2_joinedBefore := goodIn_r _ [6, 7, 8, 9, 10, 11, 12, 13, 14, 47, 48, 49, 50, 51, 52, 53] (by decide +kernel) (by decide +kernel)
set_option maxRecDepth 20000 in
theorem gX2_isConvexWithout_X2_joinedBefore : GoodIn wsX2_isConvexWithout (wsV RX2 108 RX2 yX2_joinedBefore wsX2_joinedBefore) := goodIn_app (goodIn_of _ (by decide +kernel)) ggX2_isConvexWithout_X2_joinedBefore
set_option maxRecDepth 20000 in
theorem ggX2_isConvexWithout_X2_joinedAfter : GoodIn wsX2_isConvexWithout wsX2_joinedAfter := goodIn_r _ [18, 7, 8, 19, 20, 21, 12, 22, 14, 47, 48, 49, 50, 51, 52, 53] (by decide +kernel) (by decide +kernel)
set_option maxRecDepth 20000 in
theorem gX2_isConvexWithout_X2_joinedAfter : GoodIn wsX2_isConvexWithout (wsV RX2 112 RX2 yX2_joinedAfter wsX2_joinedAfter) := goodIn_app (goodIn_of _ (by decide +kernel)) ggX2_isConvexWithout_X2_joinedAfter
set_option maxRecDepth 20000 in
theorem ggX2_isConvexWithout_X1_turn : GoodIn wsX2_isConvexWithout wsX1_turn := goodIn_r _ [26, 27, 28, 47, 48, 49] (by decide +kernel) (by decide +kernel)
set_option maxRecDepth 20000 in
theorem gX2_isConvexWithout_X1_turn : GoodIn wsX2_isConvexWithout (wsV RX2 115 RX1 yX1_turn wsX1_turn) := goodIn_app (goodIn_of _ (by decide +kernel)) ggX2_isConvexWithout_X1_turn
set_option maxRecDepth 20000 in
theorem ggX2_isConvexWithout_X3_hand : GoodIn wsX2_isConvexWithout wsX3_hand := goodIn_r _ [33, 34, 35, 36, 37, 38, 39, 40, 41, 42, 43, 44, 45, 46] (by decide +kernel) (by decide +kernel)
set_option maxRecDepth 20000 in
theorem gX2_isConvexWithout_X3_hand : GoodIn wsX2_isConvexWithout (wsV RX2 119 RX3 yX3_hand wsX3_hand) := goodIn_app (goodIn_of _ (by decide +kernel)) ggX2_isConvexWithout_X3_hand
theorem dX2_isConvexWithout_0 : decode cX2_isConvexWithout 0 = .ok (.aload_n 0, 1) := by decide +kernel
theorem dX2_isConvexWithout_1 : decode cX2_isConvexWithout 1 = .ok (.aload_n 1, 1) := by decide +kernel
theorem dX2_isConvexWithout_2 : decode cX2_isConvexWithout 2 = .ok (.getfield 25, 3) := by decide +kernel
theorem dX2_isConvexWithout_5 : decode cX2_isConvexWithout 5 = .ok (.iload_n 2, 1) := by decide +kernel
theorem dX2_isConvexWithout_6 : decode cX2_isConvexWithout 6 = .ok (.iload_n 3, 1) := by decide +kernel
theorem dX2_isConvexWithout_7 : decode cX2_isConvexWithout 7 = .ok (.invokevirtual 108, 3) := by decide +kernel
theorem dX2_isConvexWithout_10 : decode cX2_isConvexWithout 10 = .ok (.istore 4, 2) := by decide +kernel
theorem dX2_isConvexWithout_12 : decode cX2_isConvexWithout 12 = .ok (.aload_n 0, 1) := by decide +kernel
theorem dX2_isConvexWithout_13 : decode cX2_isConvexWithout 13 = .ok (.aload_n 1, 1) := by decide +kernel
theorem dX2_isConvexWithout_14 : decode cX2_isConvexWithout 14 = .ok (.getfield 25, 3) := by decide +kernel
theorem dX2_isConvexWithout_17 : decode cX2_isConvexWithout 17 = .ok (.iload_n 2, 1) := by decide +kernel
theorem dX2_isConvexWithout_18 : decode cX2_isConvexWithout 18 = .ok (.iload_n 3, 1) := by decide +kernel
theorem dX2_isConvexWithout_19 : decode cX2_isConvexWithout 19 = .ok (.invokevirtual 112, 3) := by decide +kernel
theorem dX2_isConvexWithout_22 : decode cX2_isConvexWithout 22 = .ok (.istore 5, 2) := by decide +kernel
theorem dX2_isConvexWithout_24 : decode cX2_isConvexWithout 24 = .ok (.aload_n 1, 1) := by decide +kernel
theorem dX2_isConvexWithout_25 : decode cX2_isConvexWithout 25 = .ok (.getfield 25, 3) := by decide +kernel
theorem dX2_isConvexWithout_28 : decode cX2_isConvexWithout 28 = .ok (.iload_n 2, 1) := by decide +kernel
theorem dX2_isConvexWithout_29 : decode cX2_isConvexWithout 29 = .ok (.iload 4, 2) := by decide +kernel
theorem dX2_isConvexWithout_31 : decode cX2_isConvexWithout 31 = .ok (.iload 5, 2) := by decide +kernel
theorem dX2_isConvexWithout_33 : decode cX2_isConvexWithout 33 = .ok (.invokevirtual 115, 3) := by decide +kernel
theorem dX2_isConvexWithout_36 : decode cX2_isConvexWithout 36 = .ok (.aload_n 1, 1) := by decide +kernel
theorem dX2_isConvexWithout_37 : decode cX2_isConvexWithout 37 = .ok (.invokevirtual 119, 3) := by decide +kernel
theorem dX2_isConvexWithout_40 : decode cX2_isConvexWithout 40 = .ok (.imul, 1) := by decide +kernel
theorem dX2_isConvexWithout_41 : decode cX2_isConvexWithout 41 = .ok (.ifCond .lt 7, 3) := by decide +kernel
theorem dX2_isConvexWithout_44 : decode cX2_isConvexWithout 44 = .ok (.iconst 1, 1) := by decide +kernel
theorem dX2_isConvexWithout_45 : decode cX2_isConvexWithout 45 = .ok (.goto 4, 3) := by decide +kernel
theorem dX2_isConvexWithout_48 : decode cX2_isConvexWithout 48 = .ok (.iconst 0, 1) := by decide +kernel
theorem dX2_isConvexWithout_49 : decode cX2_isConvexWithout 49 = .ok (.ireturn, 1) := by decide +kernel
set_option maxRecDepth 20000 in
theorem ggX2_joinedBefore_X1_before : GoodIn wsX2_joinedBefore wsX1_before := goodIn_r _ [7, 8, 9, 10, 11] (by decide +kernel) (by decide +kernel)
set_option maxRecDepth 20000 in
theorem gX2_joinedBefore_X1_before : GoodIn wsX2_joinedBefore (wsV RX2 122 RX1 yX1_before wsX1_before) := goodIn_app (goodIn_of _ (by decide +kernel)) ggX2_joinedBefore_X1_before
theorem dX2_joinedBefore_0 : decode cX2_joinedBefore 0 = .ok (.aload_n 1, 1) := by decide +kernel
theorem dX2_joinedBefore_1 : decode cX2_joinedBefore 1 = .ok (.iload_n 3, 1) := by decide +kernel
theorem dX2_joinedBefore_2 : decode cX2_joinedBefore 2 = .ok (.invokevirtual 122, 3) := by decide +kernel
theorem dX2_joinedBefore_5 : decode cX2_joinedBefore 5 = .ok (.istore 4, 2) := by decide +kernel
theorem dX2_joinedBefore_7 : decode cX2_joinedBefore 7 = .ok (.iconst 0, 1) := by decide +kernel
theorem dX2_joinedBefore_8 : decode cX2_joinedBefore 8 = .ok (.istore 5, 2) := by decide +kernel
theorem dX2_joinedBefore_10 : decode cX2_joinedBefore 10 = .ok (.iload 5, 2) := by decide +kernel
theorem dX2_joinedBefore_12 : decode cX2_joinedBefore 12 = .ok (.aload_n 1, 1) := by decide +kernel
theorem dX2_joinedBefore_13 : decode cX2_joinedBefore 13 = .ok (.getfield 31, 3) := by decide +kernel
theorem dX2_joinedBefore_16 : decode cX2_joinedBefore 16 = .ok (.if_icmp .ge 29, 3) := by decide +kernel
theorem dX2_joinedBefore_19 : decode cX2_joinedBefore 19 = .ok (.aload_n 0, 1) := by decide +kernel
theorem dX2_joinedBefore_20 : decode cX2_joinedBefore 20 = .ok (.getfield 22, 3) := by decide +kernel
theorem dX2_joinedBefore_23 : decode cX2_joinedBefore 23 = .ok (.iload_n 2, 1) := by decide +kernel
theorem dX2_joinedBefore_24 : decode cX2_joinedBefore 24 = .ok (.aaload, 1) := by decide +kernel
theorem dX2_joinedBefore_25 : decode cX2_joinedBefore 25 = .ok (.iload 4, 2) := by decide +kernel
theorem dX2_joinedBefore_27 : decode cX2_joinedBefore 27 = .ok (.iaload, 1) := by decide +kernel
theorem dX2_joinedBefore_28 : decode cX2_joinedBefore 28 = .ok (.ifCond .ne 17, 3) := by decide +kernel
theorem dX2_joinedBefore_31 : decode cX2_joinedBefore 31 = .ok (.aload_n 1, 1) := by decide +kernel
theorem dX2_joinedBefore_32 : decode cX2_joinedBefore 32 = .ok (.iload 4, 2) := by decide +kernel
theorem dX2_joinedBefore_34 : decode cX2_joinedBefore 34 = .ok (.invokevirtual 122, 3) := by decide +kernel
theorem dX2_joinedBefore_37 : decode cX2_joinedBefore 37 = .ok (.istore 4, 2) := by decide +kernel
theorem dX2_joinedBefore_39 : decode cX2_joinedBefore 39 = .ok (.iinc 5 1, 3) := by decide +kernel
theorem dX2_joinedBefore_42 : decode cX2_joinedBefore 42 = .ok (.goto (-32), 3) := by decide +kernel
theorem dX2_joinedBefore_45 : decode cX2_joinedBefore 45 = .ok (.iload 4, 2) := by decide +kernel
theorem dX2_joinedBefore_47 : decode cX2_joinedBefore 47 = .ok (.ireturn, 1) := by decide +kernel
set_option maxRecDepth 20000 in
theorem ggX2_joinedAfter_X1_after : GoodIn wsX2_joinedAfter wsX1_after := goodIn_r _ [7, 8, 9, 10, 11] (by decide +kernel) (by decide +kernel)
set_option maxRecDepth 20000 in
theorem gX2_joinedAfter_X1_after : GoodIn wsX2_joinedAfter (wsV RX2 126 RX1 yX1_after wsX1_after) := goodIn_app (goodIn_of _ (by decide +kernel)) ggX2_joinedAfter_X1_after
theorem dX2_joinedAfter_0 : decode cX2_joinedAfter 0 = .ok (.aload_n 1, 1) := by decide +kernel
theorem dX2_joinedAfter_1 : decode cX2_joinedAfter 1 = .ok (.iload_n 3, 1) := by decide +kernel
theorem dX2_joinedAfter_2 : decode cX2_joinedAfter 2 = .ok (.invokevirtual 126, 3) := by decide +kernel
theorem dX2_joinedAfter_5 : decode cX2_joinedAfter 5 = .ok (.istore 4, 2) := by decide +kernel
theorem dX2_joinedAfter_7 : decode cX2_joinedAfter 7 = .ok (.iconst 0, 1) := by decide +kernel
theorem dX2_joinedAfter_8 : decode cX2_joinedAfter 8 = .ok (.istore 5, 2) := by decide +kernel
theorem dX2_joinedAfter_10 : decode cX2_joinedAfter 10 = .ok (.iload 5, 2) := by decide +kernel
theorem dX2_joinedAfter_12 : decode cX2_joinedAfter 12 = .ok (.aload_n 1, 1) := by decide +kernel
theorem dX2_joinedAfter_13 : decode cX2_joinedAfter 13 = .ok (.getfield 31, 3) := by decide +kernel
theorem dX2_joinedAfter_16 : decode cX2_joinedAfter 16 = .ok (.if_icmp .ge 29, 3) := by decide +kernel
theorem dX2_joinedAfter_19 : decode cX2_joinedAfter 19 = .ok (.aload_n 0, 1) := by decide +kernel
theorem dX2_joinedAfter_20 : decode cX2_joinedAfter 20 = .ok (.getfield 22, 3) := by decide +kernel
theorem dX2_joinedAfter_23 : decode cX2_joinedAfter 23 = .ok (.iload_n 2, 1) := by decide +kernel
theorem dX2_joinedAfter_24 : decode cX2_joinedAfter 24 = .ok (.aaload, 1) := by decide +kernel
theorem dX2_joinedAfter_25 : decode cX2_joinedAfter 25 = .ok (.iload 4, 2) := by decide +kernel
theorem dX2_joinedAfter_27 : decode cX2_joinedAfter 27 = .ok (.iaload, 1) := by decide +kernel
theorem dX2_joinedAfter_28 : decode cX2_joinedAfter 28 = .ok (.ifCond .ne 17, 3) := by decide +kernel
theorem dX2_joinedAfter_31 : decode cX2_joinedAfter 31 = .ok (.aload_n 1, 1) := by decide +kernel
theorem dX2_joinedAfter_32 : decode cX2_joinedAfter 32 = .ok (.iload 4, 2) := by decide +kernel
theorem dX2_joinedAfter_34 : decode cX2_joinedAfter 34 = .ok (.invokevirtual 126, 3) := by decide +kernel
theorem dX2_joinedAfter_37 : decode cX2_joinedAfter 37 = .ok (.istore 4, 2) := by decide +kernel
theorem dX2_joinedAfter_39 : decode cX2_joinedAfter 39 = .ok (.iinc 5 1, 3) := by decide +kernel
theorem dX2_joinedAfter_42 : decode cX2_joinedAfter 42 = .ok (.goto (-32), 3) := by decide +kernel
theorem dX2_joinedAfter_45 : decode cX2_joinedAfter 45 = .ok (.iload 4, 2) := by decide +kernel
theorem dX2_joinedAfter_47 : decode cX2_joinedAfter 47 = .ok (.ireturn, 1) := by decide +kernel
end
section
set_option maxRecDepth 20000 in
theorem ggX3_init_X1_init : GoodIn wsX3_init wsX1_init := goodIn_r _ [22, 23, 2, 3, 9, 24, 25, 26, 27, 28, 29] (by decide +kernel) (by decide +kernel)
set_option maxRecDepth 20000 in
theorem gX3_init_X1_init_n11 : GoodIn wsX3_init (wsX1_init) := ggX3_init_X1_init
theorem dX3_init_0 : decode cX3_init 0 = .ok (.aload_n 0, 1) := by decide +kernel
theorem dX3_init_1 : decode cX3_init 1 = .ok (.invokespecial 3, 3) := by decide +kernel
theorem dX3_init_4 : decode cX3_init 4 = .ok (.aload_n 0, 1) := by decide +kernel
theorem dX3_init_5 : decode cX3_init 5 = .ok (.new 9, 3) := by decide +kernel
theorem dX3_init_8 : decode cX3_init 8 = .ok (.dup, 1) := by decide +kernel
theorem dX3_init_9 : decode cX3_init 9 = .ok (.invokespecial 11, 3) := by decide +kernel
theorem dX3_init_12 : decode cX3_init 12 = .ok (.putfield 12, 3) := by decide +kernel
theorem dX3_init_15 : decode cX3_init 15 = .ok (.aload_n 0, 1) := by decide +kernel
theorem dX3_init_16 : decode cX3_init 16 = .ok (.bipush 14, 2) := by decide +kernel
theorem dX3_init_18 : decode cX3_init 18 = .ok (.bipush 14, 2) := by decide +kernel
theorem dX3_init_20 : decode cX3_init 20 = .ok (.multianewarray 18 2, 4) := by decide +kernel
theorem dX3_init_24 : decode cX3_init 24 = .ok (.putfield 20, 3) := by decide +kernel
theorem dX3_init_27 : decode cX3_init 27 = .ok (.aload_n 0, 1) := by decide +kernel
theorem dX3_init_28 : decode cX3_init 28 = .ok (.iconst 0, 1) := by decide +kernel
theorem dX3_init_29 : decode cX3_init 29 = .ok (.putfield 23, 3) := by decide +kernel
theorem dX3_init_32 : decode cX3_init 32 = .ok (.aload_n 0, 1) := by decide +kernel
theorem dX3_init_33 : decode cX3_init 33 = .ok (.iconst 0, 1) := by decide +kernel
theorem dX3_init_34 : decode cX3_init 34 = .ok (.putfield 27, 3) := by decide +kernel
theorem dX3_init_37 : decode cX3_init 37 = .ok (.aload_n 0, 1) := by decide +kernel
theorem dX3_init_38 : decode cX3_init 38 = .ok (.iconst 0, 1) := by decide +kernel
theorem dX3_init_39 : decode cX3_init 39 = .ok (.putfield 30, 3) := by decide +kernel
theorem dX3_init_42 : decode cX3_init 42 = .ok (.aload_n 0, 1) := by decide +kernel
theorem dX3_init_43 : decode cX3_init 43 = .ok (.iconst 0, 1) := by decide +kernel
theorem dX3_init_44 : decode cX3_init 44 = .ok (.putfield 33, 3) := by decide +kernel
theorem dX3_init_47 : decode cX3_init 47 = .ok (.aload_n 0, 1) := by decide +kernel
theorem dX3_init_48 : decode cX3_init 48 = .ok (.bipush 14, 2) := by decide +kernel
theorem dX3_init_50 : decode cX3_init 50 = .ok (.newarray .int, 2) := by decide +kernel
theorem dX3_init_52 : decode cX3_init 52 = .ok (.putfield 36, 3) := by decide +kernel
theorem dX3_init_55 : decode cX3_init 55 = .ok (.aload_n 0, 1) := by decide +kernel
theorem dX3_init_56 : decode cX3_init 56 = .ok (.bipush 14, 2) := by decide +kernel
theorem dX3_init_58 : decode cX3_init 58 = .ok (.newarray .int, 2) := by decide +kernel
theorem dX3_init_60 : decode cX3_init 60 = .ok (.putfield 40, 3) := by decide +kernel
theorem dX3_init_63 : decode cX3_init 63 = .ok (.aload_n 0, 1) := by decide +kernel
theorem dX3_init_64 : decode cX3_init 64 = .ok (.bipush 14, 2) := by decide +kernel
theorem dX3_init_66 : decode cX3_init 66 = .ok (.newarray .int, 2) := by decide +kernel
theorem dX3_init_68 : decode cX3_init 68 = .ok (.putfield 43, 3) := by decide +kernel
theorem dX3_init_71 : decode cX3_init 71 = .ok (.aload_n 0, 1) := by decide +kernel
theorem dX3_init_72 : decode cX3_init 72 = .ok (.bipush 14, 2) := by decide +kernel
theorem dX3_init_74 : decode cX3_init 74 = .ok (.newarray .int, 2) := by decide +kernel
theorem dX3_init_76 : decode cX3_init 76 = .ok (.putfield 46, 3) := by decide +kernel
theorem dX3_init_79 : decode cX3_init 79 = .ok (.aload_n 0, 1) := by decide +kernel
theorem dX3_init_80 : decode cX3_init 80 = .ok (.bipush 14, 2) := by decide +kernel
theorem dX3_init_82 : decode cX3_init 82 = .ok (.newarray .int, 2) := by decide +kernel
theorem dX3_init_84 : decode cX3_init 84 = .ok (.putfield 49, 3) := by decide +kernel
theorem dX3_init_87 : decode cX3_init 87 = .ok (.aload_n 0, 1) := by decide +kernel
theorem dX3_init_88 : decode cX3_init 88 = .ok (.bipush 14, 2) := by decide +kernel
theorem dX3_init_90 : decode cX3_init 90 = .ok (.newarray .int, 2) := by decide +kernel
theorem dX3_init_92 : decode cX3_init 92 = .ok (.putfield 52, 3) := by decide +kernel
theorem dX3_init_95 : decode cX3_init 95 = .ok (.return_, 1) := by decide +kernel
set_option maxRecDepth 20000 in
theorem ggX3_become_X1_copyOf : GoodIn wsX3_become wsX1_copyOf := goodIn_r _ [8, 9, 10, 11, 12, 13, 14, 15, 39, 40, 41] (by decide +kernel) (by decide +kernel)
set_option maxRecDepth 20000 in
theorem gX3_become_X1_copyOf : GoodIn wsX3_become (wsV RX3 55 RX1 yX1_copyOf wsX1_copyOf) := goodIn_app (goodIn_of _ (by decide +kernel)) ggX3_become_X1_copyOf
set_option maxRecDepth 20000 in
theorem ggX3_become_X3_crossOfEdge : GoodIn wsX3_become wsX3_crossOfEdge := goodIn_r _ [20, 1, 21, 22, 23, 24, 25, 7, 26, 9, 27, 28, 29, 30, 31, 32, 33, 34, 35, 36, 37, 38, 39, 40, 41] (by decide +kernel) (by decide +kernel)
set_option maxRecDepth 20000 in
theorem gX3_become_X3_crossOfEdge : GoodIn wsX3_become (wsV RX3 62 RX3 yX3_crossOfEdge wsX3_crossOfEdge) := goodIn_app (goodIn_of _ (by decide +kernel)) ggX3_become_X3_crossOfEdge
theorem dX3_become_0 : decode cX3_become 0 = .ok (.aload_n 0, 1) := by decide +kernel
theorem dX3_become_1 : decode cX3_become 1 = .ok (.getfield 12, 3) := by decide +kernel
theorem dX3_become_4 : decode cX3_become 4 = .ok (.aload_n 1, 1) := by decide +kernel
theorem dX3_become_5 : decode cX3_become 5 = .ok (.invokevirtual 55, 3) := by decide +kernel
theorem dX3_become_8 : decode cX3_become 8 = .ok (.aload_n 0, 1) := by decide +kernel
theorem dX3_become_9 : decode cX3_become 9 = .ok (.iconst 0, 1) := by decide +kernel
theorem dX3_become_10 : decode cX3_become 10 = .ok (.putfield 23, 3) := by decide +kernel
theorem dX3_become_13 : decode cX3_become 13 = .ok (.iconst 0, 1) := by decide +kernel
theorem dX3_become_14 : decode cX3_become 14 = .ok (.istore_n 2, 1) := by decide +kernel
theorem dX3_become_15 : decode cX3_become 15 = .ok (.iload_n 2, 1) := by decide +kernel
theorem dX3_become_16 : decode cX3_become 16 = .ok (.aload_n 0, 1) := by decide +kernel
theorem dX3_become_17 : decode cX3_become 17 = .ok (.getfield 12, 3) := by decide +kernel
theorem dX3_become_20 : decode cX3_become 20 = .ok (.getfield 59, 3) := by decide +kernel
theorem dX3_become_23 : decode cX3_become 23 = .ok (.if_icmp .ge 23, 3) := by decide +kernel
theorem dX3_become_26 : decode cX3_become 26 = .ok (.aload_n 0, 1) := by decide +kernel
theorem dX3_become_27 : decode cX3_become 27 = .ok (.dup, 1) := by decide +kernel
theorem dX3_become_28 : decode cX3_become 28 = .ok (.getfield 23, 3) := by decide +kernel
theorem dX3_become_31 : decode cX3_become 31 = .ok (.aload_n 0, 1) := by decide +kernel
theorem dX3_become_32 : decode cX3_become 32 = .ok (.iload_n 2, 1) := by decide +kernel
theorem dX3_become_33 : decode cX3_become 33 = .ok (.invokevirtual 62, 3) := by decide +kernel
theorem dX3_become_36 : decode cX3_become 36 = .ok (.iadd, 1) := by decide +kernel
theorem dX3_become_37 : decode cX3_become 37 = .ok (.putfield 23, 3) := by decide +kernel
theorem dX3_become_40 : decode cX3_become 40 = .ok (.iinc 2 1, 3) := by decide +kernel
theorem dX3_become_43 : decode cX3_become 43 = .ok (.goto (-28), 3) := by decide +kernel
theorem dX3_become_46 : decode cX3_become 46 = .ok (.return_, 1) := by decide +kernel
set_option maxRecDepth 20000 in
theorem ggX3_lookAround_X3_look : GoodIn wsX3_lookAround wsX3_look := goodIn_r _ [8, 1, 9, 10, 11, 12, 13, 14, 15, 16, 17, 18, 19, 7, 20, 2, 21, 22, 23, 24, 25, 26, 27, 28, 29, 30, 31, 32, 33, 34, 35, 36, 37, 38, 39, 40, 41, 42, 43, 44, 45, 46, 47, 48, 49, 50, 51, 52, 53, 54, 55, 56, 57, 58, 59, 60, 61, 62, 63] (by decide +kernel) (by decide +kernel)
set_option maxRecDepth 20000 in
theorem gX3_lookAround_X3_look : GoodIn wsX3_lookAround (wsV RX3 66 RX3 yX3_look wsX3_look) := goodIn_app (goodIn_of _ (by decide +kernel)) ggX3_lookAround_X3_look
theorem dX3_lookAround_0 : decode cX3_lookAround 0 = .ok (.iconst 0, 1) := by decide +kernel
theorem dX3_lookAround_1 : decode cX3_lookAround 1 = .ok (.istore_n 1, 1) := by decide +kernel
theorem dX3_lookAround_2 : decode cX3_lookAround 2 = .ok (.iload_n 1, 1) := by decide +kernel
theorem dX3_lookAround_3 : decode cX3_lookAround 3 = .ok (.aload_n 0, 1) := by decide +kernel
theorem dX3_lookAround_4 : decode cX3_lookAround 4 = .ok (.getfield 12, 3) := by decide +kernel
theorem dX3_lookAround_7 : decode cX3_lookAround 7 = .ok (.getfield 59, 3) := by decide +kernel
theorem dX3_lookAround_10 : decode cX3_lookAround 10 = .ok (.if_icmp .ge 61, 3) := by decide +kernel
theorem dX3_lookAround_13 : decode cX3_lookAround 13 = .ok (.aload_n 0, 1) := by decide +kernel
theorem dX3_lookAround_14 : decode cX3_lookAround 14 = .ok (.getfield 20, 3) := by decide +kernel
theorem dX3_lookAround_17 : decode cX3_lookAround 17 = .ok (.iload_n 1, 1) := by decide +kernel
theorem dX3_lookAround_18 : decode cX3_lookAround 18 = .ok (.aaload, 1) := by decide +kernel
theorem dX3_lookAround_19 : decode cX3_lookAround 19 = .ok (.iload_n 1, 1) := by decide +kernel
theorem dX3_lookAround_20 : decode cX3_lookAround 20 = .ok (.iconst 0, 1) := by decide +kernel
theorem dX3_lookAround_21 : decode cX3_lookAround 21 = .ok (.iastore, 1) := by decide +kernel
theorem dX3_lookAround_22 : decode cX3_lookAround 22 = .ok (.iconst 0, 1) := by decide +kernel
theorem dX3_lookAround_23 : decode cX3_lookAround 23 = .ok (.istore_n 2, 1) := by decide +kernel
theorem dX3_lookAround_24 : decode cX3_lookAround 24 = .ok (.iload_n 2, 1) := by decide +kernel
theorem dX3_lookAround_25 : decode cX3_lookAround 25 = .ok (.iload_n 1, 1) := by decide +kernel
theorem dX3_lookAround_26 : decode cX3_lookAround 26 = .ok (.if_icmp .ge 39, 3) := by decide +kernel
theorem dX3_lookAround_29 : decode cX3_lookAround 29 = .ok (.aload_n 0, 1) := by decide +kernel
theorem dX3_lookAround_30 : decode cX3_lookAround 30 = .ok (.getfield 20, 3) := by decide +kernel
theorem dX3_lookAround_33 : decode cX3_lookAround 33 = .ok (.iload_n 1, 1) := by decide +kernel
theorem dX3_lookAround_34 : decode cX3_lookAround 34 = .ok (.aaload, 1) := by decide +kernel
theorem dX3_lookAround_35 : decode cX3_lookAround 35 = .ok (.iload_n 2, 1) := by decide +kernel
theorem dX3_lookAround_36 : decode cX3_lookAround 36 = .ok (.aload_n 0, 1) := by decide +kernel
theorem dX3_lookAround_37 : decode cX3_lookAround 37 = .ok (.iload_n 1, 1) := by decide +kernel
theorem dX3_lookAround_38 : decode cX3_lookAround 38 = .ok (.iload_n 2, 1) := by decide +kernel
theorem dX3_lookAround_39 : decode cX3_lookAround 39 = .ok (.invokevirtual 66, 3) := by decide +kernel
theorem dX3_lookAround_42 : decode cX3_lookAround 42 = .ok (.iastore, 1) := by decide +kernel
theorem dX3_lookAround_43 : decode cX3_lookAround 43 = .ok (.aload_n 0, 1) := by decide +kernel
theorem dX3_lookAround_44 : decode cX3_lookAround 44 = .ok (.getfield 20, 3) := by decide +kernel
theorem dX3_lookAround_47 : decode cX3_lookAround 47 = .ok (.iload_n 2, 1) := by decide +kernel
theorem dX3_lookAround_48 : decode cX3_lookAround 48 = .ok (.aaload, 1) := by decide +kernel
theorem dX3_lookAround_49 : decode cX3_lookAround 49 = .ok (.iload_n 1, 1) := by decide +kernel
theorem dX3_lookAround_50 : decode cX3_lookAround 50 = .ok (.aload_n 0, 1) := by decide +kernel
theorem dX3_lookAround_51 : decode cX3_lookAround 51 = .ok (.getfield 20, 3) := by decide +kernel
theorem dX3_lookAround_54 : decode cX3_lookAround 54 = .ok (.iload_n 1, 1) := by decide +kernel
theorem dX3_lookAround_55 : decode cX3_lookAround 55 = .ok (.aaload, 1) := by decide +kernel
theorem dX3_lookAround_56 : decode cX3_lookAround 56 = .ok (.iload_n 2, 1) := by decide +kernel
theorem dX3_lookAround_57 : decode cX3_lookAround 57 = .ok (.iaload, 1) := by decide +kernel
theorem dX3_lookAround_58 : decode cX3_lookAround 58 = .ok (.iastore, 1) := by decide +kernel
theorem dX3_lookAround_59 : decode cX3_lookAround 59 = .ok (.iinc 2 1, 3) := by decide +kernel
theorem dX3_lookAround_62 : decode cX3_lookAround 62 = .ok (.goto (-38), 3) := by decide +kernel
theorem dX3_lookAround_65 : decode cX3_lookAround 65 = .ok (.iinc 1 1, 3) := by decide +kernel
theorem dX3_lookAround_68 : decode cX3_lookAround 68 = .ok (.goto (-66), 3) := by decide +kernel
theorem dX3_lookAround_71 : decode cX3_lookAround 71 = .ok (.return_, 1) := by decide +kernel
theorem dX3_triangleCount_0 : decode cX3_triangleCount 0 = .ok (.aload_n 0, 1) := by decide +kernel
theorem dX3_triangleCount_1 : decode cX3_triangleCount 1 = .ok (.getfield 12, 3) := by decide +kernel
theorem dX3_triangleCount_4 : decode cX3_triangleCount 4 = .ok (.getfield 59, 3) := by decide +kernel
theorem dX3_triangleCount_7 : decode cX3_triangleCount 7 = .ok (.iconst 2, 1) := by decide +kernel
theorem dX3_triangleCount_8 : decode cX3_triangleCount 8 = .ok (.isub, 1) := by decide +kernel
theorem dX3_triangleCount_9 : decode cX3_triangleCount 9 = .ok (.ireturn, 1) := by decide +kernel
theorem dX3_diagonalCount_0 : decode cX3_diagonalCount 0 = .ok (.aload_n 0, 1) := by decide +kernel
theorem dX3_diagonalCount_1 : decode cX3_diagonalCount 1 = .ok (.getfield 12, 3) := by decide +kernel
theorem dX3_diagonalCount_4 : decode cX3_diagonalCount 4 = .ok (.getfield 59, 3) := by decide +kernel
theorem dX3_diagonalCount_7 : decode cX3_diagonalCount 7 = .ok (.iconst 3, 1) := by decide +kernel
theorem dX3_diagonalCount_8 : decode cX3_diagonalCount 8 = .ok (.isub, 1) := by decide +kernel
theorem dX3_diagonalCount_9 : decode cX3_diagonalCount 9 = .ok (.ireturn, 1) := by decide +kernel
theorem dX3_hand_0 : decode cX3_hand 0 = .ok (.aload_n 0, 1) := by decide +kernel
theorem dX3_hand_1 : decode cX3_hand 1 = .ok (.getfield 23, 3) := by decide +kernel
theorem dX3_hand_4 : decode cX3_hand 4 = .ok (.ifCond .le 7, 3) := by decide +kernel
theorem dX3_hand_7 : decode cX3_hand 7 = .ok (.iconst 1, 1) := by decide +kernel
theorem dX3_hand_8 : decode cX3_hand 8 = .ok (.goto 4, 3) := by decide +kernel
theorem dX3_hand_11 : decode cX3_hand 11 = .ok (.iconst (-1), 1) := by decide +kernel
theorem dX3_hand_12 : decode cX3_hand 12 = .ok (.ireturn, 1) := by decide +kernel
set_option maxRecDepth 20000 in
theorem ggX3_centroidMoment_X1_along : GoodIn wsX3_centroidMoment wsX1_along := goodIn_r _ [7, 8, 9, 34, 35, 36] (by decide +kernel) (by decide +kernel)
set_option maxRecDepth 20000 in
theorem gX3_centroidMoment_X1_along : GoodIn wsX3_centroidMoment (wsV RX3 70 RX1 yX1_along wsX1_along) := goodIn_app (goodIn_of _ (by decide +kernel)) ggX3_centroidMoment_X1_along
set_option maxRecDepth 20000 in
theorem ggX3_centroidMoment_X1_after : GoodIn wsX3_centroidMoment wsX1_after := goodIn_r _ [13, 14, 34, 35, 36] (by decide +kernel) (by decide +kernel)
set_option maxRecDepth 20000 in
theorem gX3_centroidMoment_X1_after : GoodIn wsX3_centroidMoment (wsV RX3 74 RX1 yX1_after wsX1_after) := goodIn_app (goodIn_of _ (by decide +kernel)) ggX3_centroidMoment_X1_after
set_option maxRecDepth 20000 in
theorem ggX3_centroidMoment_X3_crossOfEdge : GoodIn wsX3_centroidMoment wsX3_crossOfEdge := goodIn_r _ [19, 1, 20, 21, 10, 11, 12, 6, 13, 14, 22, 23, 24, 25, 26, 27, 28, 29, 30, 31, 32, 33, 34, 35, 36] (by decide +kernel) (by decide +kernel)
set_option maxRecDepth 20000 in
theorem gX3_centroidMoment_X3_crossOfEdge : GoodIn wsX3_centroidMoment (wsV RX3 62 RX3 yX3_crossOfEdge wsX3_crossOfEdge) := goodIn_app (goodIn_of _ (by decide +kernel)) ggX3_centroidMoment_X3_crossOfEdge
theorem dX3_centroidMoment_0 : decode cX3_centroidMoment 0 = .ok (.aload_n 0, 1) := by decide +kernel
theorem dX3_centroidMoment_1 : decode cX3_centroidMoment 1 = .ok (.getfield 12, 3) := by decide +kernel
theorem dX3_centroidMoment_4 : decode cX3_centroidMoment 4 = .ok (.iload_n 1, 1) := by decide +kernel
theorem dX3_centroidMoment_5 : decode cX3_centroidMoment 5 = .ok (.invokevirtual 70, 3) := by decide +kernel
theorem dX3_centroidMoment_8 : decode cX3_centroidMoment 8 = .ok (.astore_n 2, 1) := by decide +kernel
theorem dX3_centroidMoment_9 : decode cX3_centroidMoment 9 = .ok (.lconst 0, 1) := by decide +kernel
theorem dX3_centroidMoment_10 : decode cX3_centroidMoment 10 = .ok (.lstore_n 3, 1) := by decide +kernel
theorem dX3_centroidMoment_11 : decode cX3_centroidMoment 11 = .ok (.iconst 0, 1) := by decide +kernel
theorem dX3_centroidMoment_12 : decode cX3_centroidMoment 12 = .ok (.istore 5, 2) := by decide +kernel
theorem dX3_centroidMoment_14 : decode cX3_centroidMoment 14 = .ok (.iload 5, 2) := by decide +kernel
theorem dX3_centroidMoment_16 : decode cX3_centroidMoment 16 = .ok (.aload_n 0, 1) := by decide +kernel
theorem dX3_centroidMoment_17 : decode cX3_centroidMoment 17 = .ok (.getfield 12, 3) := by decide +kernel
theorem dX3_centroidMoment_20 : decode cX3_centroidMoment 20 = .ok (.getfield 59, 3) := by decide +kernel
theorem dX3_centroidMoment_23 : decode cX3_centroidMoment 23 = .ok (.if_icmp .ge 37, 3) := by decide +kernel
theorem dX3_centroidMoment_26 : decode cX3_centroidMoment 26 = .ok (.lload_n 3, 1) := by decide +kernel
theorem dX3_centroidMoment_27 : decode cX3_centroidMoment 27 = .ok (.aload_n 2, 1) := by decide +kernel
theorem dX3_centroidMoment_28 : decode cX3_centroidMoment 28 = .ok (.iload 5, 2) := by decide +kernel
theorem dX3_centroidMoment_30 : decode cX3_centroidMoment 30 = .ok (.iaload, 1) := by decide +kernel
theorem dX3_centroidMoment_31 : decode cX3_centroidMoment 31 = .ok (.aload_n 2, 1) := by decide +kernel
theorem dX3_centroidMoment_32 : decode cX3_centroidMoment 32 = .ok (.aload_n 0, 1) := by decide +kernel
theorem dX3_centroidMoment_33 : decode cX3_centroidMoment 33 = .ok (.getfield 12, 3) := by decide +kernel
theorem dX3_centroidMoment_36 : decode cX3_centroidMoment 36 = .ok (.iload 5, 2) := by decide +kernel
theorem dX3_centroidMoment_38 : decode cX3_centroidMoment 38 = .ok (.invokevirtual 74, 3) := by decide +kernel
theorem dX3_centroidMoment_41 : decode cX3_centroidMoment 41 = .ok (.iaload, 1) := by decide +kernel
theorem dX3_centroidMoment_42 : decode cX3_centroidMoment 42 = .ok (.iadd, 1) := by decide +kernel
theorem dX3_centroidMoment_43 : decode cX3_centroidMoment 43 = .ok (.i2l, 1) := by decide +kernel
theorem dX3_centroidMoment_44 : decode cX3_centroidMoment 44 = .ok (.aload_n 0, 1) := by decide +kernel
theorem dX3_centroidMoment_45 : decode cX3_centroidMoment 45 = .ok (.iload 5, 2) := by decide +kernel
theorem dX3_centroidMoment_47 : decode cX3_centroidMoment 47 = .ok (.invokevirtual 62, 3) := by decide +kernel
theorem dX3_centroidMoment_50 : decode cX3_centroidMoment 50 = .ok (.i2l, 1) := by decide +kernel
theorem dX3_centroidMoment_51 : decode cX3_centroidMoment 51 = .ok (.lmul, 1) := by decide +kernel
theorem dX3_centroidMoment_52 : decode cX3_centroidMoment 52 = .ok (.ladd, 1) := by decide +kernel
theorem dX3_centroidMoment_53 : decode cX3_centroidMoment 53 = .ok (.lstore_n 3, 1) := by decide +kernel
theorem dX3_centroidMoment_54 : decode cX3_centroidMoment 54 = .ok (.iinc 5 1, 3) := by decide +kernel
theorem dX3_centroidMoment_57 : decode cX3_centroidMoment 57 = .ok (.goto (-43), 3) := by decide +kernel
theorem dX3_centroidMoment_60 : decode cX3_centroidMoment 60 = .ok (.lload_n 3, 1) := by decide +kernel
theorem dX3_centroidMoment_61 : decode cX3_centroidMoment 61 = .ok (.lreturn, 1) := by decide +kernel
set_option maxRecDepth 20000 in
theorem ggX3_pointsOnEdges_X1_after : GoodIn wsX3_pointsOnEdges wsX1_after := goodIn_r _ [9, 10, 30, 31, 32] (by decide +kernel) (by decide +kernel)
set_option maxRecDepth 20000 in
theorem gX3_pointsOnEdges_X1_after : GoodIn wsX3_pointsOnEdges (wsV RX3 74 RX1 yX1_after wsX1_after) := goodIn_app (goodIn_of _ (by decide +kernel)) ggX3_pointsOnEdges_X1_after
set_option maxRecDepth 20000 in
theorem ggX3_pointsOnEdges_X5_greatestDivisor : GoodIn wsX3_pointsOnEdges wsX5_greatestDivisor := goodIn_r _ [13, 14, 15, 16, 17] (by decide +kernel) (by decide +kernel)
set_option maxRecDepth 20000 in
theorem gX3_pointsOnEdges_X5_greatestDivisor_n83 : GoodIn wsX3_pointsOnEdges (wsX5_greatestDivisor) := ggX3_pointsOnEdges_X5_greatestDivisor
theorem dX3_pointsOnEdges_0 : decode cX3_pointsOnEdges 0 = .ok (.iconst 0, 1) := by decide +kernel
theorem dX3_pointsOnEdges_1 : decode cX3_pointsOnEdges 1 = .ok (.istore_n 1, 1) := by decide +kernel
theorem dX3_pointsOnEdges_2 : decode cX3_pointsOnEdges 2 = .ok (.iconst 0, 1) := by decide +kernel
theorem dX3_pointsOnEdges_3 : decode cX3_pointsOnEdges 3 = .ok (.istore_n 2, 1) := by decide +kernel
theorem dX3_pointsOnEdges_4 : decode cX3_pointsOnEdges 4 = .ok (.iload_n 2, 1) := by decide +kernel
theorem dX3_pointsOnEdges_5 : decode cX3_pointsOnEdges 5 = .ok (.aload_n 0, 1) := by decide +kernel
theorem dX3_pointsOnEdges_6 : decode cX3_pointsOnEdges 6 = .ok (.getfield 12, 3) := by decide +kernel
theorem dX3_pointsOnEdges_9 : decode cX3_pointsOnEdges 9 = .ok (.getfield 59, 3) := by decide +kernel
theorem dX3_pointsOnEdges_12 : decode cX3_pointsOnEdges 12 = .ok (.if_icmp .ge 65, 3) := by decide +kernel
theorem dX3_pointsOnEdges_15 : decode cX3_pointsOnEdges 15 = .ok (.aload_n 0, 1) := by decide +kernel
theorem dX3_pointsOnEdges_16 : decode cX3_pointsOnEdges 16 = .ok (.getfield 12, 3) := by decide +kernel
theorem dX3_pointsOnEdges_19 : decode cX3_pointsOnEdges 19 = .ok (.iload_n 2, 1) := by decide +kernel
theorem dX3_pointsOnEdges_20 : decode cX3_pointsOnEdges 20 = .ok (.invokevirtual 74, 3) := by decide +kernel
theorem dX3_pointsOnEdges_23 : decode cX3_pointsOnEdges 23 = .ok (.istore_n 3, 1) := by decide +kernel
theorem dX3_pointsOnEdges_24 : decode cX3_pointsOnEdges 24 = .ok (.iload_n 1, 1) := by decide +kernel
theorem dX3_pointsOnEdges_25 : decode cX3_pointsOnEdges 25 = .ok (.aload_n 0, 1) := by decide +kernel
theorem dX3_pointsOnEdges_26 : decode cX3_pointsOnEdges 26 = .ok (.getfield 12, 3) := by decide +kernel
theorem dX3_pointsOnEdges_29 : decode cX3_pointsOnEdges 29 = .ok (.getfield 77, 3) := by decide +kernel
theorem dX3_pointsOnEdges_32 : decode cX3_pointsOnEdges 32 = .ok (.iload_n 3, 1) := by decide +kernel
theorem dX3_pointsOnEdges_33 : decode cX3_pointsOnEdges 33 = .ok (.iaload, 1) := by decide +kernel
theorem dX3_pointsOnEdges_34 : decode cX3_pointsOnEdges 34 = .ok (.aload_n 0, 1) := by decide +kernel
theorem dX3_pointsOnEdges_35 : decode cX3_pointsOnEdges 35 = .ok (.getfield 12, 3) := by decide +kernel
theorem dX3_pointsOnEdges_38 : decode cX3_pointsOnEdges 38 = .ok (.getfield 77, 3) := by decide +kernel
theorem dX3_pointsOnEdges_41 : decode cX3_pointsOnEdges 41 = .ok (.iload_n 2, 1) := by decide +kernel
theorem dX3_pointsOnEdges_42 : decode cX3_pointsOnEdges 42 = .ok (.iaload, 1) := by decide +kernel
theorem dX3_pointsOnEdges_43 : decode cX3_pointsOnEdges 43 = .ok (.isub, 1) := by decide +kernel
theorem dX3_pointsOnEdges_44 : decode cX3_pointsOnEdges 44 = .ok (.i2l, 1) := by decide +kernel
theorem dX3_pointsOnEdges_45 : decode cX3_pointsOnEdges 45 = .ok (.aload_n 0, 1) := by decide +kernel
theorem dX3_pointsOnEdges_46 : decode cX3_pointsOnEdges 46 = .ok (.getfield 12, 3) := by decide +kernel
theorem dX3_pointsOnEdges_49 : decode cX3_pointsOnEdges 49 = .ok (.getfield 80, 3) := by decide +kernel
theorem dX3_pointsOnEdges_52 : decode cX3_pointsOnEdges 52 = .ok (.iload_n 3, 1) := by decide +kernel
theorem dX3_pointsOnEdges_53 : decode cX3_pointsOnEdges 53 = .ok (.iaload, 1) := by decide +kernel
theorem dX3_pointsOnEdges_54 : decode cX3_pointsOnEdges 54 = .ok (.aload_n 0, 1) := by decide +kernel
theorem dX3_pointsOnEdges_55 : decode cX3_pointsOnEdges 55 = .ok (.getfield 12, 3) := by decide +kernel
theorem dX3_pointsOnEdges_58 : decode cX3_pointsOnEdges 58 = .ok (.getfield 80, 3) := by decide +kernel
theorem dX3_pointsOnEdges_61 : decode cX3_pointsOnEdges 61 = .ok (.iload_n 2, 1) := by decide +kernel
theorem dX3_pointsOnEdges_62 : decode cX3_pointsOnEdges 62 = .ok (.iaload, 1) := by decide +kernel
theorem dX3_pointsOnEdges_63 : decode cX3_pointsOnEdges 63 = .ok (.isub, 1) := by decide +kernel
theorem dX3_pointsOnEdges_64 : decode cX3_pointsOnEdges 64 = .ok (.i2l, 1) := by decide +kernel
theorem dX3_pointsOnEdges_65 : decode cX3_pointsOnEdges 65 = .ok (.invokestatic 83, 3) := by decide +kernel
theorem dX3_pointsOnEdges_68 : decode cX3_pointsOnEdges 68 = .ok (.l2i, 1) := by decide +kernel
theorem dX3_pointsOnEdges_69 : decode cX3_pointsOnEdges 69 = .ok (.iadd, 1) := by decide +kernel
theorem dX3_pointsOnEdges_70 : decode cX3_pointsOnEdges 70 = .ok (.istore_n 1, 1) := by decide +kernel
theorem dX3_pointsOnEdges_71 : decode cX3_pointsOnEdges 71 = .ok (.iinc 2 1, 3) := by decide +kernel
theorem dX3_pointsOnEdges_74 : decode cX3_pointsOnEdges 74 = .ok (.goto (-70), 3) := by decide +kernel
theorem dX3_pointsOnEdges_77 : decode cX3_pointsOnEdges 77 = .ok (.iload_n 1, 1) := by decide +kernel
theorem dX3_pointsOnEdges_78 : decode cX3_pointsOnEdges 78 = .ok (.ireturn, 1) := by decide +kernel
set_option maxRecDepth 20000 in
theorem ggX3_placeOf_X1_after : GoodIn wsX3_placeOf wsX1_after := goodIn_r _ [9, 10, 23, 24, 25] (by decide +kernel) (by decide +kernel)
set_option maxRecDepth 20000 in
theorem gX3_placeOf_X1_after : GoodIn wsX3_placeOf (wsV RX3 74 RX1 yX1_after wsX1_after) := goodIn_app (goodIn_of _ (by decide +kernel)) ggX3_placeOf_X1_after
theorem dX3_placeOf_0 : decode cX3_placeOf 0 = .ok (.iconst 0, 1) := by decide +kernel
theorem dX3_placeOf_1 : decode cX3_placeOf 1 = .ok (.istore 4, 2) := by decide +kernel
theorem dX3_placeOf_3 : decode cX3_placeOf 3 = .ok (.iconst 0, 1) := by decide +kernel
theorem dX3_placeOf_4 : decode cX3_placeOf 4 = .ok (.istore 5, 2) := by decide +kernel
theorem dX3_placeOf_6 : decode cX3_placeOf 6 = .ok (.iload 5, 2) := by decide +kernel
theorem dX3_placeOf_8 : decode cX3_placeOf 8 = .ok (.aload_n 0, 1) := by decide +kernel
theorem dX3_placeOf_9 : decode cX3_placeOf 9 = .ok (.getfield 12, 3) := by decide +kernel
theorem dX3_placeOf_12 : decode cX3_placeOf 12 = .ok (.getfield 59, 3) := by decide +kernel
theorem dX3_placeOf_15 : decode cX3_placeOf 15 = .ok (.if_icmp .ge 192, 3) := by decide +kernel
theorem dX3_placeOf_18 : decode cX3_placeOf 18 = .ok (.aload_n 0, 1) := by decide +kernel
theorem dX3_placeOf_19 : decode cX3_placeOf 19 = .ok (.getfield 12, 3) := by decide +kernel
theorem dX3_placeOf_22 : decode cX3_placeOf 22 = .ok (.iload 5, 2) := by decide +kernel
theorem dX3_placeOf_24 : decode cX3_placeOf 24 = .ok (.invokevirtual 74, 3) := by decide +kernel
theorem dX3_placeOf_27 : decode cX3_placeOf 27 = .ok (.istore 6, 2) := by decide +kernel
theorem dX3_placeOf_29 : decode cX3_placeOf 29 = .ok (.aload_n 0, 1) := by decide +kernel
theorem dX3_placeOf_30 : decode cX3_placeOf 30 = .ok (.getfield 12, 3) := by decide +kernel
theorem dX3_placeOf_33 : decode cX3_placeOf 33 = .ok (.getfield 77, 3) := by decide +kernel
theorem dX3_placeOf_36 : decode cX3_placeOf 36 = .ok (.iload 5, 2) := by decide +kernel
theorem dX3_placeOf_38 : decode cX3_placeOf 38 = .ok (.iaload, 1) := by decide +kernel
theorem dX3_placeOf_39 : decode cX3_placeOf 39 = .ok (.iload_n 3, 1) := by decide +kernel
theorem dX3_placeOf_40 : decode cX3_placeOf 40 = .ok (.imul, 1) := by decide +kernel
theorem dX3_placeOf_41 : decode cX3_placeOf 41 = .ok (.iload_n 1, 1) := by decide +kernel
theorem dX3_placeOf_42 : decode cX3_placeOf 42 = .ok (.isub, 1) := by decide +kernel
theorem dX3_placeOf_43 : decode cX3_placeOf 43 = .ok (.istore 7, 2) := by decide +kernel
theorem dX3_placeOf_45 : decode cX3_placeOf 45 = .ok (.aload_n 0, 1) := by decide +kernel
theorem dX3_placeOf_46 : decode cX3_placeOf 46 = .ok (.getfield 12, 3) := by decide +kernel
theorem dX3_placeOf_49 : decode cX3_placeOf 49 = .ok (.getfield 80, 3) := by decide +kernel
theorem dX3_placeOf_52 : decode cX3_placeOf 52 = .ok (.iload 5, 2) := by decide +kernel
theorem dX3_placeOf_54 : decode cX3_placeOf 54 = .ok (.iaload, 1) := by decide +kernel
theorem dX3_placeOf_55 : decode cX3_placeOf 55 = .ok (.iload_n 3, 1) := by decide +kernel
theorem dX3_placeOf_56 : decode cX3_placeOf 56 = .ok (.imul, 1) := by decide +kernel
theorem dX3_placeOf_57 : decode cX3_placeOf 57 = .ok (.iload_n 2, 1) := by decide +kernel
theorem dX3_placeOf_58 : decode cX3_placeOf 58 = .ok (.isub, 1) := by decide +kernel
theorem dX3_placeOf_59 : decode cX3_placeOf 59 = .ok (.istore 8, 2) := by decide +kernel
theorem dX3_placeOf_61 : decode cX3_placeOf 61 = .ok (.aload_n 0, 1) := by decide +kernel
theorem dX3_placeOf_62 : decode cX3_placeOf 62 = .ok (.getfield 12, 3) := by decide +kernel
theorem dX3_placeOf_65 : decode cX3_placeOf 65 = .ok (.getfield 77, 3) := by decide +kernel
theorem dX3_placeOf_68 : decode cX3_placeOf 68 = .ok (.iload 6, 2) := by decide +kernel
theorem dX3_placeOf_70 : decode cX3_placeOf 70 = .ok (.iaload, 1) := by decide +kernel
theorem dX3_placeOf_71 : decode cX3_placeOf 71 = .ok (.iload_n 3, 1) := by decide +kernel
theorem dX3_placeOf_72 : decode cX3_placeOf 72 = .ok (.imul, 1) := by decide +kernel
theorem dX3_placeOf_73 : decode cX3_placeOf 73 = .ok (.iload_n 1, 1) := by decide +kernel
theorem dX3_placeOf_74 : decode cX3_placeOf 74 = .ok (.isub, 1) := by decide +kernel
theorem dX3_placeOf_75 : decode cX3_placeOf 75 = .ok (.istore 9, 2) := by decide +kernel
theorem dX3_placeOf_77 : decode cX3_placeOf 77 = .ok (.aload_n 0, 1) := by decide +kernel
theorem dX3_placeOf_78 : decode cX3_placeOf 78 = .ok (.getfield 12, 3) := by decide +kernel
theorem dX3_placeOf_81 : decode cX3_placeOf 81 = .ok (.getfield 80, 3) := by decide +kernel
theorem dX3_placeOf_84 : decode cX3_placeOf 84 = .ok (.iload 6, 2) := by decide +kernel
theorem dX3_placeOf_86 : decode cX3_placeOf 86 = .ok (.iaload, 1) := by decide +kernel
theorem dX3_placeOf_87 : decode cX3_placeOf 87 = .ok (.iload_n 3, 1) := by decide +kernel
theorem dX3_placeOf_88 : decode cX3_placeOf 88 = .ok (.imul, 1) := by decide +kernel
theorem dX3_placeOf_89 : decode cX3_placeOf 89 = .ok (.iload_n 2, 1) := by decide +kernel
theorem dX3_placeOf_90 : decode cX3_placeOf 90 = .ok (.isub, 1) := by decide +kernel
theorem dX3_placeOf_91 : decode cX3_placeOf 91 = .ok (.istore 10, 2) := by decide +kernel
theorem dX3_placeOf_93 : decode cX3_placeOf 93 = .ok (.iload 7, 2) := by decide +kernel
theorem dX3_placeOf_95 : decode cX3_placeOf 95 = .ok (.iload 10, 2) := by decide +kernel
theorem dX3_placeOf_97 : decode cX3_placeOf 97 = .ok (.imul, 1) := by decide +kernel
theorem dX3_placeOf_98 : decode cX3_placeOf 98 = .ok (.iload 8, 2) := by decide +kernel
theorem dX3_placeOf_100 : decode cX3_placeOf 100 = .ok (.iload 9, 2) := by decide +kernel
theorem dX3_placeOf_102 : decode cX3_placeOf 102 = .ok (.imul, 1) := by decide +kernel
theorem dX3_placeOf_103 : decode cX3_placeOf 103 = .ok (.isub, 1) := by decide +kernel
theorem dX3_placeOf_104 : decode cX3_placeOf 104 = .ok (.istore 11, 2) := by decide +kernel
theorem dX3_placeOf_106 : decode cX3_placeOf 106 = .ok (.iload 11, 2) := by decide +kernel
theorem dX3_placeOf_108 : decode cX3_placeOf 108 = .ok (.ifCond .ne 21, 3) := by decide +kernel
theorem dX3_placeOf_111 : decode cX3_placeOf 111 = .ok (.iload 7, 2) := by decide +kernel
theorem dX3_placeOf_113 : decode cX3_placeOf 113 = .ok (.iload 9, 2) := by decide +kernel
theorem dX3_placeOf_115 : decode cX3_placeOf 115 = .ok (.imul, 1) := by decide +kernel
theorem dX3_placeOf_116 : decode cX3_placeOf 116 = .ok (.ifCond .gt 13, 3) := by decide +kernel
theorem dX3_placeOf_119 : decode cX3_placeOf 119 = .ok (.iload 8, 2) := by decide +kernel
theorem dX3_placeOf_121 : decode cX3_placeOf 121 = .ok (.iload 10, 2) := by decide +kernel
theorem dX3_placeOf_123 : decode cX3_placeOf 123 = .ok (.imul, 1) := by decide +kernel
theorem dX3_placeOf_124 : decode cX3_placeOf 124 = .ok (.ifCond .gt 5, 3) := by decide +kernel
theorem dX3_placeOf_127 : decode cX3_placeOf 127 = .ok (.iconst 1, 1) := by decide +kernel
theorem dX3_placeOf_128 : decode cX3_placeOf 128 = .ok (.ireturn, 1) := by decide +kernel
theorem dX3_placeOf_129 : decode cX3_placeOf 129 = .ok (.iload 8, 2) := by decide +kernel
theorem dX3_placeOf_131 : decode cX3_placeOf 131 = .ok (.ifCond .le 7, 3) := by decide +kernel
theorem dX3_placeOf_134 : decode cX3_placeOf 134 = .ok (.iconst 1, 1) := by decide +kernel
theorem dX3_placeOf_135 : decode cX3_placeOf 135 = .ok (.goto 4, 3) := by decide +kernel
theorem dX3_placeOf_138 : decode cX3_placeOf 138 = .ok (.iconst 0, 1) := by decide +kernel
theorem dX3_placeOf_139 : decode cX3_placeOf 139 = .ok (.iload 10, 2) := by decide +kernel
theorem dX3_placeOf_141 : decode cX3_placeOf 141 = .ok (.ifCond .le 7, 3) := by decide +kernel
theorem dX3_placeOf_144 : decode cX3_placeOf 144 = .ok (.iconst 1, 1) := by decide +kernel
theorem dX3_placeOf_145 : decode cX3_placeOf 145 = .ok (.goto 4, 3) := by decide +kernel
theorem dX3_placeOf_148 : decode cX3_placeOf 148 = .ok (.iconst 0, 1) := by decide +kernel
theorem dX3_placeOf_149 : decode cX3_placeOf 149 = .ok (.if_icmp .eq 7, 3) := by decide +kernel
theorem dX3_placeOf_152 : decode cX3_placeOf 152 = .ok (.iconst 1, 1) := by decide +kernel
theorem dX3_placeOf_153 : decode cX3_placeOf 153 = .ok (.goto 4, 3) := by decide +kernel
theorem dX3_placeOf_156 : decode cX3_placeOf 156 = .ok (.iconst 0, 1) := by decide +kernel
theorem dX3_placeOf_157 : decode cX3_placeOf 157 = .ok (.istore 12, 2) := by decide +kernel
theorem dX3_placeOf_159 : decode cX3_placeOf 159 = .ok (.iload 12, 2) := by decide +kernel
theorem dX3_placeOf_161 : decode cX3_placeOf 161 = .ok (.ifCond .eq 40, 3) := by decide +kernel
theorem dX3_placeOf_164 : decode cX3_placeOf 164 = .ok (.iload 11, 2) := by decide +kernel
theorem dX3_placeOf_166 : decode cX3_placeOf 166 = .ok (.ifCond .le 7, 3) := by decide +kernel
theorem dX3_placeOf_169 : decode cX3_placeOf 169 = .ok (.iconst 1, 1) := by decide +kernel
theorem dX3_placeOf_170 : decode cX3_placeOf 170 = .ok (.goto 4, 3) := by decide +kernel
theorem dX3_placeOf_173 : decode cX3_placeOf 173 = .ok (.iconst 0, 1) := by decide +kernel
theorem dX3_placeOf_174 : decode cX3_placeOf 174 = .ok (.iload 10, 2) := by decide +kernel
theorem dX3_placeOf_176 : decode cX3_placeOf 176 = .ok (.iload 8, 2) := by decide +kernel
theorem dX3_placeOf_178 : decode cX3_placeOf 178 = .ok (.if_icmp .le 7, 3) := by decide +kernel
theorem dX3_placeOf_181 : decode cX3_placeOf 181 = .ok (.iconst 1, 1) := by decide +kernel
theorem dX3_placeOf_182 : decode cX3_placeOf 182 = .ok (.goto 4, 3) := by decide +kernel
theorem dX3_placeOf_185 : decode cX3_placeOf 185 = .ok (.iconst 0, 1) := by decide +kernel
theorem dX3_placeOf_186 : decode cX3_placeOf 186 = .ok (.if_icmp .ne 15, 3) := by decide +kernel
theorem dX3_placeOf_189 : decode cX3_placeOf 189 = .ok (.iload 4, 2) := by decide +kernel
theorem dX3_placeOf_191 : decode cX3_placeOf 191 = .ok (.ifCond .ne 7, 3) := by decide +kernel
theorem dX3_placeOf_194 : decode cX3_placeOf 194 = .ok (.iconst 1, 1) := by decide +kernel
theorem dX3_placeOf_195 : decode cX3_placeOf 195 = .ok (.goto 4, 3) := by decide +kernel
theorem dX3_placeOf_198 : decode cX3_placeOf 198 = .ok (.iconst 0, 1) := by decide +kernel
theorem dX3_placeOf_199 : decode cX3_placeOf 199 = .ok (.istore 4, 2) := by decide +kernel
theorem dX3_placeOf_201 : decode cX3_placeOf 201 = .ok (.iinc 5 1, 3) := by decide +kernel
theorem dX3_placeOf_204 : decode cX3_placeOf 204 = .ok (.goto (-198), 3) := by decide +kernel
theorem dX3_placeOf_207 : decode cX3_placeOf 207 = .ok (.iload 4, 2) := by decide +kernel
theorem dX3_placeOf_209 : decode cX3_placeOf 209 = .ok (.ifCond .eq 7, 3) := by decide +kernel
theorem dX3_placeOf_212 : decode cX3_placeOf 212 = .ok (.iconst 2, 1) := by decide +kernel
theorem dX3_placeOf_213 : decode cX3_placeOf 213 = .ok (.goto 4, 3) := by decide +kernel
theorem dX3_placeOf_216 : decode cX3_placeOf 216 = .ok (.iconst 0, 1) := by decide +kernel
theorem dX3_placeOf_217 : decode cX3_placeOf 217 = .ok (.ireturn, 1) := by decide +kernel
set_option maxRecDepth 20000 in
theorem ggX3_leastStart_X3_fits : GoodIn wsX3_leastStart wsX3_fits := goodIn_r _ [7, 1, 2, 8, 9, 10, 6, 11, 12, 13, 14, 15, 16, 17, 18, 19, 20, 21, 22, 23, 24, 25, 26, 27, 28, 29, 30, 31, 32, 33, 34, 35, 36, 37, 38, 39, 40, 41, 42, 43, 44, 45, 46, 47, 48, 49, 50, 51, 52, 53, 54, 55] (by decide +kernel) (by decide +kernel)
set_option maxRecDepth 20000 in
theorem gX3_leastStart_X3_fits : GoodIn wsX3_leastStart (wsV RX3 87 RX3 yX3_fits wsX3_fits) := goodIn_app (goodIn_of _ (by decide +kernel)) ggX3_leastStart_X3_fits
theorem dX3_leastStart_0 : decode cX3_leastStart 0 = .ok (.iconst 0, 1) := by decide +kernel
theorem dX3_leastStart_1 : decode cX3_leastStart 1 = .ok (.istore_n 3, 1) := by decide +kernel
theorem dX3_leastStart_2 : decode cX3_leastStart 2 = .ok (.iload_n 3, 1) := by decide +kernel
theorem dX3_leastStart_3 : decode cX3_leastStart 3 = .ok (.aload_n 1, 1) := by decide +kernel
theorem dX3_leastStart_4 : decode cX3_leastStart 4 = .ok (.getfield 12, 3) := by decide +kernel
theorem dX3_leastStart_7 : decode cX3_leastStart 7 = .ok (.getfield 59, 3) := by decide +kernel
theorem dX3_leastStart_10 : decode cX3_leastStart 10 = .ok (.if_icmp .ge 21, 3) := by decide +kernel
theorem dX3_leastStart_13 : decode cX3_leastStart 13 = .ok (.aload_n 0, 1) := by decide +kernel
theorem dX3_leastStart_14 : decode cX3_leastStart 14 = .ok (.aload_n 1, 1) := by decide +kernel
theorem dX3_leastStart_15 : decode cX3_leastStart 15 = .ok (.iload_n 3, 1) := by decide +kernel
theorem dX3_leastStart_16 : decode cX3_leastStart 16 = .ok (.iload_n 2, 1) := by decide +kernel
theorem dX3_leastStart_17 : decode cX3_leastStart 17 = .ok (.invokevirtual 87, 3) := by decide +kernel
theorem dX3_leastStart_20 : decode cX3_leastStart 20 = .ok (.ifCond .eq 5, 3) := by decide +kernel
theorem dX3_leastStart_23 : decode cX3_leastStart 23 = .ok (.iload_n 3, 1) := by decide +kernel
theorem dX3_leastStart_24 : decode cX3_leastStart 24 = .ok (.ireturn, 1) := by decide +kernel
theorem dX3_leastStart_25 : decode cX3_leastStart 25 = .ok (.iinc 3 1, 3) := by decide +kernel
theorem dX3_leastStart_28 : decode cX3_leastStart 28 = .ok (.goto (-26), 3) := by decide +kernel
theorem dX3_leastStart_31 : decode cX3_leastStart 31 = .ok (.iconst (-1), 1) := by decide +kernel
theorem dX3_leastStart_32 : decode cX3_leastStart 32 = .ok (.ireturn, 1) := by decide +kernel
set_option maxRecDepth 20000 in
theorem ggX3_startCount_X3_fits : GoodIn wsX3_startCount wsX3_fits := goodIn_r _ [7, 1, 2, 8, 9, 10, 6, 11, 12, 13, 14, 15, 16, 17, 18, 19, 20, 21, 22, 23, 24, 25, 26, 27, 28, 29, 30, 31, 32, 33, 34, 35, 36, 37, 38, 39, 40, 41, 42, 43, 44, 45, 46, 47, 48, 49, 50, 51, 52, 53, 54, 55] (by decide +kernel) (by decide +kernel)
set_option maxRecDepth 20000 in
theorem gX3_startCount_X3_fits : GoodIn wsX3_startCount (wsV RX3 87 RX3 yX3_fits wsX3_fits) := goodIn_app (goodIn_of _ (by decide +kernel)) ggX3_startCount_X3_fits
theorem dX3_startCount_0 : decode cX3_startCount 0 = .ok (.iconst 0, 1) := by decide +kernel
theorem dX3_startCount_1 : decode cX3_startCount 1 = .ok (.istore_n 2, 1) := by decide +kernel
theorem dX3_startCount_2 : decode cX3_startCount 2 = .ok (.iconst 0, 1) := by decide +kernel
theorem dX3_startCount_3 : decode cX3_startCount 3 = .ok (.istore_n 3, 1) := by decide +kernel
theorem dX3_startCount_4 : decode cX3_startCount 4 = .ok (.iload_n 3, 1) := by decide +kernel
theorem dX3_startCount_5 : decode cX3_startCount 5 = .ok (.aload_n 0, 1) := by decide +kernel
theorem dX3_startCount_6 : decode cX3_startCount 6 = .ok (.getfield 12, 3) := by decide +kernel
theorem dX3_startCount_9 : decode cX3_startCount 9 = .ok (.getfield 59, 3) := by decide +kernel
theorem dX3_startCount_12 : decode cX3_startCount 12 = .ok (.if_icmp .ge 22, 3) := by decide +kernel
theorem dX3_startCount_15 : decode cX3_startCount 15 = .ok (.aload_n 0, 1) := by decide +kernel
theorem dX3_startCount_16 : decode cX3_startCount 16 = .ok (.aload_n 0, 1) := by decide +kernel
theorem dX3_startCount_17 : decode cX3_startCount 17 = .ok (.iload_n 3, 1) := by decide +kernel
theorem dX3_startCount_18 : decode cX3_startCount 18 = .ok (.iload_n 1, 1) := by decide +kernel
theorem dX3_startCount_19 : decode cX3_startCount 19 = .ok (.invokevirtual 87, 3) := by decide +kernel
theorem dX3_startCount_22 : decode cX3_startCount 22 = .ok (.ifCond .eq 6, 3) := by decide +kernel
theorem dX3_startCount_25 : decode cX3_startCount 25 = .ok (.iinc 2 1, 3) := by decide +kernel
theorem dX3_startCount_28 : decode cX3_startCount 28 = .ok (.iinc 3 1, 3) := by decide +kernel
theorem dX3_startCount_31 : decode cX3_startCount 31 = .ok (.goto (-27), 3) := by decide +kernel
theorem dX3_startCount_34 : decode cX3_startCount 34 = .ok (.iload_n 2, 1) := by decide +kernel
theorem dX3_startCount_35 : decode cX3_startCount 35 = .ok (.ireturn, 1) := by decide +kernel
set_option maxRecDepth 20000 in
theorem ggX3_crossOfEdge_X1_after : GoodIn wsX3_crossOfEdge wsX1_after := goodIn_r _ [8, 9, 22, 23, 24] (by decide +kernel) (by decide +kernel)
set_option maxRecDepth 20000 in
theorem gX3_crossOfEdge_X1_after : GoodIn wsX3_crossOfEdge (wsV RX3 74 RX1 yX1_after wsX1_after) := goodIn_app (goodIn_of _ (by decide +kernel)) ggX3_crossOfEdge_X1_after
theorem dX3_crossOfEdge_0 : decode cX3_crossOfEdge 0 = .ok (.aload_n 0, 1) := by decide +kernel
theorem dX3_crossOfEdge_1 : decode cX3_crossOfEdge 1 = .ok (.getfield 12, 3) := by decide +kernel
theorem dX3_crossOfEdge_4 : decode cX3_crossOfEdge 4 = .ok (.iload_n 1, 1) := by decide +kernel
theorem dX3_crossOfEdge_5 : decode cX3_crossOfEdge 5 = .ok (.invokevirtual 74, 3) := by decide +kernel
theorem dX3_crossOfEdge_8 : decode cX3_crossOfEdge 8 = .ok (.istore_n 2, 1) := by decide +kernel
theorem dX3_crossOfEdge_9 : decode cX3_crossOfEdge 9 = .ok (.aload_n 0, 1) := by decide +kernel
theorem dX3_crossOfEdge_10 : decode cX3_crossOfEdge 10 = .ok (.getfield 12, 3) := by decide +kernel
theorem dX3_crossOfEdge_13 : decode cX3_crossOfEdge 13 = .ok (.getfield 77, 3) := by decide +kernel
theorem dX3_crossOfEdge_16 : decode cX3_crossOfEdge 16 = .ok (.iload_n 1, 1) := by decide +kernel
theorem dX3_crossOfEdge_17 : decode cX3_crossOfEdge 17 = .ok (.iaload, 1) := by decide +kernel
theorem dX3_crossOfEdge_18 : decode cX3_crossOfEdge 18 = .ok (.aload_n 0, 1) := by decide +kernel
theorem dX3_crossOfEdge_19 : decode cX3_crossOfEdge 19 = .ok (.getfield 12, 3) := by decide +kernel
theorem dX3_crossOfEdge_22 : decode cX3_crossOfEdge 22 = .ok (.getfield 80, 3) := by decide +kernel
theorem dX3_crossOfEdge_25 : decode cX3_crossOfEdge 25 = .ok (.iload_n 2, 1) := by decide +kernel
theorem dX3_crossOfEdge_26 : decode cX3_crossOfEdge 26 = .ok (.iaload, 1) := by decide +kernel
theorem dX3_crossOfEdge_27 : decode cX3_crossOfEdge 27 = .ok (.imul, 1) := by decide +kernel
theorem dX3_crossOfEdge_28 : decode cX3_crossOfEdge 28 = .ok (.aload_n 0, 1) := by decide +kernel
theorem dX3_crossOfEdge_29 : decode cX3_crossOfEdge 29 = .ok (.getfield 12, 3) := by decide +kernel
theorem dX3_crossOfEdge_32 : decode cX3_crossOfEdge 32 = .ok (.getfield 80, 3) := by decide +kernel
theorem dX3_crossOfEdge_35 : decode cX3_crossOfEdge 35 = .ok (.iload_n 1, 1) := by decide +kernel
theorem dX3_crossOfEdge_36 : decode cX3_crossOfEdge 36 = .ok (.iaload, 1) := by decide +kernel
theorem dX3_crossOfEdge_37 : decode cX3_crossOfEdge 37 = .ok (.aload_n 0, 1) := by decide +kernel
theorem dX3_crossOfEdge_38 : decode cX3_crossOfEdge 38 = .ok (.getfield 12, 3) := by decide +kernel
theorem dX3_crossOfEdge_41 : decode cX3_crossOfEdge 41 = .ok (.getfield 77, 3) := by decide +kernel
theorem dX3_crossOfEdge_44 : decode cX3_crossOfEdge 44 = .ok (.iload_n 2, 1) := by decide +kernel
theorem dX3_crossOfEdge_45 : decode cX3_crossOfEdge 45 = .ok (.iaload, 1) := by decide +kernel
theorem dX3_crossOfEdge_46 : decode cX3_crossOfEdge 46 = .ok (.imul, 1) := by decide +kernel
theorem dX3_crossOfEdge_47 : decode cX3_crossOfEdge 47 = .ok (.isub, 1) := by decide +kernel
theorem dX3_crossOfEdge_48 : decode cX3_crossOfEdge 48 = .ok (.ireturn, 1) := by decide +kernel
set_option maxRecDepth 20000 in
theorem ggX3_look_X1_after : GoodIn wsX3_look wsX1_after := goodIn_r _ [8, 9, 56, 57, 58] (by decide +kernel) (by decide +kernel)
set_option maxRecDepth 20000 in
theorem gX3_look_X1_after : GoodIn wsX3_look (wsV RX3 74 RX1 yX1_after wsX1_after) := goodIn_app (goodIn_of _ (by decide +kernel)) ggX3_look_X1_after
set_option maxRecDepth 20000 in
theorem ggX3_look_X3_isFree : GoodIn wsX3_look wsX3_isFree := goodIn_r _ [14, 1, 15, 4, 5, 6, 7, 8, 9, 16, 17, 18, 19, 20, 21, 22, 23, 24, 25, 26, 27, 28, 29, 30, 31, 32, 33, 34, 35, 36, 37, 38, 39, 44, 45, 46, 47, 48, 49, 50, 51, 52, 53, 54, 55, 56, 57, 58] (by decide +kernel) (by decide +kernel)
set_option maxRecDepth 20000 in
theorem gX3_look_X3_isFree : GoodIn wsX3_look (wsV RX3 91 RX3 yX3_isFree wsX3_isFree) := goodIn_app (goodIn_of _ (by decide +kernel)) ggX3_look_X3_isFree
set_option maxRecDepth 20000 in
theorem ggX3_look_X3_placeOf : GoodIn wsX3_look wsX3_placeOf := goodIn_r _ [43, 1, 15, 2, 3, 4, 5, 6, 7, 8, 9, 44, 45, 46, 47, 48, 49, 50, 51, 52, 53, 54, 55, 56, 57, 58] (by decide +kernel) (by decide +kernel)
set_option maxRecDepth 20000 in
theorem gX3_look_X3_placeOf : GoodIn wsX3_look (wsV RX3 95 RX3 yX3_placeOf wsX3_placeOf) := goodIn_app (goodIn_of _ (by decide +kernel)) ggX3_look_X3_placeOf
theorem dX3_look_0 : decode cX3_look 0 = .ok (.aload_n 0, 1) := by decide +kernel
theorem dX3_look_1 : decode cX3_look 1 = .ok (.getfield 12, 3) := by decide +kernel
theorem dX3_look_4 : decode cX3_look 4 = .ok (.iload_n 1, 1) := by decide +kernel
theorem dX3_look_5 : decode cX3_look 5 = .ok (.invokevirtual 74, 3) := by decide +kernel
theorem dX3_look_8 : decode cX3_look 8 = .ok (.iload_n 2, 1) := by decide +kernel
theorem dX3_look_9 : decode cX3_look 9 = .ok (.if_icmp .eq 15, 3) := by decide +kernel
theorem dX3_look_12 : decode cX3_look 12 = .ok (.aload_n 0, 1) := by decide +kernel
theorem dX3_look_13 : decode cX3_look 13 = .ok (.getfield 12, 3) := by decide +kernel
theorem dX3_look_16 : decode cX3_look 16 = .ok (.iload_n 2, 1) := by decide +kernel
theorem dX3_look_17 : decode cX3_look 17 = .ok (.invokevirtual 74, 3) := by decide +kernel
theorem dX3_look_20 : decode cX3_look 20 = .ok (.iload_n 1, 1) := by decide +kernel
theorem dX3_look_21 : decode cX3_look 21 = .ok (.if_icmp .ne 5, 3) := by decide +kernel
theorem dX3_look_24 : decode cX3_look 24 = .ok (.iconst 2, 1) := by decide +kernel
theorem dX3_look_25 : decode cX3_look 25 = .ok (.ireturn, 1) := by decide +kernel
theorem dX3_look_26 : decode cX3_look 26 = .ok (.aload_n 0, 1) := by decide +kernel
theorem dX3_look_27 : decode cX3_look 27 = .ok (.getfield 12, 3) := by decide +kernel
theorem dX3_look_30 : decode cX3_look 30 = .ok (.getfield 77, 3) := by decide +kernel
theorem dX3_look_33 : decode cX3_look 33 = .ok (.iload_n 1, 1) := by decide +kernel
theorem dX3_look_34 : decode cX3_look 34 = .ok (.iaload, 1) := by decide +kernel
theorem dX3_look_35 : decode cX3_look 35 = .ok (.aload_n 0, 1) := by decide +kernel
theorem dX3_look_36 : decode cX3_look 36 = .ok (.getfield 12, 3) := by decide +kernel
theorem dX3_look_39 : decode cX3_look 39 = .ok (.getfield 77, 3) := by decide +kernel
theorem dX3_look_42 : decode cX3_look 42 = .ok (.iload_n 2, 1) := by decide +kernel
theorem dX3_look_43 : decode cX3_look 43 = .ok (.iaload, 1) := by decide +kernel
theorem dX3_look_44 : decode cX3_look 44 = .ok (.iadd, 1) := by decide +kernel
theorem dX3_look_45 : decode cX3_look 45 = .ok (.istore_n 3, 1) := by decide +kernel
theorem dX3_look_46 : decode cX3_look 46 = .ok (.aload_n 0, 1) := by decide +kernel
theorem dX3_look_47 : decode cX3_look 47 = .ok (.getfield 12, 3) := by decide +kernel
theorem dX3_look_50 : decode cX3_look 50 = .ok (.getfield 80, 3) := by decide +kernel
theorem dX3_look_53 : decode cX3_look 53 = .ok (.iload_n 1, 1) := by decide +kernel
theorem dX3_look_54 : decode cX3_look 54 = .ok (.iaload, 1) := by decide +kernel
theorem dX3_look_55 : decode cX3_look 55 = .ok (.aload_n 0, 1) := by decide +kernel
theorem dX3_look_56 : decode cX3_look 56 = .ok (.getfield 12, 3) := by decide +kernel
theorem dX3_look_59 : decode cX3_look 59 = .ok (.getfield 80, 3) := by decide +kernel
theorem dX3_look_62 : decode cX3_look 62 = .ok (.iload_n 2, 1) := by decide +kernel
theorem dX3_look_63 : decode cX3_look 63 = .ok (.iaload, 1) := by decide +kernel
theorem dX3_look_64 : decode cX3_look 64 = .ok (.iadd, 1) := by decide +kernel
theorem dX3_look_65 : decode cX3_look 65 = .ok (.istore 4, 2) := by decide +kernel
theorem dX3_look_67 : decode cX3_look 67 = .ok (.aload_n 0, 1) := by decide +kernel
theorem dX3_look_68 : decode cX3_look 68 = .ok (.iload_n 1, 1) := by decide +kernel
theorem dX3_look_69 : decode cX3_look 69 = .ok (.iload_n 2, 1) := by decide +kernel
theorem dX3_look_70 : decode cX3_look 70 = .ok (.invokevirtual 91, 3) := by decide +kernel
theorem dX3_look_73 : decode cX3_look 73 = .ok (.ifCond .eq 19, 3) := by decide +kernel
theorem dX3_look_76 : decode cX3_look 76 = .ok (.aload_n 0, 1) := by decide +kernel
theorem dX3_look_77 : decode cX3_look 77 = .ok (.iload_n 3, 1) := by decide +kernel
theorem dX3_look_78 : decode cX3_look 78 = .ok (.iload 4, 2) := by decide +kernel
theorem dX3_look_80 : decode cX3_look 80 = .ok (.iconst 2, 1) := by decide +kernel
theorem dX3_look_81 : decode cX3_look 81 = .ok (.invokevirtual 95, 3) := by decide +kernel
theorem dX3_look_84 : decode cX3_look 84 = .ok (.iconst 2, 1) := by decide +kernel
theorem dX3_look_85 : decode cX3_look 85 = .ok (.if_icmp .ne 7, 3) := by decide +kernel
theorem dX3_look_88 : decode cX3_look 88 = .ok (.iconst 1, 1) := by decide +kernel
theorem dX3_look_89 : decode cX3_look 89 = .ok (.goto 4, 3) := by decide +kernel
theorem dX3_look_92 : decode cX3_look 92 = .ok (.iconst 0, 1) := by decide +kernel
theorem dX3_look_93 : decode cX3_look 93 = .ok (.ireturn, 1) := by decide +kernel
set_option maxRecDepth 20000 in
theorem ggX3_isFree_X1_after : GoodIn wsX3_isFree wsX1_after := goodIn_r _ [7, 8, 45, 46, 47] (by decide +kernel) (by decide +kernel)
set_option maxRecDepth 20000 in
theorem gX3_isFree_X1_after : GoodIn wsX3_isFree (wsV RX3 74 RX1 yX1_after wsX1_after) := goodIn_app (goodIn_of _ (by decide +kernel)) ggX3_isFree_X1_after
set_option maxRecDepth 20000 in
theorem ggX3_isFree_X1_meet : GoodIn wsX3_isFree wsX1_meet := goodIn_r _ [12, 13, 14, 15, 16, 6, 17, 18, 19, 20, 21, 22, 23, 24, 25, 26, 27, 28, 29, 30, 31, 32, 45, 46, 47] (by decide +kernel) (by decide +kernel)
set_option maxRecDepth 20000 in
theorem gX3_isFree_X1_meet : GoodIn wsX3_isFree (wsV RX3 99 RX1 yX1_meet wsX1_meet) := goodIn_app (goodIn_of _ (by decide +kernel)) ggX3_isFree_X1_meet
theorem dX3_isFree_0 : decode cX3_isFree 0 = .ok (.iconst 0, 1) := by decide +kernel
theorem dX3_isFree_1 : decode cX3_isFree 1 = .ok (.istore_n 3, 1) := by decide +kernel
theorem dX3_isFree_2 : decode cX3_isFree 2 = .ok (.iload_n 3, 1) := by decide +kernel
theorem dX3_isFree_3 : decode cX3_isFree 3 = .ok (.aload_n 0, 1) := by decide +kernel
theorem dX3_isFree_4 : decode cX3_isFree 4 = .ok (.getfield 12, 3) := by decide +kernel
theorem dX3_isFree_7 : decode cX3_isFree 7 = .ok (.getfield 59, 3) := by decide +kernel
theorem dX3_isFree_10 : decode cX3_isFree 10 = .ok (.if_icmp .ge 70, 3) := by decide +kernel
theorem dX3_isFree_13 : decode cX3_isFree 13 = .ok (.aload_n 0, 1) := by decide +kernel
theorem dX3_isFree_14 : decode cX3_isFree 14 = .ok (.getfield 12, 3) := by decide +kernel
theorem dX3_isFree_17 : decode cX3_isFree 17 = .ok (.iload_n 3, 1) := by decide +kernel
theorem dX3_isFree_18 : decode cX3_isFree 18 = .ok (.invokevirtual 74, 3) := by decide +kernel
theorem dX3_isFree_21 : decode cX3_isFree 21 = .ok (.istore 4, 2) := by decide +kernel
theorem dX3_isFree_23 : decode cX3_isFree 23 = .ok (.iload_n 3, 1) := by decide +kernel
theorem dX3_isFree_24 : decode cX3_isFree 24 = .ok (.iload_n 1, 1) := by decide +kernel
theorem dX3_isFree_25 : decode cX3_isFree 25 = .ok (.if_icmp .eq 20, 3) := by decide +kernel
theorem dX3_isFree_28 : decode cX3_isFree 28 = .ok (.iload_n 3, 1) := by decide +kernel
theorem dX3_isFree_29 : decode cX3_isFree 29 = .ok (.iload_n 2, 1) := by decide +kernel
theorem dX3_isFree_30 : decode cX3_isFree 30 = .ok (.if_icmp .eq 15, 3) := by decide +kernel
theorem dX3_isFree_33 : decode cX3_isFree 33 = .ok (.iload 4, 2) := by decide +kernel
theorem dX3_isFree_35 : decode cX3_isFree 35 = .ok (.iload_n 1, 1) := by decide +kernel
theorem dX3_isFree_36 : decode cX3_isFree 36 = .ok (.if_icmp .eq 9, 3) := by decide +kernel
theorem dX3_isFree_39 : decode cX3_isFree 39 = .ok (.iload 4, 2) := by decide +kernel
theorem dX3_isFree_41 : decode cX3_isFree 41 = .ok (.iload_n 2, 1) := by decide +kernel
theorem dX3_isFree_42 : decode cX3_isFree 42 = .ok (.if_icmp .ne 7, 3) := by decide +kernel
theorem dX3_isFree_45 : decode cX3_isFree 45 = .ok (.iconst 1, 1) := by decide +kernel
theorem dX3_isFree_46 : decode cX3_isFree 46 = .ok (.goto 4, 3) := by decide +kernel
theorem dX3_isFree_49 : decode cX3_isFree 49 = .ok (.iconst 0, 1) := by decide +kernel
theorem dX3_isFree_50 : decode cX3_isFree 50 = .ok (.istore 5, 2) := by decide +kernel
theorem dX3_isFree_52 : decode cX3_isFree 52 = .ok (.iload 5, 2) := by decide +kernel
theorem dX3_isFree_54 : decode cX3_isFree 54 = .ok (.ifCond .ne 20, 3) := by decide +kernel
theorem dX3_isFree_57 : decode cX3_isFree 57 = .ok (.aload_n 0, 1) := by decide +kernel
theorem dX3_isFree_58 : decode cX3_isFree 58 = .ok (.getfield 12, 3) := by decide +kernel
theorem dX3_isFree_61 : decode cX3_isFree 61 = .ok (.iload_n 1, 1) := by decide +kernel
theorem dX3_isFree_62 : decode cX3_isFree 62 = .ok (.iload_n 2, 1) := by decide +kernel
theorem dX3_isFree_63 : decode cX3_isFree 63 = .ok (.iload_n 3, 1) := by decide +kernel
theorem dX3_isFree_64 : decode cX3_isFree 64 = .ok (.iload 4, 2) := by decide +kernel
theorem dX3_isFree_66 : decode cX3_isFree 66 = .ok (.invokevirtual 99, 3) := by decide +kernel
theorem dX3_isFree_69 : decode cX3_isFree 69 = .ok (.ifCond .eq 5, 3) := by decide +kernel
theorem dX3_isFree_72 : decode cX3_isFree 72 = .ok (.iconst 0, 1) := by decide +kernel
theorem dX3_isFree_73 : decode cX3_isFree 73 = .ok (.ireturn, 1) := by decide +kernel
theorem dX3_isFree_74 : decode cX3_isFree 74 = .ok (.iinc 3 1, 3) := by decide +kernel
theorem dX3_isFree_77 : decode cX3_isFree 77 = .ok (.goto (-75), 3) := by decide +kernel
theorem dX3_isFree_80 : decode cX3_isFree 80 = .ok (.iconst 1, 1) := by decide +kernel
theorem dX3_isFree_81 : decode cX3_isFree 81 = .ok (.ireturn, 1) := by decide +kernel
set_option maxRecDepth 20000 in
theorem ggX3_fits_X3_hand : GoodIn wsX3_fits wsX3_hand := goodIn_r _ [7, 8, 37, 38, 39, 40, 41, 42, 43, 44, 45, 46, 47, 48] (by decide +kernel) (by decide +kernel)
set_option maxRecDepth 20000 in
theorem gX3_fits_X3_hand : GoodIn wsX3_fits (wsV RX3 103 RX3 yX3_hand wsX3_hand) := goodIn_app (goodIn_of _ (by decide +kernel)) ggX3_fits_X3_hand
set_option maxRecDepth 20000 in
theorem ggX3_fits_X1_after : GoodIn wsX3_fits wsX1_after := goodIn_r _ [13, 14, 49, 50, 51] (by decide +kernel) (by decide +kernel)
set_option maxRecDepth 20000 in
theorem gX3_fits_X1_after : GoodIn wsX3_fits (wsV RX3 74 RX1 yX1_after wsX1_after) := goodIn_app (goodIn_of _ (by decide +kernel)) ggX3_fits_X1_after
set_option maxRecDepth 20000 in
theorem ggX3_fits_X1_before : GoodIn wsX3_fits wsX1_before := goodIn_r _ [18, 14, 49, 50, 51] (by decide +kernel) (by decide +kernel)
set_option maxRecDepth 20000 in
theorem gX3_fits_X1_before : GoodIn wsX3_fits (wsV RX3 107 RX1 yX1_before wsX1_before) := goodIn_app (goodIn_of _ (by decide +kernel)) ggX3_fits_X1_before
set_option maxRecDepth 20000 in
theorem ggX3_fits_X3_fitsCorner : GoodIn wsX3_fits wsX3_fitsCorner := goodIn_r _ [22, 1, 15, 16, 17, 12, 18, 14, 9, 10, 11, 13, 23, 24, 25, 26, 27, 28, 29, 30, 31, 32, 33, 34, 35, 36, 37, 38, 39, 40, 41, 42, 43, 44, 45, 46, 47, 48, 49, 50, 51] (by decide +kernel) (by decide +kernel)
set_option maxRecDepth 20000 in
theorem gX3_fits_X3_fitsCorner : GoodIn wsX3_fits (wsV RX3 110 RX3 yX3_fitsCorner wsX3_fitsCorner) := goodIn_app (goodIn_of _ (by decide +kernel)) ggX3_fits_X3_fitsCorner
theorem dX3_fits_0 : decode cX3_fits 0 = .ok (.aload_n 1, 1) := by decide +kernel
theorem dX3_fits_1 : decode cX3_fits 1 = .ok (.getfield 12, 3) := by decide +kernel
theorem dX3_fits_4 : decode cX3_fits 4 = .ok (.astore 4, 2) := by decide +kernel
theorem dX3_fits_6 : decode cX3_fits 6 = .ok (.aload_n 0, 1) := by decide +kernel
theorem dX3_fits_7 : decode cX3_fits 7 = .ok (.getfield 12, 3) := by decide +kernel
theorem dX3_fits_10 : decode cX3_fits 10 = .ok (.getfield 59, 3) := by decide +kernel
theorem dX3_fits_13 : decode cX3_fits 13 = .ok (.aload 4, 2) := by decide +kernel
theorem dX3_fits_15 : decode cX3_fits 15 = .ok (.getfield 59, 3) := by decide +kernel
theorem dX3_fits_18 : decode cX3_fits 18 = .ok (.if_icmp .eq 5, 3) := by decide +kernel
theorem dX3_fits_21 : decode cX3_fits 21 = .ok (.iconst 0, 1) := by decide +kernel
theorem dX3_fits_22 : decode cX3_fits 22 = .ok (.ireturn, 1) := by decide +kernel
theorem dX3_fits_23 : decode cX3_fits 23 = .ok (.aload_n 0, 1) := by decide +kernel
theorem dX3_fits_24 : decode cX3_fits 24 = .ok (.invokevirtual 103, 3) := by decide +kernel
theorem dX3_fits_27 : decode cX3_fits 27 = .ok (.iload_n 3, 1) := by decide +kernel
theorem dX3_fits_28 : decode cX3_fits 28 = .ok (.imul, 1) := by decide +kernel
theorem dX3_fits_29 : decode cX3_fits 29 = .ok (.aload_n 1, 1) := by decide +kernel
theorem dX3_fits_30 : decode cX3_fits 30 = .ok (.invokevirtual 103, 3) := by decide +kernel
theorem dX3_fits_33 : decode cX3_fits 33 = .ok (.if_icmp .ne 7, 3) := by decide +kernel
theorem dX3_fits_36 : decode cX3_fits 36 = .ok (.iconst 1, 1) := by decide +kernel
theorem dX3_fits_37 : decode cX3_fits 37 = .ok (.goto 4, 3) := by decide +kernel
theorem dX3_fits_40 : decode cX3_fits 40 = .ok (.iconst 0, 1) := by decide +kernel
theorem dX3_fits_41 : decode cX3_fits 41 = .ok (.istore 5, 2) := by decide +kernel
theorem dX3_fits_43 : decode cX3_fits 43 = .ok (.iload_n 2, 1) := by decide +kernel
theorem dX3_fits_44 : decode cX3_fits 44 = .ok (.istore 6, 2) := by decide +kernel
theorem dX3_fits_46 : decode cX3_fits 46 = .ok (.iconst 0, 1) := by decide +kernel
theorem dX3_fits_47 : decode cX3_fits 47 = .ok (.istore 7, 2) := by decide +kernel
theorem dX3_fits_49 : decode cX3_fits 49 = .ok (.iload 7, 2) := by decide +kernel
theorem dX3_fits_51 : decode cX3_fits 51 = .ok (.aload_n 0, 1) := by decide +kernel
theorem dX3_fits_52 : decode cX3_fits 52 = .ok (.getfield 12, 3) := by decide +kernel
theorem dX3_fits_55 : decode cX3_fits 55 = .ok (.getfield 59, 3) := by decide +kernel
theorem dX3_fits_58 : decode cX3_fits 58 = .ok (.if_icmp .ge 81, 3) := by decide +kernel
theorem dX3_fits_61 : decode cX3_fits 61 = .ok (.iload 5, 2) := by decide +kernel
theorem dX3_fits_63 : decode cX3_fits 63 = .ok (.ifCond .eq 13, 3) := by decide +kernel
theorem dX3_fits_66 : decode cX3_fits 66 = .ok (.aload 4, 2) := by decide +kernel
theorem dX3_fits_68 : decode cX3_fits 68 = .ok (.iload 6, 2) := by decide +kernel
theorem dX3_fits_70 : decode cX3_fits 70 = .ok (.invokevirtual 74, 3) := by decide +kernel
theorem dX3_fits_73 : decode cX3_fits 73 = .ok (.goto 10, 3) := by decide +kernel
theorem dX3_fits_76 : decode cX3_fits 76 = .ok (.aload 4, 2) := by decide +kernel
theorem dX3_fits_78 : decode cX3_fits 78 = .ok (.iload 6, 2) := by decide +kernel
theorem dX3_fits_80 : decode cX3_fits 80 = .ok (.invokevirtual 107, 3) := by decide +kernel
theorem dX3_fits_83 : decode cX3_fits 83 = .ok (.istore 8, 2) := by decide +kernel
theorem dX3_fits_85 : decode cX3_fits 85 = .ok (.iload 5, 2) := by decide +kernel
theorem dX3_fits_87 : decode cX3_fits 87 = .ok (.ifCond .eq 13, 3) := by decide +kernel
theorem dX3_fits_90 : decode cX3_fits 90 = .ok (.aload 4, 2) := by decide +kernel
theorem dX3_fits_92 : decode cX3_fits 92 = .ok (.iload 6, 2) := by decide +kernel
theorem dX3_fits_94 : decode cX3_fits 94 = .ok (.invokevirtual 107, 3) := by decide +kernel
theorem dX3_fits_97 : decode cX3_fits 97 = .ok (.goto 10, 3) := by decide +kernel
theorem dX3_fits_100 : decode cX3_fits 100 = .ok (.aload 4, 2) := by decide +kernel
theorem dX3_fits_102 : decode cX3_fits 102 = .ok (.iload 6, 2) := by decide +kernel
theorem dX3_fits_104 : decode cX3_fits 104 = .ok (.invokevirtual 74, 3) := by decide +kernel
theorem dX3_fits_107 : decode cX3_fits 107 = .ok (.istore 9, 2) := by decide +kernel
theorem dX3_fits_109 : decode cX3_fits 109 = .ok (.aload_n 0, 1) := by decide +kernel
theorem dX3_fits_110 : decode cX3_fits 110 = .ok (.iload 7, 2) := by decide +kernel
theorem dX3_fits_112 : decode cX3_fits 112 = .ok (.aload 4, 2) := by decide +kernel
theorem dX3_fits_114 : decode cX3_fits 114 = .ok (.iload 9, 2) := by decide +kernel
theorem dX3_fits_116 : decode cX3_fits 116 = .ok (.iload 6, 2) := by decide +kernel
theorem dX3_fits_118 : decode cX3_fits 118 = .ok (.iload 8, 2) := by decide +kernel
theorem dX3_fits_120 : decode cX3_fits 120 = .ok (.iload_n 3, 1) := by decide +kernel
theorem dX3_fits_121 : decode cX3_fits 121 = .ok (.invokevirtual 110, 3) := by decide +kernel
theorem dX3_fits_124 : decode cX3_fits 124 = .ok (.ifCond .ne 5, 3) := by decide +kernel
theorem dX3_fits_127 : decode cX3_fits 127 = .ok (.iconst 0, 1) := by decide +kernel
theorem dX3_fits_128 : decode cX3_fits 128 = .ok (.ireturn, 1) := by decide +kernel
theorem dX3_fits_129 : decode cX3_fits 129 = .ok (.iload 8, 2) := by decide +kernel
theorem dX3_fits_131 : decode cX3_fits 131 = .ok (.istore 6, 2) := by decide +kernel
theorem dX3_fits_133 : decode cX3_fits 133 = .ok (.iinc 7 1, 3) := by decide +kernel
theorem dX3_fits_136 : decode cX3_fits 136 = .ok (.goto (-87), 3) := by decide +kernel
theorem dX3_fits_139 : decode cX3_fits 139 = .ok (.iconst 1, 1) := by decide +kernel
theorem dX3_fits_140 : decode cX3_fits 140 = .ok (.ireturn, 1) := by decide +kernel
set_option maxRecDepth 20000 in
theorem ggX3_fitsCorner_X1_before : GoodIn wsX3_fitsCorner wsX1_before := goodIn_r _ [6, 7, 38, 39, 40] (by decide +kernel) (by decide +kernel)
set_option maxRecDepth 20000 in
theorem gX3_fitsCorner_X1_before : GoodIn wsX3_fitsCorner (wsV RX3 107 RX1 yX1_before wsX1_before) := goodIn_app (goodIn_of _ (by decide +kernel)) ggX3_fitsCorner_X1_before
set_option maxRecDepth 20000 in
theorem ggX3_fitsCorner_X1_after : GoodIn wsX3_fitsCorner wsX1_after := goodIn_r _ [11, 7, 38, 39, 40] (by decide +kernel) (by decide +kernel)
set_option maxRecDepth 20000 in
theorem gX3_fitsCorner_X1_after : GoodIn wsX3_fitsCorner (wsV RX3 74 RX1 yX1_after wsX1_after) := goodIn_app (goodIn_of _ (by decide +kernel)) ggX3_fitsCorner_X1_after
set_option maxRecDepth 20000 in
theorem ggX3_fitsCorner_X1_squaredLength : GoodIn wsX3_fitsCorner wsX1_squaredLength := goodIn_r _ [15, 16, 17, 38, 39, 40] (by decide +kernel) (by decide +kernel)
set_option maxRecDepth 20000 in
theorem gX3_fitsCorner_X1_squaredLength : GoodIn wsX3_fitsCorner (wsV RX3 114 RX1 yX1_squaredLength wsX1_squaredLength) := goodIn_app (goodIn_of _ (by decide +kernel)) ggX3_fitsCorner_X1_squaredLength
set_option maxRecDepth 20000 in
theorem ggX3_fitsCorner_X1_turn : GoodIn wsX3_fitsCorner wsX1_turn := goodIn_r _ [21, 16, 17, 38, 39, 40] (by decide +kernel) (by decide +kernel)
set_option maxRecDepth 20000 in
theorem gX3_fitsCorner_X1_turn : GoodIn wsX3_fitsCorner (wsV RX3 117 RX1 yX1_turn wsX1_turn) := goodIn_app (goodIn_of _ (by decide +kernel)) ggX3_fitsCorner_X1_turn
set_option maxRecDepth 20000 in
theorem ggX3_fitsCorner_X1_advance : GoodIn wsX3_fitsCorner wsX1_advance := goodIn_r _ [25, 16, 17, 38, 39, 40] (by decide +kernel) (by decide +kernel)
set_option maxRecDepth 20000 in
theorem gX3_fitsCorner_X1_advance : GoodIn wsX3_fitsCorner (wsV RX3 120 RX1 yX1_advance wsX1_advance) := goodIn_app (goodIn_of _ (by decide +kernel)) ggX3_fitsCorner_X1_advance
theorem dX3_fitsCorner_0 : decode cX3_fitsCorner 0 = .ok (.aload_n 0, 1) := by decide +kernel
theorem dX3_fitsCorner_1 : decode cX3_fitsCorner 1 = .ok (.getfield 12, 3) := by decide +kernel
theorem dX3_fitsCorner_4 : decode cX3_fitsCorner 4 = .ok (.iload_n 1, 1) := by decide +kernel
theorem dX3_fitsCorner_5 : decode cX3_fitsCorner 5 = .ok (.invokevirtual 107, 3) := by decide +kernel
theorem dX3_fitsCorner_8 : decode cX3_fitsCorner 8 = .ok (.istore 7, 2) := by decide +kernel
theorem dX3_fitsCorner_10 : decode cX3_fitsCorner 10 = .ok (.aload_n 0, 1) := by decide +kernel
theorem dX3_fitsCorner_11 : decode cX3_fitsCorner 11 = .ok (.getfield 12, 3) := by decide +kernel
theorem dX3_fitsCorner_14 : decode cX3_fitsCorner 14 = .ok (.iload_n 1, 1) := by decide +kernel
theorem dX3_fitsCorner_15 : decode cX3_fitsCorner 15 = .ok (.invokevirtual 74, 3) := by decide +kernel
theorem dX3_fitsCorner_18 : decode cX3_fitsCorner 18 = .ok (.istore 8, 2) := by decide +kernel
theorem dX3_fitsCorner_20 : decode cX3_fitsCorner 20 = .ok (.aload_n 0, 1) := by decide +kernel
theorem dX3_fitsCorner_21 : decode cX3_fitsCorner 21 = .ok (.getfield 12, 3) := by decide +kernel
theorem dX3_fitsCorner_24 : decode cX3_fitsCorner 24 = .ok (.iload_n 1, 1) := by decide +kernel
theorem dX3_fitsCorner_25 : decode cX3_fitsCorner 25 = .ok (.iload 8, 2) := by decide +kernel
theorem dX3_fitsCorner_27 : decode cX3_fitsCorner 27 = .ok (.invokevirtual 114, 3) := by decide +kernel
theorem dX3_fitsCorner_30 : decode cX3_fitsCorner 30 = .ok (.aload_n 2, 1) := by decide +kernel
theorem dX3_fitsCorner_31 : decode cX3_fitsCorner 31 = .ok (.iload 4, 2) := by decide +kernel
theorem dX3_fitsCorner_33 : decode cX3_fitsCorner 33 = .ok (.iload 5, 2) := by decide +kernel
theorem dX3_fitsCorner_35 : decode cX3_fitsCorner 35 = .ok (.invokevirtual 114, 3) := by decide +kernel
theorem dX3_fitsCorner_38 : decode cX3_fitsCorner 38 = .ok (.if_icmp .ne 58, 3) := by decide +kernel
theorem dX3_fitsCorner_41 : decode cX3_fitsCorner 41 = .ok (.aload_n 0, 1) := by decide +kernel
theorem dX3_fitsCorner_42 : decode cX3_fitsCorner 42 = .ok (.getfield 12, 3) := by decide +kernel
theorem dX3_fitsCorner_45 : decode cX3_fitsCorner 45 = .ok (.iload 7, 2) := by decide +kernel
theorem dX3_fitsCorner_47 : decode cX3_fitsCorner 47 = .ok (.iload_n 1, 1) := by decide +kernel
theorem dX3_fitsCorner_48 : decode cX3_fitsCorner 48 = .ok (.iload 8, 2) := by decide +kernel
theorem dX3_fitsCorner_50 : decode cX3_fitsCorner 50 = .ok (.invokevirtual 117, 3) := by decide +kernel
theorem dX3_fitsCorner_53 : decode cX3_fitsCorner 53 = .ok (.iload 6, 2) := by decide +kernel
theorem dX3_fitsCorner_55 : decode cX3_fitsCorner 55 = .ok (.aload_n 2, 1) := by decide +kernel
theorem dX3_fitsCorner_56 : decode cX3_fitsCorner 56 = .ok (.iload_n 3, 1) := by decide +kernel
theorem dX3_fitsCorner_57 : decode cX3_fitsCorner 57 = .ok (.iload 4, 2) := by decide +kernel
theorem dX3_fitsCorner_59 : decode cX3_fitsCorner 59 = .ok (.iload 5, 2) := by decide +kernel
theorem dX3_fitsCorner_61 : decode cX3_fitsCorner 61 = .ok (.invokevirtual 117, 3) := by decide +kernel
theorem dX3_fitsCorner_64 : decode cX3_fitsCorner 64 = .ok (.imul, 1) := by decide +kernel
theorem dX3_fitsCorner_65 : decode cX3_fitsCorner 65 = .ok (.if_icmp .ne 31, 3) := by decide +kernel
theorem dX3_fitsCorner_68 : decode cX3_fitsCorner 68 = .ok (.aload_n 0, 1) := by decide +kernel
theorem dX3_fitsCorner_69 : decode cX3_fitsCorner 69 = .ok (.getfield 12, 3) := by decide +kernel
theorem dX3_fitsCorner_72 : decode cX3_fitsCorner 72 = .ok (.iload 7, 2) := by decide +kernel
theorem dX3_fitsCorner_74 : decode cX3_fitsCorner 74 = .ok (.iload_n 1, 1) := by decide +kernel
theorem dX3_fitsCorner_75 : decode cX3_fitsCorner 75 = .ok (.iload 8, 2) := by decide +kernel
theorem dX3_fitsCorner_77 : decode cX3_fitsCorner 77 = .ok (.invokevirtual 120, 3) := by decide +kernel
theorem dX3_fitsCorner_80 : decode cX3_fitsCorner 80 = .ok (.aload_n 2, 1) := by decide +kernel
theorem dX3_fitsCorner_81 : decode cX3_fitsCorner 81 = .ok (.iload_n 3, 1) := by decide +kernel
theorem dX3_fitsCorner_82 : decode cX3_fitsCorner 82 = .ok (.iload 4, 2) := by decide +kernel
theorem dX3_fitsCorner_84 : decode cX3_fitsCorner 84 = .ok (.iload 5, 2) := by decide +kernel
theorem dX3_fitsCorner_86 : decode cX3_fitsCorner 86 = .ok (.invokevirtual 120, 3) := by decide +kernel
theorem dX3_fitsCorner_89 : decode cX3_fitsCorner 89 = .ok (.if_icmp .ne 7, 3) := by decide +kernel
theorem dX3_fitsCorner_92 : decode cX3_fitsCorner 92 = .ok (.iconst 1, 1) := by decide +kernel
theorem dX3_fitsCorner_93 : decode cX3_fitsCorner 93 = .ok (.goto 4, 3) := by decide +kernel
theorem dX3_fitsCorner_96 : decode cX3_fitsCorner 96 = .ok (.iconst 0, 1) := by decide +kernel
theorem dX3_fitsCorner_97 : decode cX3_fitsCorner 97 = .ok (.ireturn, 1) := by decide +kernel
theorem dX4_init_0 : decode cX4_init 0 = .ok (.aload_n 0, 1) := by decide +kernel
theorem dX4_init_1 : decode cX4_init 1 = .ok (.invokespecial 3, 3) := by decide +kernel
theorem dX4_init_4 : decode cX4_init 4 = .ok (.aload_n 0, 1) := by decide +kernel
theorem dX4_init_5 : decode cX4_init 5 = .ok (.bipush 14, 2) := by decide +kernel
theorem dX4_init_7 : decode cX4_init 7 = .ok (.newarray .int, 2) := by decide +kernel
theorem dX4_init_9 : decode cX4_init 9 = .ok (.putfield 9, 3) := by decide +kernel
theorem dX4_init_12 : decode cX4_init 12 = .ok (.return_, 1) := by decide +kernel
set_option maxRecDepth 20000 in
theorem ggX4_measure_X4_leastNext : GoodIn wsX4_measure wsX4_leastNext := goodIn_r _ [8, 1, 2, 9, 3, 10, 11, 12, 13, 14, 15, 16, 17, 18, 19, 20, 21, 22, 23, 24, 25] (by decide +kernel) (by decide +kernel)
set_option maxRecDepth 20000 in
theorem gX4_measure_X4_leastNext : GoodIn wsX4_measure (wsV RX4 27 RX4 yX4_leastNext wsX4_leastNext) := goodIn_app (goodIn_of _ (by decide +kernel)) ggX4_measure_X4_leastNext
theorem dX4_measure_0 : decode cX4_measure 0 = .ok (.aload_n 1, 1) := by decide +kernel
theorem dX4_measure_1 : decode cX4_measure 1 = .ok (.getfield 15, 3) := by decide +kernel
theorem dX4_measure_4 : decode cX4_measure 4 = .ok (.getfield 21, 3) := by decide +kernel
theorem dX4_measure_7 : decode cX4_measure 7 = .ok (.istore_n 3, 1) := by decide +kernel
theorem dX4_measure_8 : decode cX4_measure 8 = .ok (.iconst 0, 1) := by decide +kernel
theorem dX4_measure_9 : decode cX4_measure 9 = .ok (.istore 4, 2) := by decide +kernel
theorem dX4_measure_11 : decode cX4_measure 11 = .ok (.iload 4, 2) := by decide +kernel
theorem dX4_measure_13 : decode cX4_measure 13 = .ok (.iload_n 3, 1) := by decide +kernel
theorem dX4_measure_14 : decode cX4_measure 14 = .ok (.if_icmp .ge 17, 3) := by decide +kernel
theorem dX4_measure_17 : decode cX4_measure 17 = .ok (.aload_n 0, 1) := by decide +kernel
theorem dX4_measure_18 : decode cX4_measure 18 = .ok (.getfield 9, 3) := by decide +kernel
theorem dX4_measure_21 : decode cX4_measure 21 = .ok (.iload 4, 2) := by decide +kernel
theorem dX4_measure_23 : decode cX4_measure 23 = .ok (.iconst (-1), 1) := by decide +kernel
theorem dX4_measure_24 : decode cX4_measure 24 = .ok (.iastore, 1) := by decide +kernel
theorem dX4_measure_25 : decode cX4_measure 25 = .ok (.iinc 4 1, 3) := by decide +kernel
theorem dX4_measure_28 : decode cX4_measure 28 = .ok (.goto (-17), 3) := by decide +kernel
theorem dX4_measure_31 : decode cX4_measure 31 = .ok (.aload_n 0, 1) := by decide +kernel
theorem dX4_measure_32 : decode cX4_measure 32 = .ok (.getfield 9, 3) := by decide +kernel
theorem dX4_measure_35 : decode cX4_measure 35 = .ok (.iload_n 2, 1) := by decide +kernel
theorem dX4_measure_36 : decode cX4_measure 36 = .ok (.iconst 0, 1) := by decide +kernel
theorem dX4_measure_37 : decode cX4_measure 37 = .ok (.iastore, 1) := by decide +kernel
theorem dX4_measure_38 : decode cX4_measure 38 = .ok (.iconst 1, 1) := by decide +kernel
theorem dX4_measure_39 : decode cX4_measure 39 = .ok (.istore 4, 2) := by decide +kernel
theorem dX4_measure_41 : decode cX4_measure 41 = .ok (.iload 4, 2) := by decide +kernel
theorem dX4_measure_43 : decode cX4_measure 43 = .ok (.iload_n 3, 1) := by decide +kernel
theorem dX4_measure_44 : decode cX4_measure 44 = .ok (.if_icmp .ge 59, 3) := by decide +kernel
theorem dX4_measure_47 : decode cX4_measure 47 = .ok (.iconst 0, 1) := by decide +kernel
theorem dX4_measure_48 : decode cX4_measure 48 = .ok (.istore 5, 2) := by decide +kernel
theorem dX4_measure_50 : decode cX4_measure 50 = .ok (.iload 5, 2) := by decide +kernel
theorem dX4_measure_52 : decode cX4_measure 52 = .ok (.iload_n 3, 1) := by decide +kernel
theorem dX4_measure_53 : decode cX4_measure 53 = .ok (.if_icmp .ge 44, 3) := by decide +kernel
theorem dX4_measure_56 : decode cX4_measure 56 = .ok (.aload_n 0, 1) := by decide +kernel
theorem dX4_measure_57 : decode cX4_measure 57 = .ok (.getfield 9, 3) := by decide +kernel
theorem dX4_measure_60 : decode cX4_measure 60 = .ok (.iload 5, 2) := by decide +kernel
theorem dX4_measure_62 : decode cX4_measure 62 = .ok (.iaload, 1) := by decide +kernel
theorem dX4_measure_63 : decode cX4_measure 63 = .ok (.iconst (-1), 1) := by decide +kernel
theorem dX4_measure_64 : decode cX4_measure 64 = .ok (.if_icmp .ne 27, 3) := by decide +kernel
theorem dX4_measure_67 : decode cX4_measure 67 = .ok (.aload_n 0, 1) := by decide +kernel
theorem dX4_measure_68 : decode cX4_measure 68 = .ok (.aload_n 1, 1) := by decide +kernel
theorem dX4_measure_69 : decode cX4_measure 69 = .ok (.iload 5, 2) := by decide +kernel
theorem dX4_measure_71 : decode cX4_measure 71 = .ok (.iload 4, 2) := by decide +kernel
theorem dX4_measure_73 : decode cX4_measure 73 = .ok (.iconst 1, 1) := by decide +kernel
theorem dX4_measure_74 : decode cX4_measure 74 = .ok (.isub, 1) := by decide +kernel
theorem dX4_measure_75 : decode cX4_measure 75 = .ok (.invokevirtual 27, 3) := by decide +kernel
theorem dX4_measure_78 : decode cX4_measure 78 = .ok (.iconst (-1), 1) := by decide +kernel
theorem dX4_measure_79 : decode cX4_measure 79 = .ok (.if_icmp .eq 12, 3) := by decide +kernel
theorem dX4_measure_82 : decode cX4_measure 82 = .ok (.aload_n 0, 1) := by decide +kernel
theorem dX4_measure_83 : decode cX4_measure 83 = .ok (.getfield 9, 3) := by decide +kernel
theorem dX4_measure_86 : decode cX4_measure 86 = .ok (.iload 5, 2) := by decide +kernel
theorem dX4_measure_88 : decode cX4_measure 88 = .ok (.iload 4, 2) := by decide +kernel
theorem dX4_measure_90 : decode cX4_measure 90 = .ok (.iastore, 1) := by decide +kernel
theorem dX4_measure_91 : decode cX4_measure 91 = .ok (.iinc 5 1, 3) := by decide +kernel
theorem dX4_measure_94 : decode cX4_measure 94 = .ok (.goto (-44), 3) := by decide +kernel
theorem dX4_measure_97 : decode cX4_measure 97 = .ok (.iinc 4 1, 3) := by decide +kernel
theorem dX4_measure_100 : decode cX4_measure 100 = .ok (.goto (-59), 3) := by decide +kernel
theorem dX4_measure_103 : decode cX4_measure 103 = .ok (.return_, 1) := by decide +kernel
set_option maxRecDepth 20000 in
theorem ggX4_cornerAfter_X4_leastNext : GoodIn wsX4_cornerAfter wsX4_leastNext := goodIn_r _ [6, 7, 8, 9, 1, 11, 12, 13, 14, 15, 16, 17, 18, 19, 20, 21, 22, 23, 24, 25, 10] (by decide +kernel) (by decide +kernel)
set_option maxRecDepth 20000 in
theorem gX4_cornerAfter_X4_leastNext : GoodIn wsX4_cornerAfter (wsV RX4 27 RX4 yX4_leastNext wsX4_leastNext) := goodIn_app (goodIn_of _ (by decide +kernel)) ggX4_cornerAfter_X4_leastNext
theorem dX4_cornerAfter_0 : decode cX4_cornerAfter 0 = .ok (.iload_n 3, 1) := by decide +kernel
theorem dX4_cornerAfter_1 : decode cX4_cornerAfter 1 = .ok (.ifCond .lt 13, 3) := by decide +kernel
theorem dX4_cornerAfter_4 : decode cX4_cornerAfter 4 = .ok (.iload_n 3, 1) := by decide +kernel
theorem dX4_cornerAfter_5 : decode cX4_cornerAfter 5 = .ok (.aload_n 0, 1) := by decide +kernel
theorem dX4_cornerAfter_6 : decode cX4_cornerAfter 6 = .ok (.getfield 9, 3) := by decide +kernel
theorem dX4_cornerAfter_9 : decode cX4_cornerAfter 9 = .ok (.iload_n 2, 1) := by decide +kernel
theorem dX4_cornerAfter_10 : decode cX4_cornerAfter 10 = .ok (.iaload, 1) := by decide +kernel
theorem dX4_cornerAfter_11 : decode cX4_cornerAfter 11 = .ok (.if_icmp .le 5, 3) := by decide +kernel
theorem dX4_cornerAfter_14 : decode cX4_cornerAfter 14 = .ok (.iconst (-1), 1) := by decide +kernel
theorem dX4_cornerAfter_15 : decode cX4_cornerAfter 15 = .ok (.ireturn, 1) := by decide +kernel
theorem dX4_cornerAfter_16 : decode cX4_cornerAfter 16 = .ok (.iload_n 2, 1) := by decide +kernel
theorem dX4_cornerAfter_17 : decode cX4_cornerAfter 17 = .ok (.istore 4, 2) := by decide +kernel
theorem dX4_cornerAfter_19 : decode cX4_cornerAfter 19 = .ok (.aload_n 0, 1) := by decide +kernel
theorem dX4_cornerAfter_20 : decode cX4_cornerAfter 20 = .ok (.getfield 9, 3) := by decide +kernel
theorem dX4_cornerAfter_23 : decode cX4_cornerAfter 23 = .ok (.iload_n 2, 1) := by decide +kernel
theorem dX4_cornerAfter_24 : decode cX4_cornerAfter 24 = .ok (.iaload, 1) := by decide +kernel
theorem dX4_cornerAfter_25 : decode cX4_cornerAfter 25 = .ok (.iconst 1, 1) := by decide +kernel
theorem dX4_cornerAfter_26 : decode cX4_cornerAfter 26 = .ok (.isub, 1) := by decide +kernel
theorem dX4_cornerAfter_27 : decode cX4_cornerAfter 27 = .ok (.istore 5, 2) := by decide +kernel
theorem dX4_cornerAfter_29 : decode cX4_cornerAfter 29 = .ok (.iload 5, 2) := by decide +kernel
theorem dX4_cornerAfter_31 : decode cX4_cornerAfter 31 = .ok (.aload_n 0, 1) := by decide +kernel
theorem dX4_cornerAfter_32 : decode cX4_cornerAfter 32 = .ok (.getfield 9, 3) := by decide +kernel
theorem dX4_cornerAfter_35 : decode cX4_cornerAfter 35 = .ok (.iload_n 2, 1) := by decide +kernel
theorem dX4_cornerAfter_36 : decode cX4_cornerAfter 36 = .ok (.iaload, 1) := by decide +kernel
theorem dX4_cornerAfter_37 : decode cX4_cornerAfter 37 = .ok (.iload_n 3, 1) := by decide +kernel
theorem dX4_cornerAfter_38 : decode cX4_cornerAfter 38 = .ok (.isub, 1) := by decide +kernel
theorem dX4_cornerAfter_39 : decode cX4_cornerAfter 39 = .ok (.if_icmp .lt 32, 3) := by decide +kernel
theorem dX4_cornerAfter_42 : decode cX4_cornerAfter 42 = .ok (.aload_n 0, 1) := by decide +kernel
theorem dX4_cornerAfter_43 : decode cX4_cornerAfter 43 = .ok (.aload_n 1, 1) := by decide +kernel
theorem dX4_cornerAfter_44 : decode cX4_cornerAfter 44 = .ok (.iload 4, 2) := by decide +kernel
theorem dX4_cornerAfter_46 : decode cX4_cornerAfter 46 = .ok (.iload 5, 2) := by decide +kernel
theorem dX4_cornerAfter_48 : decode cX4_cornerAfter 48 = .ok (.invokevirtual 27, 3) := by decide +kernel
theorem dX4_cornerAfter_51 : decode cX4_cornerAfter 51 = .ok (.istore 6, 2) := by decide +kernel
theorem dX4_cornerAfter_53 : decode cX4_cornerAfter 53 = .ok (.iload 6, 2) := by decide +kernel
theorem dX4_cornerAfter_55 : decode cX4_cornerAfter 55 = .ok (.iconst (-1), 1) := by decide +kernel
theorem dX4_cornerAfter_56 : decode cX4_cornerAfter 56 = .ok (.if_icmp .ne 5, 3) := by decide +kernel
theorem dX4_cornerAfter_59 : decode cX4_cornerAfter 59 = .ok (.iconst (-1), 1) := by decide +kernel
theorem dX4_cornerAfter_60 : decode cX4_cornerAfter 60 = .ok (.ireturn, 1) := by decide +kernel
theorem dX4_cornerAfter_61 : decode cX4_cornerAfter 61 = .ok (.iload 6, 2) := by decide +kernel
theorem dX4_cornerAfter_63 : decode cX4_cornerAfter 63 = .ok (.istore 4, 2) := by decide +kernel
theorem dX4_cornerAfter_65 : decode cX4_cornerAfter 65 = .ok (.iinc 5 (-1), 3) := by decide +kernel
theorem dX4_cornerAfter_68 : decode cX4_cornerAfter 68 = .ok (.goto (-39), 3) := by decide +kernel
theorem dX4_cornerAfter_71 : decode cX4_cornerAfter 71 = .ok (.iload 4, 2) := by decide +kernel
theorem dX4_cornerAfter_73 : decode cX4_cornerAfter 73 = .ok (.ireturn, 1) := by decide +kernel
theorem dX4_leastNext_0 : decode cX4_leastNext 0 = .ok (.iconst 0, 1) := by decide +kernel
theorem dX4_leastNext_1 : decode cX4_leastNext 1 = .ok (.istore 4, 2) := by decide +kernel
theorem dX4_leastNext_3 : decode cX4_leastNext 3 = .ok (.iload 4, 2) := by decide +kernel
theorem dX4_leastNext_5 : decode cX4_leastNext 5 = .ok (.aload_n 1, 1) := by decide +kernel
theorem dX4_leastNext_6 : decode cX4_leastNext 6 = .ok (.getfield 15, 3) := by decide +kernel
theorem dX4_leastNext_9 : decode cX4_leastNext 9 = .ok (.getfield 21, 3) := by decide +kernel
theorem dX4_leastNext_12 : decode cX4_leastNext 12 = .ok (.if_icmp .ge 35, 3) := by decide +kernel
theorem dX4_leastNext_15 : decode cX4_leastNext 15 = .ok (.aload_n 1, 1) := by decide +kernel
theorem dX4_leastNext_16 : decode cX4_leastNext 16 = .ok (.getfield 31, 3) := by decide +kernel
theorem dX4_leastNext_19 : decode cX4_leastNext 19 = .ok (.iload_n 2, 1) := by decide +kernel
theorem dX4_leastNext_20 : decode cX4_leastNext 20 = .ok (.aaload, 1) := by decide +kernel
theorem dX4_leastNext_21 : decode cX4_leastNext 21 = .ok (.iload 4, 2) := by decide +kernel
theorem dX4_leastNext_23 : decode cX4_leastNext 23 = .ok (.iaload, 1) := by decide +kernel
theorem dX4_leastNext_24 : decode cX4_leastNext 24 = .ok (.ifCond .eq 17, 3) := by decide +kernel
theorem dX4_leastNext_27 : decode cX4_leastNext 27 = .ok (.aload_n 0, 1) := by decide +kernel
theorem dX4_leastNext_28 : decode cX4_leastNext 28 = .ok (.getfield 9, 3) := by decide +kernel
theorem dX4_leastNext_31 : decode cX4_leastNext 31 = .ok (.iload 4, 2) := by decide +kernel
theorem dX4_leastNext_33 : decode cX4_leastNext 33 = .ok (.iaload, 1) := by decide +kernel
theorem dX4_leastNext_34 : decode cX4_leastNext 34 = .ok (.iload_n 3, 1) := by decide +kernel
theorem dX4_leastNext_35 : decode cX4_leastNext 35 = .ok (.if_icmp .ne 6, 3) := by decide +kernel
theorem dX4_leastNext_38 : decode cX4_leastNext 38 = .ok (.iload 4, 2) := by decide +kernel
theorem dX4_leastNext_40 : decode cX4_leastNext 40 = .ok (.ireturn, 1) := by decide +kernel
theorem dX4_leastNext_41 : decode cX4_leastNext 41 = .ok (.iinc 4 1, 3) := by decide +kernel
theorem dX4_leastNext_44 : decode cX4_leastNext 44 = .ok (.goto (-41), 3) := by decide +kernel
theorem dX4_leastNext_47 : decode cX4_leastNext 47 = .ok (.iconst (-1), 1) := by decide +kernel
theorem dX4_leastNext_48 : decode cX4_leastNext 48 = .ok (.ireturn, 1) := by decide +kernel
end
section
set_option maxRecDepth 20000 in
theorem ggX5_init_X1_init : GoodIn wsX5_init wsX1_init := goodIn_r _ [26, 27, 2, 3, 28, 29, 30, 31, 67, 68, 69] (by decide +kernel) (by decide +kernel)
set_option maxRecDepth 20000 in
theorem gX5_init_X1_init_n9 : GoodIn wsX5_init (wsX1_init) := ggX5_init_X1_init
set_option maxRecDepth 20000 in
theorem ggX5_init_X0_init : GoodIn wsX5_init wsX0_init := goodIn_r _ [33, 34, 2, 3, 35, 36, 37, 76, 77, 78] (by decide +kernel) (by decide +kernel)
set_option maxRecDepth 20000 in
theorem gX5_init_X0_init_n18 : GoodIn wsX5_init (wsX0_init) := ggX5_init_X0_init
set_option maxRecDepth 20000 in
theorem ggX5_init_X2_init : GoodIn wsX5_init wsX2_init := goodIn_r _ [39, 40, 2, 3, 41, 28, 42, 43, 44, 45, 79, 80, 81, 82] (by decide +kernel) (by decide +kernel)
set_option maxRecDepth 20000 in
theorem gX5_init_X2_init_n25 : GoodIn wsX5_init (wsX2_init) := ggX5_init_X2_init
set_option maxRecDepth 20000 in
theorem ggX5_init_X4_init : GoodIn wsX5_init wsX4_init := goodIn_r _ [47, 48, 2, 3, 28, 49, 83] (by decide +kernel) (by decide +kernel)
set_option maxRecDepth 20000 in
theorem gX5_init_X4_init_n32 : GoodIn wsX5_init (wsX4_init) := ggX5_init_X4_init
set_option maxRecDepth 20000 in
theorem ggX5_init_X3_init : GoodIn wsX5_init wsX3_init := goodIn_r _ [51, 52, 2, 3, 53, 5, 6, 54, 55, 28, 56, 57, 58, 59, 60, 61, 62, 63, 64, 65, 66, 25, 26, 27, 29, 30, 31, 67, 68, 69, 84, 85, 86, 87, 88, 89, 90, 91, 92, 93, 94, 95] (by decide +kernel) (by decide +kernel)
set_option maxRecDepth 20000 in
theorem gX5_init_X3_init_n43 : GoodIn wsX5_init (wsX3_init) := ggX5_init_X3_init
theorem dX5_init_0 : decode cX5_init 0 = .ok (.aload_n 0, 1) := by decide +kernel
theorem dX5_init_1 : decode cX5_init 1 = .ok (.invokespecial 1, 3) := by decide +kernel
theorem dX5_init_4 : decode cX5_init 4 = .ok (.aload_n 0, 1) := by decide +kernel
theorem dX5_init_5 : decode cX5_init 5 = .ok (.new 7, 3) := by decide +kernel
theorem dX5_init_8 : decode cX5_init 8 = .ok (.dup, 1) := by decide +kernel
theorem dX5_init_9 : decode cX5_init 9 = .ok (.invokespecial 9, 3) := by decide +kernel
theorem dX5_init_12 : decode cX5_init 12 = .ok (.putfield 10, 3) := by decide +kernel
theorem dX5_init_15 : decode cX5_init 15 = .ok (.aload_n 0, 1) := by decide +kernel
theorem dX5_init_16 : decode cX5_init 16 = .ok (.new 16, 3) := by decide +kernel
theorem dX5_init_19 : decode cX5_init 19 = .ok (.dup, 1) := by decide +kernel
theorem dX5_init_20 : decode cX5_init 20 = .ok (.invokespecial 18, 3) := by decide +kernel
theorem dX5_init_23 : decode cX5_init 23 = .ok (.putfield 19, 3) := by decide +kernel
theorem dX5_init_26 : decode cX5_init 26 = .ok (.aload_n 0, 1) := by decide +kernel
theorem dX5_init_27 : decode cX5_init 27 = .ok (.new 23, 3) := by decide +kernel
theorem dX5_init_30 : decode cX5_init 30 = .ok (.dup, 1) := by decide +kernel
theorem dX5_init_31 : decode cX5_init 31 = .ok (.invokespecial 25, 3) := by decide +kernel
theorem dX5_init_34 : decode cX5_init 34 = .ok (.putfield 26, 3) := by decide +kernel
theorem dX5_init_37 : decode cX5_init 37 = .ok (.aload_n 0, 1) := by decide +kernel
theorem dX5_init_38 : decode cX5_init 38 = .ok (.new 30, 3) := by decide +kernel
theorem dX5_init_41 : decode cX5_init 41 = .ok (.dup, 1) := by decide +kernel
theorem dX5_init_42 : decode cX5_init 42 = .ok (.invokespecial 32, 3) := by decide +kernel
theorem dX5_init_45 : decode cX5_init 45 = .ok (.putfield 33, 3) := by decide +kernel
theorem dX5_init_48 : decode cX5_init 48 = .ok (.aload_n 0, 1) := by decide +kernel
theorem dX5_init_49 : decode cX5_init 49 = .ok (.bipush 8, 2) := by decide +kernel
theorem dX5_init_51 : decode cX5_init 51 = .ok (.anewarray 37, 3) := by decide +kernel
theorem dX5_init_54 : decode cX5_init 54 = .ok (.putfield 39, 3) := by decide +kernel
theorem dX5_init_57 : decode cX5_init 57 = .ok (.iconst 0, 1) := by decide +kernel
theorem dX5_init_58 : decode cX5_init 58 = .ok (.istore_n 1, 1) := by decide +kernel
theorem dX5_init_59 : decode cX5_init 59 = .ok (.iload_n 1, 1) := by decide +kernel
theorem dX5_init_60 : decode cX5_init 60 = .ok (.bipush 8, 2) := by decide +kernel
theorem dX5_init_62 : decode cX5_init 62 = .ok (.if_icmp .ge 22, 3) := by decide +kernel
theorem dX5_init_65 : decode cX5_init 65 = .ok (.aload_n 0, 1) := by decide +kernel
theorem dX5_init_66 : decode cX5_init 66 = .ok (.getfield 39, 3) := by decide +kernel
theorem dX5_init_69 : decode cX5_init 69 = .ok (.iload_n 1, 1) := by decide +kernel
theorem dX5_init_70 : decode cX5_init 70 = .ok (.new 37, 3) := by decide +kernel
theorem dX5_init_73 : decode cX5_init 73 = .ok (.dup, 1) := by decide +kernel
theorem dX5_init_74 : decode cX5_init 74 = .ok (.invokespecial 43, 3) := by decide +kernel
theorem dX5_init_77 : decode cX5_init 77 = .ok (.aastore, 1) := by decide +kernel
theorem dX5_init_78 : decode cX5_init 78 = .ok (.iinc 1 1, 3) := by decide +kernel
theorem dX5_init_81 : decode cX5_init 81 = .ok (.goto (-22), 3) := by decide +kernel
theorem dX5_init_84 : decode cX5_init 84 = .ok (.aload_n 0, 1) := by decide +kernel
theorem dX5_init_85 : decode cX5_init 85 = .ok (.iconst 0, 1) := by decide +kernel
theorem dX5_init_86 : decode cX5_init 86 = .ok (.putfield 44, 3) := by decide +kernel
theorem dX5_init_89 : decode cX5_init 89 = .ok (.return_, 1) := by decide +kernel
set_option maxRecDepth 20000 in
theorem ggX5_corner_X5_isWithin : GoodIn wsX5_corner wsX5_isWithin := goodIn_r _ [6] (by decide +kernel) (by decide +kernel)
set_option maxRecDepth 20000 in
theorem gX5_corner_X5_isWithin : GoodIn wsX5_corner (va_wsS RX5 48 yX5_isWithin wsX5_isWithin) := goodIn_app (goodIn_of _ (by decide +kernel)) ggX5_corner_X5_isWithin
set_option maxRecDepth 20000 in
theorem ggX5_corner_X1_isFull : GoodIn wsX5_corner wsX1_isFull := goodIn_r _ [11, 12, 26, 27, 28] (by decide +kernel) (by decide +kernel)
set_option maxRecDepth 20000 in
theorem gX5_corner_X1_isFull : GoodIn wsX5_corner (wsV RX5 52 RX1 yX1_isFull wsX1_isFull) := goodIn_app (goodIn_of _ (by decide +kernel)) ggX5_corner_X1_isFull
set_option maxRecDepth 20000 in
theorem ggX5_corner_X1_append : GoodIn wsX5_corner wsX1_append := goodIn_r _ [16, 17, 12, 18, 19, 8, 9, 10, 11, 26, 27, 28] (by decide +kernel) (by decide +kernel)
set_option maxRecDepth 20000 in
theorem gX5_corner_X1_append : GoodIn wsX5_corner (wsV RX5 56 RX1 yX1_append wsX1_append) := goodIn_app (goodIn_of _ (by decide +kernel)) ggX5_corner_X1_append
theorem dX5_corner_0 : decode cX5_corner 0 = .ok (.iload_n 1, 1) := by decide +kernel
theorem dX5_corner_1 : decode cX5_corner 1 = .ok (.sipush 1000, 3) := by decide +kernel
theorem dX5_corner_4 : decode cX5_corner 4 = .ok (.invokestatic 48, 3) := by decide +kernel
theorem dX5_corner_7 : decode cX5_corner 7 = .ok (.ifCond .eq 13, 3) := by decide +kernel
theorem dX5_corner_10 : decode cX5_corner 10 = .ok (.iload_n 2, 1) := by decide +kernel
theorem dX5_corner_11 : decode cX5_corner 11 = .ok (.sipush 1000, 3) := by decide +kernel
theorem dX5_corner_14 : decode cX5_corner 14 = .ok (.invokestatic 48, 3) := by decide +kernel
theorem dX5_corner_17 : decode cX5_corner 17 = .ok (.ifCond .ne 6, 3) := by decide +kernel
theorem dX5_corner_20 : decode cX5_corner 20 = .ok (.bipush (-3), 2) := by decide +kernel
theorem dX5_corner_22 : decode cX5_corner 22 = .ok (.ireturn, 1) := by decide +kernel
theorem dX5_corner_23 : decode cX5_corner 23 = .ok (.aload_n 0, 1) := by decide +kernel
theorem dX5_corner_24 : decode cX5_corner 24 = .ok (.getfield 10, 3) := by decide +kernel
theorem dX5_corner_27 : decode cX5_corner 27 = .ok (.invokevirtual 52, 3) := by decide +kernel
theorem dX5_corner_30 : decode cX5_corner 30 = .ok (.ifCond .eq 6, 3) := by decide +kernel
theorem dX5_corner_33 : decode cX5_corner 33 = .ok (.bipush (-4), 2) := by decide +kernel
theorem dX5_corner_35 : decode cX5_corner 35 = .ok (.ireturn, 1) := by decide +kernel
theorem dX5_corner_36 : decode cX5_corner 36 = .ok (.aload_n 0, 1) := by decide +kernel
theorem dX5_corner_37 : decode cX5_corner 37 = .ok (.getfield 10, 3) := by decide +kernel
theorem dX5_corner_40 : decode cX5_corner 40 = .ok (.iload_n 1, 1) := by decide +kernel
theorem dX5_corner_41 : decode cX5_corner 41 = .ok (.iload_n 2, 1) := by decide +kernel
theorem dX5_corner_42 : decode cX5_corner 42 = .ok (.invokevirtual 56, 3) := by decide +kernel
theorem dX5_corner_45 : decode cX5_corner 45 = .ok (.aload_n 0, 1) := by decide +kernel
theorem dX5_corner_46 : decode cX5_corner 46 = .ok (.getfield 10, 3) := by decide +kernel
theorem dX5_corner_49 : decode cX5_corner 49 = .ok (.getfield 60, 3) := by decide +kernel
theorem dX5_corner_52 : decode cX5_corner 52 = .ok (.ireturn, 1) := by decide +kernel
set_option maxRecDepth 20000 in
theorem ggX5_polygon_X0_examine : GoodIn wsX5_polygon wsX0_examine := goodIn_r _ [11, 12, 13, 14, 15, 16, 10, 17, 18, 19, 20, 21, 22, 23, 24, 25, 26, 27, 28, 29, 30, 31, 32, 33, 34, 35, 36, 37, 38, 39, 40, 41, 42, 43, 44, 45, 46, 47, 48, 49, 50, 51, 52, 53, 54, 55, 56, 57, 58, 59, 60, 61, 62, 196, 197, 198, 193, 194, 195] (by decide +kernel) (by decide +kernel)
set_option maxRecDepth 20000 in
theorem gX5_polygon_X0_examine : GoodIn wsX5_polygon (wsV RX5 63 RX0 yX0_examine wsX0_examine) := goodIn_app (goodIn_of _ (by decide +kernel)) ggX5_polygon_X0_examine
set_option maxRecDepth 20000 in
theorem ggX5_polygon_X3_become : GoodIn wsX5_polygon wsX3_become := goodIn_r _ [67, 68, 69, 70, 71, 72, 73, 27, 74, 29, 38, 75, 76, 77, 78, 39, 79, 80, 81, 66, 82, 83, 84, 85, 31, 32, 33, 199, 200, 201, 202, 203, 204, 205, 206, 207, 208, 209, 210, 196, 197, 198] (by decide +kernel) (by decide +kernel)
set_option maxRecDepth 20000 in
theorem gX5_polygon_X3_become : GoodIn wsX5_polygon (wsV RX5 70 RX3 yX3_become wsX3_become) := goodIn_app (goodIn_of _ (by decide +kernel)) ggX5_polygon_X3_become
set_option maxRecDepth 20000 in
theorem ggX5_polygon_X3_lookAround : GoodIn wsX5_polygon wsX3_lookAround := goodIn_r _ [89, 68, 70, 90, 91, 92, 93, 66, 94, 83, 84, 85, 31, 32, 27, 33, 29, 95, 96, 97, 98, 99, 45, 46, 47, 38, 39, 48, 49, 50, 51, 52, 53, 54, 55, 56, 57, 58, 59, 60, 61, 62, 35, 36, 37, 100, 101, 102, 103, 199, 200, 201, 202, 203, 204, 205, 206, 207, 208, 209, 210, 196, 197, 198] (by decide +kernel) (by decide +kernel)
set_option maxRecDepth 20000 in
theorem gX5_polygon_X3_lookAround : GoodIn wsX5_polygon (wsV RX5 73 RX3 yX3_lookAround wsX3_lookAround) := goodIn_app (goodIn_of _ (by decide +kernel)) ggX5_polygon_X3_lookAround
set_option maxRecDepth 20000 in
theorem ggX5_polygon_X2_cut : GoodIn wsX5_polygon wsX2_cut := goodIn_r _ [108, 109, 110, 111, 112, 113, 114, 115, 116, 117, 107, 118, 119, 120, 121, 122, 123, 124, 125, 126, 127, 27, 128, 38, 39, 129, 130, 131, 132, 133, 134, 135, 136, 137, 138, 66, 139, 68, 70, 140, 141, 142, 143, 144, 145, 146, 147, 148, 149, 150, 151, 152, 153, 154, 155, 156, 157, 158, 159, 160, 161, 162, 163, 164, 165, 166, 167, 168, 169, 170, 171, 172, 25, 26, 28, 29, 173, 174, 175, 176, 177, 31, 32, 33, 178, 35, 36, 37, 179, 180, 181, 182, 69, 199, 200, 201, 202, 203, 204, 205, 206, 207, 208, 209, 210, 196, 197, 198, 211, 212, 213, 214] (by decide +kernel) (by decide +kernel)
set_option maxRecDepth 20000 in
theorem gX5_polygon_X2_cut : GoodIn wsX5_polygon (wsV RX5 76 RX2 yX2_cut wsX2_cut) := goodIn_app (goodIn_of _ (by decide +kernel)) ggX5_polygon_X2_cut
set_option maxRecDepth 20000 in
theorem ggX5_polygon_X1_clear : GoodIn wsX5_polygon wsX1_clear := goodIn_r _ [186, 29, 196, 197, 198] (by decide +kernel) (by decide +kernel)
set_option maxRecDepth 20000 in
theorem gX5_polygon_X1_clear : GoodIn wsX5_polygon (wsV RX5 80 RX1 yX1_clear wsX1_clear) := goodIn_app (goodIn_of _ (by decide +kernel)) ggX5_polygon_X1_clear
theorem dX5_polygon_0 : decode cX5_polygon 0 = .ok (.aload_n 0, 1) := by decide +kernel
theorem dX5_polygon_1 : decode cX5_polygon 1 = .ok (.getfield 44, 3) := by decide +kernel
theorem dX5_polygon_4 : decode cX5_polygon 4 = .ok (.bipush 8, 2) := by decide +kernel
theorem dX5_polygon_6 : decode cX5_polygon 6 = .ok (.if_icmp .lt 6, 3) := by decide +kernel
theorem dX5_polygon_9 : decode cX5_polygon 9 = .ok (.bipush (-4), 2) := by decide +kernel
theorem dX5_polygon_11 : decode cX5_polygon 11 = .ok (.ireturn, 1) := by decide +kernel
theorem dX5_polygon_12 : decode cX5_polygon 12 = .ok (.aload_n 0, 1) := by decide +kernel
theorem dX5_polygon_13 : decode cX5_polygon 13 = .ok (.getfield 19, 3) := by decide +kernel
theorem dX5_polygon_16 : decode cX5_polygon 16 = .ok (.aload_n 0, 1) := by decide +kernel
theorem dX5_polygon_17 : decode cX5_polygon 17 = .ok (.getfield 10, 3) := by decide +kernel
theorem dX5_polygon_20 : decode cX5_polygon 20 = .ok (.invokevirtual 63, 3) := by decide +kernel
theorem dX5_polygon_23 : decode cX5_polygon 23 = .ok (.aload_n 0, 1) := by decide +kernel
theorem dX5_polygon_24 : decode cX5_polygon 24 = .ok (.getfield 19, 3) := by decide +kernel
theorem dX5_polygon_27 : decode cX5_polygon 27 = .ok (.getfield 67, 3) := by decide +kernel
theorem dX5_polygon_30 : decode cX5_polygon 30 = .ok (.ifCond .ne 43, 3) := by decide +kernel
theorem dX5_polygon_33 : decode cX5_polygon 33 = .ok (.aload_n 0, 1) := by decide +kernel
theorem dX5_polygon_34 : decode cX5_polygon 34 = .ok (.getfield 39, 3) := by decide +kernel
theorem dX5_polygon_37 : decode cX5_polygon 37 = .ok (.aload_n 0, 1) := by decide +kernel
theorem dX5_polygon_38 : decode cX5_polygon 38 = .ok (.getfield 44, 3) := by decide +kernel
theorem dX5_polygon_41 : decode cX5_polygon 41 = .ok (.aaload, 1) := by decide +kernel
theorem dX5_polygon_42 : decode cX5_polygon 42 = .ok (.astore_n 1, 1) := by decide +kernel
theorem dX5_polygon_43 : decode cX5_polygon 43 = .ok (.aload_n 1, 1) := by decide +kernel
theorem dX5_polygon_44 : decode cX5_polygon 44 = .ok (.aload_n 0, 1) := by decide +kernel
theorem dX5_polygon_45 : decode cX5_polygon 45 = .ok (.getfield 10, 3) := by decide +kernel
theorem dX5_polygon_48 : decode cX5_polygon 48 = .ok (.invokevirtual 70, 3) := by decide +kernel
theorem dX5_polygon_51 : decode cX5_polygon 51 = .ok (.aload_n 1, 1) := by decide +kernel
theorem dX5_polygon_52 : decode cX5_polygon 52 = .ok (.invokevirtual 73, 3) := by decide +kernel
theorem dX5_polygon_55 : decode cX5_polygon 55 = .ok (.aload_n 0, 1) := by decide +kernel
theorem dX5_polygon_56 : decode cX5_polygon 56 = .ok (.getfield 26, 3) := by decide +kernel
theorem dX5_polygon_59 : decode cX5_polygon 59 = .ok (.aload_n 1, 1) := by decide +kernel
theorem dX5_polygon_60 : decode cX5_polygon 60 = .ok (.invokevirtual 76, 3) := by decide +kernel
theorem dX5_polygon_63 : decode cX5_polygon 63 = .ok (.aload_n 0, 1) := by decide +kernel
theorem dX5_polygon_64 : decode cX5_polygon 64 = .ok (.dup, 1) := by decide +kernel
theorem dX5_polygon_65 : decode cX5_polygon 65 = .ok (.getfield 44, 3) := by decide +kernel
theorem dX5_polygon_68 : decode cX5_polygon 68 = .ok (.iconst 1, 1) := by decide +kernel
theorem dX5_polygon_69 : decode cX5_polygon 69 = .ok (.iadd, 1) := by decide +kernel
theorem dX5_polygon_70 : decode cX5_polygon 70 = .ok (.putfield 44, 3) := by decide +kernel
theorem dX5_polygon_73 : decode cX5_polygon 73 = .ok (.aload_n 0, 1) := by decide +kernel
theorem dX5_polygon_74 : decode cX5_polygon 74 = .ok (.getfield 10, 3) := by decide +kernel
theorem dX5_polygon_77 : decode cX5_polygon 77 = .ok (.invokevirtual 80, 3) := by decide +kernel
theorem dX5_polygon_80 : decode cX5_polygon 80 = .ok (.aload_n 0, 1) := by decide +kernel
theorem dX5_polygon_81 : decode cX5_polygon 81 = .ok (.getfield 19, 3) := by decide +kernel
theorem dX5_polygon_84 : decode cX5_polygon 84 = .ok (.getfield 67, 3) := by decide +kernel
theorem dX5_polygon_87 : decode cX5_polygon 87 = .ok (.ifCond .ne 12, 3) := by decide +kernel
theorem dX5_polygon_90 : decode cX5_polygon 90 = .ok (.aload_n 0, 1) := by decide +kernel
theorem dX5_polygon_91 : decode cX5_polygon 91 = .ok (.getfield 44, 3) := by decide +kernel
theorem dX5_polygon_94 : decode cX5_polygon 94 = .ok (.iconst 1, 1) := by decide +kernel
theorem dX5_polygon_95 : decode cX5_polygon 95 = .ok (.isub, 1) := by decide +kernel
theorem dX5_polygon_96 : decode cX5_polygon 96 = .ok (.goto 13, 3) := by decide +kernel
theorem dX5_polygon_99 : decode cX5_polygon 99 = .ok (.bipush (-10), 2) := by decide +kernel
theorem dX5_polygon_101 : decode cX5_polygon 101 = .ok (.aload_n 0, 1) := by decide +kernel
theorem dX5_polygon_102 : decode cX5_polygon 102 = .ok (.getfield 19, 3) := by decide +kernel
theorem dX5_polygon_105 : decode cX5_polygon 105 = .ok (.getfield 67, 3) := by decide +kernel
theorem dX5_polygon_108 : decode cX5_polygon 108 = .ok (.isub, 1) := by decide +kernel
theorem dX5_polygon_109 : decode cX5_polygon 109 = .ok (.ireturn, 1) := by decide +kernel
theorem dX5_fault_0 : decode cX5_fault 0 = .ok (.iload_n 1, 1) := by decide +kernel
theorem dX5_fault_1 : decode cX5_fault 1 = .ok (.ifCond .ne 11, 3) := by decide +kernel
theorem dX5_fault_4 : decode cX5_fault 4 = .ok (.aload_n 0, 1) := by decide +kernel
theorem dX5_fault_5 : decode cX5_fault 5 = .ok (.getfield 19, 3) := by decide +kernel
theorem dX5_fault_8 : decode cX5_fault 8 = .ok (.getfield 83, 3) := by decide +kernel
theorem dX5_fault_11 : decode cX5_fault 11 = .ok (.ireturn, 1) := by decide +kernel
theorem dX5_fault_12 : decode cX5_fault 12 = .ok (.iload_n 1, 1) := by decide +kernel
theorem dX5_fault_13 : decode cX5_fault 13 = .ok (.iconst 1, 1) := by decide +kernel
theorem dX5_fault_14 : decode cX5_fault 14 = .ok (.if_icmp .ne 13, 3) := by decide +kernel
theorem dX5_fault_17 : decode cX5_fault 17 = .ok (.aload_n 0, 1) := by decide +kernel
theorem dX5_fault_18 : decode cX5_fault 18 = .ok (.getfield 19, 3) := by decide +kernel
theorem dX5_fault_21 : decode cX5_fault 21 = .ok (.getfield 86, 3) := by decide +kernel
theorem dX5_fault_24 : decode cX5_fault 24 = .ok (.goto 5, 3) := by decide +kernel
theorem dX5_fault_27 : decode cX5_fault 27 = .ok (.bipush (-3), 2) := by decide +kernel
theorem dX5_fault_29 : decode cX5_fault 29 = .ok (.ireturn, 1) := by decide +kernel
theorem dX5_drop_0 : decode cX5_drop 0 = .ok (.aload_n 0, 1) := by decide +kernel
theorem dX5_drop_1 : decode cX5_drop 1 = .ok (.getfield 44, 3) := by decide +kernel
theorem dX5_drop_4 : decode cX5_drop 4 = .ok (.ifCond .ne 6, 3) := by decide +kernel
theorem dX5_drop_7 : decode cX5_drop 7 = .ok (.bipush (-2), 2) := by decide +kernel
theorem dX5_drop_9 : decode cX5_drop 9 = .ok (.ireturn, 1) := by decide +kernel
theorem dX5_drop_10 : decode cX5_drop 10 = .ok (.aload_n 0, 1) := by decide +kernel
theorem dX5_drop_11 : decode cX5_drop 11 = .ok (.dup, 1) := by decide +kernel
theorem dX5_drop_12 : decode cX5_drop 12 = .ok (.getfield 44, 3) := by decide +kernel
theorem dX5_drop_15 : decode cX5_drop 15 = .ok (.iconst 1, 1) := by decide +kernel
theorem dX5_drop_16 : decode cX5_drop 16 = .ok (.isub, 1) := by decide +kernel
theorem dX5_drop_17 : decode cX5_drop 17 = .ok (.putfield 44, 3) := by decide +kernel
theorem dX5_drop_20 : decode cX5_drop 20 = .ok (.aload_n 0, 1) := by decide +kernel
theorem dX5_drop_21 : decode cX5_drop 21 = .ok (.getfield 44, 3) := by decide +kernel
theorem dX5_drop_24 : decode cX5_drop 24 = .ok (.ireturn, 1) := by decide +kernel
set_option maxRecDepth 20000 in
theorem ggX5_count_X5_shapeOf : GoodIn wsX5_count wsX5_shapeOf := goodIn_r _ [8, 1, 9, 10, 11, 12, 13, 14, 15] (by decide +kernel) (by decide +kernel)
set_option maxRecDepth 20000 in
theorem gX5_count_X5_shapeOf : GoodIn wsX5_count (wsV RX5 89 RX5 yX5_shapeOf wsX5_shapeOf) := goodIn_app (goodIn_of _ (by decide +kernel)) ggX5_count_X5_shapeOf
theorem dX5_count_0 : decode cX5_count 0 = .ok (.iload_n 1, 1) := by decide +kernel
theorem dX5_count_1 : decode cX5_count 1 = .ok (.iconst (-1), 1) := by decide +kernel
theorem dX5_count_2 : decode cX5_count 2 = .ok (.if_icmp .ne 8, 3) := by decide +kernel
theorem dX5_count_5 : decode cX5_count 5 = .ok (.aload_n 0, 1) := by decide +kernel
theorem dX5_count_6 : decode cX5_count 6 = .ok (.getfield 44, 3) := by decide +kernel
theorem dX5_count_9 : decode cX5_count 9 = .ok (.ireturn, 1) := by decide +kernel
theorem dX5_count_10 : decode cX5_count 10 = .ok (.aload_n 0, 1) := by decide +kernel
theorem dX5_count_11 : decode cX5_count 11 = .ok (.iload_n 1, 1) := by decide +kernel
theorem dX5_count_12 : decode cX5_count 12 = .ok (.invokevirtual 89, 3) := by decide +kernel
theorem dX5_count_15 : decode cX5_count 15 = .ok (.astore_n 2, 1) := by decide +kernel
theorem dX5_count_16 : decode cX5_count 16 = .ok (.aload_n 2, 1) := by decide +kernel
theorem dX5_count_17 : decode cX5_count 17 = .ok (.ifnonnull 8, 3) := by decide +kernel
theorem dX5_count_20 : decode cX5_count 20 = .ok (.bipush (-2), 2) := by decide +kernel
theorem dX5_count_22 : decode cX5_count 22 = .ok (.goto 10, 3) := by decide +kernel
theorem dX5_count_25 : decode cX5_count 25 = .ok (.aload_n 2, 1) := by decide +kernel
theorem dX5_count_26 : decode cX5_count 26 = .ok (.getfield 93, 3) := by decide +kernel
theorem dX5_count_29 : decode cX5_count 29 = .ok (.getfield 60, 3) := by decide +kernel
theorem dX5_count_32 : decode cX5_count 32 = .ok (.ireturn, 1) := by decide +kernel
set_option maxRecDepth 20000 in
theorem ggX5_at_X5_shapeOf : GoodIn wsX5_at wsX5_shapeOf := goodIn_r _ [6, 7, 8, 36, 37, 38, 39, 40, 41] (by decide +kernel) (by decide +kernel)
set_option maxRecDepth 20000 in
theorem gX5_at_X5_shapeOf : GoodIn wsX5_at (wsV RX5 89 RX5 yX5_shapeOf wsX5_shapeOf) := goodIn_app (goodIn_of _ (by decide +kernel)) ggX5_at_X5_shapeOf
set_option maxRecDepth 20000 in
theorem ggX5_at_X1_has : GoodIn wsX5_at wsX1_has := goodIn_r _ [13, 14, 42, 43, 44] (by decide +kernel) (by decide +kernel)
set_option maxRecDepth 20000 in
theorem gX5_at_X1_has : GoodIn wsX5_at (wsV RX5 96 RX1 yX1_has wsX1_has) := goodIn_app (goodIn_of _ (by decide +kernel)) ggX5_at_X1_has
set_option maxRecDepth 20000 in
theorem ggX5_at_X5_isZeroOrOne : GoodIn wsX5_at wsX5_isZeroOrOne := goodIn_r _ [17] (by decide +kernel) (by decide +kernel)
set_option maxRecDepth 20000 in
theorem gX5_at_X5_isZeroOrOne : GoodIn wsX5_at (va_wsS RX5 100 yX5_isZeroOrOne wsX5_isZeroOrOne) := goodIn_app (goodIn_of _ (by decide +kernel)) ggX5_at_X5_isZeroOrOne
set_option maxRecDepth 20000 in
theorem ggX5_at_X1_along : GoodIn wsX5_at wsX1_along := goodIn_r _ [21, 22, 23, 42, 43, 44] (by decide +kernel) (by decide +kernel)
set_option maxRecDepth 20000 in
theorem gX5_at_X1_along : GoodIn wsX5_at (wsV RX5 103 RX1 yX1_along wsX1_along) := goodIn_app (goodIn_of _ (by decide +kernel)) ggX5_at_X1_along
theorem dX5_at_0 : decode cX5_at 0 = .ok (.aload_n 0, 1) := by decide +kernel
theorem dX5_at_1 : decode cX5_at 1 = .ok (.iload_n 1, 1) := by decide +kernel
theorem dX5_at_2 : decode cX5_at 2 = .ok (.invokevirtual 89, 3) := by decide +kernel
theorem dX5_at_5 : decode cX5_at 5 = .ok (.astore 4, 2) := by decide +kernel
theorem dX5_at_7 : decode cX5_at 7 = .ok (.aload 4, 2) := by decide +kernel
theorem dX5_at_9 : decode cX5_at 9 = .ok (.ifnull 15, 3) := by decide +kernel
theorem dX5_at_12 : decode cX5_at 12 = .ok (.aload 4, 2) := by decide +kernel
theorem dX5_at_14 : decode cX5_at 14 = .ok (.getfield 93, 3) := by decide +kernel
theorem dX5_at_17 : decode cX5_at 17 = .ok (.iload_n 2, 1) := by decide +kernel
theorem dX5_at_18 : decode cX5_at 18 = .ok (.invokevirtual 96, 3) := by decide +kernel
theorem dX5_at_21 : decode cX5_at 21 = .ok (.ifCond .ne 6, 3) := by decide +kernel
theorem dX5_at_24 : decode cX5_at 24 = .ok (.bipush (-2), 2) := by decide +kernel
theorem dX5_at_26 : decode cX5_at 26 = .ok (.ireturn, 1) := by decide +kernel
theorem dX5_at_27 : decode cX5_at 27 = .ok (.iload_n 3, 1) := by decide +kernel
theorem dX5_at_28 : decode cX5_at 28 = .ok (.invokestatic 100, 3) := by decide +kernel
theorem dX5_at_31 : decode cX5_at 31 = .ok (.ifCond .ne 6, 3) := by decide +kernel
theorem dX5_at_34 : decode cX5_at 34 = .ok (.bipush (-3), 2) := by decide +kernel
theorem dX5_at_36 : decode cX5_at 36 = .ok (.ireturn, 1) := by decide +kernel
theorem dX5_at_37 : decode cX5_at 37 = .ok (.aload 4, 2) := by decide +kernel
theorem dX5_at_39 : decode cX5_at 39 = .ok (.getfield 93, 3) := by decide +kernel
theorem dX5_at_42 : decode cX5_at 42 = .ok (.iload_n 3, 1) := by decide +kernel
theorem dX5_at_43 : decode cX5_at 43 = .ok (.invokevirtual 103, 3) := by decide +kernel
theorem dX5_at_46 : decode cX5_at 46 = .ok (.iload_n 2, 1) := by decide +kernel
theorem dX5_at_47 : decode cX5_at 47 = .ok (.iaload, 1) := by decide +kernel
theorem dX5_at_48 : decode cX5_at 48 = .ok (.ireturn, 1) := by decide +kernel
set_option maxRecDepth 20000 in
theorem ggX5_area_X5_shapeOf : GoodIn wsX5_area wsX5_shapeOf := goodIn_r _ [6, 7, 8, 21, 22, 23, 24, 25, 26] (by decide +kernel) (by decide +kernel)
set_option maxRecDepth 20000 in
theorem gX5_area_X5_shapeOf : GoodIn wsX5_area (wsV RX5 89 RX5 yX5_shapeOf wsX5_shapeOf) := goodIn_app (goodIn_of _ (by decide +kernel)) ggX5_area_X5_shapeOf
theorem dX5_area_0 : decode cX5_area 0 = .ok (.aload_n 0, 1) := by decide +kernel
theorem dX5_area_1 : decode cX5_area 1 = .ok (.iload_n 1, 1) := by decide +kernel
theorem dX5_area_2 : decode cX5_area 2 = .ok (.invokevirtual 89, 3) := by decide +kernel
theorem dX5_area_5 : decode cX5_area 5 = .ok (.astore_n 2, 1) := by decide +kernel
theorem dX5_area_6 : decode cX5_area 6 = .ok (.aload_n 2, 1) := by decide +kernel
theorem dX5_area_7 : decode cX5_area 7 = .ok (.ifnonnull 7, 3) := by decide +kernel
theorem dX5_area_10 : decode cX5_area 10 = .ok (.iconst 0, 1) := by decide +kernel
theorem dX5_area_11 : decode cX5_area 11 = .ok (.goto 7, 3) := by decide +kernel
theorem dX5_area_14 : decode cX5_area 14 = .ok (.aload_n 2, 1) := by decide +kernel
theorem dX5_area_15 : decode cX5_area 15 = .ok (.getfield 107, 3) := by decide +kernel
theorem dX5_area_18 : decode cX5_area 18 = .ok (.ireturn, 1) := by decide +kernel
set_option maxRecDepth 20000 in
theorem ggX5_centroid_X5_shapeOf : GoodIn wsX5_centroid wsX5_shapeOf := goodIn_r _ [7, 8, 9, 57, 58, 59, 60, 61, 62] (by decide +kernel) (by decide +kernel)
set_option maxRecDepth 20000 in
theorem gX5_centroid_X5_shapeOf : GoodIn wsX5_centroid (wsV RX5 89 RX5 yX5_shapeOf wsX5_shapeOf) := goodIn_app (goodIn_of _ (by decide +kernel)) ggX5_centroid_X5_shapeOf
set_option maxRecDepth 20000 in
theorem ggX5_centroid_X5_isZeroOrOne : GoodIn wsX5_centroid wsX5_isZeroOrOne := goodIn_r _ [12] (by decide +kernel) (by decide +kernel)
set_option maxRecDepth 20000 in
theorem gX5_centroid_X5_isZeroOrOne : GoodIn wsX5_centroid (va_wsS RX5 100 yX5_isZeroOrOne wsX5_isZeroOrOne) := goodIn_app (goodIn_of _ (by decide +kernel)) ggX5_centroid_X5_isZeroOrOne
set_option maxRecDepth 20000 in
theorem ggX5_centroid_X3_centroidMoment : GoodIn wsX5_centroid wsX3_centroidMoment := goodIn_r _ [17, 18, 19, 20, 21, 22, 23, 24, 25, 26, 27, 28, 29, 30, 31, 32, 33, 34, 16, 35, 36, 37, 45, 46, 47, 48, 49, 50, 51, 52, 53, 54, 55, 56, 63, 64, 65] (by decide +kernel) (by decide +kernel)
set_option maxRecDepth 20000 in
theorem gX5_centroid_X3_centroidMoment : GoodIn wsX5_centroid (wsV RX5 110 RX3 yX3_centroidMoment wsX3_centroidMoment) := goodIn_app (goodIn_of _ (by decide +kernel)) ggX5_centroid_X3_centroidMoment
set_option maxRecDepth 20000 in
theorem ggX5_centroid_X5_greatestDivisor : GoodIn wsX5_centroid wsX5_greatestDivisor := goodIn_r _ [40, 41, 42, 43, 44] (by decide +kernel) (by decide +kernel)
set_option maxRecDepth 20000 in
theorem gX5_centroid_X5_greatestDivisor : GoodIn wsX5_centroid (va_wsS RX5 116 yX5_greatestDivisor wsX5_greatestDivisor) := goodIn_app (goodIn_of _ (by decide +kernel)) ggX5_centroid_X5_greatestDivisor
theorem dX5_centroid_0 : decode cX5_centroid 0 = .ok (.aload_n 0, 1) := by decide +kernel
theorem dX5_centroid_1 : decode cX5_centroid 1 = .ok (.iload_n 1, 1) := by decide +kernel
theorem dX5_centroid_2 : decode cX5_centroid 2 = .ok (.invokevirtual 89, 3) := by decide +kernel
theorem dX5_centroid_5 : decode cX5_centroid 5 = .ok (.astore 4, 2) := by decide +kernel
theorem dX5_centroid_7 : decode cX5_centroid 7 = .ok (.aload 4, 2) := by decide +kernel
theorem dX5_centroid_9 : decode cX5_centroid 9 = .ok (.ifnull 17, 3) := by decide +kernel
theorem dX5_centroid_12 : decode cX5_centroid 12 = .ok (.iload_n 2, 1) := by decide +kernel
theorem dX5_centroid_13 : decode cX5_centroid 13 = .ok (.invokestatic 100, 3) := by decide +kernel
theorem dX5_centroid_16 : decode cX5_centroid 16 = .ok (.ifCond .eq 10, 3) := by decide +kernel
theorem dX5_centroid_19 : decode cX5_centroid 19 = .ok (.iload_n 3, 1) := by decide +kernel
theorem dX5_centroid_20 : decode cX5_centroid 20 = .ok (.invokestatic 100, 3) := by decide +kernel
theorem dX5_centroid_23 : decode cX5_centroid 23 = .ok (.ifCond .ne 5, 3) := by decide +kernel
theorem dX5_centroid_26 : decode cX5_centroid 26 = .ok (.lconst 0, 1) := by decide +kernel
theorem dX5_centroid_27 : decode cX5_centroid 27 = .ok (.lreturn, 1) := by decide +kernel
theorem dX5_centroid_28 : decode cX5_centroid 28 = .ok (.aload 4, 2) := by decide +kernel
theorem dX5_centroid_30 : decode cX5_centroid 30 = .ok (.iload_n 2, 1) := by decide +kernel
theorem dX5_centroid_31 : decode cX5_centroid 31 = .ok (.invokevirtual 110, 3) := by decide +kernel
theorem dX5_centroid_34 : decode cX5_centroid 34 = .ok (.lstore 5, 2) := by decide +kernel
theorem dX5_centroid_36 : decode cX5_centroid 36 = .ok (.ldc2_w 114, 3) := by decide +kernel
theorem dX5_centroid_39 : decode cX5_centroid 39 = .ok (.aload 4, 2) := by decide +kernel
theorem dX5_centroid_41 : decode cX5_centroid 41 = .ok (.getfield 107, 3) := by decide +kernel
theorem dX5_centroid_44 : decode cX5_centroid 44 = .ok (.i2l, 1) := by decide +kernel
theorem dX5_centroid_45 : decode cX5_centroid 45 = .ok (.lmul, 1) := by decide +kernel
theorem dX5_centroid_46 : decode cX5_centroid 46 = .ok (.lstore 7, 2) := by decide +kernel
theorem dX5_centroid_48 : decode cX5_centroid 48 = .ok (.lload 5, 2) := by decide +kernel
theorem dX5_centroid_50 : decode cX5_centroid 50 = .ok (.lload 7, 2) := by decide +kernel
theorem dX5_centroid_52 : decode cX5_centroid 52 = .ok (.invokestatic 116, 3) := by decide +kernel
theorem dX5_centroid_55 : decode cX5_centroid 55 = .ok (.lstore 9, 2) := by decide +kernel
theorem dX5_centroid_57 : decode cX5_centroid 57 = .ok (.lload 9, 2) := by decide +kernel
theorem dX5_centroid_59 : decode cX5_centroid 59 = .ok (.lconst 0, 1) := by decide +kernel
theorem dX5_centroid_60 : decode cX5_centroid 60 = .ok (.lcmp, 1) := by decide +kernel
theorem dX5_centroid_61 : decode cX5_centroid 61 = .ok (.ifCond .ne 5, 3) := by decide +kernel
theorem dX5_centroid_64 : decode cX5_centroid 64 = .ok (.lconst 0, 1) := by decide +kernel
theorem dX5_centroid_65 : decode cX5_centroid 65 = .ok (.lreturn, 1) := by decide +kernel
theorem dX5_centroid_66 : decode cX5_centroid 66 = .ok (.lload 7, 2) := by decide +kernel
theorem dX5_centroid_68 : decode cX5_centroid 68 = .ok (.lconst 0, 1) := by decide +kernel
theorem dX5_centroid_69 : decode cX5_centroid 69 = .ok (.lcmp, 1) := by decide +kernel
theorem dX5_centroid_70 : decode cX5_centroid 70 = .ok (.ifCond .ge 9, 3) := by decide +kernel
theorem dX5_centroid_73 : decode cX5_centroid 73 = .ok (.lload 9, 2) := by decide +kernel
theorem dX5_centroid_75 : decode cX5_centroid 75 = .ok (.lneg, 1) := by decide +kernel
theorem dX5_centroid_76 : decode cX5_centroid 76 = .ok (.goto 5, 3) := by decide +kernel
theorem dX5_centroid_79 : decode cX5_centroid 79 = .ok (.lload 9, 2) := by decide +kernel
theorem dX5_centroid_81 : decode cX5_centroid 81 = .ok (.lstore 11, 2) := by decide +kernel
theorem dX5_centroid_83 : decode cX5_centroid 83 = .ok (.iload_n 3, 1) := by decide +kernel
theorem dX5_centroid_84 : decode cX5_centroid 84 = .ok (.ifCond .ne 8, 3) := by decide +kernel
theorem dX5_centroid_87 : decode cX5_centroid 87 = .ok (.lload 5, 2) := by decide +kernel
theorem dX5_centroid_89 : decode cX5_centroid 89 = .ok (.goto 5, 3) := by decide +kernel
theorem dX5_centroid_92 : decode cX5_centroid 92 = .ok (.lload 7, 2) := by decide +kernel
theorem dX5_centroid_94 : decode cX5_centroid 94 = .ok (.lload 11, 2) := by decide +kernel
theorem dX5_centroid_96 : decode cX5_centroid 96 = .ok (.ldiv, 1) := by decide +kernel
theorem dX5_centroid_97 : decode cX5_centroid 97 = .ok (.lreturn, 1) := by decide +kernel
set_option maxRecDepth 20000 in
theorem ggX5_points_X5_shapeOf : GoodIn wsX5_points wsX5_shapeOf := goodIn_r _ [10, 11, 12, 48, 49, 50, 51, 52, 53] (by decide +kernel) (by decide +kernel)
set_option maxRecDepth 20000 in
theorem gX5_points_X5_shapeOf : GoodIn wsX5_points (wsV RX5 89 RX5 yX5_shapeOf wsX5_shapeOf) := goodIn_app (goodIn_of _ (by decide +kernel)) ggX5_points_X5_shapeOf
set_option maxRecDepth 20000 in
theorem ggX5_points_X5_isZeroOrOne : GoodIn wsX5_points wsX5_isZeroOrOne := goodIn_r _ [15] (by decide +kernel) (by decide +kernel)
set_option maxRecDepth 20000 in
theorem gX5_points_X5_isZeroOrOne : GoodIn wsX5_points (va_wsS RX5 100 yX5_isZeroOrOne wsX5_isZeroOrOne) := goodIn_app (goodIn_of _ (by decide +kernel)) ggX5_points_X5_isZeroOrOne
set_option maxRecDepth 20000 in
theorem ggX5_points_X3_pointsOnEdges : GoodIn wsX5_points wsX3_pointsOnEdges := goodIn_r _ [20, 21, 22, 23, 24, 25, 26, 27, 28, 29, 30, 31, 9, 32, 33, 34, 4, 35, 36, 37, 38, 39, 40, 41, 42, 43, 44, 45, 46, 47, 54, 55, 56] (by decide +kernel) (by decide +kernel)
set_option maxRecDepth 20000 in
theorem gX5_points_X3_pointsOnEdges : GoodIn wsX5_points (wsV RX5 120 RX3 yX3_pointsOnEdges wsX3_pointsOnEdges) := goodIn_app (goodIn_of _ (by decide +kernel)) ggX5_points_X3_pointsOnEdges
theorem dX5_points_0 : decode cX5_points 0 = .ok (.aload_n 0, 1) := by decide +kernel
theorem dX5_points_1 : decode cX5_points 1 = .ok (.iload_n 1, 1) := by decide +kernel
theorem dX5_points_2 : decode cX5_points 2 = .ok (.invokevirtual 89, 3) := by decide +kernel
theorem dX5_points_5 : decode cX5_points 5 = .ok (.astore_n 3, 1) := by decide +kernel
theorem dX5_points_6 : decode cX5_points 6 = .ok (.aload_n 3, 1) := by decide +kernel
theorem dX5_points_7 : decode cX5_points 7 = .ok (.ifnonnull 6, 3) := by decide +kernel
theorem dX5_points_10 : decode cX5_points 10 = .ok (.bipush (-2), 2) := by decide +kernel
theorem dX5_points_12 : decode cX5_points 12 = .ok (.ireturn, 1) := by decide +kernel
theorem dX5_points_13 : decode cX5_points 13 = .ok (.iload_n 2, 1) := by decide +kernel
theorem dX5_points_14 : decode cX5_points 14 = .ok (.invokestatic 100, 3) := by decide +kernel
theorem dX5_points_17 : decode cX5_points 17 = .ok (.ifCond .ne 6, 3) := by decide +kernel
theorem dX5_points_20 : decode cX5_points 20 = .ok (.bipush (-3), 2) := by decide +kernel
theorem dX5_points_22 : decode cX5_points 22 = .ok (.ireturn, 1) := by decide +kernel
theorem dX5_points_23 : decode cX5_points 23 = .ok (.aload_n 3, 1) := by decide +kernel
theorem dX5_points_24 : decode cX5_points 24 = .ok (.invokevirtual 120, 3) := by decide +kernel
theorem dX5_points_27 : decode cX5_points 27 = .ok (.istore 4, 2) := by decide +kernel
theorem dX5_points_29 : decode cX5_points 29 = .ok (.iload_n 2, 1) := by decide +kernel
theorem dX5_points_30 : decode cX5_points 30 = .ok (.ifCond .ne 8, 3) := by decide +kernel
theorem dX5_points_33 : decode cX5_points 33 = .ok (.iload 4, 2) := by decide +kernel
theorem dX5_points_35 : decode cX5_points 35 = .ok (.goto 17, 3) := by decide +kernel
theorem dX5_points_38 : decode cX5_points 38 = .ok (.aload_n 3, 1) := by decide +kernel
theorem dX5_points_39 : decode cX5_points 39 = .ok (.getfield 107, 3) := by decide +kernel
theorem dX5_points_42 : decode cX5_points 42 = .ok (.invokestatic 124, 3) := by decide +kernel
theorem dX5_points_45 : decode cX5_points 45 = .ok (.iload 4, 2) := by decide +kernel
theorem dX5_points_47 : decode cX5_points 47 = .ok (.isub, 1) := by decide +kernel
theorem dX5_points_48 : decode cX5_points 48 = .ok (.iconst 2, 1) := by decide +kernel
theorem dX5_points_49 : decode cX5_points 49 = .ok (.iadd, 1) := by decide +kernel
theorem dX5_points_50 : decode cX5_points 50 = .ok (.iconst 2, 1) := by decide +kernel
theorem dX5_points_51 : decode cX5_points 51 = .ok (.idiv, 1) := by decide +kernel
theorem dX5_points_52 : decode cX5_points 52 = .ok (.ireturn, 1) := by decide +kernel
set_option maxRecDepth 20000 in
theorem ggX5_in_X5_shapeOf : GoodIn wsX5_in wsX5_shapeOf := goodIn_r _ [5, 6, 7, 26, 27, 28, 29, 30, 31] (by decide +kernel) (by decide +kernel)
set_option maxRecDepth 20000 in
theorem gX5_in_X5_shapeOf : GoodIn wsX5_in (wsV RX5 89 RX5 yX5_shapeOf wsX5_shapeOf) := goodIn_app (goodIn_of _ (by decide +kernel)) ggX5_in_X5_shapeOf
set_option maxRecDepth 20000 in
theorem ggX5_in_X5_isWithin : GoodIn wsX5_in wsX5_isWithin := goodIn_r _ [10] (by decide +kernel) (by decide +kernel)
set_option maxRecDepth 20000 in
theorem gX5_in_X5_isWithin : GoodIn wsX5_in (va_wsS RX5 48 yX5_isWithin wsX5_isWithin) := goodIn_app (goodIn_of _ (by decide +kernel)) ggX5_in_X5_isWithin
set_option maxRecDepth 20000 in
theorem ggX5_in_X3_placeOf : GoodIn wsX5_in wsX3_placeOf := goodIn_r _ [15, 16, 17, 18, 19, 20, 21, 22, 23, 24, 25, 32, 33, 34, 35, 36, 37, 38, 39, 40, 41, 42, 43, 44, 45, 46] (by decide +kernel) (by decide +kernel)
set_option maxRecDepth 20000 in
theorem gX5_in_X3_placeOf : GoodIn wsX5_in (wsV RX5 130 RX3 yX3_placeOf wsX3_placeOf) := goodIn_app (goodIn_of _ (by decide +kernel)) ggX5_in_X3_placeOf
theorem dX5_in_0 : decode cX5_in 0 = .ok (.aload_n 0, 1) := by decide +kernel
theorem dX5_in_1 : decode cX5_in 1 = .ok (.iload_n 1, 1) := by decide +kernel
theorem dX5_in_2 : decode cX5_in 2 = .ok (.invokevirtual 89, 3) := by decide +kernel
theorem dX5_in_5 : decode cX5_in 5 = .ok (.astore 4, 2) := by decide +kernel
theorem dX5_in_7 : decode cX5_in 7 = .ok (.aload 4, 2) := by decide +kernel
theorem dX5_in_9 : decode cX5_in 9 = .ok (.ifnonnull 6, 3) := by decide +kernel
theorem dX5_in_12 : decode cX5_in 12 = .ok (.bipush (-2), 2) := by decide +kernel
theorem dX5_in_14 : decode cX5_in 14 = .ok (.ireturn, 1) := by decide +kernel
theorem dX5_in_15 : decode cX5_in 15 = .ok (.iload_n 2, 1) := by decide +kernel
theorem dX5_in_16 : decode cX5_in 16 = .ok (.sipush 3000, 3) := by decide +kernel
theorem dX5_in_19 : decode cX5_in 19 = .ok (.invokestatic 48, 3) := by decide +kernel
theorem dX5_in_22 : decode cX5_in 22 = .ok (.ifCond .eq 13, 3) := by decide +kernel
theorem dX5_in_25 : decode cX5_in 25 = .ok (.iload_n 3, 1) := by decide +kernel
theorem dX5_in_26 : decode cX5_in 26 = .ok (.sipush 3000, 3) := by decide +kernel
theorem dX5_in_29 : decode cX5_in 29 = .ok (.invokestatic 48, 3) := by decide +kernel
theorem dX5_in_32 : decode cX5_in 32 = .ok (.ifCond .ne 6, 3) := by decide +kernel
theorem dX5_in_35 : decode cX5_in 35 = .ok (.bipush (-3), 2) := by decide +kernel
theorem dX5_in_37 : decode cX5_in 37 = .ok (.ireturn, 1) := by decide +kernel
theorem dX5_in_38 : decode cX5_in 38 = .ok (.aload 4, 2) := by decide +kernel
theorem dX5_in_40 : decode cX5_in 40 = .ok (.iload_n 2, 1) := by decide +kernel
theorem dX5_in_41 : decode cX5_in 41 = .ok (.iload_n 3, 1) := by decide +kernel
theorem dX5_in_42 : decode cX5_in 42 = .ok (.iconst 1, 1) := by decide +kernel
theorem dX5_in_43 : decode cX5_in 43 = .ok (.invokevirtual 130, 3) := by decide +kernel
theorem dX5_in_46 : decode cX5_in 46 = .ok (.ireturn, 1) := by decide +kernel
set_option maxRecDepth 20000 in
theorem ggX5_sees_X5_shapeOf : GoodIn wsX5_sees wsX5_shapeOf := goodIn_r _ [7, 8, 9, 28, 29, 30, 31, 32, 33] (by decide +kernel) (by decide +kernel)
set_option maxRecDepth 20000 in
theorem gX5_sees_X5_shapeOf : GoodIn wsX5_sees (wsV RX5 89 RX5 yX5_shapeOf wsX5_shapeOf) := goodIn_app (goodIn_of _ (by decide +kernel)) ggX5_sees_X5_shapeOf
set_option maxRecDepth 20000 in
theorem ggX5_sees_X1_has : GoodIn wsX5_sees wsX1_has := goodIn_r _ [14, 15, 34, 35, 36] (by decide +kernel) (by decide +kernel)
set_option maxRecDepth 20000 in
theorem gX5_sees_X1_has : GoodIn wsX5_sees (wsV RX5 96 RX1 yX1_has wsX1_has) := goodIn_app (goodIn_of _ (by decide +kernel)) ggX5_sees_X1_has
theorem dX5_sees_0 : decode cX5_sees 0 = .ok (.aload_n 0, 1) := by decide +kernel
theorem dX5_sees_1 : decode cX5_sees 1 = .ok (.iload_n 1, 1) := by decide +kernel
theorem dX5_sees_2 : decode cX5_sees 2 = .ok (.invokevirtual 89, 3) := by decide +kernel
theorem dX5_sees_5 : decode cX5_sees 5 = .ok (.astore 4, 2) := by decide +kernel
theorem dX5_sees_7 : decode cX5_sees 7 = .ok (.aload 4, 2) := by decide +kernel
theorem dX5_sees_9 : decode cX5_sees 9 = .ok (.ifnull 27, 3) := by decide +kernel
theorem dX5_sees_12 : decode cX5_sees 12 = .ok (.aload 4, 2) := by decide +kernel
theorem dX5_sees_14 : decode cX5_sees 14 = .ok (.getfield 93, 3) := by decide +kernel
theorem dX5_sees_17 : decode cX5_sees 17 = .ok (.iload_n 2, 1) := by decide +kernel
theorem dX5_sees_18 : decode cX5_sees 18 = .ok (.invokevirtual 96, 3) := by decide +kernel
theorem dX5_sees_21 : decode cX5_sees 21 = .ok (.ifCond .eq 15, 3) := by decide +kernel
theorem dX5_sees_24 : decode cX5_sees 24 = .ok (.aload 4, 2) := by decide +kernel
theorem dX5_sees_26 : decode cX5_sees 26 = .ok (.getfield 93, 3) := by decide +kernel
theorem dX5_sees_29 : decode cX5_sees 29 = .ok (.iload_n 3, 1) := by decide +kernel
theorem dX5_sees_30 : decode cX5_sees 30 = .ok (.invokevirtual 96, 3) := by decide +kernel
theorem dX5_sees_33 : decode cX5_sees 33 = .ok (.ifCond .ne 6, 3) := by decide +kernel
theorem dX5_sees_36 : decode cX5_sees 36 = .ok (.bipush (-2), 2) := by decide +kernel
theorem dX5_sees_38 : decode cX5_sees 38 = .ok (.ireturn, 1) := by decide +kernel
theorem dX5_sees_39 : decode cX5_sees 39 = .ok (.iload_n 2, 1) := by decide +kernel
theorem dX5_sees_40 : decode cX5_sees 40 = .ok (.iload_n 3, 1) := by decide +kernel
theorem dX5_sees_41 : decode cX5_sees 41 = .ok (.if_icmp .ne 8, 3) := by decide +kernel
theorem dX5_sees_44 : decode cX5_sees 44 = .ok (.bipush (-3), 2) := by decide +kernel
theorem dX5_sees_46 : decode cX5_sees 46 = .ok (.goto 12, 3) := by decide +kernel
theorem dX5_sees_49 : decode cX5_sees 49 = .ok (.aload 4, 2) := by decide +kernel
theorem dX5_sees_51 : decode cX5_sees 51 = .ok (.getfield 134, 3) := by decide +kernel
theorem dX5_sees_54 : decode cX5_sees 54 = .ok (.iload_n 2, 1) := by decide +kernel
theorem dX5_sees_55 : decode cX5_sees 55 = .ok (.aaload, 1) := by decide +kernel
theorem dX5_sees_56 : decode cX5_sees 56 = .ok (.iload_n 3, 1) := by decide +kernel
theorem dX5_sees_57 : decode cX5_sees 57 = .ok (.iaload, 1) := by decide +kernel
theorem dX5_sees_58 : decode cX5_sees 58 = .ok (.ireturn, 1) := by decide +kernel
set_option maxRecDepth 20000 in
theorem ggX5_way_X5_shapeOf : GoodIn wsX5_way wsX5_shapeOf := goodIn_r _ [8, 9, 10, 42, 43, 44, 45, 46, 47] (by decide +kernel) (by decide +kernel)
set_option maxRecDepth 20000 in
theorem gX5_way_X5_shapeOf : GoodIn wsX5_way (wsV RX5 89 RX5 yX5_shapeOf wsX5_shapeOf) := goodIn_app (goodIn_of _ (by decide +kernel)) ggX5_way_X5_shapeOf
set_option maxRecDepth 20000 in
theorem ggX5_way_X1_has : GoodIn wsX5_way wsX1_has := goodIn_r _ [15, 16, 49, 50, 51] (by decide +kernel) (by decide +kernel)
set_option maxRecDepth 20000 in
theorem gX5_way_X1_has : GoodIn wsX5_way (wsV RX5 96 RX1 yX1_has wsX1_has) := goodIn_app (goodIn_of _ (by decide +kernel)) ggX5_way_X1_has
set_option maxRecDepth 20000 in
theorem ggX5_way_X4_measure : GoodIn wsX5_way wsX4_measure := goodIn_r _ [21, 22, 23, 24, 25, 26, 27, 20, 28, 29, 30, 31, 32, 33, 34, 35, 36, 37, 38, 39, 40, 41, 49, 50, 51, 48] (by decide +kernel) (by decide +kernel)
set_option maxRecDepth 20000 in
theorem gX5_way_X4_measure : GoodIn wsX5_way (wsV RX5 138 RX4 yX4_measure wsX4_measure) := goodIn_app (goodIn_of _ (by decide +kernel)) ggX5_way_X4_measure
theorem dX5_way_0 : decode cX5_way 0 = .ok (.aload_n 0, 1) := by decide +kernel
theorem dX5_way_1 : decode cX5_way 1 = .ok (.iload_n 1, 1) := by decide +kernel
theorem dX5_way_2 : decode cX5_way 2 = .ok (.invokevirtual 89, 3) := by decide +kernel
theorem dX5_way_5 : decode cX5_way 5 = .ok (.astore 4, 2) := by decide +kernel
theorem dX5_way_7 : decode cX5_way 7 = .ok (.aload 4, 2) := by decide +kernel
theorem dX5_way_9 : decode cX5_way 9 = .ok (.ifnull 27, 3) := by decide +kernel
theorem dX5_way_12 : decode cX5_way 12 = .ok (.aload 4, 2) := by decide +kernel
theorem dX5_way_14 : decode cX5_way 14 = .ok (.getfield 93, 3) := by decide +kernel
theorem dX5_way_17 : decode cX5_way 17 = .ok (.iload_n 2, 1) := by decide +kernel
theorem dX5_way_18 : decode cX5_way 18 = .ok (.invokevirtual 96, 3) := by decide +kernel
theorem dX5_way_21 : decode cX5_way 21 = .ok (.ifCond .eq 15, 3) := by decide +kernel
theorem dX5_way_24 : decode cX5_way 24 = .ok (.aload 4, 2) := by decide +kernel
theorem dX5_way_26 : decode cX5_way 26 = .ok (.getfield 93, 3) := by decide +kernel
theorem dX5_way_29 : decode cX5_way 29 = .ok (.iload_n 3, 1) := by decide +kernel
theorem dX5_way_30 : decode cX5_way 30 = .ok (.invokevirtual 96, 3) := by decide +kernel
theorem dX5_way_33 : decode cX5_way 33 = .ok (.ifCond .ne 6, 3) := by decide +kernel
theorem dX5_way_36 : decode cX5_way 36 = .ok (.bipush (-2), 2) := by decide +kernel
theorem dX5_way_38 : decode cX5_way 38 = .ok (.ireturn, 1) := by decide +kernel
theorem dX5_way_39 : decode cX5_way 39 = .ok (.aload_n 0, 1) := by decide +kernel
theorem dX5_way_40 : decode cX5_way 40 = .ok (.getfield 33, 3) := by decide +kernel
theorem dX5_way_43 : decode cX5_way 43 = .ok (.aload 4, 2) := by decide +kernel
theorem dX5_way_45 : decode cX5_way 45 = .ok (.iload_n 3, 1) := by decide +kernel
theorem dX5_way_46 : decode cX5_way 46 = .ok (.invokevirtual 138, 3) := by decide +kernel
theorem dX5_way_49 : decode cX5_way 49 = .ok (.aload_n 0, 1) := by decide +kernel
theorem dX5_way_50 : decode cX5_way 50 = .ok (.getfield 33, 3) := by decide +kernel
theorem dX5_way_53 : decode cX5_way 53 = .ok (.getfield 142, 3) := by decide +kernel
theorem dX5_way_56 : decode cX5_way 56 = .ok (.iload_n 2, 1) := by decide +kernel
theorem dX5_way_57 : decode cX5_way 57 = .ok (.iaload, 1) := by decide +kernel
theorem dX5_way_58 : decode cX5_way 58 = .ok (.ireturn, 1) := by decide +kernel
set_option maxRecDepth 20000 in
theorem ggX5_step_X5_shapeOf : GoodIn wsX5_step wsX5_shapeOf := goodIn_r _ [7, 8, 9, 45, 46, 47, 48, 49, 50] (by decide +kernel) (by decide +kernel)
set_option maxRecDepth 20000 in
theorem gX5_step_X5_shapeOf : GoodIn wsX5_step (wsV RX5 89 RX5 yX5_shapeOf wsX5_shapeOf) := goodIn_app (goodIn_of _ (by decide +kernel)) ggX5_step_X5_shapeOf
set_option maxRecDepth 20000 in
theorem ggX5_step_X1_has : GoodIn wsX5_step wsX1_has := goodIn_r _ [14, 15, 51, 52, 53] (by decide +kernel) (by decide +kernel)
set_option maxRecDepth 20000 in
theorem gX5_step_X1_has : GoodIn wsX5_step (wsV RX5 96 RX1 yX1_has wsX1_has) := goodIn_app (goodIn_of _ (by decide +kernel)) ggX5_step_X1_has
set_option maxRecDepth 20000 in
theorem ggX5_step_X4_measure : GoodIn wsX5_step wsX4_measure := goodIn_r _ [20, 21, 22, 23, 24, 25, 26, 19, 27, 28, 33, 34, 35, 36, 37, 38, 39, 40, 41, 42, 43, 44, 51, 52, 53, 54] (by decide +kernel) (by decide +kernel)
set_option maxRecDepth 20000 in
theorem gX5_step_X4_measure : GoodIn wsX5_step (wsV RX5 138 RX4 yX4_measure wsX4_measure) := goodIn_app (goodIn_of _ (by decide +kernel)) ggX5_step_X4_measure
set_option maxRecDepth 20000 in
theorem ggX5_step_X4_cornerAfter : GoodIn wsX5_step wsX4_cornerAfter := goodIn_r _ [32, 23, 24, 25, 26, 19, 27, 21, 22, 28, 54, 33, 34, 35, 36, 37, 38, 39, 40, 41, 42, 43, 44, 51, 52, 53] (by decide +kernel) (by decide +kernel)
set_option maxRecDepth 20000 in
theorem gX5_step_X4_cornerAfter : GoodIn wsX5_step (wsV RX5 146 RX4 yX4_cornerAfter wsX4_cornerAfter) := goodIn_app (goodIn_of _ (by decide +kernel)) ggX5_step_X4_cornerAfter
theorem dX5_step_0 : decode cX5_step 0 = .ok (.aload_n 0, 1) := by decide +kernel
theorem dX5_step_1 : decode cX5_step 1 = .ok (.iload_n 1, 1) := by decide +kernel
theorem dX5_step_2 : decode cX5_step 2 = .ok (.invokevirtual 89, 3) := by decide +kernel
theorem dX5_step_5 : decode cX5_step 5 = .ok (.astore 5, 2) := by decide +kernel
theorem dX5_step_7 : decode cX5_step 7 = .ok (.aload 5, 2) := by decide +kernel
theorem dX5_step_9 : decode cX5_step 9 = .ok (.ifnull 27, 3) := by decide +kernel
theorem dX5_step_12 : decode cX5_step 12 = .ok (.aload 5, 2) := by decide +kernel
theorem dX5_step_14 : decode cX5_step 14 = .ok (.getfield 93, 3) := by decide +kernel
theorem dX5_step_17 : decode cX5_step 17 = .ok (.iload_n 2, 1) := by decide +kernel
theorem dX5_step_18 : decode cX5_step 18 = .ok (.invokevirtual 96, 3) := by decide +kernel
theorem dX5_step_21 : decode cX5_step 21 = .ok (.ifCond .eq 15, 3) := by decide +kernel
theorem dX5_step_24 : decode cX5_step 24 = .ok (.aload 5, 2) := by decide +kernel
theorem dX5_step_26 : decode cX5_step 26 = .ok (.getfield 93, 3) := by decide +kernel
theorem dX5_step_29 : decode cX5_step 29 = .ok (.iload_n 3, 1) := by decide +kernel
theorem dX5_step_30 : decode cX5_step 30 = .ok (.invokevirtual 96, 3) := by decide +kernel
theorem dX5_step_33 : decode cX5_step 33 = .ok (.ifCond .ne 6, 3) := by decide +kernel
theorem dX5_step_36 : decode cX5_step 36 = .ok (.bipush (-2), 2) := by decide +kernel
theorem dX5_step_38 : decode cX5_step 38 = .ok (.ireturn, 1) := by decide +kernel
theorem dX5_step_39 : decode cX5_step 39 = .ok (.aload_n 0, 1) := by decide +kernel
theorem dX5_step_40 : decode cX5_step 40 = .ok (.getfield 33, 3) := by decide +kernel
theorem dX5_step_43 : decode cX5_step 43 = .ok (.aload 5, 2) := by decide +kernel
theorem dX5_step_45 : decode cX5_step 45 = .ok (.iload_n 3, 1) := by decide +kernel
theorem dX5_step_46 : decode cX5_step 46 = .ok (.invokevirtual 138, 3) := by decide +kernel
theorem dX5_step_49 : decode cX5_step 49 = .ok (.aload_n 0, 1) := by decide +kernel
theorem dX5_step_50 : decode cX5_step 50 = .ok (.getfield 33, 3) := by decide +kernel
theorem dX5_step_53 : decode cX5_step 53 = .ok (.aload 5, 2) := by decide +kernel
theorem dX5_step_55 : decode cX5_step 55 = .ok (.iload_n 2, 1) := by decide +kernel
theorem dX5_step_56 : decode cX5_step 56 = .ok (.iload 4, 2) := by decide +kernel
theorem dX5_step_58 : decode cX5_step 58 = .ok (.invokevirtual 146, 3) := by decide +kernel
theorem dX5_step_61 : decode cX5_step 61 = .ok (.ireturn, 1) := by decide +kernel
set_option maxRecDepth 20000 in
theorem ggX5_triangulations_X5_shapeOf : GoodIn wsX5_triangulations wsX5_shapeOf := goodIn_r _ [6, 7, 8, 21, 22, 23, 24, 25, 26] (by decide +kernel) (by decide +kernel)
set_option maxRecDepth 20000 in
theorem gX5_triangulations_X5_shapeOf : GoodIn wsX5_triangulations (wsV RX5 89 RX5 yX5_shapeOf wsX5_shapeOf) := goodIn_app (goodIn_of _ (by decide +kernel)) ggX5_triangulations_X5_shapeOf
theorem dX5_triangulations_0 : decode cX5_triangulations 0 = .ok (.aload_n 0, 1) := by decide +kernel
theorem dX5_triangulations_1 : decode cX5_triangulations 1 = .ok (.iload_n 1, 1) := by decide +kernel
theorem dX5_triangulations_2 : decode cX5_triangulations 2 = .ok (.invokevirtual 89, 3) := by decide +kernel
theorem dX5_triangulations_5 : decode cX5_triangulations 5 = .ok (.astore_n 2, 1) := by decide +kernel
theorem dX5_triangulations_6 : decode cX5_triangulations 6 = .ok (.aload_n 2, 1) := by decide +kernel
theorem dX5_triangulations_7 : decode cX5_triangulations 7 = .ok (.ifnonnull 8, 3) := by decide +kernel
theorem dX5_triangulations_10 : decode cX5_triangulations 10 = .ok (.bipush (-2), 2) := by decide +kernel
theorem dX5_triangulations_12 : decode cX5_triangulations 12 = .ok (.goto 7, 3) := by decide +kernel
theorem dX5_triangulations_15 : decode cX5_triangulations 15 = .ok (.aload_n 2, 1) := by decide +kernel
theorem dX5_triangulations_16 : decode cX5_triangulations 16 = .ok (.getfield 150, 3) := by decide +kernel
theorem dX5_triangulations_19 : decode cX5_triangulations 19 = .ok (.ireturn, 1) := by decide +kernel
set_option maxRecDepth 20000 in
theorem ggX5_best_X5_shapeOf : GoodIn wsX5_best wsX5_shapeOf := goodIn_r _ [6, 7, 8, 21, 22, 23, 24, 25, 26] (by decide +kernel) (by decide +kernel)
set_option maxRecDepth 20000 in
theorem gX5_best_X5_shapeOf : GoodIn wsX5_best (wsV RX5 89 RX5 yX5_shapeOf wsX5_shapeOf) := goodIn_app (goodIn_of _ (by decide +kernel)) ggX5_best_X5_shapeOf
theorem dX5_best_0 : decode cX5_best 0 = .ok (.aload_n 0, 1) := by decide +kernel
theorem dX5_best_1 : decode cX5_best 1 = .ok (.iload_n 1, 1) := by decide +kernel
theorem dX5_best_2 : decode cX5_best 2 = .ok (.invokevirtual 89, 3) := by decide +kernel
theorem dX5_best_5 : decode cX5_best 5 = .ok (.astore_n 2, 1) := by decide +kernel
theorem dX5_best_6 : decode cX5_best 6 = .ok (.aload_n 2, 1) := by decide +kernel
theorem dX5_best_7 : decode cX5_best 7 = .ok (.ifnonnull 8, 3) := by decide +kernel
theorem dX5_best_10 : decode cX5_best 10 = .ok (.bipush (-2), 2) := by decide +kernel
theorem dX5_best_12 : decode cX5_best 12 = .ok (.goto 7, 3) := by decide +kernel
theorem dX5_best_15 : decode cX5_best 15 = .ok (.aload_n 2, 1) := by decide +kernel
theorem dX5_best_16 : decode cX5_best 16 = .ok (.getfield 153, 3) := by decide +kernel
theorem dX5_best_19 : decode cX5_best 19 = .ok (.ireturn, 1) := by decide +kernel
set_option maxRecDepth 20000 in
theorem ggX5_triangle_X5_shapeOf : GoodIn wsX5_triangle wsX5_shapeOf := goodIn_r _ [8, 9, 10, 30, 31, 32, 33, 34, 35] (by decide +kernel) (by decide +kernel)
set_option maxRecDepth 20000 in
theorem gX5_triangle_X5_shapeOf : GoodIn wsX5_triangle (wsV RX5 89 RX5 yX5_shapeOf wsX5_shapeOf) := goodIn_app (goodIn_of _ (by decide +kernel)) ggX5_triangle_X5_shapeOf
set_option maxRecDepth 20000 in
theorem ggX5_triangle_X3_triangleCount : GoodIn wsX5_triangle wsX3_triangleCount := goodIn_r _ [15, 16, 17, 18, 19, 20, 21, 22, 23, 24, 25, 26, 27, 28, 29, 36, 37, 38] (by decide +kernel) (by decide +kernel)
set_option maxRecDepth 20000 in
theorem gX5_triangle_X3_triangleCount : GoodIn wsX5_triangle (wsV RX5 156 RX3 yX3_triangleCount wsX3_triangleCount) := goodIn_app (goodIn_of _ (by decide +kernel)) ggX5_triangle_X3_triangleCount
theorem dX5_triangle_0 : decode cX5_triangle 0 = .ok (.aload_n 0, 1) := by decide +kernel
theorem dX5_triangle_1 : decode cX5_triangle 1 = .ok (.iload_n 1, 1) := by decide +kernel
theorem dX5_triangle_2 : decode cX5_triangle 2 = .ok (.invokevirtual 89, 3) := by decide +kernel
theorem dX5_triangle_5 : decode cX5_triangle 5 = .ok (.astore 4, 2) := by decide +kernel
theorem dX5_triangle_7 : decode cX5_triangle 7 = .ok (.aload 4, 2) := by decide +kernel
theorem dX5_triangle_9 : decode cX5_triangle 9 = .ok (.ifnonnull 6, 3) := by decide +kernel
theorem dX5_triangle_12 : decode cX5_triangle 12 = .ok (.bipush (-2), 2) := by decide +kernel
theorem dX5_triangle_14 : decode cX5_triangle 14 = .ok (.ireturn, 1) := by decide +kernel
theorem dX5_triangle_15 : decode cX5_triangle 15 = .ok (.iload_n 3, 1) := by decide +kernel
theorem dX5_triangle_16 : decode cX5_triangle 16 = .ok (.ifCond .lt 8, 3) := by decide +kernel
theorem dX5_triangle_19 : decode cX5_triangle 19 = .ok (.iload_n 3, 1) := by decide +kernel
theorem dX5_triangle_20 : decode cX5_triangle 20 = .ok (.iconst 2, 1) := by decide +kernel
theorem dX5_triangle_21 : decode cX5_triangle 21 = .ok (.if_icmp .le 6, 3) := by decide +kernel
theorem dX5_triangle_24 : decode cX5_triangle 24 = .ok (.bipush (-3), 2) := by decide +kernel
theorem dX5_triangle_26 : decode cX5_triangle 26 = .ok (.ireturn, 1) := by decide +kernel
theorem dX5_triangle_27 : decode cX5_triangle 27 = .ok (.iload_n 2, 1) := by decide +kernel
theorem dX5_triangle_28 : decode cX5_triangle 28 = .ok (.ifCond .lt 12, 3) := by decide +kernel
theorem dX5_triangle_31 : decode cX5_triangle 31 = .ok (.iload_n 2, 1) := by decide +kernel
theorem dX5_triangle_32 : decode cX5_triangle 32 = .ok (.aload 4, 2) := by decide +kernel
theorem dX5_triangle_34 : decode cX5_triangle 34 = .ok (.invokevirtual 156, 3) := by decide +kernel
theorem dX5_triangle_37 : decode cX5_triangle 37 = .ok (.if_icmp .lt 5, 3) := by decide +kernel
theorem dX5_triangle_40 : decode cX5_triangle 40 = .ok (.iconst (-1), 1) := by decide +kernel
theorem dX5_triangle_41 : decode cX5_triangle 41 = .ok (.ireturn, 1) := by decide +kernel
theorem dX5_triangle_42 : decode cX5_triangle 42 = .ok (.iload_n 3, 1) := by decide +kernel
theorem dX5_triangle_43 : decode cX5_triangle 43 = .ok (.iconst 1, 1) := by decide +kernel
theorem dX5_triangle_44 : decode cX5_triangle 44 = .ok (.if_icmp .ne 11, 3) := by decide +kernel
theorem dX5_triangle_47 : decode cX5_triangle 47 = .ok (.aload 4, 2) := by decide +kernel
theorem dX5_triangle_49 : decode cX5_triangle 49 = .ok (.getfield 159, 3) := by decide +kernel
theorem dX5_triangle_52 : decode cX5_triangle 52 = .ok (.iload_n 2, 1) := by decide +kernel
theorem dX5_triangle_53 : decode cX5_triangle 53 = .ok (.iaload, 1) := by decide +kernel
theorem dX5_triangle_54 : decode cX5_triangle 54 = .ok (.ireturn, 1) := by decide +kernel
theorem dX5_triangle_55 : decode cX5_triangle 55 = .ok (.iload_n 3, 1) := by decide +kernel
theorem dX5_triangle_56 : decode cX5_triangle 56 = .ok (.ifCond .ne 13, 3) := by decide +kernel
theorem dX5_triangle_59 : decode cX5_triangle 59 = .ok (.aload 4, 2) := by decide +kernel
theorem dX5_triangle_61 : decode cX5_triangle 61 = .ok (.getfield 162, 3) := by decide +kernel
theorem dX5_triangle_64 : decode cX5_triangle 64 = .ok (.iload_n 2, 1) := by decide +kernel
theorem dX5_triangle_65 : decode cX5_triangle 65 = .ok (.iaload, 1) := by decide +kernel
theorem dX5_triangle_66 : decode cX5_triangle 66 = .ok (.goto 10, 3) := by decide +kernel
theorem dX5_triangle_69 : decode cX5_triangle 69 = .ok (.aload 4, 2) := by decide +kernel
theorem dX5_triangle_71 : decode cX5_triangle 71 = .ok (.getfield 165, 3) := by decide +kernel
theorem dX5_triangle_74 : decode cX5_triangle 74 = .ok (.iload_n 2, 1) := by decide +kernel
theorem dX5_triangle_75 : decode cX5_triangle 75 = .ok (.iaload, 1) := by decide +kernel
theorem dX5_triangle_76 : decode cX5_triangle 76 = .ok (.ireturn, 1) := by decide +kernel
set_option maxRecDepth 20000 in
theorem ggX5_diagonal_X5_shapeOf : GoodIn wsX5_diagonal wsX5_shapeOf := goodIn_r _ [8, 9, 10, 30, 31, 32, 33, 34, 35] (by decide +kernel) (by decide +kernel)
set_option maxRecDepth 20000 in
theorem gX5_diagonal_X5_shapeOf : GoodIn wsX5_diagonal (wsV RX5 89 RX5 yX5_shapeOf wsX5_shapeOf) := goodIn_app (goodIn_of _ (by decide +kernel)) ggX5_diagonal_X5_shapeOf
set_option maxRecDepth 20000 in
theorem ggX5_diagonal_X3_diagonalCount : GoodIn wsX5_diagonal wsX3_diagonalCount := goodIn_r _ [15, 16, 17, 18, 19, 20, 21, 22, 23, 24, 25, 26, 27, 28, 29, 36, 37, 38] (by decide +kernel) (by decide +kernel)
set_option maxRecDepth 20000 in
theorem gX5_diagonal_X3_diagonalCount : GoodIn wsX5_diagonal (wsV RX5 168 RX3 yX3_diagonalCount wsX3_diagonalCount) := goodIn_app (goodIn_of _ (by decide +kernel)) ggX5_diagonal_X3_diagonalCount
theorem dX5_diagonal_0 : decode cX5_diagonal 0 = .ok (.aload_n 0, 1) := by decide +kernel
theorem dX5_diagonal_1 : decode cX5_diagonal 1 = .ok (.iload_n 1, 1) := by decide +kernel
theorem dX5_diagonal_2 : decode cX5_diagonal 2 = .ok (.invokevirtual 89, 3) := by decide +kernel
theorem dX5_diagonal_5 : decode cX5_diagonal 5 = .ok (.astore 4, 2) := by decide +kernel
theorem dX5_diagonal_7 : decode cX5_diagonal 7 = .ok (.aload 4, 2) := by decide +kernel
theorem dX5_diagonal_9 : decode cX5_diagonal 9 = .ok (.ifnonnull 6, 3) := by decide +kernel
theorem dX5_diagonal_12 : decode cX5_diagonal 12 = .ok (.bipush (-2), 2) := by decide +kernel
theorem dX5_diagonal_14 : decode cX5_diagonal 14 = .ok (.ireturn, 1) := by decide +kernel
theorem dX5_diagonal_15 : decode cX5_diagonal 15 = .ok (.iload_n 3, 1) := by decide +kernel
theorem dX5_diagonal_16 : decode cX5_diagonal 16 = .ok (.ifCond .lt 8, 3) := by decide +kernel
theorem dX5_diagonal_19 : decode cX5_diagonal 19 = .ok (.iload_n 3, 1) := by decide +kernel
theorem dX5_diagonal_20 : decode cX5_diagonal 20 = .ok (.iconst 2, 1) := by decide +kernel
theorem dX5_diagonal_21 : decode cX5_diagonal 21 = .ok (.if_icmp .le 6, 3) := by decide +kernel
theorem dX5_diagonal_24 : decode cX5_diagonal 24 = .ok (.bipush (-3), 2) := by decide +kernel
theorem dX5_diagonal_26 : decode cX5_diagonal 26 = .ok (.ireturn, 1) := by decide +kernel
theorem dX5_diagonal_27 : decode cX5_diagonal 27 = .ok (.iload_n 2, 1) := by decide +kernel
theorem dX5_diagonal_28 : decode cX5_diagonal 28 = .ok (.ifCond .lt 12, 3) := by decide +kernel
theorem dX5_diagonal_31 : decode cX5_diagonal 31 = .ok (.iload_n 2, 1) := by decide +kernel
theorem dX5_diagonal_32 : decode cX5_diagonal 32 = .ok (.aload 4, 2) := by decide +kernel
theorem dX5_diagonal_34 : decode cX5_diagonal 34 = .ok (.invokevirtual 168, 3) := by decide +kernel
theorem dX5_diagonal_37 : decode cX5_diagonal 37 = .ok (.if_icmp .lt 5, 3) := by decide +kernel
theorem dX5_diagonal_40 : decode cX5_diagonal 40 = .ok (.iconst (-1), 1) := by decide +kernel
theorem dX5_diagonal_41 : decode cX5_diagonal 41 = .ok (.ireturn, 1) := by decide +kernel
theorem dX5_diagonal_42 : decode cX5_diagonal 42 = .ok (.iload_n 3, 1) := by decide +kernel
theorem dX5_diagonal_43 : decode cX5_diagonal 43 = .ok (.iconst 2, 1) := by decide +kernel
theorem dX5_diagonal_44 : decode cX5_diagonal 44 = .ok (.if_icmp .ne 11, 3) := by decide +kernel
theorem dX5_diagonal_47 : decode cX5_diagonal 47 = .ok (.aload 4, 2) := by decide +kernel
theorem dX5_diagonal_49 : decode cX5_diagonal 49 = .ok (.getfield 171, 3) := by decide +kernel
theorem dX5_diagonal_52 : decode cX5_diagonal 52 = .ok (.iload_n 2, 1) := by decide +kernel
theorem dX5_diagonal_53 : decode cX5_diagonal 53 = .ok (.iaload, 1) := by decide +kernel
theorem dX5_diagonal_54 : decode cX5_diagonal 54 = .ok (.ireturn, 1) := by decide +kernel
theorem dX5_diagonal_55 : decode cX5_diagonal 55 = .ok (.iload_n 3, 1) := by decide +kernel
theorem dX5_diagonal_56 : decode cX5_diagonal 56 = .ok (.ifCond .ne 13, 3) := by decide +kernel
theorem dX5_diagonal_59 : decode cX5_diagonal 59 = .ok (.aload 4, 2) := by decide +kernel
theorem dX5_diagonal_61 : decode cX5_diagonal 61 = .ok (.getfield 174, 3) := by decide +kernel
theorem dX5_diagonal_64 : decode cX5_diagonal 64 = .ok (.iload_n 2, 1) := by decide +kernel
theorem dX5_diagonal_65 : decode cX5_diagonal 65 = .ok (.iaload, 1) := by decide +kernel
theorem dX5_diagonal_66 : decode cX5_diagonal 66 = .ok (.goto 10, 3) := by decide +kernel
theorem dX5_diagonal_69 : decode cX5_diagonal 69 = .ok (.aload 4, 2) := by decide +kernel
theorem dX5_diagonal_71 : decode cX5_diagonal 71 = .ok (.getfield 177, 3) := by decide +kernel
theorem dX5_diagonal_74 : decode cX5_diagonal 74 = .ok (.iload_n 2, 1) := by decide +kernel
theorem dX5_diagonal_75 : decode cX5_diagonal 75 = .ok (.iaload, 1) := by decide +kernel
theorem dX5_diagonal_76 : decode cX5_diagonal 76 = .ok (.ireturn, 1) := by decide +kernel
set_option maxRecDepth 20000 in
theorem ggX5_parts_X5_shapeOf : GoodIn wsX5_parts wsX5_shapeOf := goodIn_r _ [6, 7, 8, 21, 22, 23, 24, 25, 26] (by decide +kernel) (by decide +kernel)
set_option maxRecDepth 20000 in
theorem gX5_parts_X5_shapeOf : GoodIn wsX5_parts (wsV RX5 89 RX5 yX5_shapeOf wsX5_shapeOf) := goodIn_app (goodIn_of _ (by decide +kernel)) ggX5_parts_X5_shapeOf
theorem dX5_parts_0 : decode cX5_parts 0 = .ok (.aload_n 0, 1) := by decide +kernel
theorem dX5_parts_1 : decode cX5_parts 1 = .ok (.iload_n 1, 1) := by decide +kernel
theorem dX5_parts_2 : decode cX5_parts 2 = .ok (.invokevirtual 89, 3) := by decide +kernel
theorem dX5_parts_5 : decode cX5_parts 5 = .ok (.astore_n 2, 1) := by decide +kernel
theorem dX5_parts_6 : decode cX5_parts 6 = .ok (.aload_n 2, 1) := by decide +kernel
theorem dX5_parts_7 : decode cX5_parts 7 = .ok (.ifnonnull 8, 3) := by decide +kernel
theorem dX5_parts_10 : decode cX5_parts 10 = .ok (.bipush (-2), 2) := by decide +kernel
theorem dX5_parts_12 : decode cX5_parts 12 = .ok (.goto 7, 3) := by decide +kernel
theorem dX5_parts_15 : decode cX5_parts 15 = .ok (.aload_n 2, 1) := by decide +kernel
theorem dX5_parts_16 : decode cX5_parts 16 = .ok (.getfield 180, 3) := by decide +kernel
theorem dX5_parts_19 : decode cX5_parts 19 = .ok (.ireturn, 1) := by decide +kernel
set_option maxRecDepth 20000 in
theorem ggX5_same_X5_shapeOf : GoodIn wsX5_same wsX5_shapeOf := goodIn_r _ [5, 6, 7, 52, 53, 54, 55, 56, 57] (by decide +kernel) (by decide +kernel)
set_option maxRecDepth 20000 in
theorem gX5_same_X5_shapeOf : GoodIn wsX5_same (wsV RX5 89 RX5 yX5_shapeOf wsX5_shapeOf) := goodIn_app (goodIn_of _ (by decide +kernel)) ggX5_same_X5_shapeOf
set_option maxRecDepth 20000 in
theorem ggX5_same_X3_leastStart : GoodIn wsX5_same wsX3_leastStart := goodIn_r _ [12, 13, 14, 15, 16, 17, 11, 18, 19, 20, 21, 22, 23, 24, 25, 26, 27, 28, 29, 30, 31, 32, 33, 34, 35, 36, 37, 38, 39, 40, 41, 42, 43, 44, 45, 46, 47, 48, 49, 50, 51, 58, 59, 60, 61, 62, 63, 64, 65, 66, 67, 68, 69, 70, 71, 72] (by decide +kernel) (by decide +kernel)
set_option maxRecDepth 20000 in
theorem gX5_same_X3_leastStart : GoodIn wsX5_same (wsV RX5 183 RX3 yX3_leastStart wsX3_leastStart) := goodIn_app (goodIn_of _ (by decide +kernel)) ggX5_same_X3_leastStart
theorem dX5_same_0 : decode cX5_same 0 = .ok (.aload_n 0, 1) := by decide +kernel
theorem dX5_same_1 : decode cX5_same 1 = .ok (.iload_n 1, 1) := by decide +kernel
theorem dX5_same_2 : decode cX5_same 2 = .ok (.invokevirtual 89, 3) := by decide +kernel
theorem dX5_same_5 : decode cX5_same 5 = .ok (.astore_n 3, 1) := by decide +kernel
theorem dX5_same_6 : decode cX5_same 6 = .ok (.aload_n 0, 1) := by decide +kernel
theorem dX5_same_7 : decode cX5_same 7 = .ok (.iload_n 2, 1) := by decide +kernel
theorem dX5_same_8 : decode cX5_same 8 = .ok (.invokevirtual 89, 3) := by decide +kernel
theorem dX5_same_11 : decode cX5_same 11 = .ok (.astore 4, 2) := by decide +kernel
theorem dX5_same_13 : decode cX5_same 13 = .ok (.aload_n 3, 1) := by decide +kernel
theorem dX5_same_14 : decode cX5_same 14 = .ok (.ifnull 8, 3) := by decide +kernel
theorem dX5_same_17 : decode cX5_same 17 = .ok (.aload 4, 2) := by decide +kernel
theorem dX5_same_19 : decode cX5_same 19 = .ok (.ifnonnull 6, 3) := by decide +kernel
theorem dX5_same_22 : decode cX5_same 22 = .ok (.bipush (-2), 2) := by decide +kernel
theorem dX5_same_24 : decode cX5_same 24 = .ok (.ireturn, 1) := by decide +kernel
theorem dX5_same_25 : decode cX5_same 25 = .ok (.aload_n 3, 1) := by decide +kernel
theorem dX5_same_26 : decode cX5_same 26 = .ok (.aload 4, 2) := by decide +kernel
theorem dX5_same_28 : decode cX5_same 28 = .ok (.iconst 1, 1) := by decide +kernel
theorem dX5_same_29 : decode cX5_same 29 = .ok (.invokevirtual 183, 3) := by decide +kernel
theorem dX5_same_32 : decode cX5_same 32 = .ok (.iconst (-1), 1) := by decide +kernel
theorem dX5_same_33 : decode cX5_same 33 = .ok (.if_icmp .eq 5, 3) := by decide +kernel
theorem dX5_same_36 : decode cX5_same 36 = .ok (.iconst 1, 1) := by decide +kernel
theorem dX5_same_37 : decode cX5_same 37 = .ok (.ireturn, 1) := by decide +kernel
theorem dX5_same_38 : decode cX5_same 38 = .ok (.aload_n 3, 1) := by decide +kernel
theorem dX5_same_39 : decode cX5_same 39 = .ok (.aload 4, 2) := by decide +kernel
theorem dX5_same_41 : decode cX5_same 41 = .ok (.iconst (-1), 1) := by decide +kernel
theorem dX5_same_42 : decode cX5_same 42 = .ok (.invokevirtual 183, 3) := by decide +kernel
theorem dX5_same_45 : decode cX5_same 45 = .ok (.iconst (-1), 1) := by decide +kernel
theorem dX5_same_46 : decode cX5_same 46 = .ok (.if_icmp .eq 7, 3) := by decide +kernel
theorem dX5_same_49 : decode cX5_same 49 = .ok (.iconst 2, 1) := by decide +kernel
theorem dX5_same_50 : decode cX5_same 50 = .ok (.goto 4, 3) := by decide +kernel
theorem dX5_same_53 : decode cX5_same 53 = .ok (.iconst 0, 1) := by decide +kernel
theorem dX5_same_54 : decode cX5_same 54 = .ok (.ireturn, 1) := by decide +kernel
set_option maxRecDepth 20000 in
theorem ggX5_onto_X5_shapeOf : GoodIn wsX5_onto wsX5_shapeOf := goodIn_r _ [5, 6, 7, 52, 53, 54, 55, 56, 57] (by decide +kernel) (by decide +kernel)
set_option maxRecDepth 20000 in
theorem gX5_onto_X5_shapeOf : GoodIn wsX5_onto (wsV RX5 89 RX5 yX5_shapeOf wsX5_shapeOf) := goodIn_app (goodIn_of _ (by decide +kernel)) ggX5_onto_X5_shapeOf
set_option maxRecDepth 20000 in
theorem ggX5_onto_X3_leastStart : GoodIn wsX5_onto wsX3_leastStart := goodIn_r _ [12, 13, 14, 15, 16, 17, 11, 18, 19, 20, 21, 22, 23, 24, 25, 26, 27, 28, 29, 30, 31, 32, 33, 34, 35, 36, 37, 38, 39, 40, 41, 42, 43, 44, 45, 46, 47, 48, 49, 50, 51, 58, 59, 60, 61, 62, 63, 64, 65, 66, 67, 68, 69, 70, 71, 72] (by decide +kernel) (by decide +kernel)
set_option maxRecDepth 20000 in
theorem gX5_onto_X3_leastStart : GoodIn wsX5_onto (wsV RX5 183 RX3 yX3_leastStart wsX3_leastStart) := goodIn_app (goodIn_of _ (by decide +kernel)) ggX5_onto_X3_leastStart
theorem dX5_onto_0 : decode cX5_onto 0 = .ok (.aload_n 0, 1) := by decide +kernel
theorem dX5_onto_1 : decode cX5_onto 1 = .ok (.iload_n 1, 1) := by decide +kernel
theorem dX5_onto_2 : decode cX5_onto 2 = .ok (.invokevirtual 89, 3) := by decide +kernel
theorem dX5_onto_5 : decode cX5_onto 5 = .ok (.astore_n 3, 1) := by decide +kernel
theorem dX5_onto_6 : decode cX5_onto 6 = .ok (.aload_n 0, 1) := by decide +kernel
theorem dX5_onto_7 : decode cX5_onto 7 = .ok (.iload_n 2, 1) := by decide +kernel
theorem dX5_onto_8 : decode cX5_onto 8 = .ok (.invokevirtual 89, 3) := by decide +kernel
theorem dX5_onto_11 : decode cX5_onto 11 = .ok (.astore 4, 2) := by decide +kernel
theorem dX5_onto_13 : decode cX5_onto 13 = .ok (.aload_n 3, 1) := by decide +kernel
theorem dX5_onto_14 : decode cX5_onto 14 = .ok (.ifnull 8, 3) := by decide +kernel
theorem dX5_onto_17 : decode cX5_onto 17 = .ok (.aload 4, 2) := by decide +kernel
theorem dX5_onto_19 : decode cX5_onto 19 = .ok (.ifnonnull 6, 3) := by decide +kernel
theorem dX5_onto_22 : decode cX5_onto 22 = .ok (.bipush (-2), 2) := by decide +kernel
theorem dX5_onto_24 : decode cX5_onto 24 = .ok (.ireturn, 1) := by decide +kernel
theorem dX5_onto_25 : decode cX5_onto 25 = .ok (.aload_n 3, 1) := by decide +kernel
theorem dX5_onto_26 : decode cX5_onto 26 = .ok (.aload 4, 2) := by decide +kernel
theorem dX5_onto_28 : decode cX5_onto 28 = .ok (.iconst 1, 1) := by decide +kernel
theorem dX5_onto_29 : decode cX5_onto 29 = .ok (.invokevirtual 183, 3) := by decide +kernel
theorem dX5_onto_32 : decode cX5_onto 32 = .ok (.istore 5, 2) := by decide +kernel
theorem dX5_onto_34 : decode cX5_onto 34 = .ok (.iload 5, 2) := by decide +kernel
theorem dX5_onto_36 : decode cX5_onto 36 = .ok (.iconst (-1), 1) := by decide +kernel
theorem dX5_onto_37 : decode cX5_onto 37 = .ok (.if_icmp .eq 8, 3) := by decide +kernel
theorem dX5_onto_40 : decode cX5_onto 40 = .ok (.iload 5, 2) := by decide +kernel
theorem dX5_onto_42 : decode cX5_onto 42 = .ok (.goto 10, 3) := by decide +kernel
theorem dX5_onto_45 : decode cX5_onto 45 = .ok (.aload_n 3, 1) := by decide +kernel
theorem dX5_onto_46 : decode cX5_onto 46 = .ok (.aload 4, 2) := by decide +kernel
theorem dX5_onto_48 : decode cX5_onto 48 = .ok (.iconst (-1), 1) := by decide +kernel
theorem dX5_onto_49 : decode cX5_onto 49 = .ok (.invokevirtual 183, 3) := by decide +kernel
theorem dX5_onto_52 : decode cX5_onto 52 = .ok (.ireturn, 1) := by decide +kernel
set_option maxRecDepth 20000 in
theorem ggX5_symmetries_X5_shapeOf : GoodIn wsX5_symmetries wsX5_shapeOf := goodIn_r _ [5, 6, 7, 55, 56, 57, 58, 59, 60] (by decide +kernel) (by decide +kernel)
set_option maxRecDepth 20000 in
theorem gX5_symmetries_X5_shapeOf : GoodIn wsX5_symmetries (wsV RX5 89 RX5 yX5_shapeOf wsX5_shapeOf) := goodIn_app (goodIn_of _ (by decide +kernel)) ggX5_symmetries_X5_shapeOf
set_option maxRecDepth 20000 in
theorem ggX5_symmetries_X5_isZeroOrOne : GoodIn wsX5_symmetries wsX5_isZeroOrOne := goodIn_r _ [10] (by decide +kernel) (by decide +kernel)
set_option maxRecDepth 20000 in
theorem gX5_symmetries_X5_isZeroOrOne : GoodIn wsX5_symmetries (va_wsS RX5 100 yX5_isZeroOrOne wsX5_isZeroOrOne) := goodIn_app (goodIn_of _ (by decide +kernel)) ggX5_symmetries_X5_isZeroOrOne
set_option maxRecDepth 20000 in
theorem ggX5_symmetries_X3_startCount : GoodIn wsX5_symmetries wsX3_startCount := goodIn_r _ [15, 16, 17, 18, 19, 20, 14, 21, 22, 23, 24, 25, 26, 27, 28, 29, 30, 31, 32, 33, 34, 35, 36, 37, 38, 39, 40, 41, 42, 43, 44, 45, 46, 47, 48, 49, 50, 51, 52, 53, 54, 61, 62, 63, 64, 65, 66, 67, 68, 69, 70, 71, 72, 73, 74, 75] (by decide +kernel) (by decide +kernel)
set_option maxRecDepth 20000 in
theorem gX5_symmetries_X3_startCount : GoodIn wsX5_symmetries (wsV RX5 187 RX3 yX3_startCount wsX3_startCount) := goodIn_app (goodIn_of _ (by decide +kernel)) ggX5_symmetries_X3_startCount
theorem dX5_symmetries_0 : decode cX5_symmetries 0 = .ok (.aload_n 0, 1) := by decide +kernel
theorem dX5_symmetries_1 : decode cX5_symmetries 1 = .ok (.iload_n 1, 1) := by decide +kernel
theorem dX5_symmetries_2 : decode cX5_symmetries 2 = .ok (.invokevirtual 89, 3) := by decide +kernel
theorem dX5_symmetries_5 : decode cX5_symmetries 5 = .ok (.astore_n 3, 1) := by decide +kernel
theorem dX5_symmetries_6 : decode cX5_symmetries 6 = .ok (.aload_n 3, 1) := by decide +kernel
theorem dX5_symmetries_7 : decode cX5_symmetries 7 = .ok (.ifnonnull 6, 3) := by decide +kernel
theorem dX5_symmetries_10 : decode cX5_symmetries 10 = .ok (.bipush (-2), 2) := by decide +kernel
theorem dX5_symmetries_12 : decode cX5_symmetries 12 = .ok (.ireturn, 1) := by decide +kernel
theorem dX5_symmetries_13 : decode cX5_symmetries 13 = .ok (.iload_n 2, 1) := by decide +kernel
theorem dX5_symmetries_14 : decode cX5_symmetries 14 = .ok (.invokestatic 100, 3) := by decide +kernel
theorem dX5_symmetries_17 : decode cX5_symmetries 17 = .ok (.ifCond .ne 6, 3) := by decide +kernel
theorem dX5_symmetries_20 : decode cX5_symmetries 20 = .ok (.bipush (-3), 2) := by decide +kernel
theorem dX5_symmetries_22 : decode cX5_symmetries 22 = .ok (.ireturn, 1) := by decide +kernel
theorem dX5_symmetries_23 : decode cX5_symmetries 23 = .ok (.aload_n 3, 1) := by decide +kernel
theorem dX5_symmetries_24 : decode cX5_symmetries 24 = .ok (.iconst 1, 1) := by decide +kernel
theorem dX5_symmetries_25 : decode cX5_symmetries 25 = .ok (.invokevirtual 187, 3) := by decide +kernel
theorem dX5_symmetries_28 : decode cX5_symmetries 28 = .ok (.istore 4, 2) := by decide +kernel
theorem dX5_symmetries_30 : decode cX5_symmetries 30 = .ok (.iload_n 2, 1) := by decide +kernel
theorem dX5_symmetries_31 : decode cX5_symmetries 31 = .ok (.ifCond .ne 8, 3) := by decide +kernel
theorem dX5_symmetries_34 : decode cX5_symmetries 34 = .ok (.iload 4, 2) := by decide +kernel
theorem dX5_symmetries_36 : decode cX5_symmetries 36 = .ok (.goto 11, 3) := by decide +kernel
theorem dX5_symmetries_39 : decode cX5_symmetries 39 = .ok (.iload 4, 2) := by decide +kernel
theorem dX5_symmetries_41 : decode cX5_symmetries 41 = .ok (.aload_n 3, 1) := by decide +kernel
theorem dX5_symmetries_42 : decode cX5_symmetries 42 = .ok (.iconst (-1), 1) := by decide +kernel
theorem dX5_symmetries_43 : decode cX5_symmetries 43 = .ok (.invokevirtual 187, 3) := by decide +kernel
theorem dX5_symmetries_46 : decode cX5_symmetries 46 = .ok (.iadd, 1) := by decide +kernel
theorem dX5_symmetries_47 : decode cX5_symmetries 47 = .ok (.ireturn, 1) := by decide +kernel
theorem dX5_shapeOf_0 : decode cX5_shapeOf 0 = .ok (.iload_n 1, 1) := by decide +kernel
theorem dX5_shapeOf_1 : decode cX5_shapeOf 1 = .ok (.ifCond .lt 20, 3) := by decide +kernel
theorem dX5_shapeOf_4 : decode cX5_shapeOf 4 = .ok (.iload_n 1, 1) := by decide +kernel
theorem dX5_shapeOf_5 : decode cX5_shapeOf 5 = .ok (.aload_n 0, 1) := by decide +kernel
theorem dX5_shapeOf_6 : decode cX5_shapeOf 6 = .ok (.getfield 44, 3) := by decide +kernel
theorem dX5_shapeOf_9 : decode cX5_shapeOf 9 = .ok (.if_icmp .ge 12, 3) := by decide +kernel
theorem dX5_shapeOf_12 : decode cX5_shapeOf 12 = .ok (.aload_n 0, 1) := by decide +kernel
theorem dX5_shapeOf_13 : decode cX5_shapeOf 13 = .ok (.getfield 39, 3) := by decide +kernel
theorem dX5_shapeOf_16 : decode cX5_shapeOf 16 = .ok (.iload_n 1, 1) := by decide +kernel
theorem dX5_shapeOf_17 : decode cX5_shapeOf 17 = .ok (.aaload, 1) := by decide +kernel
theorem dX5_shapeOf_18 : decode cX5_shapeOf 18 = .ok (.goto 4, 3) := by decide +kernel
theorem dX5_shapeOf_21 : decode cX5_shapeOf 21 = .ok (.aconst_null, 1) := by decide +kernel
theorem dX5_shapeOf_22 : decode cX5_shapeOf 22 = .ok (.areturn, 1) := by decide +kernel
theorem dX5_isWithin_0 : decode cX5_isWithin 0 = .ok (.iload_n 0, 1) := by decide +kernel
theorem dX5_isWithin_1 : decode cX5_isWithin 1 = .ok (.iload_n 1, 1) := by decide +kernel
theorem dX5_isWithin_2 : decode cX5_isWithin 2 = .ok (.ineg, 1) := by decide +kernel
theorem dX5_isWithin_3 : decode cX5_isWithin 3 = .ok (.if_icmp .lt 12, 3) := by decide +kernel
theorem dX5_isWithin_6 : decode cX5_isWithin 6 = .ok (.iload_n 0, 1) := by decide +kernel
theorem dX5_isWithin_7 : decode cX5_isWithin 7 = .ok (.iload_n 1, 1) := by decide +kernel
theorem dX5_isWithin_8 : decode cX5_isWithin 8 = .ok (.if_icmp .gt 7, 3) := by decide +kernel
theorem dX5_isWithin_11 : decode cX5_isWithin 11 = .ok (.iconst 1, 1) := by decide +kernel
theorem dX5_isWithin_12 : decode cX5_isWithin 12 = .ok (.goto 4, 3) := by decide +kernel
theorem dX5_isWithin_15 : decode cX5_isWithin 15 = .ok (.iconst 0, 1) := by decide +kernel
theorem dX5_isWithin_16 : decode cX5_isWithin 16 = .ok (.ireturn, 1) := by decide +kernel
theorem dX5_isZeroOrOne_0 : decode cX5_isZeroOrOne 0 = .ok (.iload_n 0, 1) := by decide +kernel
theorem dX5_isZeroOrOne_1 : decode cX5_isZeroOrOne 1 = .ok (.ifCond .eq 8, 3) := by decide +kernel
theorem dX5_isZeroOrOne_4 : decode cX5_isZeroOrOne 4 = .ok (.iload_n 0, 1) := by decide +kernel
theorem dX5_isZeroOrOne_5 : decode cX5_isZeroOrOne 5 = .ok (.iconst 1, 1) := by decide +kernel
theorem dX5_isZeroOrOne_6 : decode cX5_isZeroOrOne 6 = .ok (.if_icmp .ne 7, 3) := by decide +kernel
theorem dX5_isZeroOrOne_9 : decode cX5_isZeroOrOne 9 = .ok (.iconst 1, 1) := by decide +kernel
theorem dX5_isZeroOrOne_10 : decode cX5_isZeroOrOne 10 = .ok (.goto 4, 3) := by decide +kernel
theorem dX5_isZeroOrOne_13 : decode cX5_isZeroOrOne 13 = .ok (.iconst 0, 1) := by decide +kernel
theorem dX5_isZeroOrOne_14 : decode cX5_isZeroOrOne 14 = .ok (.ireturn, 1) := by decide +kernel
theorem dX5_greatestDivisor_0 : decode cX5_greatestDivisor 0 = .ok (.lload_n 0, 1) := by decide +kernel
theorem dX5_greatestDivisor_1 : decode cX5_greatestDivisor 1 = .ok (.invokestatic 190, 3) := by decide +kernel
theorem dX5_greatestDivisor_4 : decode cX5_greatestDivisor 4 = .ok (.lstore 4, 2) := by decide +kernel
theorem dX5_greatestDivisor_6 : decode cX5_greatestDivisor 6 = .ok (.lload_n 2, 1) := by decide +kernel
theorem dX5_greatestDivisor_7 : decode cX5_greatestDivisor 7 = .ok (.invokestatic 190, 3) := by decide +kernel
theorem dX5_greatestDivisor_10 : decode cX5_greatestDivisor 10 = .ok (.lstore 6, 2) := by decide +kernel
theorem dX5_greatestDivisor_12 : decode cX5_greatestDivisor 12 = .ok (.iconst 0, 1) := by decide +kernel
theorem dX5_greatestDivisor_13 : decode cX5_greatestDivisor 13 = .ok (.istore 8, 2) := by decide +kernel
theorem dX5_greatestDivisor_15 : decode cX5_greatestDivisor 15 = .ok (.iload 8, 2) := by decide +kernel
theorem dX5_greatestDivisor_17 : decode cX5_greatestDivisor 17 = .ok (.bipush 100, 2) := by decide +kernel
theorem dX5_greatestDivisor_19 : decode cX5_greatestDivisor 19 = .ok (.if_icmp .ge 31, 3) := by decide +kernel
theorem dX5_greatestDivisor_22 : decode cX5_greatestDivisor 22 = .ok (.lload 6, 2) := by decide +kernel
theorem dX5_greatestDivisor_24 : decode cX5_greatestDivisor 24 = .ok (.lconst 0, 1) := by decide +kernel
theorem dX5_greatestDivisor_25 : decode cX5_greatestDivisor 25 = .ok (.lcmp, 1) := by decide +kernel
theorem dX5_greatestDivisor_26 : decode cX5_greatestDivisor 26 = .ok (.ifCond .eq 24, 3) := by decide +kernel
theorem dX5_greatestDivisor_29 : decode cX5_greatestDivisor 29 = .ok (.lload 4, 2) := by decide +kernel
theorem dX5_greatestDivisor_31 : decode cX5_greatestDivisor 31 = .ok (.lload 6, 2) := by decide +kernel
theorem dX5_greatestDivisor_33 : decode cX5_greatestDivisor 33 = .ok (.lrem, 1) := by decide +kernel
theorem dX5_greatestDivisor_34 : decode cX5_greatestDivisor 34 = .ok (.lstore 9, 2) := by decide +kernel
theorem dX5_greatestDivisor_36 : decode cX5_greatestDivisor 36 = .ok (.lload 6, 2) := by decide +kernel
theorem dX5_greatestDivisor_38 : decode cX5_greatestDivisor 38 = .ok (.lstore 4, 2) := by decide +kernel
theorem dX5_greatestDivisor_40 : decode cX5_greatestDivisor 40 = .ok (.lload 9, 2) := by decide +kernel
theorem dX5_greatestDivisor_42 : decode cX5_greatestDivisor 42 = .ok (.lstore 6, 2) := by decide +kernel
theorem dX5_greatestDivisor_44 : decode cX5_greatestDivisor 44 = .ok (.iinc 8 1, 3) := by decide +kernel
theorem dX5_greatestDivisor_47 : decode cX5_greatestDivisor 47 = .ok (.goto (-32), 3) := by decide +kernel
theorem dX5_greatestDivisor_50 : decode cX5_greatestDivisor 50 = .ok (.lload 4, 2) := by decide +kernel
theorem dX5_greatestDivisor_52 : decode cX5_greatestDivisor 52 = .ok (.lreturn, 1) := by decide +kernel

theorem dJ9_abs_0f7a4_0 : decode cJ9_abs_0f7a4 0 = .ok (.iload_n 0, 1) := by decide +kernel
theorem dJ9_abs_0f7a4_1 : decode cJ9_abs_0f7a4 1 = .ok (.ifCond .ge 8, 3) := by decide +kernel
theorem dJ9_abs_0f7a4_4 : decode cJ9_abs_0f7a4 4 = .ok (.iload_n 0, 1) := by decide +kernel
theorem dJ9_abs_0f7a4_5 : decode cJ9_abs_0f7a4 5 = .ok (.ineg, 1) := by decide +kernel
theorem dJ9_abs_0f7a4_6 : decode cJ9_abs_0f7a4 6 = .ok (.goto 4, 3) := by decide +kernel
theorem dJ9_abs_0f7a4_9 : decode cJ9_abs_0f7a4 9 = .ok (.iload_n 0, 1) := by decide +kernel
theorem dJ9_abs_0f7a4_10 : decode cJ9_abs_0f7a4 10 = .ok (.ireturn, 1) := by decide +kernel
theorem dJ9_abs_067f4_0 : decode cJ9_abs_067f4 0 = .ok (.lload_n 0, 1) := by decide +kernel
theorem dJ9_abs_067f4_1 : decode cJ9_abs_067f4 1 = .ok (.lconst 0, 1) := by decide +kernel
theorem dJ9_abs_067f4_2 : decode cJ9_abs_067f4 2 = .ok (.lcmp, 1) := by decide +kernel
theorem dJ9_abs_067f4_3 : decode cJ9_abs_067f4 3 = .ok (.ifCond .ge 8, 3) := by decide +kernel
theorem dJ9_abs_067f4_6 : decode cJ9_abs_067f4 6 = .ok (.lload_n 0, 1) := by decide +kernel
theorem dJ9_abs_067f4_7 : decode cJ9_abs_067f4 7 = .ok (.lneg, 1) := by decide +kernel
theorem dJ9_abs_067f4_8 : decode cJ9_abs_067f4 8 = .ok (.goto 4, 3) := by decide +kernel
theorem dJ9_abs_067f4_11 : decode cJ9_abs_067f4 11 = .ok (.lload_n 0, 1) := by decide +kernel
theorem dJ9_abs_067f4_12 : decode cJ9_abs_067f4 12 = .ok (.lreturn, 1) := by decide +kernel
theorem dJ9_max_7cf53_0 : decode cJ9_max_7cf53 0 = .ok (.iload_n 0, 1) := by decide +kernel
theorem dJ9_max_7cf53_1 : decode cJ9_max_7cf53 1 = .ok (.iload_n 1, 1) := by decide +kernel
theorem dJ9_max_7cf53_2 : decode cJ9_max_7cf53 2 = .ok (.if_icmp .lt 7, 3) := by decide +kernel
theorem dJ9_max_7cf53_5 : decode cJ9_max_7cf53 5 = .ok (.iload_n 0, 1) := by decide +kernel
theorem dJ9_max_7cf53_6 : decode cJ9_max_7cf53 6 = .ok (.goto 4, 3) := by decide +kernel
theorem dJ9_max_7cf53_9 : decode cJ9_max_7cf53 9 = .ok (.iload_n 1, 1) := by decide +kernel
theorem dJ9_max_7cf53_10 : decode cJ9_max_7cf53 10 = .ok (.ireturn, 1) := by decide +kernel
theorem dJ9_min_7cf53_0 : decode cJ9_min_7cf53 0 = .ok (.iload_n 0, 1) := by decide +kernel
theorem dJ9_min_7cf53_1 : decode cJ9_min_7cf53 1 = .ok (.iload_n 1, 1) := by decide +kernel
theorem dJ9_min_7cf53_2 : decode cJ9_min_7cf53 2 = .ok (.if_icmp .gt 7, 3) := by decide +kernel
theorem dJ9_min_7cf53_5 : decode cJ9_min_7cf53 5 = .ok (.iload_n 0, 1) := by decide +kernel
theorem dJ9_min_7cf53_6 : decode cJ9_min_7cf53 6 = .ok (.goto 4, 3) := by decide +kernel
theorem dJ9_min_7cf53_9 : decode cJ9_min_7cf53 9 = .ok (.iload_n 1, 1) := by decide +kernel
theorem dJ9_min_7cf53_10 : decode cJ9_min_7cf53 10 = .ok (.ireturn, 1) := by decide +kernel
end
section
/-! THE LAYER: the machine's data in one tuple, the memory as numbers by kind, object and place, and a row an instruction over them. -/
abbrev Kx : Type := Program × Launch × Env × Room × State × MethodId × Array Value × List Frame × Method × Code
abbrev kP (K : Kx) : Program := K.1
abbrev kL (K : Kx) : Launch := K.2.1
abbrev kE (K : Kx) : Env := K.2.2.1
abbrev kR (K : Kx) : Room := K.2.2.2.1
abbrev kS (K : Kx) : State := K.2.2.2.2.1
abbrev kM (K : Kx) : MethodId := K.2.2.2.2.2.1
abbrev kA (K : Kx) : Array Value := K.2.2.2.2.2.2.1
abbrev kB (K : Kx) : List Frame := K.2.2.2.2.2.2.2.1
abbrev kT (K : Kx) : Method := K.2.2.2.2.2.2.2.2.1
abbrev kC (K : Kx) : Code := K.2.2.2.2.2.2.2.2.2
/-- the memory: kind, object of the kind, place -/
abbrev Sg : Type := Nat → Nat → Nat → Int32
def sgu (σ : Sg) (k i f : Nat) (v : Int32) : Sg := fun k' i' f' => if k' = k ∧ i' = i ∧ f' = f then v else σ k' i' f'
theorem sgu_self {σ : Sg} {k i f : Nat} {v : Int32} : sgu σ k i f v k i f = v := if_pos ⟨rfl, rfl, rfl⟩
theorem sgu_k {σ : Sg} {k i f k' i' f' : Nat} {v : Int32} (h : k' ≠ k) : sgu σ k i f v k' i' f' = σ k' i' f' := if_neg (fun q => h q.1)
theorem sgu_i {σ : Sg} {k i f k' i' f' : Nat} {v : Int32} (h : i' ≠ i) : sgu σ k i f v k' i' f' = σ k' i' f' := if_neg (fun q => h q.2.1)
theorem sgu_f {σ : Sg} {k i f k' i' f' : Nat} {v : Int32} (h : f' ≠ f) : sgu σ k i f v k' i' f' = σ k' i' f' := if_neg (fun q => h q.2.2)
/-- a field: an int, or a reference to an object of a kind -/
abbrev Fd9 : Type := Option (Nat × (Nat → Nat))
/-- a kind: objects (number among vwCl, fields), or arrays (number of the array type, length, what references lead to) -/
abbrev Lay9 : Type := (Nat × List Fd9) ⊕ (Nat × Nat × Option (Nat × (Nat → Nat → Nat)))
abbrev fI : Fd9 := none
abbrev fR (k : Nat) : Fd9 := some (k, fun _ => 0)
abbrev fS (k : Nat) : Fd9 := some (k, fun i => i)
def lay (k : Nat) : Lay9 := match k with
  | 0 => .inl (5, [fR 14, fR 1, fR 4, fR 2, fR 13, fI])
  | 1 => .inl (0, [fI, fI, fI])
  | 2 => .inl (4, [fR 3])
  | 4 => .inl (2, [fR 5, fR 6, fR 7, fR 8])
  | 5 => .inr (3, 14, some (9, fun _ j => j))
  | 6 => .inr (3, 14, some (10, fun _ j => j))
  | 7 => .inr (3, 14, some (11, fun _ j => j))
  | 8 => .inr (3, 14, some (12, fun _ j => j))
  | 13 => .inr (2, 8, some (17, fun _ j => j))
  | 14 => .inl (1, [fS 15, fS 16, fI])
  | 17 => .inl (3, [some (14, fun i => i + 1), fS 18, fI, fI, fI, fI, fS 20, fS 21, fS 22, fS 23, fS 24, fS 25])
  | 18 => .inr (3, 14, some (19, fun i j => 14 * i + j))
  | 30 => .inl (6, [fI, fR 31, fR 32, fI, fR 33, fR 34, fR 35, fI, fI, fR 36, fR 37, fR 38, fR 39, fI, fR 40, fR 41, fR 42, fR 43, fI, fR 44, fR 45, fR 46, fR 47, fI])
  | 33 => .inr (0, 8, none)
  | 34 => .inr (0, 112, none)
  | 35 => .inr (0, 112, none)
  | 37 => .inr (0, 196, none)
  | 38 => .inr (0, 196, none)
  | 39 => .inr (0, 196, none)
  | 40 => .inr (0, 12, none)
  | 41 => .inr (0, 12, none)
  | 42 => .inr (0, 12, none)
  | 43 => .inr (0, 60, none)
  | 44 => .inr (0, 11, none)
  | 45 => .inr (0, 11, none)
  | 46 => .inr (1, 11, none)
  | 47 => .inr (1, 196, none)
  | _ => .inr (0, 14, none)
/-- how many of a kind there are -/
def dom (k : Nat) : Nat := match k with
  | 0 => 1 | 1 => 1 | 2 => 1 | 3 => 1 | 4 => 1 | 5 => 1 | 6 => 1 | 7 => 1 | 8 => 1
  | 9 => 14 | 10 => 14 | 11 => 14 | 12 => 14
  | 13 => 1 | 14 => 9 | 15 => 9 | 16 => 9 | 17 => 8 | 18 => 8 | 19 => 112
  | 20 => 8 | 21 => 8 | 22 => 8 | 23 => 8 | 24 => 8 | 25 => 8
  | 30 => 1 | 31 => 1 | 32 => 1 | 33 => 1 | 34 => 1 | 35 => 1 | 36 => 1 | 37 => 1 | 38 => 1 | 39 => 1
  | 40 => 1 | 41 => 1 | 42 => 1 | 43 => 1 | 44 => 1 | 45 => 1 | 46 => 1 | 47 => 1
  | _ => 0
/-- class numbers, slots, array classes, addresses -/
abbrev Gx : Type := (Nat → ClassId) × (Nat → Nat → Nat) × (Nat → ClassId) × (Nat → Nat → Nat)
abbrev gD (G : Gx) : va_G := (G.1, G.2.1)
abbrev gC (G : Gx) : Nat → ClassId := G.2.2.1
abbrev gA (G : Gx) : Nat → Nat → Nat := G.2.2.2
def gfs (G : Gx) (σ : Sg) (k i : Nat) : Nat → List Fd9 → List Value
  | _, [] => []
  | f, none :: r => .int (σ k i f) :: gfs G σ k i (f + 1) r
  | f, some (k', g) :: r => .ref (gA G k' (g i)) :: gfs G σ k i (f + 1) r
def gcell (G : Gx) (σ : Sg) (k i : Nat) : va_E := match lay k with
  | .inl (ci, fl) => .inr (ci, gfs G σ k i 0 fl)
  | .inr (t, n, none) => .inl (gC G t, n, .inl (σ k i))
  | .inr (t, n, some (k', g)) => .inl (gC G t, n, .inr (.inr (.inr (.inr (fun j => some (gA G k' (g i j)))))))
/-- the heap holds the memory -/
def wd (G : Gx) (σ : Sg) (H : Heap) : Prop := ∀ k i, i < dom k → va_at (gD G) vwCl (gA G k i, gcell G σ k i) H
/-- the addresses are apart -/
def wa (G : Gx) : Prop := ∀ k i k' i', i < dom k → i' < dom k' → gA G k i = gA G k' i' → k = k' ∧ i = i'
def wo (G : Gx) : Nat → Prop := fun q => ∃ k i, i < dom k ∧ q = gA G k i
abbrev gTy (G : Gx) : List (ClassId × FieldType) := [(gC G 0, .int), (gC G 1, .boolean), (gC G 2, .object "PolyCuts$Shape"), (gC G 3, .array .int)]
def kn (G : Gx) (U : State) : Prop := va_K (gD G) vwCl (gTy G) U ∧ va_Nw (.methodLinkNest RX3 83 yX5_greatestDivisor "PolyCuts") U
def wu (G : Gx) (σ : Sg) (U : State) : Prop := wd G σ U.heap ∧ kn G U
theorem gfs_get {G : Gx} {σ : Sg} {k i : Nat} : ∀ (fl : List Fd9) (f0 f : Nat), (gfs G σ k i f0 fl)[f]? = (fl[f]?).map (fun d => match d with | none => Value.int (σ k i (f0 + f)) | some (k', g) => Value.ref (gA G k' (g i)))
  | [], f0, f => by simp [gfs]
  | none :: r, f0, 0 => by simp [gfs]
  | some (k', g) :: r, f0, 0 => by simp [gfs]
  | none :: r, f0, f + 1 => by
    simp only [gfs, List.getElem?_cons_succ]
    rw [gfs_get r (f0 + 1) f, show f0 + 1 + f = f0 + (f + 1) by omega]
  | some (k', g) :: r, f0, f + 1 => by
    simp only [gfs, List.getElem?_cons_succ]
    rw [gfs_get r (f0 + 1) f, show f0 + 1 + f = f0 + (f + 1) by omega]
theorem gfs_len {G : Gx} {σ : Sg} {k i : Nat} : ∀ (fl : List Fd9) (f0 : Nat), (gfs G σ k i f0 fl).length = fl.length
  | [], f0 => rfl
  | none :: r, f0 => by simp [gfs, gfs_len r]
  | some (k', g) :: r, f0 => by simp [gfs, gfs_len r]
theorem gfs_set {G : Gx} {σ : Sg} {k i : Nat} {f : Nat} {v : Int32} {fl : List Fd9} (h : fl[f]? = some none) : gfs G (sgu σ k i f v) k i 0 fl = (gfs G σ k i 0 fl).set f (.int v) := by
  apply List.ext_getElem?
  intro n
  rw [List.getElem?_set, gfs_get, gfs_get, gfs_len]
  by_cases hn : f = n
  · subst hn
    have hl : f < fl.length := (List.getElem?_eq_some_iff.mp h).1
    simp only [h, hl, if_true, Option.map_some, Nat.zero_add, sgu_self]
  · simp only [hn, if_false]
    cases hd : fl[n]? with
    | none => rfl
    | some d =>
      cases d with
      | none => simp [sgu, Ne.symm hn]
      | some q => rfl
theorem gfs_other {G : Gx} {σ σ' : Sg} {k i : Nat} (h : ∀ f, σ' k i f = σ k i f) : ∀ (fl : List Fd9) (f0 : Nat), gfs G σ' k i f0 fl = gfs G σ k i f0 fl
  | [], f0 => rfl
  | none :: r, f0 => by simp [gfs, gfs_other h r, h]
  | some (k', g) :: r, f0 => by simp [gfs, gfs_other h r]
theorem gcell_other {G : Gx} {σ σ' : Sg} {k i : Nat} (h : ∀ f, σ' k i f = σ k i f) : gcell G σ' k i = gcell G σ k i := by
  unfold gcell
  split
  · rw [gfs_other h]
  · have : σ' k i = σ k i := funext h
    rw [this]
  · rfl
theorem wd_eq {G : Gx} {σ σ' : Sg} {H : Heap} (h : ∀ k i f, σ' k i f = σ k i f) (hw : wd G σ H) : wd G σ' H := fun k i hi => by
  rw [gcell_other (h k i)]
  exact hw k i hi
theorem wd_put {G : Gx} {σ σ' : Sg} {H H1 : Heap} {k i : Nat} (ha : wa G) (hw : wd G σ H) (hi : i < dom k) (ho : ∀ k' i', ¬ (k' = k ∧ i' = i) → ∀ f, σ' k' i' f = σ k' i' f) (he : va_at (gD G) vwCl (gA G k i, gcell G σ' k i) H1) (oq : ∀ q : Nat, q ≠ gA G k i → H1[q]? = H[q]?) : wd G σ' H1 := fun k' i' hi' => by
  by_cases hq : k' = k ∧ i' = i
  · obtain ⟨rfl, rfl⟩ := hq
    exact he
  · rw [gcell_other (ho k' i' hq)]
    exact (hw k' i' hi').kept (oq _ (fun e => hq (ha k' i' k i hi' hi e)))
/-- the walk: from pc, with locals L, stack st, memory σ -/
def WW (K : Kx) (G : Gx) (nL : Nat) (Q : State → Prop) (σ : Sg) (L : List (Nat × Value)) (pc : Nat) (st : List Value) : Prop :=
  ∀ (ls : Array Slot) (H : Heap) (locs : List Loc), lv_has ls nL L → wd G σ H → va_S (wo G) (kS K).heap H locs →
    W (kP K) (kL K) (kE K) (kR K) (kS K) (kM K) (kA K) (kB K) (kT K) (kC K) H locs 0 0 Q (F0 (kM K) pc ls st)
/-- what holds in a method's body -/
def CX (K : Kx) (G : Gx) (cc : ByteArray) (nL : Nat) (own : String) (Ts : List Cond) (rm : Room) (ret : Option FieldType) : Prop :=
  CallFix (kP K) (kM K) (kC K) cc nL (kS K) (kA K) Ts own ∧ kn G (kS K) ∧ wa G ∧ kR K = rm ∧ (kT K).sig.returnType = ret ∧ (kT K).locks = false
section LY
variable {K : Kx} {G : Gx} {cc : ByteArray} {nL : Nat} {own : String} {Ts : List Cond} {rm : Room} {ret : Option FieldType} {Q : State → Prop} {σ : Sg} {L : List (Nat × Value)} {pc : Nat} {st : List Value}
theorem CX.hx (C : CX K G cc nL own Ts rm ret) : (kP K).tables.exec = Jvm.exec := C.1.1
theorem CX.hb (C : CX K G cc nL own Ts rm ret) : (kC K).code = cc := C.1.2.1
theorem CX.ho (C : CX K G cc nL own Ts rm ret) : (kS K).vm.findClass own = some (kM K).cls := C.1.2.2.2.1
theorem CX.ht (C : CX K G cc nL own Ts rm ret) : ∀ w ∈ Ts, w.before (kA K) (kS K) = true := C.1.2.2.2.2
theorem ww_iconst {n : Int} {v : Int32} (C : CX K G cc nL own Ts rm ret) (hd : decode cc pc = .ok (.iconst n, 1)) (hv : Int32.ofInt n = v) (k : WW K G nL Q σ L (pc + 1) (.int v :: st)) : WW K G nL Q σ L pc st := fun ls H locs h1 h2 h3 => lv_iconst C.hx C.hb hd hv (k ls H locs h1 h2 h3)
theorem ww_bipush {n : Int} {v : Int32} (C : CX K G cc nL own Ts rm ret) (hd : decode cc pc = .ok (.bipush n, 2)) (hv : (Int8.ofInt n).toInt32 = v) (k : WW K G nL Q σ L (pc + 2) (.int v :: st)) : WW K G nL Q σ L pc st := fun ls H locs h1 h2 h3 => lv_bipush C.hx C.hb hd hv (k ls H locs h1 h2 h3)
theorem ww_sipush {n : Int} {v : Int32} (C : CX K G cc nL own Ts rm ret) (hd : decode cc pc = .ok (.sipush n, 3)) (hv : (Int16.ofInt n).toInt32 = v) (k : WW K G nL Q σ L (pc + 3) (.int v :: st)) : WW K G nL Q σ L pc st := fun ls H locs h1 h2 h3 => lv_sipush C.hx C.hb hd hv (k ls H locs h1 h2 h3)
theorem ww_lconst {n : Fin 2} {v : Int64} (C : CX K G cc nL own Ts rm ret) (hd : decode cc pc = .ok (.lconst n, 1)) (hv : Int64.ofNat (n : Nat) = v) (k : WW K G nL Q σ L (pc + 1) (.long v :: st)) : WW K G nL Q σ L pc st := fun ls H locs h1 h2 h3 => lv_lconst C.hx C.hb hd hv (k ls H locs h1 h2 h3)
theorem ww_ldc2 {index : Nat} {v : Int64} (C : CX K G cc nL own Ts rm ret) (hc : Jvm.Cond.constantLong own index v ∈ Ts) (hd : decode cc pc = .ok (.ldc2_w index, 3)) (k : WW K G nL Q σ L (pc + 3) (.long v :: st)) : WW K G nL Q σ L pc st := fun ls H locs h1 h2 h3 => lv_ldc2 C.hx C.hb C.ho (C.ht _ hc) hd (k ls H locs h1 h2 h3)
theorem ww_null (C : CX K G cc nL own Ts rm ret) (hd : decode cc pc = .ok (.aconst_null, 1)) (k : WW K G nL Q σ L (pc + 1) (.null :: st)) : WW K G nL Q σ L pc st := fun ls H locs h1 h2 h3 => lv_null C.hx C.hb hd (k ls H locs h1 h2 h3)
theorem ww_iload_n {j : Fin 4} {i : Nat} {x : Int32} (C : CX K G cc nL own Ts rm ret) (hd : decode cc pc = .ok (.iload_n j, 1)) (hi : (j : Nat) = i) (q : Nat) (hq : L[q]? = some (i, .int x)) (k : WW K G nL Q σ L (pc + 1) (.int x :: st)) : WW K G nL Q σ L pc st := fun ls H locs h1 h2 h3 => lv_iload_n C.hx C.hb hd hi (lv_at h1 q hq) (k ls H locs h1 h2 h3)
theorem ww_iload {i : Nat} {x : Int32} (C : CX K G cc nL own Ts rm ret) (hd : decode cc pc = .ok (.iload i, 2)) (q : Nat) (hq : L[q]? = some (i, .int x)) (k : WW K G nL Q σ L (pc + 2) (.int x :: st)) : WW K G nL Q σ L pc st := fun ls H locs h1 h2 h3 => lv_iload C.hx C.hb hd (lv_at h1 q hq) (k ls H locs h1 h2 h3)
theorem ww_lload_n {j : Fin 4} {i : Nat} {x : Int64} (C : CX K G cc nL own Ts rm ret) (hd : decode cc pc = .ok (.lload_n j, 1)) (hi : (j : Nat) = i) (q : Nat) (hq : L[q]? = some (i, .long x)) (k : WW K G nL Q σ L (pc + 1) (.long x :: st)) : WW K G nL Q σ L pc st := fun ls H locs h1 h2 h3 => lv_lload_n C.hx C.hb hd hi (lv_at h1 q hq) (k ls H locs h1 h2 h3)
theorem ww_lload {i : Nat} {x : Int64} (C : CX K G cc nL own Ts rm ret) (hd : decode cc pc = .ok (.lload i, 2)) (q : Nat) (hq : L[q]? = some (i, .long x)) (k : WW K G nL Q σ L (pc + 2) (.long x :: st)) : WW K G nL Q σ L pc st := fun ls H locs h1 h2 h3 => lv_lload C.hx C.hb hd (lv_at h1 q hq) (k ls H locs h1 h2 h3)
theorem ww_aload_n {j : Fin 4} {i : Nat} {x : Nat} (C : CX K G cc nL own Ts rm ret) (hd : decode cc pc = .ok (.aload_n j, 1)) (hi : (j : Nat) = i) (q : Nat) (hq : L[q]? = some (i, .ref x)) (k : WW K G nL Q σ L (pc + 1) (.ref x :: st)) : WW K G nL Q σ L pc st := fun ls H locs h1 h2 h3 => lv_aload_n C.hx C.hb hd hi (lv_at h1 q hq) (k ls H locs h1 h2 h3)
theorem ww_aload {i : Nat} {x : Nat} (C : CX K G cc nL own Ts rm ret) (hd : decode cc pc = .ok (.aload i, 2)) (q : Nat) (hq : L[q]? = some (i, .ref x)) (k : WW K G nL Q σ L (pc + 2) (.ref x :: st)) : WW K G nL Q σ L pc st := fun ls H locs h1 h2 h3 => lv_aload C.hx C.hb hd (lv_at h1 q hq) (k ls H locs h1 h2 h3)
theorem ww_aload_nN {j : Fin 4} {i : Nat} (C : CX K G cc nL own Ts rm ret) (hd : decode cc pc = .ok (.aload_n j, 1)) (hi : (j : Nat) = i) (q : Nat) (hq : L[q]? = some (i, .null)) (k : WW K G nL Q σ L (pc + 1) (.null :: st)) : WW K G nL Q σ L pc st := fun ls H locs h1 h2 h3 => lv_aload_nN C.hx C.hb hd hi (lv_at h1 q hq) (k ls H locs h1 h2 h3)
theorem ww_aloadN {i : Nat} (C : CX K G cc nL own Ts rm ret) (hd : decode cc pc = .ok (.aload i, 2)) (q : Nat) (hq : L[q]? = some (i, .null)) (k : WW K G nL Q σ L (pc + 2) (.null :: st)) : WW K G nL Q σ L pc st := fun ls H locs h1 h2 h3 => lv_aloadN C.hx C.hb hd (lv_at h1 q hq) (k ls H locs h1 h2 h3)
abbrev lv1 (L : List (Nat × Value)) (i : Nat) : List (Nat × Value) := L.filter (fun q => !(q.1 == i) && !(q.1 + 1 == i && q.2.category == 2))
abbrev lv2 (L : List (Nat × Value)) (i : Nat) : List (Nat × Value) := L.filter (fun q => !(q.1 == i) && (!(q.1 == i + 1) && !(q.1 + 1 == i && q.2.category == 2)))
/-- an int is stored under a name -/
theorem ww_istore_n {j : Fin 4} {i : Nat} {x : Int32} (L' : Int32 → List (Nat × Value)) (C : CX K G cc nL own Ts rm ret) (hd : decode cc pc = .ok (.istore_n j, 1)) (hi : (j : Nat) = i) (hn : i < nL) (hl : ∀ y, (i, Value.int y) :: lv1 L i = L' y) (k : ∀ y, y = x → WW K G nL Q σ (L' y) (pc + 1) st) : WW K G nL Q σ L pc (.int x :: st) := fun _ H locs h1 h2 h3 => lv_istore_n C.hx C.hb hd hi h1 hn (hl x) (fun ls h => k x rfl ls H locs h h2 h3)
theorem ww_istore {i : Nat} {x : Int32} (L' : Int32 → List (Nat × Value)) (C : CX K G cc nL own Ts rm ret) (hd : decode cc pc = .ok (.istore i, 2)) (hn : i < nL) (hl : ∀ y, (i, Value.int y) :: lv1 L i = L' y) (k : ∀ y, y = x → WW K G nL Q σ (L' y) (pc + 2) st) : WW K G nL Q σ L pc (.int x :: st) := fun _ H locs h1 h2 h3 => lv_istore C.hx C.hb hd h1 hn (hl x) (fun ls h => k x rfl ls H locs h h2 h3)
theorem ww_lstore_n {j : Fin 4} {i : Nat} {x : Int64} (L' : Int64 → List (Nat × Value)) (C : CX K G cc nL own Ts rm ret) (hd : decode cc pc = .ok (.lstore_n j, 1)) (hi : (j : Nat) = i) (hn : i + 1 < nL) (hl : ∀ y, (i, Value.long y) :: lv2 L i = L' y) (k : ∀ y, y = x → WW K G nL Q σ (L' y) (pc + 1) st) : WW K G nL Q σ L pc (.long x :: st) := fun _ H locs h1 h2 h3 => lv_lstore_n C.hx C.hb hd hi h1 hn (hl x) (fun ls h => k x rfl ls H locs h h2 h3)
theorem ww_lstore {i : Nat} {x : Int64} (L' : Int64 → List (Nat × Value)) (C : CX K G cc nL own Ts rm ret) (hd : decode cc pc = .ok (.lstore i, 2)) (hn : i + 1 < nL) (hl : ∀ y, (i, Value.long y) :: lv2 L i = L' y) (k : ∀ y, y = x → WW K G nL Q σ (L' y) (pc + 2) st) : WW K G nL Q σ L pc (.long x :: st) := fun _ H locs h1 h2 h3 => lv_lstore C.hx C.hb hd h1 hn (hl x) (fun ls h => k x rfl ls H locs h h2 h3)
theorem ww_astore_n {j : Fin 4} {i : Nat} {x : Nat} (L' : List (Nat × Value)) (C : CX K G cc nL own Ts rm ret) (hd : decode cc pc = .ok (.astore_n j, 1)) (hi : (j : Nat) = i) (hn : i < nL) (hl : (i, Value.ref x) :: lv1 L i = L') (k : WW K G nL Q σ L' (pc + 1) st) : WW K G nL Q σ L pc (.ref x :: st) := fun _ H locs h1 h2 h3 => lv_astore_n C.hx C.hb hd hi h1 hn hl (fun ls h => k ls H locs h h2 h3)
theorem ww_astore {i : Nat} {x : Nat} (L' : List (Nat × Value)) (C : CX K G cc nL own Ts rm ret) (hd : decode cc pc = .ok (.astore i, 2)) (hn : i < nL) (hl : (i, Value.ref x) :: lv1 L i = L') (k : WW K G nL Q σ L' (pc + 2) st) : WW K G nL Q σ L pc (.ref x :: st) := fun _ H locs h1 h2 h3 => lv_astore C.hx C.hb hd h1 hn hl (fun ls h => k ls H locs h h2 h3)
theorem ww_astore_nN {j : Fin 4} {i : Nat} (L' : List (Nat × Value)) (C : CX K G cc nL own Ts rm ret) (hd : decode cc pc = .ok (.astore_n j, 1)) (hi : (j : Nat) = i) (hn : i < nL) (hl : (i, Value.null) :: lv1 L i = L') (k : WW K G nL Q σ L' (pc + 1) st) : WW K G nL Q σ L pc (.null :: st) := fun _ H locs h1 h2 h3 => lv_astore_nN C.hx C.hb hd hi h1 hn hl (fun ls h => k ls H locs h h2 h3)
theorem ww_astoreN {i : Nat} (L' : List (Nat × Value)) (C : CX K G cc nL own Ts rm ret) (hd : decode cc pc = .ok (.astore i, 2)) (hn : i < nL) (hl : (i, Value.null) :: lv1 L i = L') (k : WW K G nL Q σ L' (pc + 2) st) : WW K G nL Q σ L pc (.null :: st) := fun _ H locs h1 h2 h3 => lv_astoreN C.hx C.hb hd h1 hn hl (fun ls h => k ls H locs h h2 h3)
theorem ww_iinc {i q : Nat} {n : Int} {x : Int32} (L' : Int32 → List (Nat × Value)) (C : CX K G cc nL own Ts rm ret) (hd : decode cc pc = .ok (.iinc i n, 3)) (hq : L[q]? = some (i, .int x)) (hn : i < nL) (hl : ∀ y, (i, Value.int y) :: lv1 L i = L' y) (k : ∀ y, y = x + Int32.ofInt n → WW K G nL Q σ (L' y) (pc + 3) st) : WW K G nL Q σ L pc st := fun _ H locs h1 h2 h3 => lv_iinc C.hx C.hb hd h1 hq rfl hn (hl _) (fun ls h => k _ rfl ls H locs h h2 h3)
theorem ww_iadd {x y : Int32} (C : CX K G cc nL own Ts rm ret) (hd : decode cc pc = .ok (.iadd, 1)) (k : WW K G nL Q σ L (pc + 1) (.int (x + y) :: st)) : WW K G nL Q σ L pc (.int y :: .int x :: st) := fun ls H locs h1 h2 h3 => lv_iadd C.hx C.hb hd (k ls H locs h1 h2 h3)
theorem ww_isub {x y : Int32} (C : CX K G cc nL own Ts rm ret) (hd : decode cc pc = .ok (.isub, 1)) (k : WW K G nL Q σ L (pc + 1) (.int (x - y) :: st)) : WW K G nL Q σ L pc (.int y :: .int x :: st) := fun ls H locs h1 h2 h3 => lv_isub C.hx C.hb hd (k ls H locs h1 h2 h3)
theorem ww_imul {x y : Int32} (C : CX K G cc nL own Ts rm ret) (hd : decode cc pc = .ok (.imul, 1)) (k : WW K G nL Q σ L (pc + 1) (.int (x * y) :: st)) : WW K G nL Q σ L pc (.int y :: .int x :: st) := fun ls H locs h1 h2 h3 => lv_imul C.hx C.hb hd (k ls H locs h1 h2 h3)
theorem ww_iand {x y : Int32} (C : CX K G cc nL own Ts rm ret) (hd : decode cc pc = .ok (.iand, 1)) (k : WW K G nL Q σ L (pc + 1) (.int (x &&& y) :: st)) : WW K G nL Q σ L pc (.int y :: .int x :: st) := fun ls H locs h1 h2 h3 => lv_iand C.hx C.hb hd (k ls H locs h1 h2 h3)
theorem ww_idiv {x y : Int32} (C : CX K G cc nL own Ts rm ret) (hd : decode cc pc = .ok (.idiv, 1)) (hne : ¬ y = 0) (k : WW K G nL Q σ L (pc + 1) (.int (x / y) :: st)) : WW K G nL Q σ L pc (.int y :: .int x :: st) := fun ls H locs h1 h2 h3 => lv_idiv C.hx C.hb hd hne (k ls H locs h1 h2 h3)
theorem ww_irem {x y : Int32} (C : CX K G cc nL own Ts rm ret) (hd : decode cc pc = .ok (.irem, 1)) (hne : ¬ y = 0) (k : WW K G nL Q σ L (pc + 1) (.int (x - x / y * y) :: st)) : WW K G nL Q σ L pc (.int y :: .int x :: st) := fun ls H locs h1 h2 h3 => lv_irem C.hx C.hb hd hne (k ls H locs h1 h2 h3)
theorem ww_ineg {x : Int32} (C : CX K G cc nL own Ts rm ret) (hd : decode cc pc = .ok (.ineg, 1)) (k : WW K G nL Q σ L (pc + 1) (.int (-x) :: st)) : WW K G nL Q σ L pc (.int x :: st) := fun ls H locs h1 h2 h3 => lv_ineg C.hx C.hb hd (k ls H locs h1 h2 h3)
theorem ww_ladd {x y : Int64} (C : CX K G cc nL own Ts rm ret) (hd : decode cc pc = .ok (.ladd, 1)) (k : WW K G nL Q σ L (pc + 1) (.long (x + y) :: st)) : WW K G nL Q σ L pc (.long y :: .long x :: st) := fun ls H locs h1 h2 h3 => lv_ladd C.hx C.hb hd (k ls H locs h1 h2 h3)
theorem ww_lsub {x y : Int64} (C : CX K G cc nL own Ts rm ret) (hd : decode cc pc = .ok (.lsub, 1)) (k : WW K G nL Q σ L (pc + 1) (.long (x - y) :: st)) : WW K G nL Q σ L pc (.long y :: .long x :: st) := fun ls H locs h1 h2 h3 => lv_lsub C.hx C.hb hd (k ls H locs h1 h2 h3)
theorem ww_lmul {x y : Int64} (C : CX K G cc nL own Ts rm ret) (hd : decode cc pc = .ok (.lmul, 1)) (k : WW K G nL Q σ L (pc + 1) (.long (x * y) :: st)) : WW K G nL Q σ L pc (.long y :: .long x :: st) := fun ls H locs h1 h2 h3 => lv_lmul C.hx C.hb hd (k ls H locs h1 h2 h3)
theorem ww_ldiv {x y : Int64} (C : CX K G cc nL own Ts rm ret) (hd : decode cc pc = .ok (.ldiv, 1)) (hne : ¬ y = 0) (k : WW K G nL Q σ L (pc + 1) (.long (x / y) :: st)) : WW K G nL Q σ L pc (.long y :: .long x :: st) := fun ls H locs h1 h2 h3 => lv_ldiv C.hx C.hb hd hne (k ls H locs h1 h2 h3)
theorem ww_lrem {x y : Int64} (C : CX K G cc nL own Ts rm ret) (hd : decode cc pc = .ok (.lrem, 1)) (hne : ¬ y = 0) (k : WW K G nL Q σ L (pc + 1) (.long (x - x / y * y) :: st)) : WW K G nL Q σ L pc (.long y :: .long x :: st) := fun ls H locs h1 h2 h3 => lv_lrem C.hx C.hb hd hne (k ls H locs h1 h2 h3)
theorem ww_lneg {x : Int64} (C : CX K G cc nL own Ts rm ret) (hd : decode cc pc = .ok (.lneg, 1)) (k : WW K G nL Q σ L (pc + 1) (.long (-x) :: st)) : WW K G nL Q σ L pc (.long x :: st) := fun ls H locs h1 h2 h3 => lv_lneg C.hx C.hb hd (k ls H locs h1 h2 h3)
theorem ww_lcmp {x y : Int64} (C : CX K G cc nL own Ts rm ret) (hd : decode cc pc = .ok (.lcmp, 1)) (k : WW K G nL Q σ L (pc + 1) (.int (lg_cmp x y) :: st)) : WW K G nL Q σ L pc (.long y :: .long x :: st) := fun ls H locs h1 h2 h3 => W.lcmp C.hx C.hb hd (k ls H locs h1 h2 h3)
theorem ww_i2l {x : Int32} (C : CX K G cc nL own Ts rm ret) (hd : decode cc pc = .ok (.i2l, 1)) (k : WW K G nL Q σ L (pc + 1) (.long x.toInt64 :: st)) : WW K G nL Q σ L pc (.int x :: st) := fun ls H locs h1 h2 h3 => lv_i2l C.hx C.hb hd rfl (k ls H locs h1 h2 h3)
theorem ww_l2i {x : Int64} (C : CX K G cc nL own Ts rm ret) (hd : decode cc pc = .ok (.l2i, 1)) (k : WW K G nL Q σ L (pc + 1) (.int x.toInt32 :: st)) : WW K G nL Q σ L pc (.long x :: st) := fun ls H locs h1 h2 h3 => lv_l2i C.hx C.hb hd rfl (k ls H locs h1 h2 h3)
theorem ww_dup {v : Value} (C : CX K G cc nL own Ts rm ret) (hd : decode cc pc = .ok (.dup, 1)) (hv : v.category = 1) (k : WW K G nL Q σ L (pc + 1) (v :: v :: st)) : WW K G nL Q σ L pc (v :: st) := fun ls H locs h1 h2 h3 => lv_dup C.hx C.hb hd hv (k ls H locs h1 h2 h3)
theorem ww_dup2 {v w : Value} (C : CX K G cc nL own Ts rm ret) (hd : decode cc pc = .ok (.dup2, 1)) (hv : v.category = 1) (hw : w.category = 1) (k : WW K G nL Q σ L (pc + 1) (v :: w :: v :: w :: st)) : WW K G nL Q σ L pc (v :: w :: st) := fun ls H locs h1 h2 h3 => lv_dup2_11 C.hx C.hb hd hv hw (k ls H locs h1 h2 h3)
theorem ww_goto {off : Int} (tgt : Nat) (C : CX K G cc nL own Ts rm ret) (hd : decode cc pc = .ok (.goto off, 3)) (ht : (pc : Int) + off = (tgt : Int)) (k : WW K G nL Q σ L tgt st) : WW K G nL Q σ L pc st := fun ls H locs h1 h2 h3 => lv_goto C.hx C.hb hd ht (k ls H locs h1 h2 h3)
theorem ww_topi {x : Int32} (k : ∀ y, y = x → WW K G nL Q σ L pc (.int y :: st)) : WW K G nL Q σ L pc (.int x :: st) := k x rfl
theorem ww_topl {x : Int64} (k : ∀ y, y = x → WW K G nL Q σ L pc (.long y :: st)) : WW K G nL Q σ L pc (.long x :: st) := k x rfl
theorem ww_if_eq {x : Int32} {off : Int} (tgt : Nat) (C : CX K G cc nL own Ts rm ret) (hd : decode cc pc = .ok (.ifCond .eq off, 3)) (ht : (pc : Int) + off = (tgt : Int)) (kt : x = 0 → WW K G nL Q σ L tgt st) (kf : ¬ x = 0 → WW K G nL Q σ L (pc + 3) st) : WW K G nL Q σ L pc (.int x :: st) := fun ls H locs h1 h2 h3 => lv_if_eq C.hx C.hb hd ht (fun q => kt q ls H locs h1 h2 h3) (fun q => kf q ls H locs h1 h2 h3)
theorem ww_icmp_eq {x y : Int32} {off : Int} (tgt : Nat) (C : CX K G cc nL own Ts rm ret) (hd : decode cc pc = .ok (.if_icmp .eq off, 3)) (ht : (pc : Int) + off = (tgt : Int)) (kt : x = y → WW K G nL Q σ L tgt st) (kf : ¬ x = y → WW K G nL Q σ L (pc + 3) st) : WW K G nL Q σ L pc (.int y :: .int x :: st) := fun ls H locs h1 h2 h3 => lv_icmp_eq C.hx C.hb hd ht (fun q => kt q ls H locs h1 h2 h3) (fun q => kf q ls H locs h1 h2 h3)
theorem ww_if_ne {x : Int32} {off : Int} (tgt : Nat) (C : CX K G cc nL own Ts rm ret) (hd : decode cc pc = .ok (.ifCond .ne off, 3)) (ht : (pc : Int) + off = (tgt : Int)) (kt : ¬ x = 0 → WW K G nL Q σ L tgt st) (kf : x = 0 → WW K G nL Q σ L (pc + 3) st) : WW K G nL Q σ L pc (.int x :: st) := fun ls H locs h1 h2 h3 => lv_if_ne C.hx C.hb hd ht (fun q => kt q ls H locs h1 h2 h3) (fun q => kf q ls H locs h1 h2 h3)
theorem ww_icmp_ne {x y : Int32} {off : Int} (tgt : Nat) (C : CX K G cc nL own Ts rm ret) (hd : decode cc pc = .ok (.if_icmp .ne off, 3)) (ht : (pc : Int) + off = (tgt : Int)) (kt : ¬ x = y → WW K G nL Q σ L tgt st) (kf : x = y → WW K G nL Q σ L (pc + 3) st) : WW K G nL Q σ L pc (.int y :: .int x :: st) := fun ls H locs h1 h2 h3 => lv_icmp_ne C.hx C.hb hd ht (fun q => kt q ls H locs h1 h2 h3) (fun q => kf q ls H locs h1 h2 h3)
theorem ww_if_lt {x : Int32} {off : Int} (tgt : Nat) (C : CX K G cc nL own Ts rm ret) (hd : decode cc pc = .ok (.ifCond .lt off, 3)) (ht : (pc : Int) + off = (tgt : Int)) (kt : x < 0 → WW K G nL Q σ L tgt st) (kf : ¬ x < 0 → WW K G nL Q σ L (pc + 3) st) : WW K G nL Q σ L pc (.int x :: st) := fun ls H locs h1 h2 h3 => lv_if_lt C.hx C.hb hd ht (fun q => kt q ls H locs h1 h2 h3) (fun q => kf q ls H locs h1 h2 h3)
theorem ww_icmp_lt {x y : Int32} {off : Int} (tgt : Nat) (C : CX K G cc nL own Ts rm ret) (hd : decode cc pc = .ok (.if_icmp .lt off, 3)) (ht : (pc : Int) + off = (tgt : Int)) (kt : x < y → WW K G nL Q σ L tgt st) (kf : ¬ x < y → WW K G nL Q σ L (pc + 3) st) : WW K G nL Q σ L pc (.int y :: .int x :: st) := fun ls H locs h1 h2 h3 => lv_icmp_lt C.hx C.hb hd ht (fun q => kt q ls H locs h1 h2 h3) (fun q => kf q ls H locs h1 h2 h3)
theorem ww_if_ge {x : Int32} {off : Int} (tgt : Nat) (C : CX K G cc nL own Ts rm ret) (hd : decode cc pc = .ok (.ifCond .ge off, 3)) (ht : (pc : Int) + off = (tgt : Int)) (kt : 0 ≤ x → WW K G nL Q σ L tgt st) (kf : ¬ 0 ≤ x → WW K G nL Q σ L (pc + 3) st) : WW K G nL Q σ L pc (.int x :: st) := fun ls H locs h1 h2 h3 => lv_if_ge C.hx C.hb hd ht (fun q => kt q ls H locs h1 h2 h3) (fun q => kf q ls H locs h1 h2 h3)
theorem ww_icmp_ge {x y : Int32} {off : Int} (tgt : Nat) (C : CX K G cc nL own Ts rm ret) (hd : decode cc pc = .ok (.if_icmp .ge off, 3)) (ht : (pc : Int) + off = (tgt : Int)) (kt : y ≤ x → WW K G nL Q σ L tgt st) (kf : ¬ y ≤ x → WW K G nL Q σ L (pc + 3) st) : WW K G nL Q σ L pc (.int y :: .int x :: st) := fun ls H locs h1 h2 h3 => lv_icmp_ge C.hx C.hb hd ht (fun q => kt q ls H locs h1 h2 h3) (fun q => kf q ls H locs h1 h2 h3)
theorem ww_if_gt {x : Int32} {off : Int} (tgt : Nat) (C : CX K G cc nL own Ts rm ret) (hd : decode cc pc = .ok (.ifCond .gt off, 3)) (ht : (pc : Int) + off = (tgt : Int)) (kt : 0 < x → WW K G nL Q σ L tgt st) (kf : ¬ 0 < x → WW K G nL Q σ L (pc + 3) st) : WW K G nL Q σ L pc (.int x :: st) := fun ls H locs h1 h2 h3 => lv_if_gt C.hx C.hb hd ht (fun q => kt q ls H locs h1 h2 h3) (fun q => kf q ls H locs h1 h2 h3)
theorem ww_icmp_gt {x y : Int32} {off : Int} (tgt : Nat) (C : CX K G cc nL own Ts rm ret) (hd : decode cc pc = .ok (.if_icmp .gt off, 3)) (ht : (pc : Int) + off = (tgt : Int)) (kt : y < x → WW K G nL Q σ L tgt st) (kf : ¬ y < x → WW K G nL Q σ L (pc + 3) st) : WW K G nL Q σ L pc (.int y :: .int x :: st) := fun ls H locs h1 h2 h3 => lv_icmp_gt C.hx C.hb hd ht (fun q => kt q ls H locs h1 h2 h3) (fun q => kf q ls H locs h1 h2 h3)
theorem ww_if_le {x : Int32} {off : Int} (tgt : Nat) (C : CX K G cc nL own Ts rm ret) (hd : decode cc pc = .ok (.ifCond .le off, 3)) (ht : (pc : Int) + off = (tgt : Int)) (kt : x ≤ 0 → WW K G nL Q σ L tgt st) (kf : ¬ x ≤ 0 → WW K G nL Q σ L (pc + 3) st) : WW K G nL Q σ L pc (.int x :: st) := fun ls H locs h1 h2 h3 => lv_if_le C.hx C.hb hd ht (fun q => kt q ls H locs h1 h2 h3) (fun q => kf q ls H locs h1 h2 h3)
theorem ww_icmp_le {x y : Int32} {off : Int} (tgt : Nat) (C : CX K G cc nL own Ts rm ret) (hd : decode cc pc = .ok (.if_icmp .le off, 3)) (ht : (pc : Int) + off = (tgt : Int)) (kt : x ≤ y → WW K G nL Q σ L tgt st) (kf : ¬ x ≤ y → WW K G nL Q σ L (pc + 3) st) : WW K G nL Q σ L pc (.int y :: .int x :: st) := fun ls H locs h1 h2 h3 => lv_icmp_le C.hx C.hb hd ht (fun q => kt q ls H locs h1 h2 h3) (fun q => kf q ls H locs h1 h2 h3)
theorem ww_ifnonnull {x : Nat} {off : Int} (tgt : Nat) (C : CX K G cc nL own Ts rm ret) (hd : decode cc pc = .ok (.ifnonnull off, 3)) (ht : (pc : Int) + off = (tgt : Int)) (k : WW K G nL Q σ L tgt st) : WW K G nL Q σ L pc (.ref x :: st) := fun ls H locs h1 h2 h3 => lv_ifnonnull C.hx C.hb hd ht (k ls H locs h1 h2 h3)
theorem ww_ifnonnullN {off : Int} (C : CX K G cc nL own Ts rm ret) (hd : decode cc pc = .ok (.ifnonnull off, 3)) (k : WW K G nL Q σ L (pc + 3) st) : WW K G nL Q σ L pc (.null :: st) := fun ls H locs h1 h2 h3 => lv_ifnonnullN C.hx C.hb hd (k ls H locs h1 h2 h3)
theorem ww_ifnull {x : Nat} {off : Int} (C : CX K G cc nL own Ts rm ret) (hd : decode cc pc = .ok (.ifnull off, 3)) (k : WW K G nL Q σ L (pc + 3) st) : WW K G nL Q σ L pc (.ref x :: st) := fun ls H locs h1 h2 h3 => lv_ifnull (x := x) C.hx C.hb hd (k ls H locs h1 h2 h3)
theorem ww_ifnullN {off : Int} (tgt : Nat) (C : CX K G cc nL own Ts rm ret) (hd : decode cc pc = .ok (.ifnull off, 3)) (ht : (pc : Int) + off = (tgt : Int)) (k : WW K G nL Q σ L tgt st) : WW K G nL Q σ L pc (.null :: st) := fun ls H locs h1 h2 h3 => lv_ifnullN C.hx C.hb hd ht (k ls H locs h1 h2 h3)
theorem wd_one {H : Heap} {k i : Nat} {e : va_E} (h : wd G σ H) (hi : i < dom k) (he : gcell G σ k i = e) : va_P (gD G) vwCl [(gA G k i, e)] H := by
  intro q z hz
  match q, hz with
  | 0, hz => cases hz; rw [← he]; exact h k i hi
  | q + 1, hz => simp at hz
theorem gc_o {k i ci : Nat} {fl : List Fd9} (hl : lay k = .inl (ci, fl)) : gcell G σ k i = .inr (ci, gfs G σ k i 0 fl) := by unfold gcell; rw [hl]
theorem gc_a {k i t n : Nat} (hl : lay k = .inr (t, n, none)) : gcell G σ k i = .inl (gC G t, n, .inl (σ k i)) := by unfold gcell; rw [hl]
theorem gc_q {k i t n k' : Nat} {g : Nat → Nat → Nat} (hl : lay k = .inr (t, n, some (k', g))) : gcell G σ k i = .inl (gC G t, n, .inr (.inr (.inr (.inr (fun j => some (gA G k' (g i j))))))) := by unfold gcell; rw [hl]
/-- a field that is an int is read -/
theorem ww_gi {k f ci index : Nat} {fl : List Fd9} {Cn : String} {T : u_T} {N i : Nat} (C : CX K G cc nL own Ts rm ret) (hl : lay k = .inl (ci, fl)) (hf : fl[f]? = some none) (hi : i < dom k) (hc : vwCl[ci]? = some (Cn, T, N)) (hin : ∀ w ∈ u_ws Cn T N, w ∈ Ts) (hN : f < N) (hlk : Cond.fieldLink own index (T f).1 (T f).2.1 (T f).2.2.1 ∈ Ts) (hd : decode cc pc = .ok (.getfield index, 3)) (kk : WW K G nL Q σ L (pc + 3) (.int (σ k i f) :: st)) : WW K G nL Q σ L pc (.ref (gA G k i) :: st) := fun ls H locs h1 h2 h3 =>
  va_get (D := gD G) (ref := (T f).1) C.hx C.hb C.ht hin C.ho C.2.1.1 (wd_one h2 hi (gc_o hl)) 0 rfl hc f hN (C.ht _ hlk) (fun _ q => q) (by rw [gfs_get, hf]; simp) hd (kk ls H locs h1 h2 h3)
/-- a field that is a reference is read -/
theorem ww_gr {k f ci index k' j : Nat} {g : Nat → Nat} {fl : List Fd9} {Cn : String} {T : u_T} {N i : Nat} (C : CX K G cc nL own Ts rm ret) (hl : lay k = .inl (ci, fl)) (hf : fl[f]? = some (some (k', g))) (hi : i < dom k) (hc : vwCl[ci]? = some (Cn, T, N)) (hin : ∀ w ∈ u_ws Cn T N, w ∈ Ts) (hN : f < N) (hlk : Cond.fieldLink own index (T f).1 (T f).2.1 (T f).2.2.1 ∈ Ts) (hd : decode cc pc = .ok (.getfield index, 3)) (hj : g i = j) (kk : WW K G nL Q σ L (pc + 3) (.ref (gA G k' j) :: st)) : WW K G nL Q σ L pc (.ref (gA G k i) :: st) := fun ls H locs h1 h2 h3 =>
  va_get (D := gD G) (ref := (T f).1) C.hx C.hb C.ht hin C.ho C.2.1.1 (wd_one h2 hi (gc_o hl)) 0 rfl hc f hN (C.ht _ hlk) (fun _ q => q) (by rw [gfs_get, hf]; simp [hj]) hd (kk ls H locs h1 h2 h3)
/-- a field that is an int is written -/
theorem ww_pi {k f ci index : Nat} {v : Int32} {fl : List Fd9} {Cn : String} {T : u_T} {N i : Nat} {ty0 : Nat → FieldType} (C : CX K G cc nL own Ts rm ret) (hl : lay k = .inl (ci, fl)) (hf : fl[f]? = some none) (hi : i < dom k) (hc : vwCl[ci]? = some (Cn, T, N)) (hin : ∀ w ∈ u_ws Cn T N, w ∈ Ts) (hty : ∀ k, k < N → parseFieldDescriptor (T k).2.2.1 = some (ty0 k)) (hnm : ∀ a, a < N → ∀ b, b < N → a ≠ b → (T a).2.1 ≠ (T b).2.1) (hN : f < N) (hlk : Cond.fieldLink own index (T f).1 (T f).2.1 (T f).2.2.1 ∈ Ts) (hfin : (T f).2.2.2 = false) (hti : ty0 f = .int) (hd : decode cc pc = .ok (.putfield index, 3)) (kk : WW K G nL Q (sgu σ k i f v) L (pc + 3) st) : WW K G nL Q σ L pc (.int v :: .ref (gA G k i) :: st) := by
  intro ls H locs h1 h2 h3
  have hK : va_K (gD G) vwCl (gTy G) (kS K) := C.2.1.1
  have hap := va_apart (own := own) C.ht hin ty0 hty hnm hK hc
  have hat := h2 k i hi
  rw [gc_o hl] at hat
  obtain ⟨r, q0, cell, q1, q2, q3, q4⟩ := hat
  have hr : r = (Cn, T, N) := Option.some.inj (q0.symm.trans hc)
  subst hr
  obtain ⟨hS, hfc, kC9, hkC, hkind⟩ := hK.1 ci _ hc
  obtain ⟨cf, kf, fi, fld, hfi, hsl⟩ := hS f hN
  have hlay := C.ht _ (hin _ (u_in_lay hN))
  unfold u_lay at hlay
  rw [if_neg (by rw [hfin]; decide)] at hlay
  have hst := (u_facts hfc hkC (u_lays C.ht hin hN) hfi).1
  have hdi : parseFieldDescriptor (T f).2.2.1 = some .int := by rw [hty f hN, hti]
  have h6 := u_store (v := .int v) hfc hkC hkind hlay hfi hdi rfl rfl
  refine W.putK C.hx C.hb (f := fld) ⟨C.ho, C.ht _ hlk, ⟨_, _, _, hfi⟩, hst⟩ (by rw [q2]; exact h6) q1 q3 (by rw [hsl]; exact k2_hasslot (q4 f hN)) rfl rfl hd fun H' e1 e2 e3 => ?_
  rw [hsl] at e1 ⊢
  refine kk ls H' _ h1 (wd_put C.2.2.1 h2 hi (fun k' i' hne f' => ?_) ?_ e3) (h3.put e2 e3 ⟨k, i, hi, rfl⟩)
  · exact if_neg (fun q => hne ⟨q.1, q.2.1⟩)
  · rw [gc_o hl, gfs_set hf]
    exact ⟨_, hc, t_OB.to (V := updV (vp_V (gfs G σ k i 0 fl)) f (.int v)) ⟨_, e1, q2, q3, t_set q4 hap hN (.int v)⟩ (fun j _ => vp_updV_set (by rw [gfs_len]; exact (List.getElem?_eq_some_iff.mp hf).1) (.int v) j)⟩
theorem nI_in9 {x : Int32} {j n : Nat} (hx : x = nI j) (hj : j < n) (hn : n < 2 ^ 31) : vp_in x n := by subst hx; exact vp_in_nI hj hn
theorem nI_cl9 {x : Int32} {j n : Nat} (hx : x = nI j) (hj : j < n) (hn : n < 2 ^ 31) : x.toNatClampNeg = j := by subst hx; exact nI_clamp (by omega)
theorem ww_iald {k n j : Nat} {x : Int32} {i : Nat} (C : CX K G cc nL own Ts rm ret) (hl : lay k = .inr (0, n, none)) (hi : i < dom k) (hn : n < 2 ^ 31) (hd : decode cc pc = .ok (.iaload, 1)) (hx : x = nI j) (hj : j < n) (kk : WW K G nL Q σ L (pc + 1) (.int (σ k i j) :: st)) : WW K G nL Q σ L pc (.int x :: .ref (gA G k i) :: st) := fun ls H locs h1 h2 h3 =>
  va_iald C.hx C.hb C.2.1.1 (wd_one h2 hi (gc_a hl)) 0 0 rfl rfl (nI_in9 hx hj hn) hd (by rw [nI_cl9 hx hj hn]; exact kk ls H locs h1 h2 h3)
theorem ww_zald {k n j : Nat} {x : Int32} {i : Nat} (C : CX K G cc nL own Ts rm ret) (hl : lay k = .inr (1, n, none)) (hi : i < dom k) (hn : n < 2 ^ 31) (hd : decode cc pc = .ok (.baload, 1)) (hx : x = nI j) (hj : j < n) (kk : WW K G nL Q σ L (pc + 1) (.int (σ k i j) :: st)) : WW K G nL Q σ L pc (.int x :: .ref (gA G k i) :: st) := fun ls H locs h1 h2 h3 =>
  va_zald C.hx C.hb C.2.1.1 (wd_one h2 hi (gc_a hl)) 0 1 rfl rfl (nI_in9 hx hj hn) hd (by rw [nI_cl9 hx hj hn]; exact kk ls H locs h1 h2 h3)
theorem gTy_ref {t : Nat} (ht : t = 2 ∨ t = 3) (C : CX K G cc nL own Ts rm ret) : ∃ ty : FieldType, ty.isReference = true ∧ ArrOfT (kS K) (gC G t) ty := by
  rcases ht with rfl | rfl
  · exact ⟨_, rfl, (C.2.1.1.2 2 _ rfl).1⟩
  · exact ⟨_, rfl, (C.2.1.1.2 3 _ rfl).1⟩
theorem ww_aald {k t n k' j j' : Nat} {g : Nat → Nat → Nat} {x : Int32} {i : Nat} (C : CX K G cc nL own Ts rm ret) (hl : lay k = .inr (t, n, some (k', g))) (ht : t = 2 ∨ t = 3) (hi : i < dom k) (hn : n < 2 ^ 31) (hd : decode cc pc = .ok (.aaload, 1)) (hx : x = nI j) (hj : j < n) (hg : g i j = j') (kk : WW K G nL Q σ L (pc + 1) (.ref (gA G k' j') :: st)) : WW K G nL Q σ L pc (.int x :: .ref (gA G k i) :: st) := by
  intro ls H locs h1 h2 h3
  obtain ⟨ty, hty, harr⟩ := gTy_ref ht C
  have hat := h2 k i hi
  rw [gc_q hl] at hat
  have hcl := nI_cl9 hx hj hn
  have hin := nI_in9 hx hj hn
  refine W.aald (v := .ref (gA G k' j')) (ty := ty) C.hx C.hb hat (harr n (fun j => va_rf (some (gA G k' (g i j))))) hty (fun q => by cases q) (by show ¬ (x < 0 ∨ (arrV _ _ _).slots.size ≤ _); rw [arrV_size]; exact hin) ?_ rfl rfl hd (kk ls H locs h1 h2 h3)
  show (arrV _ _ _).slots[_]? = _
  rw [hcl, arrV_read _ _ hj]
  show some (va_rf (some (gA G k' (g i j)))) = _
  rw [hg]
  rfl
theorem ww_iast {k n j : Nat} {x v : Int32} {i : Nat} (C : CX K G cc nL own Ts rm ret) (hl : lay k = .inr (0, n, none)) (hi : i < dom k) (hn : n < 2 ^ 31) (hd : decode cc pc = .ok (.iastore, 1)) (hx : x = nI j) (hj : j < n) (kk : WW K G nL Q (sgu σ k i j v) L (pc + 1) st) : WW K G nL Q σ L pc (.int v :: .int x :: .ref (gA G k i) :: st) := by
  intro ls H locs h1 h2 h3
  have hat : H[gA G k i]? = some (vp_cell (gC G 0) (n, .inl (σ k i))) := by
    have := h2 k i hi
    rw [gc_a hl] at this
    exact this
  have hcl := nI_cl9 hx hj hn
  have hin := nI_in9 hx hj hn
  refine W.iast C.hx C.hb hat ((C.2.1.1.2 0 _ rfl).1 n (fun j => .int (σ k i j))) (fun q => by cases q) (by show ¬ (x < 0 ∨ (arrV _ _ _).slots.size ≤ _); rw [arrV_size]; exact hin) rfl rfl hd fun H1 e z oq => ?_
  refine kk ls H1 _ h1 (wd_put C.2.2.1 h2 hi (fun k' i' hne f' => ?_) ?_ oq) (h3.put z oq ⟨k, i, hi, rfl⟩)
  · exact if_neg (fun q => hne ⟨q.1, q.2.1⟩)
  · rw [gc_a hl]
    show H1[gA G k i]? = some (vp_cell _ _)
    rw [e, hcl, vp_cell_i, vp_cell_i, arrV_store]
    congr 2
    funext q
    by_cases hq : q = j
    · subst hq
      simp [updV, sgu]
    · simp [updV, sgu, hq]
/-- what a boolean array keeps -/
theorem ww_zast {k n j : Nat} {x v : Int32} {i : Nat} (C : CX K G cc nL own Ts rm ret) (hl : lay k = .inr (1, n, none)) (hi : i < dom k) (hn : n < 2 ^ 31) (hd : decode cc pc = .ok (.bastore, 1)) (hx : x = nI j) (hj : j < n) (hv : narrow .boolean (.int v) = .int v) (kk : WW K G nL Q (sgu σ k i j v) L (pc + 1) st) : WW K G nL Q σ L pc (.int v :: .int x :: .ref (gA G k i) :: st) := by
  intro ls H locs h1 h2 h3
  have hat : H[gA G k i]? = some (vp_cell (gC G 1) (n, .inl (σ k i))) := by
    have := h2 k i hi
    rw [gc_a hl] at this
    exact this
  have hcl := nI_cl9 hx hj hn
  have hin := nI_in9 hx hj hn
  refine W.zast C.hx C.hb hat ((C.2.1.1.2 1 _ rfl).1 n (fun j => .int (σ k i j))) (fun q => by cases q) (by show ¬ (x < 0 ∨ (arrV _ _ _).slots.size ≤ _); rw [arrV_size]; exact hin) rfl rfl hd fun H1 e z oq => ?_
  refine kk ls H1 _ h1 (wd_put C.2.2.1 h2 hi (fun k' i' hne f' => ?_) ?_ oq) (h3.put z oq ⟨k, i, hi, rfl⟩)
  · exact if_neg (fun q => hne ⟨q.1, q.2.1⟩)
  · rw [gc_a hl]
    show H1[gA G k i]? = some (vp_cell _ _)
    rw [e, hcl, vp_cell_i, vp_cell_i, arrV_store]
    congr 2
    funext q
    by_cases hq : q = j
    · subst hq
      simp [updV, sgu, hv]
    · simp [updV, sgu, hq]
end LY

theorem kn_moved {G : Gx} {s U : State} (hW : s.WarmedH U.vm) (h : kn G s) : kn G U := ⟨va_K.moved hW.alike h.1, va_Nw.warmM hW h.2⟩
/-- contracts: an int, a long, nothing, a reference or null -/
def CtI (l : Launch) (y : MethodName) (ws : List Cond) (rm : Room) (G : Gx) (av : List Value) (σ : Sg) (post : Int32 → Sg → Prop) : Prop := Met l y ws rm (va_Pc av (wu G σ)) (va_Qi post (fun σ' t => wd G σ' t.heap) (wo G)) 0 0 (wo G)
def CtL (l : Launch) (y : MethodName) (ws : List Cond) (rm : Room) (G : Gx) (av : List Value) (σ : Sg) (post : Int64 → Sg → Prop) : Prop := Met l y ws rm (va_Pc av (wu G σ)) (va_Ql post (fun σ' t => wd G σ' t.heap) (wo G)) 0 0 (wo G)
def CtV (l : Launch) (y : MethodName) (ws : List Cond) (rm : Room) (G : Gx) (av : List Value) (σ : Sg) (post : Sg → Prop) : Prop := Met l y ws rm (va_Pc av (wu G σ)) (va_Qv post (fun σ' t => wd G σ' t.heap) (wo G)) 0 0 (wo G)
def CtQ (l : Launch) (y : MethodName) (ws : List Cond) (rm : Room) (G : Gx) (av : List Value) (σ : Sg) (post : Option Nat → Sg → Prop) : Prop := Met l y ws rm (va_Pc av (wu G σ)) (va_Qq post (fun σ' t => wd G σ' t.heap) (wo G)) 0 0 (wo G)
abbrev QI (K : Kx) (G : Gx) (post : Int32 → Sg → Prop) : State → Prop := MQ (kB K) (va_Qi post (fun σ' t => wd G σ' t.heap) (wo G)) (kA K) (kS K) 0 0 (wo G)
abbrev QL (K : Kx) (G : Gx) (post : Int64 → Sg → Prop) : State → Prop := MQ (kB K) (va_Ql post (fun σ' t => wd G σ' t.heap) (wo G)) (kA K) (kS K) 0 0 (wo G)
abbrev QV (K : Kx) (G : Gx) (post : Sg → Prop) : State → Prop := MQ (kB K) (va_Qv post (fun σ' t => wd G σ' t.heap) (wo G)) (kA K) (kS K) 0 0 (wo G)
abbrev QQ (K : Kx) (G : Gx) (post : Option Nat → Sg → Prop) : State → Prop := MQ (kB K) (va_Qq post (fun σ' t => wd G σ' t.heap) (wo G)) (kA K) (kS K) 0 0 (wo G)
abbrev rmd (d : Nat) : Room := { frames := d, cells := 0, slots := 0, locals := 40 * d }
section CT
variable {l : Launch} {y : MethodName} {ws ws' : List Cond} {rm : Room} {G : Gx} {av : List Value} {σ : Sg} {cc : ByteArray} {maxL : Nat} {ret : Option FieldType}
theorem ct_x {Qc : Array Value → State → Outcome → State → Prop} (hy : plainName y.cls = true) (hw : ws = Cond.code y cc maxL ret :: ws') (hlen : (lg_sl av).length ≤ maxL) (ha : wa G)
    (body : ∀ K : Kx, kL K = l → CX K G cc maxL y.cls ws rm ret → WW K G maxL (MQ (kB K) Qc (kA K) (kS K) 0 0 (wo G)) σ (lv_args 0 av) 0 []) : Met l y ws rm (va_Pc av (wu G σ)) Qc 0 0 (wo G) := by
  refine Met.ofW (cc := cc) (maxL := maxL) (ret := ret) hy hw ?_
  intro p e s m args below meth c s₁ B hml hv
  obtain ⟨rfl, hP, hK⟩ := hv
  have hts := atoms_spec (ws := ws) B.pre
  have hown : s.vm.findClass y.cls = some m.cls := findClass_of_methodNamed B.named
  have hb := body (p, l, e, rm, s, m, av.toArray, below, meth, c) rfl ⟨⟨B.exec, B.bytes, hml, hown, hts⟩, hK, ha, rfl, B.returns, B.notSynchronized⟩
  have hl := lv_entry av (n := maxL) hlen
  rw [lg_entry_eq]
  exact hb _ s.heap [] hl hP va_S.rf
theorem ct_i {post : Int32 → Sg → Prop} (hy : plainName y.cls = true) (hw : ws = Cond.code y cc maxL ret :: ws') (hlen : (lg_sl av).length ≤ maxL) (ha : wa G)
    (body : ∀ K : Kx, kL K = l → CX K G cc maxL y.cls ws rm ret → WW K G maxL (QI K G post) σ (lv_args 0 av) 0 []) : CtI l y ws rm G av σ post := ct_x hy hw hlen ha body
theorem ct_l {post : Int64 → Sg → Prop} (hy : plainName y.cls = true) (hw : ws = Cond.code y cc maxL ret :: ws') (hlen : (lg_sl av).length ≤ maxL) (ha : wa G)
    (body : ∀ K : Kx, kL K = l → CX K G cc maxL y.cls ws rm ret → WW K G maxL (QL K G post) σ (lv_args 0 av) 0 []) : CtL l y ws rm G av σ post := ct_x hy hw hlen ha body
theorem ct_v {post : Sg → Prop} (hy : plainName y.cls = true) (hw : ws = Cond.code y cc maxL ret :: ws') (hlen : (lg_sl av).length ≤ maxL) (ha : wa G)
    (body : ∀ K : Kx, kL K = l → CX K G cc maxL y.cls ws rm ret → WW K G maxL (QV K G post) σ (lv_args 0 av) 0 []) : CtV l y ws rm G av σ post := ct_x hy hw hlen ha body
theorem ct_q {post : Option Nat → Sg → Prop} (hy : plainName y.cls = true) (hw : ws = Cond.code y cc maxL ret :: ws') (hlen : (lg_sl av).length ≤ maxL) (ha : wa G)
    (body : ∀ K : Kx, kL K = l → CX K G cc maxL y.cls ws rm ret → WW K G maxL (QQ K G post) σ (lv_args 0 av) 0 []) : CtQ l y ws rm G av σ post := ct_x hy hw hlen ha body
end CT
section LZ
variable {K : Kx} {G : Gx} {cc : ByteArray} {nL : Nat} {own : String} {Ts : List Cond} {rm : Room} {ret : Option FieldType} {Q : State → Prop} {σ : Sg} {L : List (Nat × Value)} {pc : Nat} {st : List Value}
theorem ww_iret {post : Int32 → Sg → Prop} {v : Int32} (C : CX K G cc nL own Ts rm (some .int)) (hd : decode cc pc = .ok (.ireturn, 1)) (hp : post v σ) : WW K G nL (QI K G post) σ L pc [.int v] := fun ls H locs _ h2 h3 =>
  W.iret C.hx C.hb C.2.2.2.2.1 (fun t ht _ => ⟨⟨v, σ, rfl, hp, by show wd G σ t.heap; rw [ht]; exact h2⟩, h3.F ht⟩) h3.2.2 hd C.2.2.2.2.2
theorem ww_zret {post : Int32 → Sg → Prop} {v : Int32} (C : CX K G cc nL own Ts rm (some .boolean)) (hd : decode cc pc = .ok (.ireturn, 1)) (hv : narrow .boolean (.int v) = .int v) (hp : post v σ) : WW K G nL (QI K G post) σ L pc [.int v] := fun ls H locs _ h2 h3 =>
  W.zret C.hx C.hb C.2.2.2.2.1 hv (fun t ht _ => ⟨⟨v, σ, rfl, hp, by show wd G σ t.heap; rw [ht]; exact h2⟩, h3.F ht⟩) h3.2.2 hd C.2.2.2.2.2
theorem ww_lret {post : Int64 → Sg → Prop} {v : Int64} (C : CX K G cc nL own Ts rm (some .long)) (hd : decode cc pc = .ok (.lreturn, 1)) (hp : post v σ) : WW K G nL (QL K G post) σ L pc [.long v] := fun ls H locs _ h2 h3 =>
  W.lret C.hx C.hb C.2.2.2.2.1 (fun t ht _ => ⟨⟨v, σ, rfl, hp, by show wd G σ t.heap; rw [ht]; exact h2⟩, h3.F ht⟩) h3.2.2 hd C.2.2.2.2.2
theorem ww_vret {post : Sg → Prop} (C : CX K G cc nL own Ts rm none) (hd : decode cc pc = .ok (.return_, 1)) (hp : post σ) : WW K G nL (QV K G post) σ L pc [] := fun ls H locs _ h2 h3 =>
  W.vret C.hx C.hb C.2.2.2.2.1 (fun t ht _ => ⟨⟨σ, rfl, hp, by show wd G σ t.heap; rw [ht]; exact h2⟩, h3.F ht⟩) h3.2.2 hd C.2.2.2.2.2
theorem ww_aret {post : Option Nat → Sg → Prop} {v : Nat} {rt : FieldType} (C : CX K G cc nL own Ts rm (some rt)) (hrt : (∃ n, rt = .object n) ∨ ∃ t, rt = .array t) (hd : decode cc pc = .ok (.areturn, 1)) (hp : post (some v) σ) : WW K G nL (QQ K G post) σ L pc [.ref v] := fun ls H locs _ h2 h3 =>
  W.aret C.hx C.hb C.2.2.2.2.1 hrt (Or.inr ⟨v, rfl⟩) (fun t ht _ => ⟨⟨some v, σ, rfl, hp, by show wd G σ t.heap; rw [ht]; exact h2⟩, h3.F ht⟩) h3.2.2 hd C.2.2.2.2.2
theorem ww_aretN {post : Option Nat → Sg → Prop} {rt : FieldType} (C : CX K G cc nL own Ts rm (some rt)) (hrt : (∃ n, rt = .object n) ∨ ∃ t, rt = .array t) (hd : decode cc pc = .ok (.areturn, 1)) (hp : post none σ) : WW K G nL (QQ K G post) σ L pc [.null] := fun ls H locs _ h2 h3 =>
  W.aret C.hx C.hb C.2.2.2.2.1 hrt (Or.inl rfl) (fun t ht _ => ⟨⟨none, σ, rfl, hp, by show wd G σ t.heap; rw [ht]; exact h2⟩, h3.F ht⟩) h3.2.2 hd C.2.2.2.2.2
/-- a call is under way: of an object's method, of a static one, of a nest mate's static one -/
def CallX (K : Kx) (G : Gx) (nL : Nat) (σ : Sg) (L : List (Nat × Value)) (pc : Nat) (st rest : List Value) (Qa : State → Outcome → State → Prop) : Prop :=
  ∀ (ls : Array Slot) (H : Heap) (locs : List Loc), lv_has ls nL L → wd G σ H → va_S (wo G) (kS K).heap H locs →
    va_Run (kP K) (kL K) (kE K) (kR K) (kS K) (kM K) (kA K) (kB K) (kT K) (kC K) H locs 0 0 0 0 (F0 (kM K) pc ls st) rest Qa (wo G)
theorem wu_blind {av : List Value} : FrameBlind (va_Pc av (wu G σ)) := fun a U g mk q => ⟨q.1, q.2.1, va_K.moved (u := U) (U := U.calling g mk a) (Vm.Alike.refl U.vm) q.2.2.1, va_Nw.same rfl (show U.vm = (U.calling g mk a).vm from rfl) q.2.2.2⟩
theorem cx_V {y : MethodName} {ws ws' : List Cond} {bytes : ByteArray} {maxL index n k i ci N : Nat} {rt : Option FieldType} {rmc : Room} {Cn : String} {T : u_T} {fl : List Fd9} {As rest : List Value} {Qc : Array Value → State → Outcome → State → Prop}
    (C : CX K G cc nL own Ts rm ret) (hM : Met (kL K) y ws rmc (va_Pc (.ref (gA G k i) :: As) (wu G σ)) Qc 0 0 (wo G)) (hG : GoodIn Ts (wsV own index Cn y ws)) (hw : ws = Cond.code y bytes maxL rt :: ws') (hrc : rmc.cells = 0 ∧ rmc.slots = 0)
    (hd4 : y.cls = Cn ∧ y.cls ≠ "java/lang/invoke/MethodHandle" ∧ y.cls ≠ "java/lang/invoke/VarHandle" ∧ (parseMethodDescriptor y.desc).map (fun d => d.parameters.length) = some n) (hR : rmc.frames + 1 ≤ rm.frames ∧ 8 + (maxL + 11) + rmc.locals ≤ rm.locals)
    (hl : lay k = .inl (ci, fl)) (hi : i < dom k) (hc : vwCl[ci]? = some (Cn, T, N)) (hn : As.length = n) (hst : st = As.reverse ++ .ref (gA G k i) :: rest) (hcat : (rest.map fun v => v.category).sum ≤ 8) (hd : decode cc pc = .ok (.invokevirtual index, 3)) :
    CallX K G nL σ L pc st rest (Qc (Value.ref (gA G k i) :: As).toArray) := fun ls H locs h1 h2 h3 =>
  va_runV (C := Cn) (n := n) (As := As) (rest := rest) C.1 hM (cwV n C.ht hG hw hrc.1 hrc.2 hd4 (by rw [C.2.2.2.1]; exact hR)) ⟨wu_blind, va_recv C.2.1.1 (wd_one h2 hi (gc_o hl)) (q0 := 0) hc rfl, fun U hU hW => ⟨rfl, by rw [hU]; exact h2, kn_moved hW C.2.1⟩⟩ rfl hn h1.1 hst (by show 2 * 0 + _ ≤ 8; omega) hd ⟨Nat.zero_le _, Nat.zero_le _⟩
theorem cx_S {y : MethodName} {ws ws' : List Cond} {bytes : ByteArray} {maxL index n : Nat} {rt : Option FieldType} {rmc : Room} {As rest : List Value} {Qc : Array Value → State → Outcome → State → Prop}
    (C : CX K G cc nL own Ts rm ret) (hM : Met (kL K) y ws rmc (va_Pc As (wu G σ)) Qc 0 0 (wo G)) (hG : GoodIn Ts (va_wsS own index y ws)) (hw : ws = Cond.code y bytes maxL rt :: ws') (hrc : rmc.cells = 0 ∧ rmc.slots = 0)
    (hd4 : y.cls ≠ "java/lang/invoke/MethodHandle" ∧ y.cls ≠ "java/lang/invoke/VarHandle" ∧ (parseMethodDescriptor y.desc).map (fun d => d.parameters.length) = some n) (hR : rmc.frames + 1 ≤ rm.frames ∧ 8 + (maxL + 11) + rmc.locals ≤ rm.locals)
    (hn : As.length = n) (hst : st = As.reverse ++ rest) (hcat : (rest.map fun v => v.category).sum ≤ 8) (hd : decode cc pc = .ok (.invokestatic index, 3)) :
    CallX K G nL σ L pc st rest (Qc As.toArray) := fun ls H locs h1 h2 h3 =>
  va_runS (n := n) (As := As) (rest := rest) C.1 hM (va_cwS n C.ht hG hw hrc.1 hrc.2 hd4 (by rw [C.2.2.2.1]; exact hR)) ⟨wu_blind, fun U hU hW => ⟨rfl, by rw [hU]; exact h2, kn_moved hW C.2.1⟩⟩ rfl hn h1.1 hst (by show 2 * 0 + _ ≤ 8; omega) hd ⟨Nat.zero_le _, Nat.zero_le _⟩
theorem ww_calli {post : Int32 → Sg → Prop} {a : Array Value} {rest : List Value} (hr : CallX K G nL σ L pc st rest (va_Qi post (fun σ' t => wd G σ' t.heap) (wo G) a)) (kk : ∀ (r : Int32) (σ' : Sg), post r σ' → WW K G nL Q σ' L (pc + 3) (.int r :: rest)) : WW K G nL Q σ L pc st := fun ls H locs h1 h2 h3 =>
  va_calli (hr ls H locs h1 h2 h3) h3 (fun _ _ q => q) (fun _ q => q) (fun r σ' t H1 locs1 ht _ hp hB _ _ hS => kk r σ' hp ls H1 locs1 h1 (by rw [← ht]; exact hB) hS)
theorem ww_calll {post : Int64 → Sg → Prop} {a : Array Value} {rest : List Value} (hr : CallX K G nL σ L pc st rest (va_Ql post (fun σ' t => wd G σ' t.heap) (wo G) a)) (kk : ∀ (r : Int64) (σ' : Sg), post r σ' → WW K G nL Q σ' L (pc + 3) (.long r :: rest)) : WW K G nL Q σ L pc st := fun ls H locs h1 h2 h3 =>
  va_calll (hr ls H locs h1 h2 h3) h3 (fun _ _ q => q) (fun _ q => q) (fun r σ' t H1 locs1 ht _ hp hB _ _ hS => kk r σ' hp ls H1 locs1 h1 (by rw [← ht]; exact hB) hS)
theorem ww_callv {post : Sg → Prop} {a : Array Value} {rest : List Value} (hr : CallX K G nL σ L pc st rest (va_Qv post (fun σ' t => wd G σ' t.heap) (wo G) a)) (kk : ∀ (σ' : Sg), post σ' → WW K G nL Q σ' L (pc + 3) rest) : WW K G nL Q σ L pc st := fun ls H locs h1 h2 h3 =>
  va_callv (hr ls H locs h1 h2 h3) h3 (fun _ _ q => q) (fun _ q => q) (fun σ' t H1 locs1 ht _ hp hB _ _ hS => kk σ' hp ls H1 locs1 h1 (by rw [← ht]; exact hB) hS)
theorem ww_callq {post : Option Nat → Sg → Prop} {a : Array Value} {rest : List Value} (hr : CallX K G nL σ L pc st rest (va_Qq post (fun σ' t => wd G σ' t.heap) (wo G) a)) (kk : ∀ (r : Option Nat) (σ' : Sg), post r σ' → WW K G nL Q σ' L (pc + 3) (va_rf r :: rest)) : WW K G nL Q σ L pc st := fun ls H locs h1 h2 h3 =>
  va_callq (hr ls H locs h1 h2 h3) h3 (fun _ _ q => q) (fun _ q => q) (fun r σ' t H1 locs1 ht _ hp hB _ _ hS => kk r σ' hp ls H1 locs1 h1 (by rw [← ht]; exact hB) hS)
end LZ
end
section
def mx9 (x y : Int32) : Int32 := if x < y then y else x
def mn9 (x y : Int32) : Int32 := if y < x then y else x
theorem ninc {x y : Int32} {j : Nat} (hx : x = nI j) (e : y = x + Int32.ofInt 1) : y = nI (j + 1) := by
  rw [e, hx]
  exact nI_1 j
theorem dm19 {p i : Nat} (hp : p < 8) (hi : i < 14) : 14 * p + i < dom 19 := by
  show _ < 112
  omega
section LF
variable {K : Kx} {G : Gx} {cc : ByteArray} {nL : Nat} {own : String} {Ts : List Cond} {rm : Room} {ret : Option FieldType} {Q : State → Prop} {σ : Sg} {L : List (Nat × Value)} {pc : Nat} {st : List Value}
theorem ww_calliF {f : Int32} {g : Sg} {a : Array Value} {rest : List Value} (hr : CallX K G nL σ L pc st rest (va_Qi (fun r σ' => r = f ∧ σ' = g) (fun σ' t => wd G σ' t.heap) (wo G) a)) (kk : WW K G nL Q g L (pc + 3) (.int f :: rest)) : WW K G nL Q σ L pc st := ww_calli hr (fun r σ' h => by rw [h.1, h.2]; exact kk)
theorem ww_calllF {f : Int64} {g : Sg} {a : Array Value} {rest : List Value} (hr : CallX K G nL σ L pc st rest (va_Ql (fun r σ' => r = f ∧ σ' = g) (fun σ' t => wd G σ' t.heap) (wo G) a)) (kk : WW K G nL Q g L (pc + 3) (.long f :: rest)) : WW K G nL Q σ L pc st := ww_calll hr (fun r σ' h => by rw [h.1, h.2]; exact kk)
theorem ww_callvF {g : Sg} {a : Array Value} {rest : List Value} (hr : CallX K G nL σ L pc st rest (va_Qv (fun σ' => σ' = g) (fun σ' t => wd G σ' t.heap) (wo G) a)) (kk : WW K G nL Q g L (pc + 3) rest) : WW K G nL Q σ L pc st := ww_callv hr (fun σ' h => by rw [h]; exact kk)
theorem ww_callqF {f : Option Nat} {g : Sg} {a : Array Value} {rest : List Value} (hr : CallX K G nL σ L pc st rest (va_Qq (fun r σ' => r = f ∧ σ' = g) (fun σ' t => wd G σ' t.heap) (wo G) a)) (kk : WW K G nL Q g L (pc + 3) (va_rf f :: rest)) : WW K G nL Q σ L pc st := ww_callq hr (fun r σ' h => by rw [h.1, h.2]; exact kk)
theorem cx_N {y : MethodName} {ws ws' : List Cond} {bytes : ByteArray} {maxL n : Nat} {rt : Option FieldType} {rmc : Room} {As rest : List Value} {Qc : Array Value → State → Outcome → State → Prop}
    (C : CX K G cc nL RX3 Ts rm ret) (hM : Met (kL K) y ws rmc (va_Pc As (wu G σ)) Qc 0 0 (wo G)) (hG : GoodIn Ts ws) (hw : ws = Cond.code y bytes maxL rt :: ws') (hrc : rmc.cells = 0 ∧ rmc.slots = 0)
    (hd4 : y.cls ≠ "java/lang/invoke/MethodHandle" ∧ y.cls ≠ "java/lang/invoke/VarHandle" ∧ (parseMethodDescriptor y.desc).map (fun d => d.parameters.length) = some n) (hR : rmc.frames + 1 ≤ rm.frames ∧ 8 + (maxL + 11) + rmc.locals ≤ rm.locals)
    (hn : As.length = n) (hst : st = As.reverse ++ rest) (hcat : (rest.map fun v => v.category).sum ≤ 8) (hd : decode cc pc = .ok (.invokestatic 83, 3)) (hy : y = yX5_greatestDivisor) (hini : Cond.initialized y.cls ∈ Ts) (hs : Cond.static y ∈ Ts) :
    CallX K G nL σ L pc st rest (Qc As.toArray) := fun ls H locs h1 h2 h3 =>
  va_runSN (host := "PolyCuts") (n := n) (As := As) (rest := rest) C.1 hM ⟨va_cnB n C.ht hG hw hrc.1 hrc.2 (by rw [hy]; exact C.2.1.2) (C.ht _ hini) hd4 (by rw [C.2.2.2.1]; exact hR), C.ht _ hs, trivial⟩ ⟨wu_blind, fun U hU hW => ⟨rfl, by rw [hU]; exact h2, kn_moved hW C.2.1⟩⟩ rfl hn h1.1 hst (by show 2 * 0 + _ ≤ 8; omega) hd ⟨Nat.zero_le _, Nat.zero_le _⟩
theorem ww_mmax {x y : Int32} {index : Nat} (C : CX K G cc nL own Ts rm ret) (h1 : Cond.methodLink own index Lib.Math.max.name ∈ Ts) (h2 : Cond.static Lib.Math.max.name ∈ Ts) (h3 : Cond.initialized "java/lang/Math" ∈ Ts) (h4 : Cond.code Lib.Math.max.name Lib.Math.max.code 2 (some .int) ∈ Ts) (hf : 1 ≤ rm.frames) (hlo : (st.map fun v => v.category).sum + 13 ≤ rm.locals) (hd : decode cc pc = .ok (.invokestatic index, 3)) (kk : WW K G nL Q σ L (pc + 3) (.int (mx9 x y) :: st)) : WW K G nL Q σ L pc (.int y :: .int x :: st) := fun ls H locs q1 q2 q3 =>
  va_mmax C.hx C.hb (by rw [q1.1]; exact C.1.2.2.1) C.ho (C.ht _ h1) (C.ht _ h2) (C.ht _ h3) (C.ht _ h4) (by rw [C.2.2.2.1]; exact hf) (by rw [C.2.2.2.1]; exact hlo) (Nat.zero_le _) (Nat.zero_le _) hd (kk ls H locs q1 q2 q3)
theorem ww_mmin {x y : Int32} {index : Nat} (C : CX K G cc nL own Ts rm ret) (h1 : Cond.methodLink own index Lib.Math.min.name ∈ Ts) (h2 : Cond.static Lib.Math.min.name ∈ Ts) (h3 : Cond.initialized "java/lang/Math" ∈ Ts) (h4 : Cond.code Lib.Math.min.name Lib.Math.min.code 2 (some .int) ∈ Ts) (hf : 1 ≤ rm.frames) (hlo : (st.map fun v => v.category).sum + 13 ≤ rm.locals) (hd : decode cc pc = .ok (.invokestatic index, 3)) (kk : WW K G nL Q σ L (pc + 3) (.int (mn9 x y) :: st)) : WW K G nL Q σ L pc (.int y :: .int x :: st) := fun ls H locs q1 q2 q3 =>
  va_mmin C.hx C.hb (by rw [q1.1]; exact C.1.2.2.1) C.ho (C.ht _ h1) (C.ht _ h2) (C.ht _ h3) (C.ht _ h4) (by rw [C.2.2.2.1]; exact hf) (by rw [C.2.2.2.1]; exact hlo) (Nat.zero_le _) (Nat.zero_le _) hd (kk ls H locs q1 q2 q3)
theorem ww_mabs {x : Int32} {index : Nat} (C : CX K G cc nL own Ts rm ret) (h1 : Cond.methodLink own index Lib.Math.abs.name ∈ Ts) (h2 : Cond.static Lib.Math.abs.name ∈ Ts) (h3 : Cond.initialized "java/lang/Math" ∈ Ts) (h4 : Cond.code Lib.Math.abs.name Lib.Math.abs.code 1 (some .int) ∈ Ts) (hf : 1 ≤ rm.frames) (hlo : (st.map fun v => v.category).sum + 13 ≤ rm.locals) (hd : decode cc pc = .ok (.invokestatic index, 3)) (kk : WW K G nL Q σ L (pc + 3) (.int (if 0 ≤ x then x else 0 - x) :: st)) : WW K G nL Q σ L pc (.int x :: st) := fun ls H locs q1 q2 q3 =>
  va_mabs C.hx C.hb (by rw [q1.1]; exact C.1.2.2.1) C.ho (C.ht _ h1) (C.ht _ h2) (C.ht _ h3) (C.ht _ h4) (by rw [C.2.2.2.1]; exact hf) (by rw [C.2.2.2.1]; exact hlo) (Nat.zero_le _) (Nat.zero_le _) hd (kk ls H locs q1 q2 q3)
theorem ww_mabsl {x : Int64} {index : Nat} (C : CX K G cc nL own Ts rm ret) (h1 : Cond.methodLink own index Lib.MathLoose.abs_long.x ∈ Ts) (h2 : Cond.static Lib.MathLoose.abs_long.x ∈ Ts) (h3 : Cond.initialized "java/lang/Math" ∈ Ts) (h4 : Cond.code Lib.MathLoose.abs_long.x Lib.MathLoose.abs_long.code 2 (some .long) ∈ Ts) (hf : 1 ≤ rm.frames) (hlo : (st.map fun v => v.category).sum + 13 ≤ rm.locals) (hd : decode cc pc = .ok (.invokestatic index, 3)) (kk : WW K G nL Q σ L (pc + 3) (.long (if 0 < x then x else -x) :: st)) : WW K G nL Q σ L pc (.long x :: st) := fun ls H locs q1 q2 q3 =>
  va_mabs_long C.hx C.hb (by rw [q1.1]; exact C.1.2.2.1) C.ho (C.ht _ h1) (C.ht _ h2) (C.ht _ h3) (C.ht _ h4) (by rw [C.2.2.2.1]; exact hf) (by rw [C.2.2.2.1]; exact hlo) (Nat.zero_le _) (Nat.zero_le _) hd (kk ls H locs q1 q2 q3)
/-- the whole memory as one list of cells -/
def keys9 : List (Nat × Nat) := (List.range 48).flatMap (fun k => (List.range (dom k)).map (fun i => (k, i)))
theorem keys9_nd : keys9.Nodup := by decide +kernel
def allw (G : Gx) (σ : Sg) : va_W := keys9.map (fun q => (gA G q.1 q.2, gcell G σ q.1 q.2))
theorem dom_lt {k i : Nat} (h : i < dom k) : k < 48 := by
  rcases Nat.lt_or_ge k 48 with q | q
  · exact q
  · exfalso
    have e : dom k = 0 := by
      obtain ⟨z, rfl⟩ : ∃ z, k = z + 48 := ⟨k - 48, by omega⟩
      rfl
    rw [e] at h
    omega
theorem keys9_in {k i : Nat} (h : i < dom k) : (k, i) ∈ keys9 := List.mem_flatMap.mpr ⟨k, List.mem_range.mpr (dom_lt h), List.mem_map.mpr ⟨i, List.mem_range.mpr h, rfl⟩⟩
theorem keys9_of {x : Nat × Nat} (h : x ∈ keys9) : x.2 < dom x.1 := by
  obtain ⟨k, -, h2⟩ := List.mem_flatMap.mp h
  obtain ⟨i, h3, h4⟩ := List.mem_map.mp h2
  rw [← h4]
  exact List.mem_range.mp h3
theorem allw_at {k i : Nat} (h : i < dom k) : ∃ q : Nat, keys9[q]? = some (k, i) ∧ (allw G σ)[q]? = some (gA G k i, gcell G σ k i) := by
  obtain ⟨q, hq⟩ := List.getElem?_of_mem (keys9_in h)
  exact ⟨q, hq, by rw [allw, List.getElem?_map, hq]; rfl⟩
theorem allw_of {q : Nat} {x : Nat × va_E} (h : (allw G σ)[q]? = some x) : ∃ k i, keys9[q]? = some (k, i) ∧ i < dom k ∧ x = (gA G k i, gcell G σ k i) := by
  rw [allw, List.getElem?_map] at h
  cases hk : keys9[q]? with
  | none => rw [hk] at h; cases h
  | some y =>
    rw [hk] at h
    exact ⟨y.1, y.2, rfl, keys9_of (List.mem_of_getElem? hk), (Option.some.inj h).symm⟩
theorem allw_P {H : Heap} (h : wd G σ H) : va_P (gD G) vwCl (allw G σ) H := by
  intro q x hx
  obtain ⟨k, i, -, hi, rfl⟩ := allw_of hx
  exact h k i hi
theorem keys9_inj {i j : Nat} {x : Nat × Nat} (h1 : keys9[i]? = some x) (h2 : keys9[j]? = some x) : i = j := (List.getElem?_inj (List.getElem?_eq_some_iff.mp h1).1 keys9_nd).mp (h1.trans h2.symm)
theorem allw_D (ha : wa G) : va_D (wo G) (allw G σ) := by
  refine ⟨fun i j x y hx hy hxy => ?_, fun q x hx => ?_⟩
  · obtain ⟨k1, i1, e1, d1, rfl⟩ := allw_of hx
    obtain ⟨k2, i2, e2, d2, rfl⟩ := allw_of hy
    obtain ⟨rfl, rfl⟩ := ha k1 i1 k2 i2 d1 d2 hxy
    exact keys9_inj e1 e2
  · obtain ⟨k1, i1, -, d1, rfl⟩ := allw_of hx
    exact ⟨k1, i1, d1, rfl⟩
def sgc (σ : Sg) (k i0 i1 n : Nat) : Sg := fun k' i' f => if k' = k ∧ i' = i1 ∧ f < n then σ k i0 f else σ k' i' f
/-- System.arraycopy of the first n ints of one row of a kind to another -/
theorem ww_copy {k i0 i1 n N index : Nat} {z : Int32} (C : CX K G cc nL own Ts rm ret) (hl : lay k = .inr (0, N, none)) (hi0 : i0 < dom k) (hi1 : i1 < dom k) (hz : z = nI n) (hn : n ≤ N) (hN : N < 2 ^ 31) (h1 : Cond.methodLink own index arraycopyName ∈ Ts) (h2 : Cond.native arraycopyName ∈ Ts) (h3 : Cond.static arraycopyName ∈ Ts) (h4 : Cond.initialized "java/lang/System" ∈ Ts) (hf : 1 ≤ rm.frames) (hlo : (st.map fun v => v.category).sum + (nativeFrameWords "java/lang/System" "arraycopy" 5 + 11) ≤ rm.locals) (hd : decode cc pc = .ok (.invokestatic index, 3)) (kk : WW K G nL Q (sgc σ k i0 i1 n) L (pc + 3) st) : WW K G nL Q σ L pc (.int z :: .int 0 :: .ref (gA G k i1) :: .int 0 :: .ref (gA G k i0) :: st) := by
  intro ls H locs q1 q2 q3
  subst hz
  have hcl : (nI n).toNatClampNeg = n := nI_clamp (by omega)
  have h00 : (0 : Int32).toNatClampNeg = 0 := rfl
  obtain ⟨p0, k0, e0⟩ := allw_at (G := G) (σ := σ) hi0
  obtain ⟨p1, k1, e1⟩ := allw_at (G := G) (σ := σ) hi1
  rw [gc_a hl] at e0 e1
  refine va_copyi C.hx C.hb (by rw [q1.1]; exact C.1.2.2.1) C.ho (C.ht _ h1) (C.ht _ h2) (C.ht _ h3) (C.ht _ h4) C.2.1.1 (allw_P q2) (allw_D C.2.2.1) q3 p0 p1 0 0 e0 e1 rfl rfl rfl (by decide) (by decide) (nI_pos (by omega)) (by rw [h00, hcl]; omega) (by rw [h00, hcl]; omega) (fun i _ => rfl) (by rw [C.2.2.2.1]; exact hf) (by rw [C.2.2.2.1]; exact hlo) hd (fun H1 locs1 hP _ hS => ?_)
  refine kk ls H1 locs1 q1 ?_ hS
  intro k' i' hi'
  obtain ⟨p2, k2, e2⟩ := allw_at (G := G) (σ := σ) hi'
  by_cases hq : p2 = p1
  · subst hq
    have e9 := k1.symm.trans k2
    injection e9 with e9
    injection e9 with e8 e9
    subst e8
    subst e9
    have hx := hP p2 _ (by rw [List.getElem?_set_self (List.getElem?_eq_some_iff.mp e1).1])
    rw [gc_a hl]
    have ef : sgc σ k i0 i1 n k i1 = va_cpy (σ k i0) (σ k i1) (0 : Int32).toNatClampNeg (0 : Int32).toNatClampNeg (nI n).toNatClampNeg := by
      funext f
      rw [h00, hcl]
      by_cases hf9 : f < n
      · simp [sgc, va_cpy, hf9]
      · simp [sgc, va_cpy, hf9]
    rw [ef]
    exact hx
  · have hx := hP p2 (gA G k' i', gcell G σ k' i') (by rw [List.getElem?_set_ne (Ne.symm hq)]; exact e2)
    rw [gcell_other (σ := σ) (fun f => ?_)]
    · exact hx
    · refine if_neg (fun h9 => hq ?_)
      obtain ⟨rfl, rfl, -⟩ := h9
      exact keys9_inj k2 k1
end LF
section LS
variable {K : Kx} {G : Gx} {nL : Nat} {Q : State → Prop} {σ : Sg} {L L' : List (Nat × Value)} {pc : Nat} {st : List Value}
theorem ww_sub (ps : List Nat) (h : lv_pick L ps = L') (k : WW K G nL Q σ L' pc st) : WW K G nL Q σ L pc st := fun ls H locs h1 h2 h3 => k ls H locs (lv_sub h1 ps h) h2 h3
end LS
end
section
/-! numbers: the small functions that both sides compute -/
def bI (b : Bool) : Int32 := if b then 1 else 0
theorem bI_0 {b : Bool} : bI b = 0 ↔ b = false := by cases b <;> decide
theorem bI_1 {b : Bool} : ¬ bI b = 0 ↔ b = true := by cases b <;> decide
theorem bI_n {b : Bool} : narrow .boolean (.int (bI b)) = .int (bI b) := by cases b <;> rfl
def af (n i : Nat) : Nat := if i + 1 < n then i + 1 else 0
def bf (n i : Nat) : Nat := if 0 < i then i - 1 else n - 1
theorem af_lt {n i : Nat} (h : 0 < n) : af n i < n := by unfold af; split <;> omega
theorem bf_lt {n i : Nat} (h : i < n) : bf n i < n := by unfold bf; split <;> omega
/-- above 0: left -/
def tn (x y : Nat → Int32) (a b c : Nat) : Int32 := (x b - x a) * (y c - y a) - (y b - y a) * (x c - x a)
def adv (x y : Nat → Int32) (a b c : Nat) : Int32 := (x b - x a) * (x c - x b) + (y b - y a) * (y c - y b)
def sq9 (x y : Nat → Int32) (a b : Nat) : Int32 := (x b - x a) * (x b - x a) + (y b - y a) * (y b - y a)
def rgm (v : Nat → Int32) (a b c d : Nat) : Bool := decide (mn9 (v c) (v d) ≤ mx9 (v a) (v b)) && decide (mn9 (v a) (v b) ≤ mx9 (v c) (v d))
def strd (x y : Nat → Int32) (a b c d : Nat) : Bool := decide ((tn x y a b c).toInt64 * (tn x y a b d).toInt64 ≤ 0)
def meetC (x y : Nat → Int32) (a b c d : Nat) : Bool := rgm x a b c d && rgm y a b c d && strd x y a b c d && strd x y c d a b
theorem nlt14 {a b : Nat} (h : a < b) (hb : b ≤ 14) : a < 14 := by omega
theorem i32_nlt {x y : Int32} : ¬ x < y ↔ y ≤ x := Int32.not_lt
theorem i32_nle {x y : Int32} : ¬ x ≤ y ↔ y < x := Int32.not_le
theorem cv_le {x y : Int32} {a b : Nat} (hx : x = nI a) (hy : y = nI b) (ha : a < 2 ^ 31) (hb : b < 2 ^ 31) : x ≤ y ↔ a ≤ b := by subst hx; subst hy; exact nI_leI ha hb
theorem cv_lt {x y : Int32} {a b : Nat} (hx : x = nI a) (hy : y = nI b) (ha : a < 2 ^ 31) (hb : b < 2 ^ 31) : x < y ↔ a < b := by subst hx; subst hy; exact nI_ltI ha hb
theorem cv_eq {x y : Int32} {a b : Nat} (hx : x = nI a) (hy : y = nI b) (ha : a < 2 ^ 31) (hb : b < 2 ^ 31) : x = y ↔ a = b := by subst hx; subst hy; exact nI_eq ha hb
/-- the first place from a on, below n -/
def fnd (p : Nat → Bool) (a : Nat) : Nat → Option Nat
  | 0 => none
  | d + 1 => if p a then some a else fnd p (a + 1) d
def fndN (p : Nat → Bool) (a n : Nat) : Option Nat := fnd p a (n - a)
theorem fndN_end {p : Nat → Bool} {a n : Nat} (h : n ≤ a) : fndN p a n = none := by rw [fndN, Nat.sub_eq_zero_of_le h]; rfl
theorem fndN_t {p : Nat → Bool} {a n : Nat} (h : a < n) (hp : p a = true) : fndN p a n = some a := by
  rw [fndN, show n - a = (n - (a + 1)) + 1 by omega, fnd, hp]; rfl
theorem fndN_f {p : Nat → Bool} {a n : Nat} (h : a < n) (hp : p a = false) : fndN p a n = fndN p (a + 1) n := by
  rw [fndN, show n - a = (n - (a + 1)) + 1 by omega, fnd, hp]; rfl
theorem lt31 {a : Nat} (h : a < 14) : a < 2 ^ 31 := by omega
end
section
section LB
variable {K : Kx} {G : Gx} {cc : ByteArray} {nL : Nat} {own : String} {Ts : List Cond} {rm : Room} {ret : Option FieldType} {Q : State → Prop} {σ : Sg} {L : List (Nat × Value)} {pc : Nat} {st : List Value}
theorem ww_b_eq {x : Int32} (C : CX K G cc nL own Ts rm ret) (hd : decode cc pc = .ok (.ifCond .eq 7, 3)) (h1 : decode cc (pc + 3) = .ok (.iconst 1, 1)) (h2 : decode cc (pc + 4) = .ok (.goto 4, 3)) (h3 : decode cc (pc + 7) = .ok (.iconst 0, 1)) (k : WW K G nL Q σ L (pc + 8) (.int (bI (decide (¬ x = 0))) :: st)) : WW K G nL Q σ L pc (.int x :: st) := by
  refine ww_if_eq (pc + 7) C hd (by omega) (fun h => ?_) (fun h => ?_)
  · refine ww_iconst (v := 0) C h3 rfl ?_
    rw [decide_eq_false (p := ¬ x = 0) (fun q => q h)] at k
    exact k
  · refine ww_iconst (v := 1) C h1 rfl ?_
    refine ww_goto (pc + 8) C h2 (by omega) ?_
    rw [decide_eq_true (p := ¬ x = 0) h] at k
    exact k
theorem ww_b_ne {x : Int32} (C : CX K G cc nL own Ts rm ret) (hd : decode cc pc = .ok (.ifCond .ne 7, 3)) (h1 : decode cc (pc + 3) = .ok (.iconst 1, 1)) (h2 : decode cc (pc + 4) = .ok (.goto 4, 3)) (h3 : decode cc (pc + 7) = .ok (.iconst 0, 1)) (k : WW K G nL Q σ L (pc + 8) (.int (bI (decide (x = 0))) :: st)) : WW K G nL Q σ L pc (.int x :: st) := by
  refine ww_if_ne (pc + 7) C hd (by omega) (fun h => ?_) (fun h => ?_)
  · refine ww_iconst (v := 0) C h3 rfl ?_
    rw [decide_eq_false (p := x = 0) h] at k
    exact k
  · refine ww_iconst (v := 1) C h1 rfl ?_
    refine ww_goto (pc + 8) C h2 (by omega) ?_
    rw [decide_eq_true (p := x = 0) h] at k
    exact k
theorem ww_b_lt {x : Int32} (C : CX K G cc nL own Ts rm ret) (hd : decode cc pc = .ok (.ifCond .lt 7, 3)) (h1 : decode cc (pc + 3) = .ok (.iconst 1, 1)) (h2 : decode cc (pc + 4) = .ok (.goto 4, 3)) (h3 : decode cc (pc + 7) = .ok (.iconst 0, 1)) (k : WW K G nL Q σ L (pc + 8) (.int (bI (decide (0 ≤ x))) :: st)) : WW K G nL Q σ L pc (.int x :: st) := by
  refine ww_if_lt (pc + 7) C hd (by omega) (fun h => ?_) (fun h => ?_)
  · refine ww_iconst (v := 0) C h3 rfl ?_
    rw [decide_eq_false (p := 0 ≤ x) (i32_nle.mpr h)] at k
    exact k
  · refine ww_iconst (v := 1) C h1 rfl ?_
    refine ww_goto (pc + 8) C h2 (by omega) ?_
    rw [decide_eq_true (p := 0 ≤ x) (i32_nlt.mp h)] at k
    exact k
theorem ww_b_ge {x : Int32} (C : CX K G cc nL own Ts rm ret) (hd : decode cc pc = .ok (.ifCond .ge 7, 3)) (h1 : decode cc (pc + 3) = .ok (.iconst 1, 1)) (h2 : decode cc (pc + 4) = .ok (.goto 4, 3)) (h3 : decode cc (pc + 7) = .ok (.iconst 0, 1)) (k : WW K G nL Q σ L (pc + 8) (.int (bI (decide (x < 0))) :: st)) : WW K G nL Q σ L pc (.int x :: st) := by
  refine ww_if_ge (pc + 7) C hd (by omega) (fun h => ?_) (fun h => ?_)
  · refine ww_iconst (v := 0) C h3 rfl ?_
    rw [decide_eq_false (p := x < 0) (i32_nlt.mpr h)] at k
    exact k
  · refine ww_iconst (v := 1) C h1 rfl ?_
    refine ww_goto (pc + 8) C h2 (by omega) ?_
    rw [decide_eq_true (p := x < 0) (i32_nle.mp h)] at k
    exact k
theorem ww_b_gt {x : Int32} (C : CX K G cc nL own Ts rm ret) (hd : decode cc pc = .ok (.ifCond .gt 7, 3)) (h1 : decode cc (pc + 3) = .ok (.iconst 1, 1)) (h2 : decode cc (pc + 4) = .ok (.goto 4, 3)) (h3 : decode cc (pc + 7) = .ok (.iconst 0, 1)) (k : WW K G nL Q σ L (pc + 8) (.int (bI (decide (x ≤ 0))) :: st)) : WW K G nL Q σ L pc (.int x :: st) := by
  refine ww_if_gt (pc + 7) C hd (by omega) (fun h => ?_) (fun h => ?_)
  · refine ww_iconst (v := 0) C h3 rfl ?_
    rw [decide_eq_false (p := x ≤ 0) (i32_nle.mpr h)] at k
    exact k
  · refine ww_iconst (v := 1) C h1 rfl ?_
    refine ww_goto (pc + 8) C h2 (by omega) ?_
    rw [decide_eq_true (p := x ≤ 0) (i32_nlt.mp h)] at k
    exact k
theorem ww_b_le {x : Int32} (C : CX K G cc nL own Ts rm ret) (hd : decode cc pc = .ok (.ifCond .le 7, 3)) (h1 : decode cc (pc + 3) = .ok (.iconst 1, 1)) (h2 : decode cc (pc + 4) = .ok (.goto 4, 3)) (h3 : decode cc (pc + 7) = .ok (.iconst 0, 1)) (k : WW K G nL Q σ L (pc + 8) (.int (bI (decide (0 < x))) :: st)) : WW K G nL Q σ L pc (.int x :: st) := by
  refine ww_if_le (pc + 7) C hd (by omega) (fun h => ?_) (fun h => ?_)
  · refine ww_iconst (v := 0) C h3 rfl ?_
    rw [decide_eq_false (p := 0 < x) (i32_nlt.mpr h)] at k
    exact k
  · refine ww_iconst (v := 1) C h1 rfl ?_
    refine ww_goto (pc + 8) C h2 (by omega) ?_
    rw [decide_eq_true (p := 0 < x) (i32_nle.mp h)] at k
    exact k
theorem ww_bc_eq {x y : Int32} (C : CX K G cc nL own Ts rm ret) (hd : decode cc pc = .ok (.if_icmp .eq 7, 3)) (h1 : decode cc (pc + 3) = .ok (.iconst 1, 1)) (h2 : decode cc (pc + 4) = .ok (.goto 4, 3)) (h3 : decode cc (pc + 7) = .ok (.iconst 0, 1)) (k : WW K G nL Q σ L (pc + 8) (.int (bI (decide (¬ x = y))) :: st)) : WW K G nL Q σ L pc (.int y :: .int x :: st) := by
  refine ww_icmp_eq (pc + 7) C hd (by omega) (fun h => ?_) (fun h => ?_)
  · refine ww_iconst (v := 0) C h3 rfl ?_
    rw [decide_eq_false (p := ¬ x = y) (fun q => q h)] at k
    exact k
  · refine ww_iconst (v := 1) C h1 rfl ?_
    refine ww_goto (pc + 8) C h2 (by omega) ?_
    rw [decide_eq_true (p := ¬ x = y) h] at k
    exact k
theorem ww_bc_ne {x y : Int32} (C : CX K G cc nL own Ts rm ret) (hd : decode cc pc = .ok (.if_icmp .ne 7, 3)) (h1 : decode cc (pc + 3) = .ok (.iconst 1, 1)) (h2 : decode cc (pc + 4) = .ok (.goto 4, 3)) (h3 : decode cc (pc + 7) = .ok (.iconst 0, 1)) (k : WW K G nL Q σ L (pc + 8) (.int (bI (decide (x = y))) :: st)) : WW K G nL Q σ L pc (.int y :: .int x :: st) := by
  refine ww_icmp_ne (pc + 7) C hd (by omega) (fun h => ?_) (fun h => ?_)
  · refine ww_iconst (v := 0) C h3 rfl ?_
    rw [decide_eq_false (p := x = y) h] at k
    exact k
  · refine ww_iconst (v := 1) C h1 rfl ?_
    refine ww_goto (pc + 8) C h2 (by omega) ?_
    rw [decide_eq_true (p := x = y) h] at k
    exact k
theorem ww_bc_lt {x y : Int32} (C : CX K G cc nL own Ts rm ret) (hd : decode cc pc = .ok (.if_icmp .lt 7, 3)) (h1 : decode cc (pc + 3) = .ok (.iconst 1, 1)) (h2 : decode cc (pc + 4) = .ok (.goto 4, 3)) (h3 : decode cc (pc + 7) = .ok (.iconst 0, 1)) (k : WW K G nL Q σ L (pc + 8) (.int (bI (decide (y ≤ x))) :: st)) : WW K G nL Q σ L pc (.int y :: .int x :: st) := by
  refine ww_icmp_lt (pc + 7) C hd (by omega) (fun h => ?_) (fun h => ?_)
  · refine ww_iconst (v := 0) C h3 rfl ?_
    rw [decide_eq_false (p := y ≤ x) (i32_nle.mpr h)] at k
    exact k
  · refine ww_iconst (v := 1) C h1 rfl ?_
    refine ww_goto (pc + 8) C h2 (by omega) ?_
    rw [decide_eq_true (p := y ≤ x) (i32_nlt.mp h)] at k
    exact k
theorem ww_bc_ge {x y : Int32} (C : CX K G cc nL own Ts rm ret) (hd : decode cc pc = .ok (.if_icmp .ge 7, 3)) (h1 : decode cc (pc + 3) = .ok (.iconst 1, 1)) (h2 : decode cc (pc + 4) = .ok (.goto 4, 3)) (h3 : decode cc (pc + 7) = .ok (.iconst 0, 1)) (k : WW K G nL Q σ L (pc + 8) (.int (bI (decide (x < y))) :: st)) : WW K G nL Q σ L pc (.int y :: .int x :: st) := by
  refine ww_icmp_ge (pc + 7) C hd (by omega) (fun h => ?_) (fun h => ?_)
  · refine ww_iconst (v := 0) C h3 rfl ?_
    rw [decide_eq_false (p := x < y) (i32_nlt.mpr h)] at k
    exact k
  · refine ww_iconst (v := 1) C h1 rfl ?_
    refine ww_goto (pc + 8) C h2 (by omega) ?_
    rw [decide_eq_true (p := x < y) (i32_nle.mp h)] at k
    exact k
theorem ww_bc_gt {x y : Int32} (C : CX K G cc nL own Ts rm ret) (hd : decode cc pc = .ok (.if_icmp .gt 7, 3)) (h1 : decode cc (pc + 3) = .ok (.iconst 1, 1)) (h2 : decode cc (pc + 4) = .ok (.goto 4, 3)) (h3 : decode cc (pc + 7) = .ok (.iconst 0, 1)) (k : WW K G nL Q σ L (pc + 8) (.int (bI (decide (x ≤ y))) :: st)) : WW K G nL Q σ L pc (.int y :: .int x :: st) := by
  refine ww_icmp_gt (pc + 7) C hd (by omega) (fun h => ?_) (fun h => ?_)
  · refine ww_iconst (v := 0) C h3 rfl ?_
    rw [decide_eq_false (p := x ≤ y) (i32_nle.mpr h)] at k
    exact k
  · refine ww_iconst (v := 1) C h1 rfl ?_
    refine ww_goto (pc + 8) C h2 (by omega) ?_
    rw [decide_eq_true (p := x ≤ y) (i32_nlt.mp h)] at k
    exact k
theorem ww_bc_le {x y : Int32} (C : CX K G cc nL own Ts rm ret) (hd : decode cc pc = .ok (.if_icmp .le 7, 3)) (h1 : decode cc (pc + 3) = .ok (.iconst 1, 1)) (h2 : decode cc (pc + 4) = .ok (.goto 4, 3)) (h3 : decode cc (pc + 7) = .ok (.iconst 0, 1)) (k : WW K G nL Q σ L (pc + 8) (.int (bI (decide (y < x))) :: st)) : WW K G nL Q σ L pc (.int y :: .int x :: st) := by
  refine ww_icmp_le (pc + 7) C hd (by omega) (fun h => ?_) (fun h => ?_)
  · refine ww_iconst (v := 0) C h3 rfl ?_
    rw [decide_eq_false (p := y < x) (i32_nlt.mpr h)] at k
    exact k
  · refine ww_iconst (v := 1) C h1 rfl ?_
    refine ww_goto (pc + 8) C h2 (by omega) ?_
    rw [decide_eq_true (p := y < x) (i32_nle.mp h)] at k
    exact k
end LB
end
section
theorem in_X1_isFull_X1 : ∀ w ∈ wsX10, w ∈ wsX1_isFull := by decide +kernel
theorem lk_X1_isFull_18 : Cond.fieldLink RX1 18 "PolyCuts$Corners" "size" "I" ∈ wsX1_isFull := by decide +kernel
theorem in_X1_has_X1 : ∀ w ∈ wsX10, w ∈ wsX1_has := by decide +kernel
theorem lk_X1_has_18 : Cond.fieldLink RX1 18 "PolyCuts$Corners" "size" "I" ∈ wsX1_has := by decide +kernel
theorem in_X1_clear_X1 : ∀ w ∈ wsX10, w ∈ wsX1_clear := by decide +kernel
theorem lk_X1_clear_18 : Cond.fieldLink RX1 18 "PolyCuts$Corners" "size" "I" ∈ wsX1_clear := by decide +kernel
theorem in_X1_append_X1 : ∀ w ∈ wsX10, w ∈ wsX1_append := by decide +kernel
theorem lk_X1_append_9 : Cond.fieldLink RX1 9 "PolyCuts$Corners" "x" "[I" ∈ wsX1_append := by decide +kernel
theorem lk_X1_append_18 : Cond.fieldLink RX1 18 "PolyCuts$Corners" "size" "I" ∈ wsX1_append := by decide +kernel
theorem lk_X1_append_15 : Cond.fieldLink RX1 15 "PolyCuts$Corners" "y" "[I" ∈ wsX1_append := by decide +kernel
theorem in_X1_copyOf_X1 : ∀ w ∈ wsX10, w ∈ wsX1_copyOf := by decide +kernel
theorem lk_X1_copyOf_18 : Cond.fieldLink RX1 18 "PolyCuts$Corners" "size" "I" ∈ wsX1_copyOf := by decide +kernel
theorem lk_X1_copyOf_9 : Cond.fieldLink RX1 9 "PolyCuts$Corners" "x" "[I" ∈ wsX1_copyOf := by decide +kernel
theorem lw_X1_copyOf_ac26 : Cond.methodLink RX1 26 arraycopyName ∈ wsX1_copyOf := by decide +kernel
theorem lw_X1_copyOf_acn : Cond.native arraycopyName ∈ wsX1_copyOf := by decide +kernel
theorem lw_X1_copyOf_acs : Cond.static arraycopyName ∈ wsX1_copyOf := by decide +kernel
theorem lw_X1_copyOf_aci : Cond.initialized "java/lang/System" ∈ wsX1_copyOf := by decide +kernel
theorem lk_X1_copyOf_15 : Cond.fieldLink RX1 15 "PolyCuts$Corners" "y" "[I" ∈ wsX1_copyOf := by decide +kernel
theorem in_X1_along_X1 : ∀ w ∈ wsX10, w ∈ wsX1_along := by decide +kernel
theorem lk_X1_along_15 : Cond.fieldLink RX1 15 "PolyCuts$Corners" "y" "[I" ∈ wsX1_along := by decide +kernel
theorem lk_X1_along_9 : Cond.fieldLink RX1 9 "PolyCuts$Corners" "x" "[I" ∈ wsX1_along := by decide +kernel
theorem in_X1_after_X1 : ∀ w ∈ wsX10, w ∈ wsX1_after := by decide +kernel
theorem lk_X1_after_18 : Cond.fieldLink RX1 18 "PolyCuts$Corners" "size" "I" ∈ wsX1_after := by decide +kernel
theorem in_X1_before_X1 : ∀ w ∈ wsX10, w ∈ wsX1_before := by decide +kernel
theorem lk_X1_before_18 : Cond.fieldLink RX1 18 "PolyCuts$Corners" "size" "I" ∈ wsX1_before := by decide +kernel
theorem in_X1_turn_X1 : ∀ w ∈ wsX10, w ∈ wsX1_turn := by decide +kernel
theorem lk_X1_turn_9 : Cond.fieldLink RX1 9 "PolyCuts$Corners" "x" "[I" ∈ wsX1_turn := by decide +kernel
theorem lk_X1_turn_15 : Cond.fieldLink RX1 15 "PolyCuts$Corners" "y" "[I" ∈ wsX1_turn := by decide +kernel
theorem in_X1_advance_X1 : ∀ w ∈ wsX10, w ∈ wsX1_advance := by decide +kernel
theorem lk_X1_advance_9 : Cond.fieldLink RX1 9 "PolyCuts$Corners" "x" "[I" ∈ wsX1_advance := by decide +kernel
theorem lk_X1_advance_15 : Cond.fieldLink RX1 15 "PolyCuts$Corners" "y" "[I" ∈ wsX1_advance := by decide +kernel
theorem in_X1_squaredLength_X1 : ∀ w ∈ wsX10, w ∈ wsX1_squaredLength := by decide +kernel
theorem lk_X1_squaredLength_9 : Cond.fieldLink RX1 9 "PolyCuts$Corners" "x" "[I" ∈ wsX1_squaredLength := by decide +kernel
theorem lk_X1_squaredLength_15 : Cond.fieldLink RX1 15 "PolyCuts$Corners" "y" "[I" ∈ wsX1_squaredLength := by decide +kernel
theorem lw_X1_rangesMeet_mmax40 : Cond.methodLink RX1 40 Lib.Math.max.name ∈ wsX1_rangesMeet := by decide +kernel
theorem lw_X1_rangesMeet_mmaxs : Cond.static Lib.Math.max.name ∈ wsX1_rangesMeet := by decide +kernel
theorem lw_X1_rangesMeet_mi : Cond.initialized "java/lang/Math" ∈ wsX1_rangesMeet := by decide +kernel
theorem lw_X1_rangesMeet_mmaxc : Cond.code Lib.Math.max.name Lib.Math.max.code 2 (some .int) ∈ wsX1_rangesMeet := by decide +kernel
theorem lw_X1_rangesMeet_mmin46 : Cond.methodLink RX1 46 Lib.Math.min.name ∈ wsX1_rangesMeet := by decide +kernel
theorem lw_X1_rangesMeet_mmins : Cond.static Lib.Math.min.name ∈ wsX1_rangesMeet := by decide +kernel
theorem lw_X1_rangesMeet_mminc : Cond.code Lib.Math.min.name Lib.Math.min.code 2 (some .int) ∈ wsX1_rangesMeet := by decide +kernel
theorem in_X1_meet_X1 : ∀ w ∈ wsX10, w ∈ wsX1_meet := by decide +kernel
theorem lk_X1_meet_9 : Cond.fieldLink RX1 9 "PolyCuts$Corners" "x" "[I" ∈ wsX1_meet := by decide +kernel
theorem lk_X1_meet_15 : Cond.fieldLink RX1 15 "PolyCuts$Corners" "y" "[I" ∈ wsX1_meet := by decide +kernel
set_option maxHeartbeats 4000000 in
set_option maxRecDepth 100000 in
theorem c_X1_isFull (l : Launch) (G : Gx) (hA : wa G) (σ : Sg) (o n : Nat) (ho : o < 9) (hs : σ 14 o 2 = nI n) (hn : n ≤ 14) : CtI l yX1_isFull wsX1_isFull (rmd 1) G [.ref (gA G 14 (o))] σ (fun r σ' => r = bI (decide (14 ≤ n)) ∧ σ' = σ) := by
  refine ct_i (maxL := 1) (ret := (some .boolean)) (by decide) rfl (Nat.le_of_ble_eq_true rfl) hA (fun K hl C => ?_)
  subst hl
  change WW K G _ _ σ [(0, .ref (gA G 14 (o)))] 0 []
  refine ww_aload_n C dX1_isFull_0 rfl 0 rfl ?_
  refine ww_gi (k := 14) (f := 2) C rfl rfl ho rfl in_X1_isFull_X1 (by decide) lk_X1_isFull_18 dX1_isFull_1 ?_
  refine ww_bipush (v := 14) C dX1_isFull_4 (by decide) ?_
  refine ww_icmp_lt 13 C dX1_isFull_6 (by decide) (fun h6 => ?_) (fun h6 => ?_)
  · have g6 : n < 14 := (cv_lt (a := n) (b := 14) hs (by decide) (by omega) (by omega)).mp h6
    rw [hs] at h6; have h9 : n < 14 := (nI_ltI (b := 14) (by omega) (by decide)).mp h6
    refine ww_iconst (v := 0) C dX1_isFull_13 rfl ?_
    refine ww_zret C dX1_isFull_14 rfl ?_
    exact ⟨by rw [bI]; simp; omega, rfl⟩
  · have g6 : ¬ n < 14 := fun q => h6 ((cv_lt (a := n) (b := 14) hs (by decide) (by omega) (by omega)).mpr q)
    rw [hs] at h6; have h9 : ¬ n < 14 := fun q => h6 ((nI_ltI (b := 14) (by omega) (by decide)).mpr q)
    refine ww_iconst (v := 1) C dX1_isFull_9 rfl ?_
    refine ww_goto 14 C dX1_isFull_10 (by decide) ?_
    refine ww_zret C dX1_isFull_14 rfl ?_
    exact ⟨by rw [bI]; simp; omega, rfl⟩
set_option maxHeartbeats 4000000 in
set_option maxRecDepth 100000 in
theorem c_X1_has (l : Launch) (G : Gx) (hA : wa G) (σ : Sg) (o n : Nat) (ho : o < 9) (hs : σ 14 o 2 = nI n) (hn : n ≤ 14) (x : Int32) : CtI l yX1_has wsX1_has (rmd 1) G [.ref (gA G 14 (o)), .int (x)] σ (fun r σ' => r = bI (decide (0 ≤ x ∧ x < nI n)) ∧ σ' = σ) := by
  refine ct_i (maxL := 2) (ret := (some .boolean)) (by decide) rfl (Nat.le_of_ble_eq_true rfl) hA (fun K hl C => ?_)
  subst hl
  change WW K G _ _ σ [(0, .ref (gA G 14 (o))), (1, .int (x))] 0 []
  refine ww_iload_n C dX1_has_0 rfl 1 rfl ?_
  refine ww_if_lt 16 C dX1_has_1 (by decide) (fun h1 => ?_) (fun h1 => ?_)
  · refine ww_iconst (v := 0) C dX1_has_16 rfl ?_
    refine ww_zret C dX1_has_17 rfl ?_
    exact ⟨by rw [decide_eq_false (fun q => absurd h1 (Int32.not_lt.mpr q.1))]; rfl, rfl⟩
  · refine ww_iload_n C dX1_has_4 rfl 1 rfl ?_
    refine ww_aload_n C dX1_has_5 rfl 0 rfl ?_
    refine ww_gi (k := 14) (f := 2) C rfl rfl ho rfl in_X1_has_X1 (by decide) lk_X1_has_18 dX1_has_6 ?_
    refine ww_icmp_ge 16 C dX1_has_9 (by decide) (fun h9 => ?_) (fun h9 => ?_)
    · refine ww_iconst (v := 0) C dX1_has_16 rfl ?_
      refine ww_zret C dX1_has_17 rfl ?_
      exact ⟨by rw [decide_eq_false (fun q => absurd q.2 (Int32.not_lt.mpr (by rw [← hs]; exact h9)))]; rfl, rfl⟩
    · refine ww_iconst (v := 1) C dX1_has_12 rfl ?_
      refine ww_goto 17 C dX1_has_13 (by decide) ?_
      refine ww_zret C dX1_has_17 rfl ?_
      exact ⟨by rw [decide_eq_true ⟨Int32.not_lt.mp h1, by rw [← hs]; exact Int32.not_le.mp h9⟩]; rfl, rfl⟩
set_option maxHeartbeats 4000000 in
set_option maxRecDepth 100000 in
theorem c_X1_clear (l : Launch) (G : Gx) (hA : wa G) (σ : Sg) (o : Nat) (ho : o < 9) : CtV l yX1_clear wsX1_clear (rmd 1) G [.ref (gA G 14 (o))] σ (fun σ' => σ' = sgu σ 14 o 2 0) := by
  refine ct_v (maxL := 1) (ret := none) (by decide) rfl (Nat.le_of_ble_eq_true rfl) hA (fun K hl C => ?_)
  subst hl
  change WW K G _ _ σ [(0, .ref (gA G 14 (o)))] 0 []
  refine ww_aload_n C dX1_clear_0 rfl 0 rfl ?_
  refine ww_iconst (v := 0) C dX1_clear_1 rfl ?_
  refine ww_pi (k := 14) (f := 2) C rfl rfl ho rfl in_X1_clear_X1 tyX1_ok nmX1 (by decide) lk_X1_clear_18 rfl rfl dX1_clear_2 ?_
  refine ww_vret C dX1_clear_5 ?_
  rfl
set_option maxHeartbeats 4000000 in
set_option maxRecDepth 100000 in
theorem c_X1_append (l : Launch) (G : Gx) (hA : wa G) (σ : Sg) (o n : Nat) (ho : o < 9) (hs : σ 14 o 2 = nI n) (hn : n ≤ 14) (h14 : n < 14) (x y : Int32) : CtV l yX1_append wsX1_append (rmd 2) G [.ref (gA G 14 (o)), .int (x), .int (y)] σ (fun σ' => σ' = sgu (sgu (sgu σ 15 o n x) 16 o n y) 14 o 2 (nI (n + 1))) := by
  refine ct_v (maxL := 3) (ret := none) (by decide) rfl (Nat.le_of_ble_eq_true rfl) hA (fun K hl C => ?_)
  subst hl
  change WW K G _ _ σ [(0, .ref (gA G 14 (o))), (1, .int (x)), (2, .int (y))] 0 []
  refine ww_aload_n C dX1_append_0 rfl 0 rfl ?_
  refine ww_calliF (cx_V (n := 0) (As := []) C  (c_X1_isFull (kL K) G hA _ o n ho hs hn) gX1_append_X1_isFull rfl ⟨rfl, rfl⟩ (by decide +kernel) (by decide) rfl ho rfl rfl rfl (Nat.le_of_ble_eq_true rfl) dX1_append_1) ?_
  refine ww_if_ne 37 C dX1_append_4 (by decide) (fun h4 => ?_) (fun h4 => ?_)
  · exact absurd (bI_1.mp h4) (by simp; omega)
  · refine ww_aload_n C dX1_append_7 rfl 0 rfl ?_
    refine ww_gr (j := o) (k := 14) (f := 0) C rfl rfl ho rfl in_X1_append_X1 (by decide) lk_X1_append_9 dX1_append_8 rfl ?_
    refine ww_aload_n C dX1_append_11 rfl 0 rfl ?_
    refine ww_gi (k := 14) (f := 2) C rfl rfl ho rfl in_X1_append_X1 (by decide) lk_X1_append_18 dX1_append_12 ?_
    refine ww_iload_n C dX1_append_15 rfl 1 rfl ?_
    refine ww_iast (k := 15) (j := n) C rfl ho (by decide) dX1_append_16 hs (by omega) ?_
    refine ww_aload_n C dX1_append_17 rfl 0 rfl ?_
    refine ww_gr (j := o) (k := 14) (f := 1) C rfl rfl ho rfl in_X1_append_X1 (by decide) lk_X1_append_15 dX1_append_18 rfl ?_
    refine ww_aload_n C dX1_append_21 rfl 0 rfl ?_
    refine ww_gi (k := 14) (f := 2) C rfl rfl ho rfl in_X1_append_X1 (by decide) lk_X1_append_18 dX1_append_22 ?_
    refine ww_iload_n C dX1_append_25 rfl 2 rfl ?_
    refine ww_iast (k := 16) (j := n) C rfl ho (by decide) dX1_append_26 (by simp [sgu, sgc, hs]) (by omega) ?_
    refine ww_aload_n C dX1_append_27 rfl 0 rfl ?_
    refine ww_dup C dX1_append_28 rfl ?_
    refine ww_gi (k := 14) (f := 2) C rfl rfl ho rfl in_X1_append_X1 (by decide) lk_X1_append_18 dX1_append_29 ?_
    refine ww_iconst (v := 1) C dX1_append_32 rfl ?_
    refine ww_iadd C dX1_append_33 ?_
    refine ww_pi (k := 14) (f := 2) C rfl rfl ho rfl in_X1_append_X1 tyX1_ok nmX1 (by decide) lk_X1_append_18 rfl rfl dX1_append_34 ?_
    refine ww_vret C dX1_append_37 ?_
    rw [show (sgu (sgu σ 15 o n x) 16 o n y) 14 o 2 = nI n by simp [sgu, hs], nI_1]
set_option maxHeartbeats 4000000 in
set_option maxRecDepth 100000 in
theorem c_X1_copyOf (l : Launch) (G : Gx) (hA : wa G) (σ : Sg) (o o1 n : Nat) (ho : o < 9) (ho1 : o1 < 9) (hs : σ 14 o 2 = nI n) (hn : n ≤ 14) : CtV l yX1_copyOf wsX1_copyOf (rmd 2) G [.ref (gA G 14 (o1)), .ref (gA G 14 (o))] σ (fun σ' => σ' = sgc (sgc (sgu σ 14 o1 2 (nI n)) 15 o o1 n) 16 o o1 n) := by
  refine ct_v (maxL := 2) (ret := none) (by decide) rfl (Nat.le_of_ble_eq_true rfl) hA (fun K hl C => ?_)
  subst hl
  change WW K G _ _ σ [(0, .ref (gA G 14 (o1))), (1, .ref (gA G 14 (o)))] 0 []
  refine ww_aload_n C dX1_copyOf_0 rfl 0 rfl ?_
  refine ww_aload_n C dX1_copyOf_1 rfl 1 rfl ?_
  refine ww_gi (k := 14) (f := 2) C rfl rfl ho rfl in_X1_copyOf_X1 (by decide) lk_X1_copyOf_18 dX1_copyOf_2 ?_
  refine ww_pi (k := 14) (f := 2) C rfl rfl ho1 rfl in_X1_copyOf_X1 tyX1_ok nmX1 (by decide) lk_X1_copyOf_18 rfl rfl dX1_copyOf_5 ?_
  refine ww_aload_n C dX1_copyOf_8 rfl 1 rfl ?_
  refine ww_gr (j := o) (k := 14) (f := 0) C rfl rfl ho rfl in_X1_copyOf_X1 (by decide) lk_X1_copyOf_9 dX1_copyOf_9 rfl ?_
  refine ww_iconst (v := 0) C dX1_copyOf_12 rfl ?_
  refine ww_aload_n C dX1_copyOf_13 rfl 0 rfl ?_
  refine ww_gr (j := o1) (k := 14) (f := 0) C rfl rfl ho1 rfl in_X1_copyOf_X1 (by decide) lk_X1_copyOf_9 dX1_copyOf_14 rfl ?_
  refine ww_iconst (v := 0) C dX1_copyOf_17 rfl ?_
  refine ww_aload_n C dX1_copyOf_18 rfl 0 rfl ?_
  refine ww_gi (k := 14) (f := 2) C rfl rfl ho1 rfl in_X1_copyOf_X1 (by decide) lk_X1_copyOf_18 dX1_copyOf_19 ?_
  refine ww_copy (k := 15) (i0 := o) (i1 := o1) (n := n) C rfl ho ho1 (by simp [sgu, sgc, hs]) hn (by decide) lw_X1_copyOf_ac26 lw_X1_copyOf_acn lw_X1_copyOf_acs lw_X1_copyOf_aci (by decide) (Nat.le_of_ble_eq_true rfl) dX1_copyOf_22 ?_
  refine ww_aload_n C dX1_copyOf_25 rfl 1 rfl ?_
  refine ww_gr (j := o) (k := 14) (f := 1) C rfl rfl ho rfl in_X1_copyOf_X1 (by decide) lk_X1_copyOf_15 dX1_copyOf_26 rfl ?_
  refine ww_iconst (v := 0) C dX1_copyOf_29 rfl ?_
  refine ww_aload_n C dX1_copyOf_30 rfl 0 rfl ?_
  refine ww_gr (j := o1) (k := 14) (f := 1) C rfl rfl ho1 rfl in_X1_copyOf_X1 (by decide) lk_X1_copyOf_15 dX1_copyOf_31 rfl ?_
  refine ww_iconst (v := 0) C dX1_copyOf_34 rfl ?_
  refine ww_aload_n C dX1_copyOf_35 rfl 0 rfl ?_
  refine ww_gi (k := 14) (f := 2) C rfl rfl ho1 rfl in_X1_copyOf_X1 (by decide) lk_X1_copyOf_18 dX1_copyOf_36 ?_
  refine ww_copy (k := 16) (i0 := o) (i1 := o1) (n := n) C rfl ho ho1 (by simp [sgu, sgc, hs]) hn (by decide) lw_X1_copyOf_ac26 lw_X1_copyOf_acn lw_X1_copyOf_acs lw_X1_copyOf_aci (by decide) (Nat.le_of_ble_eq_true rfl) dX1_copyOf_39 ?_
  refine ww_vret C dX1_copyOf_42 ?_
  rw [hs]
set_option maxHeartbeats 4000000 in
set_option maxRecDepth 100000 in
theorem c_X1_along (l : Launch) (G : Gx) (hA : wa G) (σ : Sg) (o : Nat) (ho : o < 9) (x : Int32) : CtQ l yX1_along wsX1_along (rmd 1) G [.ref (gA G 14 (o)), .int (x)] σ (fun r σ' => r = some (if x = 0 then gA G 15 o else gA G 16 o) ∧ σ' = σ) := by
  refine ct_q (maxL := 2) (ret := (some (.array .int))) (by decide) rfl (Nat.le_of_ble_eq_true rfl) hA (fun K hl C => ?_)
  subst hl
  change WW K G _ _ σ [(0, .ref (gA G 14 (o))), (1, .int (x))] 0 []
  refine ww_iload_n C dX1_along_0 rfl 1 rfl ?_
  refine ww_if_ne 11 C dX1_along_1 (by decide) (fun h1 => ?_) (fun h1 => ?_)
  · refine ww_aload_n C dX1_along_11 rfl 0 rfl ?_
    refine ww_gr (j := o) (k := 14) (f := 1) C rfl rfl ho rfl in_X1_along_X1 (by decide) lk_X1_along_15 dX1_along_12 rfl ?_
    refine ww_aret C (Or.inr ⟨_, rfl⟩) dX1_along_15 ?_
    exact ⟨by rw [if_neg h1], rfl⟩
  · refine ww_aload_n C dX1_along_4 rfl 0 rfl ?_
    refine ww_gr (j := o) (k := 14) (f := 0) C rfl rfl ho rfl in_X1_along_X1 (by decide) lk_X1_along_9 dX1_along_5 rfl ?_
    refine ww_goto 15 C dX1_along_8 (by decide) ?_
    refine ww_aret C (Or.inr ⟨_, rfl⟩) dX1_along_15 ?_
    exact ⟨by rw [if_pos h1], rfl⟩
set_option maxHeartbeats 4000000 in
set_option maxRecDepth 100000 in
theorem c_X1_after (l : Launch) (G : Gx) (hA : wa G) (σ : Sg) (o n : Nat) (ho : o < 9) (hs : σ 14 o 2 = nI n) (hn : n ≤ 14) (i : Nat) (hi : i < 14) : CtI l yX1_after wsX1_after (rmd 1) G [.ref (gA G 14 (o)), .int (nI i)] σ (fun r σ' => r = nI (af n i) ∧ σ' = σ) := by
  refine ct_i (maxL := 2) (ret := (some .int)) (by decide) rfl (Nat.le_of_ble_eq_true rfl) hA (fun K hl C => ?_)
  subst hl
  change WW K G _ _ σ [(0, .ref (gA G 14 (o))), (1, .int (nI i))] 0 []
  refine ww_iload_n C dX1_after_0 rfl 1 rfl ?_
  refine ww_iconst (v := 1) C dX1_after_1 rfl ?_
  refine ww_iadd C dX1_after_2 ?_
  refine ww_aload_n C dX1_after_3 rfl 0 rfl ?_
  refine ww_gi (k := 14) (f := 2) C rfl rfl ho rfl in_X1_after_X1 (by decide) lk_X1_after_18 dX1_after_4 ?_
  refine ww_icmp_ge 16 C dX1_after_7 (by decide) (fun h7 => ?_) (fun h7 => ?_)
  · have g7 : n ≤ i + 1 := (cv_le (a := n) (b := i + 1) hs (nI_add (i) (1)) (by omega) (by omega)).mp h7
    have h9 : ¬ i + 1 < n := by
          rw [hs, show (1 : Int32) = nI 1 from rfl, nI_add] at h7
          exact Nat.not_lt.mpr ((nI_leI (by omega) (by omega)).mp h7)
    refine ww_iconst (v := 0) C dX1_after_16 rfl ?_
    refine ww_iret C dX1_after_17 ?_
    exact ⟨by rw [af, if_neg h9]; rfl, rfl⟩
  · have g7 : ¬ n ≤ i + 1 := fun q => h7 ((cv_le (a := n) (b := i + 1) hs (nI_add (i) (1)) (by omega) (by omega)).mpr q)
    have h9 : i + 1 < n := by
          rw [hs, show (1 : Int32) = nI 1 from rfl, nI_add] at h7
          exact Nat.not_le.mp (fun q => h7 ((nI_leI (by omega) (by omega)).mpr q))
    refine ww_iload_n C dX1_after_10 rfl 1 rfl ?_
    refine ww_iconst (v := 1) C dX1_after_11 rfl ?_
    refine ww_iadd C dX1_after_12 ?_
    refine ww_goto 17 C dX1_after_13 (by decide) ?_
    refine ww_iret C dX1_after_17 ?_
    exact ⟨by rw [af, if_pos h9]; exact nI_1 i, rfl⟩
set_option maxHeartbeats 4000000 in
set_option maxRecDepth 100000 in
theorem c_X1_before (l : Launch) (G : Gx) (hA : wa G) (σ : Sg) (o n : Nat) (ho : o < 9) (hs : σ 14 o 2 = nI n) (hn : n ≤ 14) (i : Nat) (hi : i < 14) (h0 : 0 < n) : CtI l yX1_before wsX1_before (rmd 1) G [.ref (gA G 14 (o)), .int (nI i)] σ (fun r σ' => r = nI (bf n i) ∧ σ' = σ) := by
  refine ct_i (maxL := 2) (ret := (some .int)) (by decide) rfl (Nat.le_of_ble_eq_true rfl) hA (fun K hl C => ?_)
  subst hl
  change WW K G _ _ σ [(0, .ref (gA G 14 (o))), (1, .int (nI i))] 0 []
  refine ww_iload_n C dX1_before_0 rfl 1 rfl ?_
  refine ww_if_le 10 C dX1_before_1 (by decide) (fun h1 => ?_) (fun h1 => ?_)
  · have g1 : i ≤ 0 := (cv_le (a := i) (b := 0) rfl (by decide) (lt31 hi) (by omega)).mp h1
    have h9 : ¬ 0 < i := fun q => nI_nle q (by omega) h1
    refine ww_aload_n C dX1_before_10 rfl 0 rfl ?_
    refine ww_gi (k := 14) (f := 2) C rfl rfl ho rfl in_X1_before_X1 (by decide) lk_X1_before_18 dX1_before_11 ?_
    refine ww_iconst (v := 1) C dX1_before_14 rfl ?_
    refine ww_isub C dX1_before_15 ?_
    refine ww_iret C dX1_before_16 ?_
    exact ⟨by rw [bf, if_neg h9, hs]; exact pk_sub h0, rfl⟩
  · have g1 : ¬ i ≤ 0 := fun q => h1 ((cv_le (a := i) (b := 0) rfl (by decide) (lt31 hi) (by omega)).mpr q)
    have h9 : 0 < i := Nat.pos_of_ne_zero (fun q => h1 (by rw [q]; decide))
    refine ww_iload_n C dX1_before_4 rfl 1 rfl ?_
    refine ww_iconst (v := 1) C dX1_before_5 rfl ?_
    refine ww_isub C dX1_before_6 ?_
    refine ww_goto 16 C dX1_before_7 (by decide) ?_
    refine ww_iret C dX1_before_16 ?_
    exact ⟨by rw [bf, if_pos h9]; exact pk_sub h9, rfl⟩
set_option maxHeartbeats 4000000 in
set_option maxRecDepth 100000 in
theorem c_X1_turn (l : Launch) (G : Gx) (hA : wa G) (σ : Sg) (o : Nat) (ho : o < 9) (a b c : Nat) (ha : a < 14) (hb : b < 14) (hc : c < 14) : CtI l yX1_turn wsX1_turn (rmd 1) G [.ref (gA G 14 (o)), .int (nI a), .int (nI b), .int (nI c)] σ (fun r σ' => r = tn (σ 15 o) (σ 16 o) a b c ∧ σ' = σ) := by
  refine ct_i (maxL := 4) (ret := (some .int)) (by decide) rfl (Nat.le_of_ble_eq_true rfl) hA (fun K hl C => ?_)
  subst hl
  change WW K G _ _ σ [(0, .ref (gA G 14 (o))), (1, .int (nI a)), (2, .int (nI b)), (3, .int (nI c))] 0 []
  refine ww_aload_n C dX1_turn_0 rfl 0 rfl ?_
  refine ww_gr (j := o) (k := 14) (f := 0) C rfl rfl ho rfl in_X1_turn_X1 (by decide) lk_X1_turn_9 dX1_turn_1 rfl ?_
  refine ww_iload_n C dX1_turn_4 rfl 2 rfl ?_
  refine ww_iald (k := 15) (j := b) C rfl ho (by decide) dX1_turn_5 rfl hb ?_
  refine ww_aload_n C dX1_turn_6 rfl 0 rfl ?_
  refine ww_gr (j := o) (k := 14) (f := 0) C rfl rfl ho rfl in_X1_turn_X1 (by decide) lk_X1_turn_9 dX1_turn_7 rfl ?_
  refine ww_iload_n C dX1_turn_10 rfl 1 rfl ?_
  refine ww_iald (k := 15) (j := a) C rfl ho (by decide) dX1_turn_11 rfl ha ?_
  refine ww_isub C dX1_turn_12 ?_
  refine ww_aload_n C dX1_turn_13 rfl 0 rfl ?_
  refine ww_gr (j := o) (k := 14) (f := 1) C rfl rfl ho rfl in_X1_turn_X1 (by decide) lk_X1_turn_15 dX1_turn_14 rfl ?_
  refine ww_iload_n C dX1_turn_17 rfl 3 rfl ?_
  refine ww_iald (k := 16) (j := c) C rfl ho (by decide) dX1_turn_18 rfl hc ?_
  refine ww_aload_n C dX1_turn_19 rfl 0 rfl ?_
  refine ww_gr (j := o) (k := 14) (f := 1) C rfl rfl ho rfl in_X1_turn_X1 (by decide) lk_X1_turn_15 dX1_turn_20 rfl ?_
  refine ww_iload_n C dX1_turn_23 rfl 1 rfl ?_
  refine ww_iald (k := 16) (j := a) C rfl ho (by decide) dX1_turn_24 rfl ha ?_
  refine ww_isub C dX1_turn_25 ?_
  refine ww_imul C dX1_turn_26 ?_
  refine ww_aload_n C dX1_turn_27 rfl 0 rfl ?_
  refine ww_gr (j := o) (k := 14) (f := 1) C rfl rfl ho rfl in_X1_turn_X1 (by decide) lk_X1_turn_15 dX1_turn_28 rfl ?_
  refine ww_iload_n C dX1_turn_31 rfl 2 rfl ?_
  refine ww_iald (k := 16) (j := b) C rfl ho (by decide) dX1_turn_32 rfl hb ?_
  refine ww_aload_n C dX1_turn_33 rfl 0 rfl ?_
  refine ww_gr (j := o) (k := 14) (f := 1) C rfl rfl ho rfl in_X1_turn_X1 (by decide) lk_X1_turn_15 dX1_turn_34 rfl ?_
  refine ww_iload_n C dX1_turn_37 rfl 1 rfl ?_
  refine ww_iald (k := 16) (j := a) C rfl ho (by decide) dX1_turn_38 rfl ha ?_
  refine ww_isub C dX1_turn_39 ?_
  refine ww_aload_n C dX1_turn_40 rfl 0 rfl ?_
  refine ww_gr (j := o) (k := 14) (f := 0) C rfl rfl ho rfl in_X1_turn_X1 (by decide) lk_X1_turn_9 dX1_turn_41 rfl ?_
  refine ww_iload_n C dX1_turn_44 rfl 3 rfl ?_
  refine ww_iald (k := 15) (j := c) C rfl ho (by decide) dX1_turn_45 rfl hc ?_
  refine ww_aload_n C dX1_turn_46 rfl 0 rfl ?_
  refine ww_gr (j := o) (k := 14) (f := 0) C rfl rfl ho rfl in_X1_turn_X1 (by decide) lk_X1_turn_9 dX1_turn_47 rfl ?_
  refine ww_iload_n C dX1_turn_50 rfl 1 rfl ?_
  refine ww_iald (k := 15) (j := a) C rfl ho (by decide) dX1_turn_51 rfl ha ?_
  refine ww_isub C dX1_turn_52 ?_
  refine ww_imul C dX1_turn_53 ?_
  refine ww_isub C dX1_turn_54 ?_
  refine ww_iret C dX1_turn_55 ?_
  exact ⟨rfl, rfl⟩
set_option maxHeartbeats 4000000 in
set_option maxRecDepth 100000 in
theorem c_X1_advance (l : Launch) (G : Gx) (hA : wa G) (σ : Sg) (o : Nat) (ho : o < 9) (a b c : Nat) (ha : a < 14) (hb : b < 14) (hc : c < 14) : CtI l yX1_advance wsX1_advance (rmd 1) G [.ref (gA G 14 (o)), .int (nI a), .int (nI b), .int (nI c)] σ (fun r σ' => r = adv (σ 15 o) (σ 16 o) a b c ∧ σ' = σ) := by
  refine ct_i (maxL := 4) (ret := (some .int)) (by decide) rfl (Nat.le_of_ble_eq_true rfl) hA (fun K hl C => ?_)
  subst hl
  change WW K G _ _ σ [(0, .ref (gA G 14 (o))), (1, .int (nI a)), (2, .int (nI b)), (3, .int (nI c))] 0 []
  refine ww_aload_n C dX1_advance_0 rfl 0 rfl ?_
  refine ww_gr (j := o) (k := 14) (f := 0) C rfl rfl ho rfl in_X1_advance_X1 (by decide) lk_X1_advance_9 dX1_advance_1 rfl ?_
  refine ww_iload_n C dX1_advance_4 rfl 2 rfl ?_
  refine ww_iald (k := 15) (j := b) C rfl ho (by decide) dX1_advance_5 rfl hb ?_
  refine ww_aload_n C dX1_advance_6 rfl 0 rfl ?_
  refine ww_gr (j := o) (k := 14) (f := 0) C rfl rfl ho rfl in_X1_advance_X1 (by decide) lk_X1_advance_9 dX1_advance_7 rfl ?_
  refine ww_iload_n C dX1_advance_10 rfl 1 rfl ?_
  refine ww_iald (k := 15) (j := a) C rfl ho (by decide) dX1_advance_11 rfl ha ?_
  refine ww_isub C dX1_advance_12 ?_
  refine ww_aload_n C dX1_advance_13 rfl 0 rfl ?_
  refine ww_gr (j := o) (k := 14) (f := 0) C rfl rfl ho rfl in_X1_advance_X1 (by decide) lk_X1_advance_9 dX1_advance_14 rfl ?_
  refine ww_iload_n C dX1_advance_17 rfl 3 rfl ?_
  refine ww_iald (k := 15) (j := c) C rfl ho (by decide) dX1_advance_18 rfl hc ?_
  refine ww_aload_n C dX1_advance_19 rfl 0 rfl ?_
  refine ww_gr (j := o) (k := 14) (f := 0) C rfl rfl ho rfl in_X1_advance_X1 (by decide) lk_X1_advance_9 dX1_advance_20 rfl ?_
  refine ww_iload_n C dX1_advance_23 rfl 2 rfl ?_
  refine ww_iald (k := 15) (j := b) C rfl ho (by decide) dX1_advance_24 rfl hb ?_
  refine ww_isub C dX1_advance_25 ?_
  refine ww_imul C dX1_advance_26 ?_
  refine ww_aload_n C dX1_advance_27 rfl 0 rfl ?_
  refine ww_gr (j := o) (k := 14) (f := 1) C rfl rfl ho rfl in_X1_advance_X1 (by decide) lk_X1_advance_15 dX1_advance_28 rfl ?_
  refine ww_iload_n C dX1_advance_31 rfl 2 rfl ?_
  refine ww_iald (k := 16) (j := b) C rfl ho (by decide) dX1_advance_32 rfl hb ?_
  refine ww_aload_n C dX1_advance_33 rfl 0 rfl ?_
  refine ww_gr (j := o) (k := 14) (f := 1) C rfl rfl ho rfl in_X1_advance_X1 (by decide) lk_X1_advance_15 dX1_advance_34 rfl ?_
  refine ww_iload_n C dX1_advance_37 rfl 1 rfl ?_
  refine ww_iald (k := 16) (j := a) C rfl ho (by decide) dX1_advance_38 rfl ha ?_
  refine ww_isub C dX1_advance_39 ?_
  refine ww_aload_n C dX1_advance_40 rfl 0 rfl ?_
  refine ww_gr (j := o) (k := 14) (f := 1) C rfl rfl ho rfl in_X1_advance_X1 (by decide) lk_X1_advance_15 dX1_advance_41 rfl ?_
  refine ww_iload_n C dX1_advance_44 rfl 3 rfl ?_
  refine ww_iald (k := 16) (j := c) C rfl ho (by decide) dX1_advance_45 rfl hc ?_
  refine ww_aload_n C dX1_advance_46 rfl 0 rfl ?_
  refine ww_gr (j := o) (k := 14) (f := 1) C rfl rfl ho rfl in_X1_advance_X1 (by decide) lk_X1_advance_15 dX1_advance_47 rfl ?_
  refine ww_iload_n C dX1_advance_50 rfl 2 rfl ?_
  refine ww_iald (k := 16) (j := b) C rfl ho (by decide) dX1_advance_51 rfl hb ?_
  refine ww_isub C dX1_advance_52 ?_
  refine ww_imul C dX1_advance_53 ?_
  refine ww_iadd C dX1_advance_54 ?_
  refine ww_iret C dX1_advance_55 ?_
  exact ⟨rfl, rfl⟩
set_option maxHeartbeats 4000000 in
set_option maxRecDepth 100000 in
theorem c_X1_squaredLength (l : Launch) (G : Gx) (hA : wa G) (σ : Sg) (o : Nat) (ho : o < 9) (a b : Nat) (ha : a < 14) (hb : b < 14) : CtI l yX1_squaredLength wsX1_squaredLength (rmd 1) G [.ref (gA G 14 (o)), .int (nI a), .int (nI b)] σ (fun r σ' => r = sq9 (σ 15 o) (σ 16 o) a b ∧ σ' = σ) := by
  refine ct_i (maxL := 5) (ret := (some .int)) (by decide) rfl (Nat.le_of_ble_eq_true rfl) hA (fun K hl C => ?_)
  subst hl
  change WW K G _ _ σ [(0, .ref (gA G 14 (o))), (1, .int (nI a)), (2, .int (nI b))] 0 []
  refine ww_aload_n C dX1_squaredLength_0 rfl 0 rfl ?_
  refine ww_gr (j := o) (k := 14) (f := 0) C rfl rfl ho rfl in_X1_squaredLength_X1 (by decide) lk_X1_squaredLength_9 dX1_squaredLength_1 rfl ?_
  refine ww_iload_n C dX1_squaredLength_4 rfl 2 rfl ?_
  refine ww_iald (k := 15) (j := b) C rfl ho (by decide) dX1_squaredLength_5 rfl hb ?_
  refine ww_aload_n C dX1_squaredLength_6 rfl 0 rfl ?_
  refine ww_gr (j := o) (k := 14) (f := 0) C rfl rfl ho rfl in_X1_squaredLength_X1 (by decide) lk_X1_squaredLength_9 dX1_squaredLength_7 rfl ?_
  refine ww_iload_n C dX1_squaredLength_10 rfl 1 rfl ?_
  refine ww_iald (k := 15) (j := a) C rfl ho (by decide) dX1_squaredLength_11 rfl ha ?_
  refine ww_isub C dX1_squaredLength_12 ?_
  refine ww_istore_n (fun y1 => [(3, .int (y1)), (0, .ref (gA G 14 (o))), (1, .int (nI a)), (2, .int (nI b))]) C dX1_squaredLength_13 rfl (by decide) (fun _ => rfl) (fun y1 ey1 => ?_)
  refine ww_aload_n C dX1_squaredLength_14 rfl 1 rfl ?_
  refine ww_gr (j := o) (k := 14) (f := 1) C rfl rfl ho rfl in_X1_squaredLength_X1 (by decide) lk_X1_squaredLength_15 dX1_squaredLength_15 rfl ?_
  refine ww_iload_n C dX1_squaredLength_18 rfl 3 rfl ?_
  refine ww_iald (k := 16) (j := b) C rfl ho (by decide) dX1_squaredLength_19 rfl hb ?_
  refine ww_aload_n C dX1_squaredLength_20 rfl 1 rfl ?_
  refine ww_gr (j := o) (k := 14) (f := 1) C rfl rfl ho rfl in_X1_squaredLength_X1 (by decide) lk_X1_squaredLength_15 dX1_squaredLength_21 rfl ?_
  refine ww_iload_n C dX1_squaredLength_24 rfl 2 rfl ?_
  refine ww_iald (k := 16) (j := a) C rfl ho (by decide) dX1_squaredLength_25 rfl ha ?_
  refine ww_isub C dX1_squaredLength_26 ?_
  refine ww_istore (fun y2 => [(4, .int (y2)), (3, .int (y1)), (0, .ref (gA G 14 (o))), (1, .int (nI a)), (2, .int (nI b))]) C dX1_squaredLength_27 (by decide) (fun _ => rfl) (fun y2 ey2 => ?_)
  refine ww_iload_n C dX1_squaredLength_29 rfl 1 rfl ?_
  refine ww_iload_n C dX1_squaredLength_30 rfl 1 rfl ?_
  refine ww_imul C dX1_squaredLength_31 ?_
  refine ww_iload C dX1_squaredLength_32 0 rfl ?_
  refine ww_iload C dX1_squaredLength_34 0 rfl ?_
  refine ww_imul C dX1_squaredLength_36 ?_
  refine ww_iadd C dX1_squaredLength_37 ?_
  refine ww_iret C dX1_squaredLength_38 ?_
  exact ⟨by rw [ey1, ey2]; rfl, rfl⟩
set_option maxHeartbeats 4000000 in
set_option maxRecDepth 100000 in
theorem c_X1_rangesMeet_15 (l : Launch) (G : Gx) (hA : wa G) (σ : Sg) (o : Nat) (ho : o < 9) (a b c d : Nat) (ha : a < 14) (hb : b < 14) (hc : c < 14) (hd : d < 14) : CtI l yX1_rangesMeet wsX1_rangesMeet (rmd 2) G [.ref (gA G 15 (o)), .int (nI a), .int (nI b), .int (nI c), .int (nI d)] σ (fun r σ' => r = bI (rgm (σ 15 o) a b c d) ∧ σ' = σ) := by
  refine ct_i (maxL := 5) (ret := (some .boolean)) (by decide) rfl (Nat.le_of_ble_eq_true rfl) hA (fun K hl C => ?_)
  subst hl
  change WW K G _ _ σ [(0, .ref (gA G 15 (o))), (1, .int (nI a)), (2, .int (nI b)), (3, .int (nI c)), (4, .int (nI d))] 0 []
  refine ww_aload_n C dX1_rangesMeet_0 rfl 0 rfl ?_
  refine ww_iload_n C dX1_rangesMeet_1 rfl 1 rfl ?_
  refine ww_iald (k := 15) (j := a) C rfl ho (by decide) dX1_rangesMeet_2 rfl ha ?_
  refine ww_aload_n C dX1_rangesMeet_3 rfl 0 rfl ?_
  refine ww_iload_n C dX1_rangesMeet_4 rfl 2 rfl ?_
  refine ww_iald (k := 15) (j := b) C rfl ho (by decide) dX1_rangesMeet_5 rfl hb ?_
  refine ww_mmax C lw_X1_rangesMeet_mmax40 lw_X1_rangesMeet_mmaxs lw_X1_rangesMeet_mi lw_X1_rangesMeet_mmaxc (by decide) (Nat.le_of_ble_eq_true rfl) dX1_rangesMeet_6 ?_
  refine ww_aload_n C dX1_rangesMeet_9 rfl 0 rfl ?_
  refine ww_iload_n C dX1_rangesMeet_10 rfl 3 rfl ?_
  refine ww_iald (k := 15) (j := c) C rfl ho (by decide) dX1_rangesMeet_11 rfl hc ?_
  refine ww_aload_n C dX1_rangesMeet_12 rfl 0 rfl ?_
  refine ww_iload C dX1_rangesMeet_13 4 rfl ?_
  refine ww_iald (k := 15) (j := d) C rfl ho (by decide) dX1_rangesMeet_15 rfl hd ?_
  refine ww_mmin C lw_X1_rangesMeet_mmin46 lw_X1_rangesMeet_mmins lw_X1_rangesMeet_mi lw_X1_rangesMeet_mminc (by decide) (Nat.le_of_ble_eq_true rfl) dX1_rangesMeet_16 ?_
  refine ww_icmp_lt 48 C dX1_rangesMeet_19 (by decide) (fun h19 => ?_) (fun h19 => ?_)
  · refine ww_iconst (v := 0) C dX1_rangesMeet_48 rfl ?_
    refine ww_zret C dX1_rangesMeet_49 rfl ?_
    exact ⟨by rw [rgm, decide_eq_false (i32_nle.mpr h19)]; rfl, rfl⟩
  · refine ww_aload_n C dX1_rangesMeet_22 rfl 0 rfl ?_
    refine ww_iload_n C dX1_rangesMeet_23 rfl 3 rfl ?_
    refine ww_iald (k := 15) (j := c) C rfl ho (by decide) dX1_rangesMeet_24 rfl hc ?_
    refine ww_aload_n C dX1_rangesMeet_25 rfl 0 rfl ?_
    refine ww_iload C dX1_rangesMeet_26 4 rfl ?_
    refine ww_iald (k := 15) (j := d) C rfl ho (by decide) dX1_rangesMeet_28 rfl hd ?_
    refine ww_mmax C lw_X1_rangesMeet_mmax40 lw_X1_rangesMeet_mmaxs lw_X1_rangesMeet_mi lw_X1_rangesMeet_mmaxc (by decide) (Nat.le_of_ble_eq_true rfl) dX1_rangesMeet_29 ?_
    refine ww_aload_n C dX1_rangesMeet_32 rfl 0 rfl ?_
    refine ww_iload_n C dX1_rangesMeet_33 rfl 1 rfl ?_
    refine ww_iald (k := 15) (j := a) C rfl ho (by decide) dX1_rangesMeet_34 rfl ha ?_
    refine ww_aload_n C dX1_rangesMeet_35 rfl 0 rfl ?_
    refine ww_iload_n C dX1_rangesMeet_36 rfl 2 rfl ?_
    refine ww_iald (k := 15) (j := b) C rfl ho (by decide) dX1_rangesMeet_37 rfl hb ?_
    refine ww_mmin C lw_X1_rangesMeet_mmin46 lw_X1_rangesMeet_mmins lw_X1_rangesMeet_mi lw_X1_rangesMeet_mminc (by decide) (Nat.le_of_ble_eq_true rfl) dX1_rangesMeet_38 ?_
    refine ww_icmp_lt 48 C dX1_rangesMeet_41 (by decide) (fun h41 => ?_) (fun h41 => ?_)
    · refine ww_iconst (v := 0) C dX1_rangesMeet_48 rfl ?_
      refine ww_zret C dX1_rangesMeet_49 rfl ?_
      exact ⟨by rw [rgm, decide_eq_false (p := mn9 _ _ ≤ mx9 (σ 15 o c) _) (i32_nle.mpr h41), Bool.and_false]; rfl, rfl⟩
    · refine ww_iconst (v := 1) C dX1_rangesMeet_44 rfl ?_
      refine ww_goto 49 C dX1_rangesMeet_45 (by decide) ?_
      refine ww_zret C dX1_rangesMeet_49 rfl ?_
      exact ⟨by rw [rgm, decide_eq_true (i32_nlt.mp h19), decide_eq_true (i32_nlt.mp h41)]; rfl, rfl⟩
set_option maxHeartbeats 4000000 in
set_option maxRecDepth 100000 in
theorem c_X1_rangesMeet_16 (l : Launch) (G : Gx) (hA : wa G) (σ : Sg) (o : Nat) (ho : o < 9) (a b c d : Nat) (ha : a < 14) (hb : b < 14) (hc : c < 14) (hd : d < 14) : CtI l yX1_rangesMeet wsX1_rangesMeet (rmd 2) G [.ref (gA G 16 (o)), .int (nI a), .int (nI b), .int (nI c), .int (nI d)] σ (fun r σ' => r = bI (rgm (σ 16 o) a b c d) ∧ σ' = σ) := by
  refine ct_i (maxL := 5) (ret := (some .boolean)) (by decide) rfl (Nat.le_of_ble_eq_true rfl) hA (fun K hl C => ?_)
  subst hl
  change WW K G _ _ σ [(0, .ref (gA G 16 (o))), (1, .int (nI a)), (2, .int (nI b)), (3, .int (nI c)), (4, .int (nI d))] 0 []
  refine ww_aload_n C dX1_rangesMeet_0 rfl 0 rfl ?_
  refine ww_iload_n C dX1_rangesMeet_1 rfl 1 rfl ?_
  refine ww_iald (k := 16) (j := a) C rfl ho (by decide) dX1_rangesMeet_2 rfl ha ?_
  refine ww_aload_n C dX1_rangesMeet_3 rfl 0 rfl ?_
  refine ww_iload_n C dX1_rangesMeet_4 rfl 2 rfl ?_
  refine ww_iald (k := 16) (j := b) C rfl ho (by decide) dX1_rangesMeet_5 rfl hb ?_
  refine ww_mmax C lw_X1_rangesMeet_mmax40 lw_X1_rangesMeet_mmaxs lw_X1_rangesMeet_mi lw_X1_rangesMeet_mmaxc (by decide) (Nat.le_of_ble_eq_true rfl) dX1_rangesMeet_6 ?_
  refine ww_aload_n C dX1_rangesMeet_9 rfl 0 rfl ?_
  refine ww_iload_n C dX1_rangesMeet_10 rfl 3 rfl ?_
  refine ww_iald (k := 16) (j := c) C rfl ho (by decide) dX1_rangesMeet_11 rfl hc ?_
  refine ww_aload_n C dX1_rangesMeet_12 rfl 0 rfl ?_
  refine ww_iload C dX1_rangesMeet_13 4 rfl ?_
  refine ww_iald (k := 16) (j := d) C rfl ho (by decide) dX1_rangesMeet_15 rfl hd ?_
  refine ww_mmin C lw_X1_rangesMeet_mmin46 lw_X1_rangesMeet_mmins lw_X1_rangesMeet_mi lw_X1_rangesMeet_mminc (by decide) (Nat.le_of_ble_eq_true rfl) dX1_rangesMeet_16 ?_
  refine ww_icmp_lt 48 C dX1_rangesMeet_19 (by decide) (fun h19 => ?_) (fun h19 => ?_)
  · refine ww_iconst (v := 0) C dX1_rangesMeet_48 rfl ?_
    refine ww_zret C dX1_rangesMeet_49 rfl ?_
    exact ⟨by rw [rgm, decide_eq_false (i32_nle.mpr h19)]; rfl, rfl⟩
  · refine ww_aload_n C dX1_rangesMeet_22 rfl 0 rfl ?_
    refine ww_iload_n C dX1_rangesMeet_23 rfl 3 rfl ?_
    refine ww_iald (k := 16) (j := c) C rfl ho (by decide) dX1_rangesMeet_24 rfl hc ?_
    refine ww_aload_n C dX1_rangesMeet_25 rfl 0 rfl ?_
    refine ww_iload C dX1_rangesMeet_26 4 rfl ?_
    refine ww_iald (k := 16) (j := d) C rfl ho (by decide) dX1_rangesMeet_28 rfl hd ?_
    refine ww_mmax C lw_X1_rangesMeet_mmax40 lw_X1_rangesMeet_mmaxs lw_X1_rangesMeet_mi lw_X1_rangesMeet_mmaxc (by decide) (Nat.le_of_ble_eq_true rfl) dX1_rangesMeet_29 ?_
    refine ww_aload_n C dX1_rangesMeet_32 rfl 0 rfl ?_
    refine ww_iload_n C dX1_rangesMeet_33 rfl 1 rfl ?_
    refine ww_iald (k := 16) (j := a) C rfl ho (by decide) dX1_rangesMeet_34 rfl ha ?_
    refine ww_aload_n C dX1_rangesMeet_35 rfl 0 rfl ?_
    refine ww_iload_n C dX1_rangesMeet_36 rfl 2 rfl ?_
    refine ww_iald (k := 16) (j := b) C rfl ho (by decide) dX1_rangesMeet_37 rfl hb ?_
    refine ww_mmin C lw_X1_rangesMeet_mmin46 lw_X1_rangesMeet_mmins lw_X1_rangesMeet_mi lw_X1_rangesMeet_mminc (by decide) (Nat.le_of_ble_eq_true rfl) dX1_rangesMeet_38 ?_
    refine ww_icmp_lt 48 C dX1_rangesMeet_41 (by decide) (fun h41 => ?_) (fun h41 => ?_)
    · refine ww_iconst (v := 0) C dX1_rangesMeet_48 rfl ?_
      refine ww_zret C dX1_rangesMeet_49 rfl ?_
      exact ⟨by rw [rgm, decide_eq_false (p := mn9 _ _ ≤ mx9 (σ 16 o c) _) (i32_nle.mpr h41), Bool.and_false]; rfl, rfl⟩
    · refine ww_iconst (v := 1) C dX1_rangesMeet_44 rfl ?_
      refine ww_goto 49 C dX1_rangesMeet_45 (by decide) ?_
      refine ww_zret C dX1_rangesMeet_49 rfl ?_
      exact ⟨by rw [rgm, decide_eq_true (i32_nlt.mp h19), decide_eq_true (i32_nlt.mp h41)]; rfl, rfl⟩
set_option maxHeartbeats 4000000 in
set_option maxRecDepth 100000 in
theorem c_X1_straddles (l : Launch) (G : Gx) (hA : wa G) (σ : Sg) (o : Nat) (ho : o < 9) (a b c d : Nat) (ha : a < 14) (hb : b < 14) (hc : c < 14) (hd : d < 14) : CtI l yX1_straddles wsX1_straddles (rmd 2) G [.ref (gA G 14 (o)), .int (nI a), .int (nI b), .int (nI c), .int (nI d)] σ (fun r σ' => r = bI (strd (σ 15 o) (σ 16 o) a b c d) ∧ σ' = σ) := by
  refine ct_i (maxL := 5) (ret := (some .boolean)) (by decide) rfl (Nat.le_of_ble_eq_true rfl) hA (fun K hl C => ?_)
  subst hl
  change WW K G _ _ σ [(0, .ref (gA G 14 (o))), (1, .int (nI a)), (2, .int (nI b)), (3, .int (nI c)), (4, .int (nI d))] 0 []
  refine ww_aload_n C dX1_straddles_0 rfl 0 rfl ?_
  refine ww_iload_n C dX1_straddles_1 rfl 1 rfl ?_
  refine ww_iload_n C dX1_straddles_2 rfl 2 rfl ?_
  refine ww_iload_n C dX1_straddles_3 rfl 3 rfl ?_
  refine ww_calliF (cx_V (n := 3) (As := [.int (nI a), .int (nI b), .int (nI c)]) C  (c_X1_turn (kL K) G hA _ (o) ho a b c ha hb hc) gX1_straddles_X1_turn rfl ⟨rfl, rfl⟩ (by decide +kernel) (by decide) rfl ho rfl rfl rfl (Nat.le_of_ble_eq_true rfl) dX1_straddles_4) ?_
  refine ww_i2l C dX1_straddles_7 ?_
  refine ww_aload_n C dX1_straddles_8 rfl 0 rfl ?_
  refine ww_iload_n C dX1_straddles_9 rfl 1 rfl ?_
  refine ww_iload_n C dX1_straddles_10 rfl 2 rfl ?_
  refine ww_iload C dX1_straddles_11 4 rfl ?_
  refine ww_calliF (cx_V (n := 3) (As := [.int (nI a), .int (nI b), .int (nI d)]) C  (c_X1_turn (kL K) G hA _ (o) ho a b d ha hb hd) gX1_straddles_X1_turn rfl ⟨rfl, rfl⟩ (by decide +kernel) (by decide) rfl ho rfl rfl rfl (Nat.le_of_ble_eq_true rfl) dX1_straddles_13) ?_
  refine ww_i2l C dX1_straddles_16 ?_
  refine ww_lmul C dX1_straddles_17 ?_
  refine ww_lconst (v := 0) C dX1_straddles_18 rfl ?_
  refine ww_lcmp C dX1_straddles_19 ?_
  refine ww_if_gt 27 C dX1_straddles_20 (by decide) (fun h20 => ?_) (fun h20 => ?_)
  · refine ww_iconst (v := 0) C dX1_straddles_27 rfl ?_
    refine ww_zret C dX1_straddles_28 rfl ?_
    exact ⟨by rw [strd, decide_eq_false (fun q => absurd ((lg_cmp_gt _ _).mp h20) (Int64.not_lt.mpr q))]; rfl, rfl⟩
  · refine ww_iconst (v := 1) C dX1_straddles_23 rfl ?_
    refine ww_goto 28 C dX1_straddles_24 (by decide) ?_
    refine ww_zret C dX1_straddles_28 rfl ?_
    exact ⟨by rw [strd, decide_eq_true (Int64.not_lt.mp (fun q => h20 ((lg_cmp_gt _ _).mpr q)))]; rfl, rfl⟩
set_option maxHeartbeats 4000000 in
set_option maxRecDepth 100000 in
theorem c_X1_meet (l : Launch) (G : Gx) (hA : wa G) (σ : Sg) (o : Nat) (ho : o < 9) (a b c d : Nat) (ha : a < 14) (hb : b < 14) (hc : c < 14) (hd : d < 14) : CtI l yX1_meet wsX1_meet (rmd 3) G [.ref (gA G 14 (o)), .int (nI a), .int (nI b), .int (nI c), .int (nI d)] σ (fun r σ' => r = bI (meetC (σ 15 o) (σ 16 o) a b c d) ∧ σ' = σ) := by
  refine ct_i (maxL := 5) (ret := (some .boolean)) (by decide) rfl (Nat.le_of_ble_eq_true rfl) hA (fun K hl C => ?_)
  subst hl
  change WW K G _ _ σ [(0, .ref (gA G 14 (o))), (1, .int (nI a)), (2, .int (nI b)), (3, .int (nI c)), (4, .int (nI d))] 0 []
  refine ww_aload_n C dX1_meet_0 rfl 0 rfl ?_
  refine ww_gr (j := o) (k := 14) (f := 0) C rfl rfl ho rfl in_X1_meet_X1 (by decide) lk_X1_meet_9 dX1_meet_1 rfl ?_
  refine ww_iload_n C dX1_meet_4 rfl 1 rfl ?_
  refine ww_iload_n C dX1_meet_5 rfl 2 rfl ?_
  refine ww_iload_n C dX1_meet_6 rfl 3 rfl ?_
  refine ww_iload C dX1_meet_7 4 rfl ?_
  refine ww_calliF (cx_S (n := 5) (As := [.ref (gA G 15 (o)), .int (nI a), .int (nI b), .int (nI c), .int (nI d)]) C  (c_X1_rangesMeet_15 (kL K) G hA _ (o) ho a b c d ha hb hc hd) gX1_meet_X1_rangesMeet rfl ⟨rfl, rfl⟩ (by decide +kernel) (by decide) rfl rfl (Nat.le_of_ble_eq_true rfl) dX1_meet_9) ?_
  refine ww_if_eq 58 C dX1_meet_12 (by decide) (fun h12 => ?_) (fun h12 => ?_)
  · refine ww_iconst (v := 0) C dX1_meet_58 rfl ?_
    refine ww_zret C dX1_meet_59 rfl ?_
    exact ⟨by rw [meetC, bI_0.mp h12]; rfl, rfl⟩
  · refine ww_aload_n C dX1_meet_15 rfl 0 rfl ?_
    refine ww_gr (j := o) (k := 14) (f := 1) C rfl rfl ho rfl in_X1_meet_X1 (by decide) lk_X1_meet_15 dX1_meet_16 rfl ?_
    refine ww_iload_n C dX1_meet_19 rfl 1 rfl ?_
    refine ww_iload_n C dX1_meet_20 rfl 2 rfl ?_
    refine ww_iload_n C dX1_meet_21 rfl 3 rfl ?_
    refine ww_iload C dX1_meet_22 4 rfl ?_
    refine ww_calliF (cx_S (n := 5) (As := [.ref (gA G 16 (o)), .int (nI a), .int (nI b), .int (nI c), .int (nI d)]) C  (c_X1_rangesMeet_16 (kL K) G hA _ (o) ho a b c d ha hb hc hd) gX1_meet_X1_rangesMeet rfl ⟨rfl, rfl⟩ (by decide +kernel) (by decide) rfl rfl (Nat.le_of_ble_eq_true rfl) dX1_meet_24) ?_
    refine ww_if_eq 58 C dX1_meet_27 (by decide) (fun h27 => ?_) (fun h27 => ?_)
    · refine ww_iconst (v := 0) C dX1_meet_58 rfl ?_
      refine ww_zret C dX1_meet_59 rfl ?_
      exact ⟨by rw [meetC, bI_0.mp h27, Bool.and_false]; rfl, rfl⟩
    · refine ww_aload_n C dX1_meet_30 rfl 0 rfl ?_
      refine ww_iload_n C dX1_meet_31 rfl 1 rfl ?_
      refine ww_iload_n C dX1_meet_32 rfl 2 rfl ?_
      refine ww_iload_n C dX1_meet_33 rfl 3 rfl ?_
      refine ww_iload C dX1_meet_34 4 rfl ?_
      refine ww_calliF (cx_V (n := 4) (As := [.int (nI a), .int (nI b), .int (nI c), .int (nI d)]) C  (c_X1_straddles (kL K) G hA _ (o) ho a b c d ha hb hc hd) gX1_meet_X1_straddles rfl ⟨rfl, rfl⟩ (by decide +kernel) (by decide) rfl ho rfl rfl rfl (Nat.le_of_ble_eq_true rfl) dX1_meet_36) ?_
      refine ww_if_eq 58 C dX1_meet_39 (by decide) (fun h39 => ?_) (fun h39 => ?_)
      · refine ww_iconst (v := 0) C dX1_meet_58 rfl ?_
        refine ww_zret C dX1_meet_59 rfl ?_
        exact ⟨by rw [meetC, bI_0.mp h39, Bool.and_false]; rfl, rfl⟩
      · refine ww_aload_n C dX1_meet_42 rfl 0 rfl ?_
        refine ww_iload_n C dX1_meet_43 rfl 3 rfl ?_
        refine ww_iload C dX1_meet_44 4 rfl ?_
        refine ww_iload_n C dX1_meet_46 rfl 1 rfl ?_
        refine ww_iload_n C dX1_meet_47 rfl 2 rfl ?_
        refine ww_calliF (cx_V (n := 4) (As := [.int (nI c), .int (nI d), .int (nI a), .int (nI b)]) C  (c_X1_straddles (kL K) G hA _ (o) ho c d a b hc hd ha hb) gX1_meet_X1_straddles rfl ⟨rfl, rfl⟩ (by decide +kernel) (by decide) rfl ho rfl rfl rfl (Nat.le_of_ble_eq_true rfl) dX1_meet_48) ?_
        refine ww_if_eq 58 C dX1_meet_51 (by decide) (fun h51 => ?_) (fun h51 => ?_)
        · refine ww_iconst (v := 0) C dX1_meet_58 rfl ?_
          refine ww_zret C dX1_meet_59 rfl ?_
          exact ⟨by rw [meetC, bI_0.mp h51, Bool.and_false]; rfl, rfl⟩
        · refine ww_iconst (v := 1) C dX1_meet_54 rfl ?_
          refine ww_goto 59 C dX1_meet_55 (by decide) ?_
          refine ww_zret C dX1_meet_59 rfl ?_
          exact ⟨by rw [meetC, bI_1.mp h12, bI_1.mp h27, bI_1.mp h39, bI_1.mp h51]; rfl, rfl⟩
end
section
theorem in_X0_note_X0 : ∀ w ∈ wsX00, w ∈ wsX0_note := by decide +kernel
theorem lk_X0_note_9 : Cond.fieldLink RX0 9 "PolyCuts$Check" "kind" "I" ∈ wsX0_note := by decide +kernel
theorem lk_X0_note_15 : Cond.fieldLink RX0 15 "PolyCuts$Check" "first" "I" ∈ wsX0_note := by decide +kernel
theorem lk_X0_note_18 : Cond.fieldLink RX0 18 "PolyCuts$Check" "second" "I" ∈ wsX0_note := by decide +kernel
theorem in_X0_findFlatCorner_X1 : ∀ w ∈ wsX10, w ∈ wsX0_findFlatCorner := by decide +kernel
theorem lk_X0_findFlatCorner_25 : Cond.fieldLink RX0 25 "PolyCuts$Corners" "size" "I" ∈ wsX0_findFlatCorner := by decide +kernel
theorem in_X0_findMeetingEdges_X1 : ∀ w ∈ wsX10, w ∈ wsX0_findMeetingEdges := by decide +kernel
theorem lk_X0_findMeetingEdges_25 : Cond.fieldLink RX0 25 "PolyCuts$Corners" "size" "I" ∈ wsX0_findMeetingEdges := by decide +kernel
theorem in_X0_examine_X1 : ∀ w ∈ wsX10, w ∈ wsX0_examine := by decide +kernel
theorem lk_X0_examine_25 : Cond.fieldLink RX0 25 "PolyCuts$Corners" "size" "I" ∈ wsX0_examine := by decide +kernel
theorem in_X0_examine_X0 : ∀ w ∈ wsX00, w ∈ wsX0_examine := by decide +kernel
theorem lk_X0_examine_9 : Cond.fieldLink RX0 9 "PolyCuts$Check" "kind" "I" ∈ wsX0_examine := by decide +kernel
def note3 (σ : Sg) (a b c : Int32) : Sg := sgu (sgu (sgu σ 1 0 0 a) 1 0 1 b) 1 0 2 c
def flatP (n : Nat) (x y : Nat → Int32) : Nat → Bool := fun i => decide (tn x y (bf n i) i (af n i) = 0)
def meetP (n : Nat) (x y : Nat → Int32) (i : Nat) : Nat → Bool := fun j => !(decide (af n j = i)) && meetC x y i (af n i) j (af n j)
def noteF (σ : Sg) (r : Option Nat) : Sg := match r with
  | none => σ
  | some i => note3 σ 2 (nI i) (-1)
/-- the first edge at or behind i that meets a later one -/
def meetF (n : Nat) (x y : Nat → Int32) (i : Nat) : Nat → Option (Nat × Nat)
  | 0 => none
  | d + 1 => match fndN (meetP n x y i) (i + 2) n with
    | some j => some (i, j)
    | none => meetF n x y (i + 1) d
def meetN (n : Nat) (x y : Nat → Int32) (i : Nat) : Option (Nat × Nat) := meetF n x y i (n - i)
def noteM (σ : Sg) (r : Option (Nat × Nat)) : Sg := match r with
  | none => σ
  | some q => note3 σ 3 (nI q.1) (nI q.2)
theorem meetN_end {n : Nat} {x y : Nat → Int32} {i : Nat} (h : n ≤ i) : meetN n x y i = none := by rw [meetN, Nat.sub_eq_zero_of_le h]; rfl
theorem meetN_t {n : Nat} {x y : Nat → Int32} {i j : Nat} (h : i < n) (hj : fndN (meetP n x y i) (i + 2) n = some j) : meetN n x y i = some (i, j) := by
  rw [meetN, show n - i = (n - (i + 1)) + 1 by omega, meetF, hj]
theorem meetN_f {n : Nat} {x y : Nat → Int32} {i : Nat} (h : i < n) (hj : fndN (meetP n x y i) (i + 2) n = none) : meetN n x y i = meetN n x y (i + 1) := by
  rw [meetN, show n - i = (n - (i + 1)) + 1 by omega, meetF, hj]
  rfl
set_option maxHeartbeats 4000000 in
set_option maxRecDepth 100000 in
theorem c_X0_note (l : Launch) (G : Gx) (hA : wa G) (σ : Sg) (a b c : Int32) : CtV l yX0_note wsX0_note (rmd 1) G [.ref (gA G 1 (0)), .int (a), .int (b), .int (c)] σ (fun σ' => σ' = note3 σ a b c) := by
  refine ct_v (maxL := 4) (ret := none) (by decide) rfl (Nat.le_of_ble_eq_true rfl) hA (fun K hl C => ?_)
  subst hl
  change WW K G _ _ σ [(0, .ref (gA G 1 (0))), (1, .int (a)), (2, .int (b)), (3, .int (c))] 0 []
  refine ww_aload_n C dX0_note_0 rfl 0 rfl ?_
  refine ww_iload_n C dX0_note_1 rfl 1 rfl ?_
  refine ww_pi (k := 1) (f := 0) C rfl rfl (by decide) rfl in_X0_note_X0 tyX0_ok nmX0 (by decide) lk_X0_note_9 rfl rfl dX0_note_2 ?_
  refine ww_aload_n C dX0_note_5 rfl 0 rfl ?_
  refine ww_iload_n C dX0_note_6 rfl 2 rfl ?_
  refine ww_pi (k := 1) (f := 1) C rfl rfl (by decide) rfl in_X0_note_X0 tyX0_ok nmX0 (by decide) lk_X0_note_15 rfl rfl dX0_note_7 ?_
  refine ww_aload_n C dX0_note_10 rfl 0 rfl ?_
  refine ww_iload_n C dX0_note_11 rfl 3 rfl ?_
  refine ww_pi (k := 1) (f := 2) C rfl rfl (by decide) rfl in_X0_note_X0 tyX0_ok nmX0 (by decide) lk_X0_note_18 rfl rfl dX0_note_12 ?_
  refine ww_vret C dX0_note_15 ?_
  rfl
set_option maxHeartbeats 4000000 in
set_option maxRecDepth 100000 in
theorem lp_X0_findFlatCorner {K : Kx} {G : Gx} (hA : wa G) (C : CX K G cX0_findFlatCorner 3 RX0 wsX0_findFlatCorner (rmd 2) none) (σ : Sg) (o n : Nat) (ho : o < 9) (hs : σ 14 o 2 = nI n) (hn : n ≤ 14) (h0 : 0 < n) : ∀ (f i : Nat), n - i < f → i ≤ n → fndN (flatP n (σ 15 o) (σ 16 o)) i n = fndN (flatP n (σ 15 o) (σ 16 o)) 0 n → WW K G 3 (QV K G (fun σ2 => σ2 = noteF σ (fndN (flatP n (σ 15 o) (σ 16 o)) 0 n))) σ [(2, .int (nI i)), (0, .ref (gA G 1 (0))), (1, .ref (gA G 14 (o)))] 2 [] := by
  intro f
  induction f with
  | zero => intro i  h; exact absurd h (Nat.not_lt_zero _)
  | succ f ih =>
    intro i  hf hi hv
    refine ww_iload_n C dX0_findFlatCorner_2 rfl 0 rfl ?_
    refine ww_aload_n C dX0_findFlatCorner_3 rfl 2 rfl ?_
    refine ww_gi (k := 14) (f := 2) C rfl rfl ho rfl in_X0_findFlatCorner_X1 (by decide) lk_X0_findFlatCorner_25 dX0_findFlatCorner_4 ?_
    refine ww_icmp_ge 42 C dX0_findFlatCorner_7 (by decide) (fun h7 => ?_) (fun h7 => ?_)
    · have g7 : n ≤ i := (cv_le (a := n) (b := i) hs rfl (by omega) (by omega)).mp h7
      refine ww_vret C dX0_findFlatCorner_42 ?_
      rw [← hv, fndN_end g7]; rfl
    · have g7 : ¬ n ≤ i := fun q => h7 ((cv_le (a := n) (b := i) hs rfl (by omega) (by omega)).mpr q)
      refine ww_aload_n C dX0_findFlatCorner_10 rfl 2 rfl ?_
      refine ww_aload_n C dX0_findFlatCorner_11 rfl 2 rfl ?_
      refine ww_iload_n C dX0_findFlatCorner_12 rfl 0 rfl ?_
      refine ww_calliF (cx_V (n := 1) (As := [.int (nI i)]) C  (c_X1_before (kL K) G hA _ o n ho hs hn i (by omega) h0) gX0_findFlatCorner_X1_before rfl ⟨rfl, rfl⟩ (by decide +kernel) (by decide) rfl ho rfl rfl rfl (Nat.le_of_ble_eq_true rfl) dX0_findFlatCorner_13) ?_
      refine ww_iload_n C dX0_findFlatCorner_16 rfl 0 rfl ?_
      refine ww_aload_n C dX0_findFlatCorner_17 rfl 2 rfl ?_
      refine ww_iload_n C dX0_findFlatCorner_18 rfl 0 rfl ?_
      refine ww_calliF (cx_V (n := 1) (As := [.int (nI i)]) C  (c_X1_after (kL K) G hA _ o n ho hs hn i (by omega)) gX0_findFlatCorner_X1_after rfl ⟨rfl, rfl⟩ (by decide +kernel) (by decide) rfl ho rfl rfl rfl (Nat.le_of_ble_eq_true rfl) dX0_findFlatCorner_19) ?_
      refine ww_calliF (cx_V (n := 3) (As := [.int (nI (bf n i)), .int (nI i), .int (nI (af n i))]) C  (c_X1_turn (kL K) G hA _ (o) ho (bf n i) i (af n i) (nlt14 (bf_lt (by omega)) hn) (by omega) (nlt14 (af_lt h0) hn)) gX0_findFlatCorner_X1_turn rfl ⟨rfl, rfl⟩ (by decide +kernel) (by decide) rfl ho rfl rfl rfl (Nat.le_of_ble_eq_true rfl) dX0_findFlatCorner_22) ?_
      refine ww_if_ne 36 C dX0_findFlatCorner_25 (by decide) (fun h25 => ?_) (fun h25 => ?_)
      · refine ww_iinc (q := 0) (fun y1 => [(2, .int (y1)), (0, .ref (gA G 1 (0))), (1, .ref (gA G 14 (o)))]) C dX0_findFlatCorner_36 rfl (by decide) (fun _ => rfl) (fun y1 ey1 => ?_)
        obtain rfl : y1 = nI (i + 1) := ninc rfl ey1
        refine ww_goto 2 C dX0_findFlatCorner_39 (by decide) ?_
        exact ih (i + 1) (by omega) (by omega) (by rw [← fndN_f (by omega) (decide_eq_false h25)]; exact hv)
      · refine ww_aload_n C dX0_findFlatCorner_28 rfl 1 rfl ?_
        refine ww_iconst (v := 2) C dX0_findFlatCorner_29 rfl ?_
        refine ww_iload_n C dX0_findFlatCorner_30 rfl 0 rfl ?_
        refine ww_iconst (v := -1) C dX0_findFlatCorner_31 rfl ?_
        refine ww_callvF (cx_V (n := 3) (As := [.int (2), .int (nI i), .int (-1)]) C  (c_X0_note (kL K) G hA _ _ _ _) gX0_findFlatCorner_X0_note rfl ⟨rfl, rfl⟩ (by decide +kernel) (by decide) rfl (by decide) rfl rfl rfl (Nat.le_of_ble_eq_true rfl) dX0_findFlatCorner_32) ?_
        refine ww_vret C dX0_findFlatCorner_35 ?_
        rw [← hv, fndN_t (by omega) (decide_eq_true h25)]; rfl
set_option maxHeartbeats 4000000 in
set_option maxRecDepth 100000 in
theorem c_X0_findFlatCorner (l : Launch) (G : Gx) (hA : wa G) (σ : Sg) (o n : Nat) (ho : o < 9) (hs : σ 14 o 2 = nI n) (hn : n ≤ 14) (h0 : 0 < n) : CtV l yX0_findFlatCorner wsX0_findFlatCorner (rmd 2) G [.ref (gA G 1 (0)), .ref (gA G 14 (o))] σ (fun σ2 => σ2 = noteF σ (fndN (flatP n (σ 15 o) (σ 16 o)) 0 n)) := by
  refine ct_v (maxL := 3) (ret := none) (by decide) rfl (Nat.le_of_ble_eq_true rfl) hA (fun K hl C => ?_)
  subst hl
  change WW K G _ _ σ [(0, .ref (gA G 1 (0))), (1, .ref (gA G 14 (o)))] 0 []
  refine ww_iconst (v := 0) C dX0_findFlatCorner_0 rfl ?_
  refine ww_istore_n (fun y1 => [(2, .int (y1)), (0, .ref (gA G 1 (0))), (1, .ref (gA G 14 (o)))]) C dX0_findFlatCorner_1 rfl (by decide) (fun _ => rfl) (fun y1 ey1 => ?_)
  obtain rfl : y1 = nI 0 := (ey1.trans (by decide))
  exact lp_X0_findFlatCorner hA C σ o n ho hs hn h0 (n + 1) 0 (by omega) (by omega) rfl
set_option maxHeartbeats 4000000 in
set_option maxRecDepth 100000 in
theorem lp_X0_findMeetingEdges_j {K : Kx} {G : Gx} (hA : wa G) (C : CX K G cX0_findMeetingEdges 4 RX0 wsX0_findMeetingEdges (rmd 4) none) (σ : Sg) (o n : Nat) (ho : o < 9) (hs : σ 14 o 2 = nI n) (hn : n ≤ 14) (h0 : 0 < n) (i : Nat) (hi : i < n) (hi0 : meetN n (σ 15 o) (σ 16 o) i = meetN n (σ 15 o) (σ 16 o) 0) (kx : fndN (meetP n (σ 15 o) (σ 16 o) i) (i + 2) n = none → WW K G 4 (QV K G (fun σ2 => σ2 = noteM σ (meetN n (σ 15 o) (σ 16 o) 0))) σ [(2, .int (nI i)), (0, .ref (gA G 1 (0))), (1, .ref (gA G 14 (o)))] 64 []) : ∀ (f j : Nat), n - j < f → i + 2 ≤ j → j ≤ n + 1 → fndN (meetP n (σ 15 o) (σ 16 o) i) j n = fndN (meetP n (σ 15 o) (σ 16 o) i) (i + 2) n → WW K G 4 (QV K G (fun σ2 => σ2 = noteM σ (meetN n (σ 15 o) (σ 16 o) 0))) σ [(3, .int (nI j)), (2, .int (nI i)), (0, .ref (gA G 1 (0))), (1, .ref (gA G 14 (o)))] 14 [] := by
  intro f
  induction f with
  | zero => intro j  h; exact absurd h (Nat.not_lt_zero _)
  | succ f ih =>
    intro j  hf hj hj2 hv
    refine ww_iload_n C dX0_findMeetingEdges_14 rfl 0 rfl ?_
    refine ww_aload_n C dX0_findMeetingEdges_15 rfl 3 rfl ?_
    refine ww_gi (k := 14) (f := 2) C rfl rfl ho rfl in_X0_findMeetingEdges_X1 (by decide) lk_X0_findMeetingEdges_25 dX0_findMeetingEdges_16 ?_
    refine ww_icmp_ge 64 C dX0_findMeetingEdges_19 (by decide) (fun h19 => ?_) (fun h19 => ?_)
    · have g19 : n ≤ j := (cv_le (a := n) (b := j) hs rfl (by omega) (by omega)).mp h19
      exact ww_sub [1, 2, 3] rfl (kx (by rw [← hv]; exact fndN_end (by omega)))
    · have g19 : ¬ n ≤ j := fun q => h19 ((cv_le (a := n) (b := j) hs rfl (by omega) (by omega)).mpr q)
      refine ww_aload_n C dX0_findMeetingEdges_22 rfl 3 rfl ?_
      refine ww_iload_n C dX0_findMeetingEdges_23 rfl 0 rfl ?_
      refine ww_calliF (cx_V (n := 1) (As := [.int (nI j)]) C  (c_X1_after (kL K) G hA _ o n ho hs hn j (by omega)) gX0_findMeetingEdges_X1_after rfl ⟨rfl, rfl⟩ (by decide +kernel) (by decide) rfl ho rfl rfl rfl (Nat.le_of_ble_eq_true rfl) dX0_findMeetingEdges_24) ?_
      refine ww_iload_n C dX0_findMeetingEdges_27 rfl 1 rfl ?_
      refine ww_icmp_eq 58 C dX0_findMeetingEdges_28 (by decide) (fun h28 => ?_) (fun h28 => ?_)
      · have g28 : af n j = i := (cv_eq (a := af n j) (b := i) rfl rfl (lt31 (nlt14 (af_lt h0) hn)) (by omega)).mp h28
        refine ww_iinc (q := 0) (fun y1 => [(3, .int (y1)), (2, .int (nI i)), (0, .ref (gA G 1 (0))), (1, .ref (gA G 14 (o)))]) C dX0_findMeetingEdges_58 rfl (by decide) (fun _ => rfl) (fun y1 ey1 => ?_)
        obtain rfl : y1 = nI (j + 1) := ninc rfl ey1
        refine ww_goto 14 C dX0_findMeetingEdges_61 (by decide) ?_
        exact ih (j + 1) (by omega) (by omega) (by omega) (by rw [← fndN_f (by omega) (by simp only [meetP]; rw [decide_eq_true g28]; rfl)]; exact hv)
      · have g28 : ¬ af n j = i := fun q => h28 ((cv_eq (a := af n j) (b := i) rfl rfl (lt31 (nlt14 (af_lt h0) hn)) (by omega)).mpr q)
        refine ww_aload_n C dX0_findMeetingEdges_31 rfl 3 rfl ?_
        refine ww_iload_n C dX0_findMeetingEdges_32 rfl 1 rfl ?_
        refine ww_aload_n C dX0_findMeetingEdges_33 rfl 3 rfl ?_
        refine ww_iload_n C dX0_findMeetingEdges_34 rfl 1 rfl ?_
        refine ww_calliF (cx_V (n := 1) (As := [.int (nI i)]) C  (c_X1_after (kL K) G hA _ o n ho hs hn i (by omega)) gX0_findMeetingEdges_X1_after rfl ⟨rfl, rfl⟩ (by decide +kernel) (by decide) rfl ho rfl rfl rfl (Nat.le_of_ble_eq_true rfl) dX0_findMeetingEdges_35) ?_
        refine ww_iload_n C dX0_findMeetingEdges_38 rfl 0 rfl ?_
        refine ww_aload_n C dX0_findMeetingEdges_39 rfl 3 rfl ?_
        refine ww_iload_n C dX0_findMeetingEdges_40 rfl 0 rfl ?_
        refine ww_calliF (cx_V (n := 1) (As := [.int (nI j)]) C  (c_X1_after (kL K) G hA _ o n ho hs hn j (by omega)) gX0_findMeetingEdges_X1_after rfl ⟨rfl, rfl⟩ (by decide +kernel) (by decide) rfl ho rfl rfl rfl (Nat.le_of_ble_eq_true rfl) dX0_findMeetingEdges_41) ?_
        refine ww_calliF (cx_V (n := 4) (As := [.int (nI i), .int (nI (af n i)), .int (nI j), .int (nI (af n j))]) C  (c_X1_meet (kL K) G hA _ (o) ho i (af n i) j (af n j) (by omega) (nlt14 (af_lt h0) hn) (by omega) (nlt14 (af_lt h0) hn)) gX0_findMeetingEdges_X1_meet rfl ⟨rfl, rfl⟩ (by decide +kernel) (by decide) rfl ho rfl rfl rfl (Nat.le_of_ble_eq_true rfl) dX0_findMeetingEdges_44) ?_
        refine ww_if_eq 58 C dX0_findMeetingEdges_47 (by decide) (fun h47 => ?_) (fun h47 => ?_)
        · refine ww_iinc (q := 0) (fun y2 => [(3, .int (y2)), (2, .int (nI i)), (0, .ref (gA G 1 (0))), (1, .ref (gA G 14 (o)))]) C dX0_findMeetingEdges_58 rfl (by decide) (fun _ => rfl) (fun y2 ey2 => ?_)
          obtain rfl : y2 = nI (j + 1) := ninc rfl ey2
          refine ww_goto 14 C dX0_findMeetingEdges_61 (by decide) ?_
          exact ih (j + 1) (by omega) (by omega) (by omega) (by rw [← fndN_f (by omega) (by simp only [meetP]; rw [bI_0.mp h47, Bool.and_false])]; exact hv)
        · refine ww_aload_n C dX0_findMeetingEdges_50 rfl 2 rfl ?_
          refine ww_iconst (v := 3) C dX0_findMeetingEdges_51 rfl ?_
          refine ww_iload_n C dX0_findMeetingEdges_52 rfl 1 rfl ?_
          refine ww_iload_n C dX0_findMeetingEdges_53 rfl 0 rfl ?_
          refine ww_callvF (cx_V (n := 3) (As := [.int (3), .int (nI i), .int (nI j)]) C  (c_X0_note (kL K) G hA _ _ _ _) gX0_findMeetingEdges_X0_note rfl ⟨rfl, rfl⟩ (by decide +kernel) (by decide) rfl (by decide) rfl rfl rfl (Nat.le_of_ble_eq_true rfl) dX0_findMeetingEdges_54) ?_
          refine ww_vret C dX0_findMeetingEdges_57 ?_
          rw [← hi0, meetN_t hi (by rw [← hv]; exact fndN_t (by omega) (by simp only [meetP]; rw [decide_eq_false g28, bI_1.mp h47]; rfl))]; rfl
set_option maxHeartbeats 4000000 in
set_option maxRecDepth 100000 in
theorem lp_X0_findMeetingEdges_i {K : Kx} {G : Gx} (hA : wa G) (C : CX K G cX0_findMeetingEdges 4 RX0 wsX0_findMeetingEdges (rmd 4) none) (σ : Sg) (o n : Nat) (ho : o < 9) (hs : σ 14 o 2 = nI n) (hn : n ≤ 14) (h0 : 0 < n) : ∀ (f i : Nat), n - i < f → i ≤ n → meetN n (σ 15 o) (σ 16 o) i = meetN n (σ 15 o) (σ 16 o) 0 → WW K G 4 (QV K G (fun σ2 => σ2 = noteM σ (meetN n (σ 15 o) (σ 16 o) 0))) σ [(2, .int (nI i)), (0, .ref (gA G 1 (0))), (1, .ref (gA G 14 (o)))] 2 [] := by
  intro f
  induction f with
  | zero => intro i  h; exact absurd h (Nat.not_lt_zero _)
  | succ f ih =>
    intro i  hf hi hv
    refine ww_iload_n C dX0_findMeetingEdges_2 rfl 0 rfl ?_
    refine ww_aload_n C dX0_findMeetingEdges_3 rfl 2 rfl ?_
    refine ww_gi (k := 14) (f := 2) C rfl rfl ho rfl in_X0_findMeetingEdges_X1 (by decide) lk_X0_findMeetingEdges_25 dX0_findMeetingEdges_4 ?_
    refine ww_icmp_ge 70 C dX0_findMeetingEdges_7 (by decide) (fun h7 => ?_) (fun h7 => ?_)
    · have g7 : n ≤ i := (cv_le (a := n) (b := i) hs rfl (by omega) (by omega)).mp h7
      refine ww_vret C dX0_findMeetingEdges_70 ?_
      rw [← hv, meetN_end g7]; rfl
    · have g7 : ¬ n ≤ i := fun q => h7 ((cv_le (a := n) (b := i) hs rfl (by omega) (by omega)).mpr q)
      refine ww_iload_n C dX0_findMeetingEdges_10 rfl 0 rfl ?_
      refine ww_iconst (v := 2) C dX0_findMeetingEdges_11 rfl ?_
      refine ww_iadd C dX0_findMeetingEdges_12 ?_
      refine ww_istore_n (fun y1 => [(3, .int (y1)), (2, .int (nI i)), (0, .ref (gA G 1 (0))), (1, .ref (gA G 14 (o)))]) C dX0_findMeetingEdges_13 rfl (by decide) (fun _ => rfl) (fun y1 ey1 => ?_)
      obtain rfl : y1 = nI (i + 2) := (ey1.trans (nI_add (i) (2)))
      refine lp_X0_findMeetingEdges_j hA C σ o n ho hs hn h0 i (by omega) hv (fun e9 => ?_) (n + 1) (i + 2) (by omega) (by omega) (by omega) rfl
      refine ww_iinc (q := 0) (fun y2 => [(2, .int (y2)), (0, .ref (gA G 1 (0))), (1, .ref (gA G 14 (o)))]) C dX0_findMeetingEdges_64 rfl (by decide) (fun _ => rfl) (fun y2 ey2 => ?_)
      obtain rfl : y2 = nI (i + 1) := ninc rfl ey2
      refine ww_goto 2 C dX0_findMeetingEdges_67 (by decide) ?_
      exact ih (i + 1) (by omega) (by omega) (by rw [← meetN_f (by omega) e9]; exact hv)
set_option maxHeartbeats 4000000 in
set_option maxRecDepth 100000 in
theorem c_X0_findMeetingEdges (l : Launch) (G : Gx) (hA : wa G) (σ : Sg) (o n : Nat) (ho : o < 9) (hs : σ 14 o 2 = nI n) (hn : n ≤ 14) (h0 : 0 < n) : CtV l yX0_findMeetingEdges wsX0_findMeetingEdges (rmd 4) G [.ref (gA G 1 (0)), .ref (gA G 14 (o))] σ (fun σ2 => σ2 = noteM σ (meetN n (σ 15 o) (σ 16 o) 0)) := by
  refine ct_v (maxL := 4) (ret := none) (by decide) rfl (Nat.le_of_ble_eq_true rfl) hA (fun K hl C => ?_)
  subst hl
  change WW K G _ _ σ [(0, .ref (gA G 1 (0))), (1, .ref (gA G 14 (o)))] 0 []
  refine ww_iconst (v := 0) C dX0_findMeetingEdges_0 rfl ?_
  refine ww_istore_n (fun y1 => [(2, .int (y1)), (0, .ref (gA G 1 (0))), (1, .ref (gA G 14 (o)))]) C dX0_findMeetingEdges_1 rfl (by decide) (fun _ => rfl) (fun y1 ey1 => ?_)
  obtain rfl : y1 = nI 0 := (ey1.trans (by decide))
  exact lp_X0_findMeetingEdges_i hA C σ o n ho hs hn h0 (n + 1) 0 (by omega) (by omega) rfl
theorem note3_k {σ : Sg} {a b c : Int32} {k : Nat} (h : k ≠ 1) : note3 σ a b c k = σ k := by
  funext i f
  simp [note3, sgu, h]
theorem noteF_k {σ : Sg} {r : Option Nat} {k : Nat} (h : k ≠ 1) : noteF σ r k = σ k := by
  cases r with
  | none => rfl
  | some i => exact note3_k h
theorem noteM_k {σ : Sg} {r : Option (Nat × Nat)} {k : Nat} (h : k ≠ 1) : noteM σ r k = σ k := by
  cases r with
  | none => rfl
  | some i => exact note3_k h
/-- what examine leaves behind -/
def examF (σ : Sg) (o n : Nat) : Sg := if n < 3 then note3 (note3 σ 0 (-1) (-1)) 1 (-1) (-1) else match fndN (flatP n (σ 15 o) (σ 16 o)) 0 n with
  | some i => noteF (note3 σ 0 (-1) (-1)) (some i)
  | none => noteM (note3 σ 0 (-1) (-1)) (meetN n (σ 15 o) (σ 16 o) 0)
theorem examF_k {σ : Sg} {o n k : Nat} (h : k ≠ 1) : examF σ o n k = σ k := by
  unfold examF
  split
  · rw [note3_k h, note3_k h]
  · cases fndN (flatP n (σ 15 o) (σ 16 o)) 0 n with
    | some i => exact (noteF_k h).trans (note3_k h)
    | none => exact (noteM_k h).trans (note3_k h)
set_option maxHeartbeats 4000000 in
set_option maxRecDepth 100000 in
theorem c_X0_examine (l : Launch) (G : Gx) (hA : wa G) (σ : Sg) (o n : Nat) (ho : o < 9) (hs : σ 14 o 2 = nI n) (hn : n ≤ 14) : CtV l yX0_examine wsX0_examine (rmd 5) G [.ref (gA G 1 (0)), .ref (gA G 14 (o))] σ (fun σ2 => σ2 = examF σ o n) := by
  refine ct_v (maxL := 2) (ret := none) (by decide) rfl (Nat.le_of_ble_eq_true rfl) hA (fun K hl C => ?_)
  subst hl
  change WW K G _ _ σ [(0, .ref (gA G 1 (0))), (1, .ref (gA G 14 (o)))] 0 []
  refine ww_aload_n C dX0_examine_0 rfl 0 rfl ?_
  refine ww_iconst (v := 0) C dX0_examine_1 rfl ?_
  refine ww_iconst (v := -1) C dX0_examine_2 rfl ?_
  refine ww_iconst (v := -1) C dX0_examine_3 rfl ?_
  refine ww_callvF (cx_V (n := 3) (As := [.int (0), .int (-1), .int (-1)]) C  (c_X0_note (kL K) G hA _ _ _ _) gX0_examine_X0_note rfl ⟨rfl, rfl⟩ (by decide +kernel) (by decide) rfl (by decide) rfl rfl rfl (Nat.le_of_ble_eq_true rfl) dX0_examine_4) ?_
  obtain ⟨σ1, hσ1⟩ : ∃ z : Sg, z = (note3 σ (0) (-1) (-1)) := ⟨_, rfl⟩
  rw [← hσ1]
  have hs1 : σ1 14 o 2 = nI n := by rw [hσ1, note3_k (by decide)]; exact hs
  refine ww_aload_n C dX0_examine_7 rfl 1 rfl ?_
  refine ww_gi (k := 14) (f := 2) C rfl rfl ho rfl in_X0_examine_X1 (by decide) lk_X0_examine_25 dX0_examine_8 ?_
  refine ww_iconst (v := 3) C dX0_examine_11 rfl ?_
  refine ww_icmp_ge 23 C dX0_examine_12 (by decide) (fun h12 => ?_) (fun h12 => ?_)
  · have g12 : 3 ≤ n := (cv_le (a := 3) (b := n) (by decide) hs1 (by omega) (by omega)).mp h12
    refine ww_aload_n C dX0_examine_23 rfl 0 rfl ?_
    refine ww_aload_n C dX0_examine_24 rfl 1 rfl ?_
    refine ww_callvF (cx_V (n := 1) (As := [.ref (gA G 14 (o))]) C  (c_X0_findFlatCorner (kL K) G hA _ _ n ho hs1 hn (by omega)) gX0_examine_X0_findFlatCorner rfl ⟨rfl, rfl⟩ (by decide +kernel) (by decide) rfl (by decide) rfl rfl rfl (Nat.le_of_ble_eq_true rfl) dX0_examine_25) ?_
    obtain ⟨σ3, hσ3⟩ : ∃ z : Sg, z = (noteF σ1 (fndN (flatP n (σ1 15 o) (σ1 16 o)) 0 n)) := ⟨_, rfl⟩
    rw [← hσ3]
    have hs1 : σ3 14 o 2 = nI n := by rw [hσ3, noteF_k (by decide)]; exact hs1
    refine ww_aload_n C dX0_examine_28 rfl 0 rfl ?_
    refine ww_gi (k := 1) (f := 0) C rfl rfl (by decide) rfl in_X0_examine_X0 (by decide) lk_X0_examine_9 dX0_examine_29 ?_
    refine ww_if_ne 40 C dX0_examine_32 (by decide) (fun h32 => ?_) (fun h32 => ?_)
    · refine ww_vret C dX0_examine_40 ?_
      rw [hσ3, hσ1, note3_k (by decide), note3_k (by decide), examF, if_neg (by omega)]
      cases hq : fndN (flatP n (σ 15 o) (σ 16 o)) 0 n with
      | some i => rfl
      | none =>
        exfalso
        apply h32
        rw [hσ3, hσ1, note3_k (by decide), note3_k (by decide), hq]
        rfl
    · refine ww_aload_n C dX0_examine_35 rfl 0 rfl ?_
      refine ww_aload_n C dX0_examine_36 rfl 1 rfl ?_
      refine ww_callvF (cx_V (n := 1) (As := [.ref (gA G 14 (o))]) C  (c_X0_findMeetingEdges (kL K) G hA _ _ n ho hs1 hn (by omega)) gX0_examine_X0_findMeetingEdges rfl ⟨rfl, rfl⟩ (by decide +kernel) (by decide) rfl (by decide) rfl rfl rfl (Nat.le_of_ble_eq_true rfl) dX0_examine_37) ?_
      obtain ⟨σ4, hσ4⟩ : ∃ z : Sg, z = (noteM σ3 (meetN n (σ3 15 o) (σ3 16 o) 0)) := ⟨_, rfl⟩
      rw [← hσ4]
      refine ww_vret C dX0_examine_40 ?_
      rw [hσ4, hσ3, hσ1, noteF_k (by decide), noteF_k (by decide), note3_k (by decide), note3_k (by decide), examF, if_neg (by omega)]
      cases hq : fndN (flatP n (σ 15 o) (σ 16 o)) 0 n with
      | some i =>
        exfalso
        rw [hσ3, hσ1, note3_k (by decide), note3_k (by decide), hq] at h32
        exact absurd h32 (by simp [noteF, note3, sgu])
      | none => rfl
  · have g12 : ¬ 3 ≤ n := fun q => h12 ((cv_le (a := 3) (b := n) (by decide) hs1 (by omega) (by omega)).mpr q)
    refine ww_aload_n C dX0_examine_15 rfl 0 rfl ?_
    refine ww_iconst (v := 1) C dX0_examine_16 rfl ?_
    refine ww_iconst (v := -1) C dX0_examine_17 rfl ?_
    refine ww_iconst (v := -1) C dX0_examine_18 rfl ?_
    refine ww_callvF (cx_V (n := 3) (As := [.int (1), .int (-1), .int (-1)]) C  (c_X0_note (kL K) G hA _ _ _ _) gX0_examine_X0_note rfl ⟨rfl, rfl⟩ (by decide +kernel) (by decide) rfl (by decide) rfl rfl rfl (Nat.le_of_ble_eq_true rfl) dX0_examine_19) ?_
    obtain ⟨σ2, hσ2⟩ : ∃ z : Sg, z = (note3 σ1 (1) (-1) (-1)) := ⟨_, rfl⟩
    rw [← hσ2]
    refine ww_vret C dX0_examine_22 ?_
    rw [hσ2, hσ1, examF, if_pos (by omega)]
end
section
section LM
variable {K : Kx} {G : Gx} {nL : Nat} {Q : State → Prop} {σ : Sg} {L : List (Nat × Value)} {pc : Nat} {st : List Value}
theorem ww_callqR {x : Nat} {g : Sg} {a : Array Value} {rest : List Value} (hr : CallX K G nL σ L pc st rest (va_Qq (fun r σ' => r = some x ∧ σ' = g) (fun σ' t => wd G σ' t.heap) (wo G) a)) (kk : WW K G nL Q g L (pc + 3) (.ref x :: rest)) : WW K G nL Q σ L pc st := ww_callqF hr kk
theorem ww_callqN {g : Sg} {a : Array Value} {rest : List Value} (hr : CallX K G nL σ L pc st rest (va_Qq (fun r σ' => r = none ∧ σ' = g) (fun σ' t => wd G σ' t.heap) (wo G) a)) (kk : WW K G nL Q g L (pc + 3) (.null :: rest)) : WW K G nL Q σ L pc st := ww_callqF hr kk
end LM
theorem c_X1_along_0 (l : Launch) (G : Gx) (hA : wa G) (σ : Sg) (o : Nat) (ho : o < 9) : CtQ l yX1_along wsX1_along (rmd 1) G [.ref (gA G 14 o), .int 0] σ (fun r σ' => r = some (gA G 15 o) ∧ σ' = σ) := by
  have h := c_X1_along l G hA σ o ho 0
  rw [if_pos rfl] at h
  exact h
theorem c_X1_along_1 (l : Launch) (G : Gx) (hA : wa G) (σ : Sg) (o : Nat) (ho : o < 9) : CtQ l yX1_along wsX1_along (rmd 1) G [.ref (gA G 14 o), .int 1] σ (fun r σ' => r = some (gA G 16 o) ∧ σ' = σ) := by
  have h := c_X1_along l G hA σ o ho 1
  rw [if_neg (by decide)] at h
  exact h
end
section
theorem in_X3_triangleCount_X3 : ∀ w ∈ wsX30, w ∈ wsX3_triangleCount := by decide +kernel
theorem lk_X3_triangleCount_12 : Cond.fieldLink RX3 12 "PolyCuts$Shape" "corners" "LPolyCuts$Corners;" ∈ wsX3_triangleCount := by decide +kernel
theorem in_X3_triangleCount_X1 : ∀ w ∈ wsX10, w ∈ wsX3_triangleCount := by decide +kernel
theorem lk_X3_triangleCount_59 : Cond.fieldLink RX3 59 "PolyCuts$Corners" "size" "I" ∈ wsX3_triangleCount := by decide +kernel
theorem in_X3_diagonalCount_X3 : ∀ w ∈ wsX30, w ∈ wsX3_diagonalCount := by decide +kernel
theorem lk_X3_diagonalCount_12 : Cond.fieldLink RX3 12 "PolyCuts$Shape" "corners" "LPolyCuts$Corners;" ∈ wsX3_diagonalCount := by decide +kernel
theorem in_X3_diagonalCount_X1 : ∀ w ∈ wsX10, w ∈ wsX3_diagonalCount := by decide +kernel
theorem lk_X3_diagonalCount_59 : Cond.fieldLink RX3 59 "PolyCuts$Corners" "size" "I" ∈ wsX3_diagonalCount := by decide +kernel
theorem in_X3_hand_X3 : ∀ w ∈ wsX30, w ∈ wsX3_hand := by decide +kernel
theorem lk_X3_hand_23 : Cond.fieldLink RX3 23 "PolyCuts$Shape" "doubleArea" "I" ∈ wsX3_hand := by decide +kernel
theorem in_X3_crossOfEdge_X3 : ∀ w ∈ wsX30, w ∈ wsX3_crossOfEdge := by decide +kernel
theorem lk_X3_crossOfEdge_12 : Cond.fieldLink RX3 12 "PolyCuts$Shape" "corners" "LPolyCuts$Corners;" ∈ wsX3_crossOfEdge := by decide +kernel
theorem in_X3_crossOfEdge_X1 : ∀ w ∈ wsX10, w ∈ wsX3_crossOfEdge := by decide +kernel
theorem lk_X3_crossOfEdge_77 : Cond.fieldLink RX3 77 "PolyCuts$Corners" "x" "[I" ∈ wsX3_crossOfEdge := by decide +kernel
theorem lk_X3_crossOfEdge_80 : Cond.fieldLink RX3 80 "PolyCuts$Corners" "y" "[I" ∈ wsX3_crossOfEdge := by decide +kernel
theorem in_X3_isFree_X3 : ∀ w ∈ wsX30, w ∈ wsX3_isFree := by decide +kernel
theorem lk_X3_isFree_12 : Cond.fieldLink RX3 12 "PolyCuts$Shape" "corners" "LPolyCuts$Corners;" ∈ wsX3_isFree := by decide +kernel
theorem in_X3_isFree_X1 : ∀ w ∈ wsX10, w ∈ wsX3_isFree := by decide +kernel
theorem lk_X3_isFree_59 : Cond.fieldLink RX3 59 "PolyCuts$Corners" "size" "I" ∈ wsX3_isFree := by decide +kernel
theorem in_X3_placeOf_X3 : ∀ w ∈ wsX30, w ∈ wsX3_placeOf := by decide +kernel
theorem lk_X3_placeOf_12 : Cond.fieldLink RX3 12 "PolyCuts$Shape" "corners" "LPolyCuts$Corners;" ∈ wsX3_placeOf := by decide +kernel
theorem in_X3_placeOf_X1 : ∀ w ∈ wsX10, w ∈ wsX3_placeOf := by decide +kernel
theorem lk_X3_placeOf_59 : Cond.fieldLink RX3 59 "PolyCuts$Corners" "size" "I" ∈ wsX3_placeOf := by decide +kernel
theorem lk_X3_placeOf_77 : Cond.fieldLink RX3 77 "PolyCuts$Corners" "x" "[I" ∈ wsX3_placeOf := by decide +kernel
theorem lk_X3_placeOf_80 : Cond.fieldLink RX3 80 "PolyCuts$Corners" "y" "[I" ∈ wsX3_placeOf := by decide +kernel
theorem in_X3_look_X3 : ∀ w ∈ wsX30, w ∈ wsX3_look := by decide +kernel
theorem lk_X3_look_12 : Cond.fieldLink RX3 12 "PolyCuts$Shape" "corners" "LPolyCuts$Corners;" ∈ wsX3_look := by decide +kernel
theorem in_X3_look_X1 : ∀ w ∈ wsX10, w ∈ wsX3_look := by decide +kernel
theorem lk_X3_look_77 : Cond.fieldLink RX3 77 "PolyCuts$Corners" "x" "[I" ∈ wsX3_look := by decide +kernel
theorem lk_X3_look_80 : Cond.fieldLink RX3 80 "PolyCuts$Corners" "y" "[I" ∈ wsX3_look := by decide +kernel
def crs9 (n : Nat) (x y : Nat → Int32) (i : Nat) : Int32 := x i * y (af n i) - y i * x (af n i)
def sumN (f : Nat → Int32) : Nat → Int32
  | 0 => 0
  | i + 1 => sumN f i + f i
def hnd (a : Int32) : Int32 := if 0 < a then 1 else -1
def freeP (n : Nat) (x y : Nat → Int32) (i j : Nat) : Nat → Bool := fun a => !(decide (a = i) || decide (a = j) || decide (af n a = i) || decide (af n a = j)) && meetC x y i j a (af n a)
def plcF (on cr : Nat → Bool) : Nat → Nat → Bool → Int32
  | _, 0, b => if b then 2 else 0
  | i, d + 1, b => if on i then 1 else plcF on cr (i + 1) d (b ^^ cr i)
def plcN (on cr : Nat → Bool) (i n : Nat) (b : Bool) : Int32 := plcF on cr i (n - i) b
theorem plcN_end {on cr : Nat → Bool} {i n : Nat} {b : Bool} (h : n ≤ i) : plcN on cr i n b = if b then 2 else 0 := by rw [plcN, Nat.sub_eq_zero_of_le h]; rfl
theorem plcN_on {on cr : Nat → Bool} {i n : Nat} {b : Bool} (h : i < n) (ho : on i = true) : plcN on cr i n b = 1 := by
  rw [plcN, show n - i = (n - (i + 1)) + 1 by omega, plcF, ho]; rfl
theorem plcN_step {on cr : Nat → Bool} {i n : Nat} {b : Bool} (h : i < n) (ho : on i = false) : plcN on cr i n b = plcN on cr (i + 1) n (b ^^ cr i) := by
  rw [plcN, show n - i = (n - (i + 1)) + 1 by omega, plcF, ho]; rfl
def sidC (n : Nat) (x y : Nat → Int32) (px py sc : Int32) (i : Nat) : Int32 := (x i * sc - px) * (y (af n i) * sc - py) - (y i * sc - py) * (x (af n i) * sc - px)
def onC (n : Nat) (x y : Nat → Int32) (px py sc : Int32) : Nat → Bool := fun i => decide (sidC n x y px py sc i = 0) && decide ((x i * sc - px) * (x (af n i) * sc - px) ≤ 0) && decide ((y i * sc - py) * (y (af n i) * sc - py) ≤ 0)
def crC (n : Nat) (x y : Nat → Int32) (px py sc : Int32) : Nat → Bool := fun i => (decide (0 < y i * sc - py) ^^ decide (0 < y (af n i) * sc - py)) && (decide (0 < sidC n x y px py sc i) == decide (y i * sc - py < y (af n i) * sc - py))
def plcC (n : Nat) (x y : Nat → Int32) (px py sc : Int32) : Int32 := plcN (onC n x y px py sc) (crC n x y px py sc) 0 n false
def lookF (n : Nat) (x y : Nat → Int32) (i j : Nat) : Int32 := if af n i = j ∨ af n j = i then 2 else if fndN (freeP n x y i j) 0 n = none ∧ plcC n x y (x i + x j) (y i + y j) 2 = 2 then 1 else 0
theorem bI_ne {a b : Bool} : ¬ bI a = bI b ↔ (a ^^ b) = true := by cases a <;> cases b <;> decide
theorem bI_eq {a b : Bool} : bI a = bI b ↔ (a ^^ b) = false := by cases a <;> cases b <;> decide
theorem bI_not {b : Bool} : bI (decide (¬ ¬ bI b = 0)) = bI (!b) := by cases b <;> decide
set_option maxHeartbeats 4000000 in
set_option maxRecDepth 100000 in
theorem c_X3_triangleCount (l : Launch) (G : Gx) (hA : wa G) (σ : Sg) (p n : Nat) (hp : p < 8) (hs : σ 14 (p + 1) 2 = nI n) (hn : n ≤ 14) : CtI l yX3_triangleCount wsX3_triangleCount (rmd 1) G [.ref (gA G 17 (p))] σ (fun r σ' => r = nI n - 2 ∧ σ' = σ) := by
  refine ct_i (maxL := 1) (ret := (some .int)) (by decide) rfl (Nat.le_of_ble_eq_true rfl) hA (fun K hl C => ?_)
  subst hl
  change WW K G _ _ σ [(0, .ref (gA G 17 (p)))] 0 []
  refine ww_aload_n C dX3_triangleCount_0 rfl 0 rfl ?_
  refine ww_gr (j := p + 1) (k := 17) (f := 0) C rfl rfl hp rfl in_X3_triangleCount_X3 (by decide) lk_X3_triangleCount_12 dX3_triangleCount_1 rfl ?_
  refine ww_gi (k := 14) (f := 2) C rfl rfl (Nat.add_lt_add_right hp 1) rfl in_X3_triangleCount_X1 (by decide) lk_X3_triangleCount_59 dX3_triangleCount_4 ?_
  refine ww_iconst (v := 2) C dX3_triangleCount_7 rfl ?_
  refine ww_isub C dX3_triangleCount_8 ?_
  refine ww_iret C dX3_triangleCount_9 ?_
  exact ⟨by rw [hs], rfl⟩
set_option maxHeartbeats 4000000 in
set_option maxRecDepth 100000 in
theorem c_X3_diagonalCount (l : Launch) (G : Gx) (hA : wa G) (σ : Sg) (p n : Nat) (hp : p < 8) (hs : σ 14 (p + 1) 2 = nI n) (hn : n ≤ 14) : CtI l yX3_diagonalCount wsX3_diagonalCount (rmd 1) G [.ref (gA G 17 (p))] σ (fun r σ' => r = nI n - 3 ∧ σ' = σ) := by
  refine ct_i (maxL := 1) (ret := (some .int)) (by decide) rfl (Nat.le_of_ble_eq_true rfl) hA (fun K hl C => ?_)
  subst hl
  change WW K G _ _ σ [(0, .ref (gA G 17 (p)))] 0 []
  refine ww_aload_n C dX3_diagonalCount_0 rfl 0 rfl ?_
  refine ww_gr (j := p + 1) (k := 17) (f := 0) C rfl rfl hp rfl in_X3_diagonalCount_X3 (by decide) lk_X3_diagonalCount_12 dX3_diagonalCount_1 rfl ?_
  refine ww_gi (k := 14) (f := 2) C rfl rfl (Nat.add_lt_add_right hp 1) rfl in_X3_diagonalCount_X1 (by decide) lk_X3_diagonalCount_59 dX3_diagonalCount_4 ?_
  refine ww_iconst (v := 3) C dX3_diagonalCount_7 rfl ?_
  refine ww_isub C dX3_diagonalCount_8 ?_
  refine ww_iret C dX3_diagonalCount_9 ?_
  exact ⟨by rw [hs], rfl⟩
set_option maxHeartbeats 4000000 in
set_option maxRecDepth 100000 in
theorem c_X3_hand (l : Launch) (G : Gx) (hA : wa G) (σ : Sg) (p : Nat) (hp : p < 8) : CtI l yX3_hand wsX3_hand (rmd 1) G [.ref (gA G 17 (p))] σ (fun r σ' => r = hnd (σ 17 p 2) ∧ σ' = σ) := by
  refine ct_i (maxL := 1) (ret := (some .int)) (by decide) rfl (Nat.le_of_ble_eq_true rfl) hA (fun K hl C => ?_)
  subst hl
  change WW K G _ _ σ [(0, .ref (gA G 17 (p)))] 0 []
  refine ww_aload_n C dX3_hand_0 rfl 0 rfl ?_
  refine ww_gi (k := 17) (f := 2) C rfl rfl hp rfl in_X3_hand_X3 (by decide) lk_X3_hand_23 dX3_hand_1 ?_
  refine ww_if_le 11 C dX3_hand_4 (by decide) (fun h4 => ?_) (fun h4 => ?_)
  · refine ww_iconst (v := -1) C dX3_hand_11 rfl ?_
    refine ww_iret C dX3_hand_12 ?_
    exact ⟨by rw [hnd, if_neg (i32_nlt.mpr h4)], rfl⟩
  · refine ww_iconst (v := 1) C dX3_hand_7 rfl ?_
    refine ww_goto 12 C dX3_hand_8 (by decide) ?_
    refine ww_iret C dX3_hand_12 ?_
    exact ⟨by rw [hnd, if_pos (i32_nle.mp h4)], rfl⟩
set_option maxHeartbeats 4000000 in
set_option maxRecDepth 100000 in
theorem c_X3_crossOfEdge (l : Launch) (G : Gx) (hA : wa G) (σ : Sg) (p n : Nat) (hp : p < 8) (hs : σ 14 (p + 1) 2 = nI n) (hn : n ≤ 14) (i : Nat) (hi : i < n) : CtI l yX3_crossOfEdge wsX3_crossOfEdge (rmd 2) G [.ref (gA G 17 (p)), .int (nI i)] σ (fun r σ' => r = crs9 n (σ 15 (p + 1)) (σ 16 (p + 1)) i ∧ σ' = σ) := by
  refine ct_i (maxL := 3) (ret := (some .int)) (by decide) rfl (Nat.le_of_ble_eq_true rfl) hA (fun K hl C => ?_)
  subst hl
  change WW K G _ _ σ [(0, .ref (gA G 17 (p))), (1, .int (nI i))] 0 []
  refine ww_aload_n C dX3_crossOfEdge_0 rfl 0 rfl ?_
  refine ww_gr (j := p + 1) (k := 17) (f := 0) C rfl rfl hp rfl in_X3_crossOfEdge_X3 (by decide) lk_X3_crossOfEdge_12 dX3_crossOfEdge_1 rfl ?_
  refine ww_iload_n C dX3_crossOfEdge_4 rfl 1 rfl ?_
  refine ww_calliF (cx_V (n := 1) (As := [.int (nI i)]) C  (c_X1_after (kL K) G hA _ (p + 1) n (Nat.add_lt_add_right hp 1) hs hn i (by omega)) gX3_crossOfEdge_X1_after rfl ⟨rfl, rfl⟩ (by decide +kernel) (by decide) rfl (Nat.add_lt_add_right hp 1) rfl rfl rfl (Nat.le_of_ble_eq_true rfl) dX3_crossOfEdge_5) ?_
  refine ww_istore_n (fun y1 => [(2, .int (y1)), (0, .ref (gA G 17 (p))), (1, .int (nI i))]) C dX3_crossOfEdge_8 rfl (by decide) (fun _ => rfl) (fun y1 ey1 => ?_)
  obtain rfl : y1 = nI (af n i) := ey1
  refine ww_aload_n C dX3_crossOfEdge_9 rfl 1 rfl ?_
  refine ww_gr (j := p + 1) (k := 17) (f := 0) C rfl rfl hp rfl in_X3_crossOfEdge_X3 (by decide) lk_X3_crossOfEdge_12 dX3_crossOfEdge_10 rfl ?_
  refine ww_gr (j := p + 1) (k := 14) (f := 0) C rfl rfl (Nat.add_lt_add_right hp 1) rfl in_X3_crossOfEdge_X1 (by decide) lk_X3_crossOfEdge_77 dX3_crossOfEdge_13 rfl ?_
  refine ww_iload_n C dX3_crossOfEdge_16 rfl 2 rfl ?_
  refine ww_iald (k := 15) (j := i) C rfl (Nat.add_lt_add_right hp 1) (by decide) dX3_crossOfEdge_17 rfl (by omega) ?_
  refine ww_aload_n C dX3_crossOfEdge_18 rfl 1 rfl ?_
  refine ww_gr (j := p + 1) (k := 17) (f := 0) C rfl rfl hp rfl in_X3_crossOfEdge_X3 (by decide) lk_X3_crossOfEdge_12 dX3_crossOfEdge_19 rfl ?_
  refine ww_gr (j := p + 1) (k := 14) (f := 1) C rfl rfl (Nat.add_lt_add_right hp 1) rfl in_X3_crossOfEdge_X1 (by decide) lk_X3_crossOfEdge_80 dX3_crossOfEdge_22 rfl ?_
  refine ww_iload_n C dX3_crossOfEdge_25 rfl 0 rfl ?_
  refine ww_iald (k := 16) (j := af n i) C rfl (Nat.add_lt_add_right hp 1) (by decide) dX3_crossOfEdge_26 rfl (nlt14 (af_lt (by omega)) hn) ?_
  refine ww_imul C dX3_crossOfEdge_27 ?_
  refine ww_aload_n C dX3_crossOfEdge_28 rfl 1 rfl ?_
  refine ww_gr (j := p + 1) (k := 17) (f := 0) C rfl rfl hp rfl in_X3_crossOfEdge_X3 (by decide) lk_X3_crossOfEdge_12 dX3_crossOfEdge_29 rfl ?_
  refine ww_gr (j := p + 1) (k := 14) (f := 1) C rfl rfl (Nat.add_lt_add_right hp 1) rfl in_X3_crossOfEdge_X1 (by decide) lk_X3_crossOfEdge_80 dX3_crossOfEdge_32 rfl ?_
  refine ww_iload_n C dX3_crossOfEdge_35 rfl 2 rfl ?_
  refine ww_iald (k := 16) (j := i) C rfl (Nat.add_lt_add_right hp 1) (by decide) dX3_crossOfEdge_36 rfl (by omega) ?_
  refine ww_aload_n C dX3_crossOfEdge_37 rfl 1 rfl ?_
  refine ww_gr (j := p + 1) (k := 17) (f := 0) C rfl rfl hp rfl in_X3_crossOfEdge_X3 (by decide) lk_X3_crossOfEdge_12 dX3_crossOfEdge_38 rfl ?_
  refine ww_gr (j := p + 1) (k := 14) (f := 0) C rfl rfl (Nat.add_lt_add_right hp 1) rfl in_X3_crossOfEdge_X1 (by decide) lk_X3_crossOfEdge_77 dX3_crossOfEdge_41 rfl ?_
  refine ww_iload_n C dX3_crossOfEdge_44 rfl 0 rfl ?_
  refine ww_iald (k := 15) (j := af n i) C rfl (Nat.add_lt_add_right hp 1) (by decide) dX3_crossOfEdge_45 rfl (nlt14 (af_lt (by omega)) hn) ?_
  refine ww_imul C dX3_crossOfEdge_46 ?_
  refine ww_isub C dX3_crossOfEdge_47 ?_
  refine ww_iret C dX3_crossOfEdge_48 ?_
  exact ⟨rfl, rfl⟩
set_option maxHeartbeats 4000000 in
set_option maxRecDepth 100000 in
theorem lp_X3_isFree {K : Kx} {G : Gx} (hA : wa G) (C : CX K G cX3_isFree 6 RX3 wsX3_isFree (rmd 4) (some .boolean)) (σ : Sg) (p n : Nat) (hp : p < 8) (hs : σ 14 (p + 1) 2 = nI n) (hn : n ≤ 14) (i j : Nat) (hi : i < n) (hj : j < n) : ∀ (f a : Nat), n - a < f → a ≤ n → fndN (freeP n (σ 15 (p + 1)) (σ 16 (p + 1)) i j) a n = fndN (freeP n (σ 15 (p + 1)) (σ 16 (p + 1)) i j) 0 n → WW K G 6 (QI K G (fun r σ2 => r = bI (fndN (freeP n (σ 15 (p + 1)) (σ 16 (p + 1)) i j) 0 n).isNone ∧ σ2 = σ)) σ [(3, .int (nI a)), (0, .ref (gA G 17 (p))), (1, .int (nI i)), (2, .int (nI j))] 2 [] := by
  intro f
  induction f with
  | zero => intro a  h; exact absurd h (Nat.not_lt_zero _)
  | succ f ih =>
    intro a  hf ha hv
    refine ww_iload_n C dX3_isFree_2 rfl 0 rfl ?_
    refine ww_aload_n C dX3_isFree_3 rfl 1 rfl ?_
    refine ww_gr (j := p + 1) (k := 17) (f := 0) C rfl rfl hp rfl in_X3_isFree_X3 (by decide) lk_X3_isFree_12 dX3_isFree_4 rfl ?_
    refine ww_gi (k := 14) (f := 2) C rfl rfl (Nat.add_lt_add_right hp 1) rfl in_X3_isFree_X1 (by decide) lk_X3_isFree_59 dX3_isFree_7 ?_
    refine ww_icmp_ge 80 C dX3_isFree_10 (by decide) (fun h10 => ?_) (fun h10 => ?_)
    · have g10 : n ≤ a := (cv_le (a := n) (b := a) hs rfl (by omega) (by omega)).mp h10
      refine ww_iconst (v := 1) C dX3_isFree_80 rfl ?_
      refine ww_zret C dX3_isFree_81 rfl ?_
      exact ⟨by rw [← hv, fndN_end g10]; rfl, rfl⟩
    · have g10 : ¬ n ≤ a := fun q => h10 ((cv_le (a := n) (b := a) hs rfl (by omega) (by omega)).mpr q)
      refine ww_aload_n C dX3_isFree_13 rfl 1 rfl ?_
      refine ww_gr (j := p + 1) (k := 17) (f := 0) C rfl rfl hp rfl in_X3_isFree_X3 (by decide) lk_X3_isFree_12 dX3_isFree_14 rfl ?_
      refine ww_iload_n C dX3_isFree_17 rfl 0 rfl ?_
      refine ww_calliF (cx_V (n := 1) (As := [.int (nI a)]) C  (c_X1_after (kL K) G hA _ (p + 1) n (Nat.add_lt_add_right hp 1) hs hn a (by omega)) gX3_isFree_X1_after rfl ⟨rfl, rfl⟩ (by decide +kernel) (by decide) rfl (Nat.add_lt_add_right hp 1) rfl rfl rfl (Nat.le_of_ble_eq_true rfl) dX3_isFree_18) ?_
      refine ww_istore (fun y1 => [(4, .int (y1)), (3, .int (nI a)), (0, .ref (gA G 17 (p))), (1, .int (nI i)), (2, .int (nI j))]) C dX3_isFree_21 (by decide) (fun _ => rfl) (fun y1 ey1 => ?_)
      obtain rfl : y1 = nI (af n a) := ey1
      refine ww_iload_n C dX3_isFree_23 rfl 1 rfl ?_
      refine ww_iload_n C dX3_isFree_24 rfl 3 rfl ?_
      refine ww_icmp_eq 45 C dX3_isFree_25 (by decide) (fun h25 => ?_) (fun h25 => ?_)
      · have g25 : a = i := (cv_eq (a := a) (b := i) rfl rfl (by omega) (by omega)).mp h25
        refine ww_iconst (v := 1) C dX3_isFree_45 rfl ?_
        refine ww_goto 50 C dX3_isFree_46 (by decide) ?_
        refine ww_istore (fun y2 => [(5, .int (y2)), (4, .int (nI (af n a))), (3, .int (nI a)), (0, .ref (gA G 17 (p))), (1, .int (nI i)), (2, .int (nI j))]) C dX3_isFree_50 (by decide) (fun _ => rfl) (fun y2 ey2 => ?_)
        obtain rfl : y2 = nI 1 := (ey2.trans (by decide))
        refine ww_iload C dX3_isFree_52 0 rfl ?_
        refine ww_if_ne 74 C dX3_isFree_54 (by decide) (fun h54 => ?_) (fun h54 => ?_)
        · have g54 : ¬ 1 = 0 := fun q => h54 ((cv_eq (a := 1) (b := 0) rfl (by decide) (by omega) (by omega)).mpr q)
          refine ww_iinc (q := 2) (fun y3 => [(3, .int (y3)), (5, .int (nI 1)), (4, .int (nI (af n a))), (0, .ref (gA G 17 (p))), (1, .int (nI i)), (2, .int (nI j))]) C dX3_isFree_74 rfl (by decide) (fun _ => rfl) (fun y3 ey3 => ?_)
          obtain rfl : y3 = nI (a + 1) := ninc rfl ey3
          refine ww_goto 2 C dX3_isFree_77 (by decide) ?_
          exact ww_sub [0, 3, 4, 5] rfl (ih (a + 1) (by omega) (by omega) (by rw [← fndN_f (by omega) (by simp [freeP, g25])]; exact hv))
        · have g54 : 1 = 0 := (cv_eq (a := 1) (b := 0) rfl (by decide) (by omega) (by omega)).mp h54
          exact absurd g54 (by decide)
      · have g25 : ¬ a = i := fun q => h25 ((cv_eq (a := a) (b := i) rfl rfl (by omega) (by omega)).mpr q)
        refine ww_iload_n C dX3_isFree_28 rfl 1 rfl ?_
        refine ww_iload_n C dX3_isFree_29 rfl 4 rfl ?_
        refine ww_icmp_eq 45 C dX3_isFree_30 (by decide) (fun h30 => ?_) (fun h30 => ?_)
        · have g30 : a = j := (cv_eq (a := a) (b := j) rfl rfl (by omega) (by omega)).mp h30
          refine ww_iconst (v := 1) C dX3_isFree_45 rfl ?_
          refine ww_goto 50 C dX3_isFree_46 (by decide) ?_
          refine ww_istore (fun y4 => [(5, .int (y4)), (4, .int (nI (af n a))), (3, .int (nI a)), (0, .ref (gA G 17 (p))), (1, .int (nI i)), (2, .int (nI j))]) C dX3_isFree_50 (by decide) (fun _ => rfl) (fun y4 ey4 => ?_)
          obtain rfl : y4 = nI 1 := (ey4.trans (by decide))
          refine ww_iload C dX3_isFree_52 0 rfl ?_
          refine ww_if_ne 74 C dX3_isFree_54 (by decide) (fun h54 => ?_) (fun h54 => ?_)
          · have g54 : ¬ 1 = 0 := fun q => h54 ((cv_eq (a := 1) (b := 0) rfl (by decide) (by omega) (by omega)).mpr q)
            refine ww_iinc (q := 2) (fun y5 => [(3, .int (y5)), (5, .int (nI 1)), (4, .int (nI (af n a))), (0, .ref (gA G 17 (p))), (1, .int (nI i)), (2, .int (nI j))]) C dX3_isFree_74 rfl (by decide) (fun _ => rfl) (fun y5 ey5 => ?_)
            obtain rfl : y5 = nI (a + 1) := ninc rfl ey5
            refine ww_goto 2 C dX3_isFree_77 (by decide) ?_
            exact ww_sub [0, 3, 4, 5] rfl (ih (a + 1) (by omega) (by omega) (by rw [← fndN_f (by omega) (by simp [freeP, g30])]; exact hv))
          · have g54 : 1 = 0 := (cv_eq (a := 1) (b := 0) rfl (by decide) (by omega) (by omega)).mp h54
            exact absurd g54 (by decide)
        · have g30 : ¬ a = j := fun q => h30 ((cv_eq (a := a) (b := j) rfl rfl (by omega) (by omega)).mpr q)
          refine ww_iload C dX3_isFree_33 0 rfl ?_
          refine ww_iload_n C dX3_isFree_35 rfl 3 rfl ?_
          refine ww_icmp_eq 45 C dX3_isFree_36 (by decide) (fun h36 => ?_) (fun h36 => ?_)
          · have g36 : af n a = i := (cv_eq (a := af n a) (b := i) rfl rfl (lt31 (nlt14 (af_lt (by omega)) hn)) (by omega)).mp h36
            refine ww_iconst (v := 1) C dX3_isFree_45 rfl ?_
            refine ww_goto 50 C dX3_isFree_46 (by decide) ?_
            refine ww_istore (fun y6 => [(5, .int (y6)), (4, .int (nI (af n a))), (3, .int (nI a)), (0, .ref (gA G 17 (p))), (1, .int (nI i)), (2, .int (nI j))]) C dX3_isFree_50 (by decide) (fun _ => rfl) (fun y6 ey6 => ?_)
            obtain rfl : y6 = nI 1 := (ey6.trans (by decide))
            refine ww_iload C dX3_isFree_52 0 rfl ?_
            refine ww_if_ne 74 C dX3_isFree_54 (by decide) (fun h54 => ?_) (fun h54 => ?_)
            · have g54 : ¬ 1 = 0 := fun q => h54 ((cv_eq (a := 1) (b := 0) rfl (by decide) (by omega) (by omega)).mpr q)
              refine ww_iinc (q := 2) (fun y7 => [(3, .int (y7)), (5, .int (nI 1)), (4, .int (nI (af n a))), (0, .ref (gA G 17 (p))), (1, .int (nI i)), (2, .int (nI j))]) C dX3_isFree_74 rfl (by decide) (fun _ => rfl) (fun y7 ey7 => ?_)
              obtain rfl : y7 = nI (a + 1) := ninc rfl ey7
              refine ww_goto 2 C dX3_isFree_77 (by decide) ?_
              exact ww_sub [0, 3, 4, 5] rfl (ih (a + 1) (by omega) (by omega) (by rw [← fndN_f (by omega) (by simp [freeP, g36])]; exact hv))
            · have g54 : 1 = 0 := (cv_eq (a := 1) (b := 0) rfl (by decide) (by omega) (by omega)).mp h54
              exact absurd g54 (by decide)
          · have g36 : ¬ af n a = i := fun q => h36 ((cv_eq (a := af n a) (b := i) rfl rfl (lt31 (nlt14 (af_lt (by omega)) hn)) (by omega)).mpr q)
            refine ww_iload C dX3_isFree_39 0 rfl ?_
            refine ww_iload_n C dX3_isFree_41 rfl 4 rfl ?_
            refine ww_icmp_ne 49 C dX3_isFree_42 (by decide) (fun h42 => ?_) (fun h42 => ?_)
            · have g42 : ¬ af n a = j := fun q => h42 ((cv_eq (a := af n a) (b := j) rfl rfl (lt31 (nlt14 (af_lt (by omega)) hn)) (by omega)).mpr q)
              refine ww_iconst (v := 0) C dX3_isFree_49 rfl ?_
              refine ww_istore (fun y8 => [(5, .int (y8)), (4, .int (nI (af n a))), (3, .int (nI a)), (0, .ref (gA G 17 (p))), (1, .int (nI i)), (2, .int (nI j))]) C dX3_isFree_50 (by decide) (fun _ => rfl) (fun y8 ey8 => ?_)
              obtain rfl : y8 = nI 0 := (ey8.trans (by decide))
              refine ww_iload C dX3_isFree_52 0 rfl ?_
              refine ww_if_ne 74 C dX3_isFree_54 (by decide) (fun h54 => ?_) (fun h54 => ?_)
              · have g54 : ¬ 0 = 0 := fun q => h54 ((cv_eq (a := 0) (b := 0) rfl (by decide) (by omega) (by omega)).mpr q)
                exact absurd g54 (by decide)
              · have g54 : 0 = 0 := (cv_eq (a := 0) (b := 0) rfl (by decide) (by omega) (by omega)).mp h54
                refine ww_aload_n C dX3_isFree_57 rfl 3 rfl ?_
                refine ww_gr (j := p + 1) (k := 17) (f := 0) C rfl rfl hp rfl in_X3_isFree_X3 (by decide) lk_X3_isFree_12 dX3_isFree_58 rfl ?_
                refine ww_iload_n C dX3_isFree_61 rfl 4 rfl ?_
                refine ww_iload_n C dX3_isFree_62 rfl 5 rfl ?_
                refine ww_iload_n C dX3_isFree_63 rfl 2 rfl ?_
                refine ww_iload C dX3_isFree_64 1 rfl ?_
                refine ww_calliF (cx_V (n := 4) (As := [.int (nI i), .int (nI j), .int (nI a), .int (nI (af n a))]) C  (c_X1_meet (kL K) G hA _ (p + 1) (Nat.add_lt_add_right hp 1) i j a (af n a) (by omega) (by omega) (by omega) (nlt14 (af_lt (by omega)) hn)) gX3_isFree_X1_meet rfl ⟨rfl, rfl⟩ (by decide +kernel) (by decide) rfl (Nat.add_lt_add_right hp 1) rfl rfl rfl (Nat.le_of_ble_eq_true rfl) dX3_isFree_66) ?_
                refine ww_if_eq 74 C dX3_isFree_69 (by decide) (fun h69 => ?_) (fun h69 => ?_)
                · refine ww_iinc (q := 2) (fun y9 => [(3, .int (y9)), (5, .int (nI 0)), (4, .int (nI (af n a))), (0, .ref (gA G 17 (p))), (1, .int (nI i)), (2, .int (nI j))]) C dX3_isFree_74 rfl (by decide) (fun _ => rfl) (fun y9 ey9 => ?_)
                  obtain rfl : y9 = nI (a + 1) := ninc rfl ey9
                  refine ww_goto 2 C dX3_isFree_77 (by decide) ?_
                  exact ww_sub [0, 3, 4, 5] rfl (ih (a + 1) (by omega) (by omega) (by rw [← fndN_f (by omega) (by rw [freeP, bI_0.mp h69, Bool.and_false])]; exact hv))
                · refine ww_iconst (v := 0) C dX3_isFree_72 rfl ?_
                  refine ww_zret C dX3_isFree_73 rfl ?_
                  exact ⟨by rw [← hv, fndN_t (by omega) (by simp [freeP, g25, g30, g36, g42, bI_1.mp h69])]; rfl, rfl⟩
            · have g42 : af n a = j := (cv_eq (a := af n a) (b := j) rfl rfl (lt31 (nlt14 (af_lt (by omega)) hn)) (by omega)).mp h42
              refine ww_iconst (v := 1) C dX3_isFree_45 rfl ?_
              refine ww_goto 50 C dX3_isFree_46 (by decide) ?_
              refine ww_istore (fun y10 => [(5, .int (y10)), (4, .int (nI (af n a))), (3, .int (nI a)), (0, .ref (gA G 17 (p))), (1, .int (nI i)), (2, .int (nI j))]) C dX3_isFree_50 (by decide) (fun _ => rfl) (fun y10 ey10 => ?_)
              obtain rfl : y10 = nI 1 := (ey10.trans (by decide))
              refine ww_iload C dX3_isFree_52 0 rfl ?_
              refine ww_if_ne 74 C dX3_isFree_54 (by decide) (fun h54 => ?_) (fun h54 => ?_)
              · have g54 : ¬ 1 = 0 := fun q => h54 ((cv_eq (a := 1) (b := 0) rfl (by decide) (by omega) (by omega)).mpr q)
                refine ww_iinc (q := 2) (fun y11 => [(3, .int (y11)), (5, .int (nI 1)), (4, .int (nI (af n a))), (0, .ref (gA G 17 (p))), (1, .int (nI i)), (2, .int (nI j))]) C dX3_isFree_74 rfl (by decide) (fun _ => rfl) (fun y11 ey11 => ?_)
                obtain rfl : y11 = nI (a + 1) := ninc rfl ey11
                refine ww_goto 2 C dX3_isFree_77 (by decide) ?_
                exact ww_sub [0, 3, 4, 5] rfl (ih (a + 1) (by omega) (by omega) (by rw [← fndN_f (by omega) (by simp [freeP, g42])]; exact hv))
              · have g54 : 1 = 0 := (cv_eq (a := 1) (b := 0) rfl (by decide) (by omega) (by omega)).mp h54
                exact absurd g54 (by decide)
set_option maxHeartbeats 4000000 in
set_option maxRecDepth 100000 in
theorem c_X3_isFree (l : Launch) (G : Gx) (hA : wa G) (σ : Sg) (p n : Nat) (hp : p < 8) (hs : σ 14 (p + 1) 2 = nI n) (hn : n ≤ 14) (i j : Nat) (hi : i < n) (hj : j < n) : CtI l yX3_isFree wsX3_isFree (rmd 4) G [.ref (gA G 17 (p)), .int (nI i), .int (nI j)] σ (fun r σ2 => r = bI (fndN (freeP n (σ 15 (p + 1)) (σ 16 (p + 1)) i j) 0 n).isNone ∧ σ2 = σ) := by
  refine ct_i (maxL := 6) (ret := (some .boolean)) (by decide) rfl (Nat.le_of_ble_eq_true rfl) hA (fun K hl C => ?_)
  subst hl
  change WW K G _ _ σ [(0, .ref (gA G 17 (p))), (1, .int (nI i)), (2, .int (nI j))] 0 []
  refine ww_iconst (v := 0) C dX3_isFree_0 rfl ?_
  refine ww_istore_n (fun y1 => [(3, .int (y1)), (0, .ref (gA G 17 (p))), (1, .int (nI i)), (2, .int (nI j))]) C dX3_isFree_1 rfl (by decide) (fun _ => rfl) (fun y1 ey1 => ?_)
  obtain rfl : y1 = nI 0 := (ey1.trans (by decide))
  exact lp_X3_isFree hA C σ p n hp hs hn i j hi hj (n + 1) 0 (by omega) (by omega) rfl
theorem pl_of1 {n : Nat} {x y : Nat → Int32} {px py sc : Int32} {i : Nat} (h : ¬ sidC n x y px py sc i = 0) : onC n x y px py sc i = false := by simp [onC, h]
theorem pl_of2 {n : Nat} {x y : Nat → Int32} {px py sc : Int32} {i : Nat} (h : 0 < (x i * sc - px) * (x (af n i) * sc - px)) : onC n x y px py sc i = false := by simp [onC, i32_nle.mpr h]
theorem pl_of3 {n : Nat} {x y : Nat → Int32} {px py sc : Int32} {i : Nat} (h : 0 < (y i * sc - py) * (y (af n i) * sc - py)) : onC n x y px py sc i = false := by simp [onC, i32_nle.mpr h]
theorem pl_on {n : Nat} {x y : Nat → Int32} {px py sc : Int32} {i : Nat} (h1 : sidC n x y px py sc i = 0) (h2 : ¬ 0 < (x i * sc - px) * (x (af n i) * sc - px)) (h3 : ¬ 0 < (y i * sc - py) * (y (af n i) * sc - py)) : onC n x y px py sc i = true := by simp [onC, h1, i32_nlt.mp h2, i32_nlt.mp h3]
theorem bx0 {a b : Bool} (h : bI (decide (¬ bI a = bI b)) = 0) : (a ^^ b) = false := by cases a <;> cases b <;> revert h <;> decide
theorem bx1 {a b : Bool} (h : ¬ bI (decide (¬ bI a = bI b)) = 0) : (a ^^ b) = true := by cases a <;> cases b <;> revert h <;> decide
theorem bx2 {a b : Bool} (h : ¬ bI a = bI b) : (a == b) = false := by cases a <;> cases b <;> revert h <;> decide
theorem bx3 {a b : Bool} (h : bI a = bI b) : (a == b) = true := by cases a <;> cases b <;> revert h <;> decide
theorem bI_inv {b : Bool} : bI (decide (bI b = 0)) = bI (!b) := by cases b <;> decide
set_option maxHeartbeats 4000000 in
set_option maxRecDepth 100000 in
theorem lp_X3_placeOf {K : Kx} {G : Gx} (hA : wa G) (C : CX K G cX3_placeOf 13 RX3 wsX3_placeOf (rmd 2) (some .int)) (σ : Sg) (p n : Nat) (hp : p < 8) (hs : σ 14 (p + 1) 2 = nI n) (hn : n ≤ 14) (px py sc : Int32) : ∀ (f i : Nat) (b : Bool), n - i < f → i ≤ n → plcN (onC n (σ 15 (p + 1)) (σ 16 (p + 1)) px py sc) (crC n (σ 15 (p + 1)) (σ 16 (p + 1)) px py sc) i n b = plcC n (σ 15 (p + 1)) (σ 16 (p + 1)) px py sc → WW K G 13 (QI K G (fun r σ2 => r = plcC n (σ 15 (p + 1)) (σ 16 (p + 1)) px py sc ∧ σ2 = σ)) σ [(5, .int (nI i)), (4, .int (bI b)), (0, .ref (gA G 17 (p))), (1, .int (px)), (2, .int (py)), (3, .int (sc))] 6 [] := by
  intro f
  induction f with
  | zero => intro i b h; exact absurd h (Nat.not_lt_zero _)
  | succ f ih =>
    intro i b hf hi hv
    refine ww_iload C dX3_placeOf_6 0 rfl ?_
    refine ww_aload_n C dX3_placeOf_8 rfl 2 rfl ?_
    refine ww_gr (j := p + 1) (k := 17) (f := 0) C rfl rfl hp rfl in_X3_placeOf_X3 (by decide) lk_X3_placeOf_12 dX3_placeOf_9 rfl ?_
    refine ww_gi (k := 14) (f := 2) C rfl rfl (Nat.add_lt_add_right hp 1) rfl in_X3_placeOf_X1 (by decide) lk_X3_placeOf_59 dX3_placeOf_12 ?_
    refine ww_icmp_ge 207 C dX3_placeOf_15 (by decide) (fun h15 => ?_) (fun h15 => ?_)
    · have g15 : n ≤ i := (cv_le (a := n) (b := i) hs rfl (by omega) (by omega)).mp h15
      refine ww_iload C dX3_placeOf_207 1 rfl ?_
      refine ww_if_eq 216 C dX3_placeOf_209 (by decide) (fun h209 => ?_) (fun h209 => ?_)
      · refine ww_iconst (v := 0) C dX3_placeOf_216 rfl ?_
        refine ww_iret C dX3_placeOf_217 ?_
        exact ⟨by rw [← hv, plcN_end g15, bI_0.mp h209]; rfl, rfl⟩
      · refine ww_iconst (v := 2) C dX3_placeOf_212 rfl ?_
        refine ww_goto 217 C dX3_placeOf_213 (by decide) ?_
        refine ww_iret C dX3_placeOf_217 ?_
        exact ⟨by rw [← hv, plcN_end g15, bI_1.mp h209]; rfl, rfl⟩
    · have g15 : ¬ n ≤ i := fun q => h15 ((cv_le (a := n) (b := i) hs rfl (by omega) (by omega)).mpr q)
      refine ww_aload_n C dX3_placeOf_18 rfl 2 rfl ?_
      refine ww_gr (j := p + 1) (k := 17) (f := 0) C rfl rfl hp rfl in_X3_placeOf_X3 (by decide) lk_X3_placeOf_12 dX3_placeOf_19 rfl ?_
      refine ww_iload C dX3_placeOf_22 0 rfl ?_
      refine ww_calliF (cx_V (n := 1) (As := [.int (nI i)]) C  (c_X1_after (kL K) G hA _ (p + 1) n (Nat.add_lt_add_right hp 1) hs hn i (by omega)) gX3_placeOf_X1_after rfl ⟨rfl, rfl⟩ (by decide +kernel) (by decide) rfl (Nat.add_lt_add_right hp 1) rfl rfl rfl (Nat.le_of_ble_eq_true rfl) dX3_placeOf_24) ?_
      refine ww_istore (fun y1 => [(6, .int (y1)), (5, .int (nI i)), (4, .int (bI b)), (0, .ref (gA G 17 (p))), (1, .int (px)), (2, .int (py)), (3, .int (sc))]) C dX3_placeOf_27 (by decide) (fun _ => rfl) (fun y1 ey1 => ?_)
      obtain rfl : y1 = nI (af n i) := ey1
      refine ww_aload_n C dX3_placeOf_29 rfl 3 rfl ?_
      refine ww_gr (j := p + 1) (k := 17) (f := 0) C rfl rfl hp rfl in_X3_placeOf_X3 (by decide) lk_X3_placeOf_12 dX3_placeOf_30 rfl ?_
      refine ww_gr (j := p + 1) (k := 14) (f := 0) C rfl rfl (Nat.add_lt_add_right hp 1) rfl in_X3_placeOf_X1 (by decide) lk_X3_placeOf_77 dX3_placeOf_33 rfl ?_
      refine ww_iload C dX3_placeOf_36 1 rfl ?_
      refine ww_iald (k := 15) (j := i) C rfl (Nat.add_lt_add_right hp 1) (by decide) dX3_placeOf_38 rfl (by omega) ?_
      refine ww_iload_n C dX3_placeOf_39 rfl 6 rfl ?_
      refine ww_imul C dX3_placeOf_40 ?_
      refine ww_iload_n C dX3_placeOf_41 rfl 4 rfl ?_
      refine ww_isub C dX3_placeOf_42 ?_
      refine ww_istore (fun ax => [(7, .int (ax)), (6, .int (nI (af n i))), (5, .int (nI i)), (4, .int (bI b)), (0, .ref (gA G 17 (p))), (1, .int (px)), (2, .int (py)), (3, .int (sc))]) C dX3_placeOf_43 (by decide) (fun _ => rfl) (fun ax eax => ?_)
      refine ww_aload_n C dX3_placeOf_45 rfl 4 rfl ?_
      refine ww_gr (j := p + 1) (k := 17) (f := 0) C rfl rfl hp rfl in_X3_placeOf_X3 (by decide) lk_X3_placeOf_12 dX3_placeOf_46 rfl ?_
      refine ww_gr (j := p + 1) (k := 14) (f := 1) C rfl rfl (Nat.add_lt_add_right hp 1) rfl in_X3_placeOf_X1 (by decide) lk_X3_placeOf_80 dX3_placeOf_49 rfl ?_
      refine ww_iload C dX3_placeOf_52 2 rfl ?_
      refine ww_iald (k := 16) (j := i) C rfl (Nat.add_lt_add_right hp 1) (by decide) dX3_placeOf_54 rfl (by omega) ?_
      refine ww_iload_n C dX3_placeOf_55 rfl 7 rfl ?_
      refine ww_imul C dX3_placeOf_56 ?_
      refine ww_iload_n C dX3_placeOf_57 rfl 6 rfl ?_
      refine ww_isub C dX3_placeOf_58 ?_
      refine ww_istore (fun ay => [(8, .int (ay)), (7, .int (ax)), (6, .int (nI (af n i))), (5, .int (nI i)), (4, .int (bI b)), (0, .ref (gA G 17 (p))), (1, .int (px)), (2, .int (py)), (3, .int (sc))]) C dX3_placeOf_59 (by decide) (fun _ => rfl) (fun ay eay => ?_)
      refine ww_aload_n C dX3_placeOf_61 rfl 5 rfl ?_
      refine ww_gr (j := p + 1) (k := 17) (f := 0) C rfl rfl hp rfl in_X3_placeOf_X3 (by decide) lk_X3_placeOf_12 dX3_placeOf_62 rfl ?_
      refine ww_gr (j := p + 1) (k := 14) (f := 0) C rfl rfl (Nat.add_lt_add_right hp 1) rfl in_X3_placeOf_X1 (by decide) lk_X3_placeOf_77 dX3_placeOf_65 rfl ?_
      refine ww_iload C dX3_placeOf_68 2 rfl ?_
      refine ww_iald (k := 15) (j := af n i) C rfl (Nat.add_lt_add_right hp 1) (by decide) dX3_placeOf_70 rfl (nlt14 (af_lt (by omega)) hn) ?_
      refine ww_iload_n C dX3_placeOf_71 rfl 8 rfl ?_
      refine ww_imul C dX3_placeOf_72 ?_
      refine ww_iload_n C dX3_placeOf_73 rfl 6 rfl ?_
      refine ww_isub C dX3_placeOf_74 ?_
      refine ww_istore (fun bx => [(9, .int (bx)), (8, .int (ay)), (7, .int (ax)), (6, .int (nI (af n i))), (5, .int (nI i)), (4, .int (bI b)), (0, .ref (gA G 17 (p))), (1, .int (px)), (2, .int (py)), (3, .int (sc))]) C dX3_placeOf_75 (by decide) (fun _ => rfl) (fun bx ebx => ?_)
      refine ww_aload_n C dX3_placeOf_77 rfl 6 rfl ?_
      refine ww_gr (j := p + 1) (k := 17) (f := 0) C rfl rfl hp rfl in_X3_placeOf_X3 (by decide) lk_X3_placeOf_12 dX3_placeOf_78 rfl ?_
      refine ww_gr (j := p + 1) (k := 14) (f := 1) C rfl rfl (Nat.add_lt_add_right hp 1) rfl in_X3_placeOf_X1 (by decide) lk_X3_placeOf_80 dX3_placeOf_81 rfl ?_
      refine ww_iload C dX3_placeOf_84 3 rfl ?_
      refine ww_iald (k := 16) (j := af n i) C rfl (Nat.add_lt_add_right hp 1) (by decide) dX3_placeOf_86 rfl (nlt14 (af_lt (by omega)) hn) ?_
      refine ww_iload_n C dX3_placeOf_87 rfl 9 rfl ?_
      refine ww_imul C dX3_placeOf_88 ?_
      refine ww_iload_n C dX3_placeOf_89 rfl 8 rfl ?_
      refine ww_isub C dX3_placeOf_90 ?_
      refine ww_istore (fun bz => [(10, .int (bz)), (9, .int (bx)), (8, .int (ay)), (7, .int (ax)), (6, .int (nI (af n i))), (5, .int (nI i)), (4, .int (bI b)), (0, .ref (gA G 17 (p))), (1, .int (px)), (2, .int (py)), (3, .int (sc))]) C dX3_placeOf_91 (by decide) (fun _ => rfl) (fun bz ebz => ?_)
      refine ww_iload C dX3_placeOf_93 3 rfl ?_
      refine ww_iload C dX3_placeOf_95 0 rfl ?_
      refine ww_imul C dX3_placeOf_97 ?_
      refine ww_iload C dX3_placeOf_98 2 rfl ?_
      refine ww_iload C dX3_placeOf_100 1 rfl ?_
      refine ww_imul C dX3_placeOf_102 ?_
      refine ww_isub C dX3_placeOf_103 ?_
      refine ww_istore (fun sd => [(11, .int (sd)), (10, .int (bz)), (9, .int (bx)), (8, .int (ay)), (7, .int (ax)), (6, .int (nI (af n i))), (5, .int (nI i)), (4, .int (bI b)), (0, .ref (gA G 17 (p))), (1, .int (px)), (2, .int (py)), (3, .int (sc))]) C dX3_placeOf_104 (by decide) (fun _ => rfl) (fun sd esd => ?_)
      have hsd : sidC n (σ 15 (p + 1)) (σ 16 (p + 1)) px py sc i = sd := by rw [esd, eax, eay, ebx, ebz]; rfl
      refine ww_iload C dX3_placeOf_106 0 rfl ?_
      refine ww_if_ne 129 C dX3_placeOf_108 (by decide) (fun h108 => ?_) (fun h108 => ?_)
      · refine ww_iload C dX3_placeOf_129 3 rfl ?_
        refine ww_b_le C dX3_placeOf_131 dX3_placeOf_134 dX3_placeOf_135 dX3_placeOf_138 ?_
        refine ww_iload C dX3_placeOf_139 1 rfl ?_
        refine ww_b_le C dX3_placeOf_141 dX3_placeOf_144 dX3_placeOf_145 dX3_placeOf_148 ?_
        refine ww_bc_eq C dX3_placeOf_149 dX3_placeOf_152 dX3_placeOf_153 dX3_placeOf_156 ?_
        refine ww_istore (fun ch => [(12, .int (ch)), (11, .int (sd)), (10, .int (bz)), (9, .int (bx)), (8, .int (ay)), (7, .int (ax)), (6, .int (nI (af n i))), (5, .int (nI i)), (4, .int (bI b)), (0, .ref (gA G 17 (p))), (1, .int (px)), (2, .int (py)), (3, .int (sc))]) C dX3_placeOf_157 (by decide) (fun _ => rfl) (fun ch ech => ?_)
        refine ww_iload C dX3_placeOf_159 0 rfl ?_
        refine ww_if_eq 201 C dX3_placeOf_161 (by decide) (fun h161 => ?_) (fun h161 => ?_)
        · refine ww_iinc (q := 7) (fun y2 => [(5, .int (y2)), (12, .int (ch)), (11, .int (sd)), (10, .int (bz)), (9, .int (bx)), (8, .int (ay)), (7, .int (ax)), (6, .int (nI (af n i))), (4, .int (bI b)), (0, .ref (gA G 17 (p))), (1, .int (px)), (2, .int (py)), (3, .int (sc))]) C dX3_placeOf_201 rfl (by decide) (fun _ => rfl) (fun y2 ey2 => ?_)
          obtain rfl : y2 = nI (i + 1) := ninc rfl ey2
          refine ww_goto 6 C dX3_placeOf_204 (by decide) ?_
          have hof : (onC n (σ 15 (p + 1)) (σ 16 (p + 1)) px py sc) i = false := pl_of1 (by rw [hsd]; exact h108)
          have hcr : (crC n (σ 15 (p + 1)) (σ 16 (p + 1)) px py sc) i = false := by rw [crC, ← eay, ← ebz, bx0 (ech ▸ h161)]; rfl
          exact ww_sub [0, 8, 9, 10, 11, 12] rfl (ih (i + 1) b (by omega) (by omega) (by rw [← hv, plcN_step (by omega) hof, hcr]; simp))
        · refine ww_iload C dX3_placeOf_164 1 rfl ?_
          refine ww_b_le C dX3_placeOf_166 dX3_placeOf_169 dX3_placeOf_170 dX3_placeOf_173 ?_
          refine ww_iload C dX3_placeOf_174 2 rfl ?_
          refine ww_iload C dX3_placeOf_176 4 rfl ?_
          refine ww_bc_le C dX3_placeOf_178 dX3_placeOf_181 dX3_placeOf_182 dX3_placeOf_185 ?_
          refine ww_icmp_ne 201 C dX3_placeOf_186 (by decide) (fun h186 => ?_) (fun h186 => ?_)
          · refine ww_iinc (q := 7) (fun y3 => [(5, .int (y3)), (12, .int (ch)), (11, .int (sd)), (10, .int (bz)), (9, .int (bx)), (8, .int (ay)), (7, .int (ax)), (6, .int (nI (af n i))), (4, .int (bI b)), (0, .ref (gA G 17 (p))), (1, .int (px)), (2, .int (py)), (3, .int (sc))]) C dX3_placeOf_201 rfl (by decide) (fun _ => rfl) (fun y3 ey3 => ?_)
            obtain rfl : y3 = nI (i + 1) := ninc rfl ey3
            refine ww_goto 6 C dX3_placeOf_204 (by decide) ?_
            have hof : (onC n (σ 15 (p + 1)) (σ 16 (p + 1)) px py sc) i = false := pl_of1 (by rw [hsd]; exact h108)
            have hcr : (crC n (σ 15 (p + 1)) (σ 16 (p + 1)) px py sc) i = false := by rw [crC, hsd, ← eay, ← ebz, bx2 h186, Bool.and_false]
            exact ww_sub [0, 8, 9, 10, 11, 12] rfl (ih (i + 1) b (by omega) (by omega) (by rw [← hv, plcN_step (by omega) hof, hcr]; simp))
          · refine ww_iload C dX3_placeOf_189 8 rfl ?_
            refine ww_b_ne C dX3_placeOf_191 dX3_placeOf_194 dX3_placeOf_195 dX3_placeOf_198 ?_
            refine ww_istore (fun nb => [(4, .int (nb)), (12, .int (ch)), (11, .int (sd)), (10, .int (bz)), (9, .int (bx)), (8, .int (ay)), (7, .int (ax)), (6, .int (nI (af n i))), (5, .int (nI i)), (0, .ref (gA G 17 (p))), (1, .int (px)), (2, .int (py)), (3, .int (sc))]) C dX3_placeOf_199 (by decide) (fun _ => rfl) (fun nb enb => ?_)
            obtain rfl : nb = bI (!b) := enb.trans bI_inv
            refine ww_iinc (q := 8) (fun y4 => [(5, .int (y4)), (4, .int (bI (!b))), (12, .int (ch)), (11, .int (sd)), (10, .int (bz)), (9, .int (bx)), (8, .int (ay)), (7, .int (ax)), (6, .int (nI (af n i))), (0, .ref (gA G 17 (p))), (1, .int (px)), (2, .int (py)), (3, .int (sc))]) C dX3_placeOf_201 rfl (by decide) (fun _ => rfl) (fun y4 ey4 => ?_)
            obtain rfl : y4 = nI (i + 1) := ninc rfl ey4
            refine ww_goto 6 C dX3_placeOf_204 (by decide) ?_
            have hof : (onC n (σ 15 (p + 1)) (σ 16 (p + 1)) px py sc) i = false := pl_of1 (by rw [hsd]; exact h108)
            have hcr : (crC n (σ 15 (p + 1)) (σ 16 (p + 1)) px py sc) i = true := by rw [crC, hsd, ← eay, ← ebz, bx1 (ech ▸ h161), bx3 h186]; rfl
            exact ww_sub [0, 1, 9, 10, 11, 12] rfl (ih (i + 1) (!b) (by omega) (by omega) (by rw [← hv, plcN_step (by omega) hof, hcr]; simp))
      · refine ww_iload C dX3_placeOf_111 4 rfl ?_
        refine ww_iload C dX3_placeOf_113 2 rfl ?_
        refine ww_imul C dX3_placeOf_115 ?_
        refine ww_if_gt 129 C dX3_placeOf_116 (by decide) (fun h116 => ?_) (fun h116 => ?_)
        · refine ww_iload C dX3_placeOf_129 3 rfl ?_
          refine ww_b_le C dX3_placeOf_131 dX3_placeOf_134 dX3_placeOf_135 dX3_placeOf_138 ?_
          refine ww_iload C dX3_placeOf_139 1 rfl ?_
          refine ww_b_le C dX3_placeOf_141 dX3_placeOf_144 dX3_placeOf_145 dX3_placeOf_148 ?_
          refine ww_bc_eq C dX3_placeOf_149 dX3_placeOf_152 dX3_placeOf_153 dX3_placeOf_156 ?_
          refine ww_istore (fun ch => [(12, .int (ch)), (11, .int (sd)), (10, .int (bz)), (9, .int (bx)), (8, .int (ay)), (7, .int (ax)), (6, .int (nI (af n i))), (5, .int (nI i)), (4, .int (bI b)), (0, .ref (gA G 17 (p))), (1, .int (px)), (2, .int (py)), (3, .int (sc))]) C dX3_placeOf_157 (by decide) (fun _ => rfl) (fun ch ech => ?_)
          refine ww_iload C dX3_placeOf_159 0 rfl ?_
          refine ww_if_eq 201 C dX3_placeOf_161 (by decide) (fun h161 => ?_) (fun h161 => ?_)
          · refine ww_iinc (q := 7) (fun y5 => [(5, .int (y5)), (12, .int (ch)), (11, .int (sd)), (10, .int (bz)), (9, .int (bx)), (8, .int (ay)), (7, .int (ax)), (6, .int (nI (af n i))), (4, .int (bI b)), (0, .ref (gA G 17 (p))), (1, .int (px)), (2, .int (py)), (3, .int (sc))]) C dX3_placeOf_201 rfl (by decide) (fun _ => rfl) (fun y5 ey5 => ?_)
            obtain rfl : y5 = nI (i + 1) := ninc rfl ey5
            refine ww_goto 6 C dX3_placeOf_204 (by decide) ?_
            have hof : (onC n (σ 15 (p + 1)) (σ 16 (p + 1)) px py sc) i = false := pl_of2 (by rw [← eax, ← ebx]; exact h116)
            have hcr : (crC n (σ 15 (p + 1)) (σ 16 (p + 1)) px py sc) i = false := by rw [crC, ← eay, ← ebz, bx0 (ech ▸ h161)]; rfl
            exact ww_sub [0, 8, 9, 10, 11, 12] rfl (ih (i + 1) b (by omega) (by omega) (by rw [← hv, plcN_step (by omega) hof, hcr]; simp))
          · refine ww_iload C dX3_placeOf_164 1 rfl ?_
            refine ww_b_le C dX3_placeOf_166 dX3_placeOf_169 dX3_placeOf_170 dX3_placeOf_173 ?_
            refine ww_iload C dX3_placeOf_174 2 rfl ?_
            refine ww_iload C dX3_placeOf_176 4 rfl ?_
            refine ww_bc_le C dX3_placeOf_178 dX3_placeOf_181 dX3_placeOf_182 dX3_placeOf_185 ?_
            refine ww_icmp_ne 201 C dX3_placeOf_186 (by decide) (fun h186 => ?_) (fun h186 => ?_)
            · refine ww_iinc (q := 7) (fun y6 => [(5, .int (y6)), (12, .int (ch)), (11, .int (sd)), (10, .int (bz)), (9, .int (bx)), (8, .int (ay)), (7, .int (ax)), (6, .int (nI (af n i))), (4, .int (bI b)), (0, .ref (gA G 17 (p))), (1, .int (px)), (2, .int (py)), (3, .int (sc))]) C dX3_placeOf_201 rfl (by decide) (fun _ => rfl) (fun y6 ey6 => ?_)
              obtain rfl : y6 = nI (i + 1) := ninc rfl ey6
              refine ww_goto 6 C dX3_placeOf_204 (by decide) ?_
              have hof : (onC n (σ 15 (p + 1)) (σ 16 (p + 1)) px py sc) i = false := pl_of2 (by rw [← eax, ← ebx]; exact h116)
              have hcr : (crC n (σ 15 (p + 1)) (σ 16 (p + 1)) px py sc) i = false := by rw [crC, hsd, ← eay, ← ebz, bx2 h186, Bool.and_false]
              exact ww_sub [0, 8, 9, 10, 11, 12] rfl (ih (i + 1) b (by omega) (by omega) (by rw [← hv, plcN_step (by omega) hof, hcr]; simp))
            · refine ww_iload C dX3_placeOf_189 8 rfl ?_
              refine ww_b_ne C dX3_placeOf_191 dX3_placeOf_194 dX3_placeOf_195 dX3_placeOf_198 ?_
              refine ww_istore (fun nb => [(4, .int (nb)), (12, .int (ch)), (11, .int (sd)), (10, .int (bz)), (9, .int (bx)), (8, .int (ay)), (7, .int (ax)), (6, .int (nI (af n i))), (5, .int (nI i)), (0, .ref (gA G 17 (p))), (1, .int (px)), (2, .int (py)), (3, .int (sc))]) C dX3_placeOf_199 (by decide) (fun _ => rfl) (fun nb enb => ?_)
              obtain rfl : nb = bI (!b) := enb.trans bI_inv
              refine ww_iinc (q := 8) (fun y7 => [(5, .int (y7)), (4, .int (bI (!b))), (12, .int (ch)), (11, .int (sd)), (10, .int (bz)), (9, .int (bx)), (8, .int (ay)), (7, .int (ax)), (6, .int (nI (af n i))), (0, .ref (gA G 17 (p))), (1, .int (px)), (2, .int (py)), (3, .int (sc))]) C dX3_placeOf_201 rfl (by decide) (fun _ => rfl) (fun y7 ey7 => ?_)
              obtain rfl : y7 = nI (i + 1) := ninc rfl ey7
              refine ww_goto 6 C dX3_placeOf_204 (by decide) ?_
              have hof : (onC n (σ 15 (p + 1)) (σ 16 (p + 1)) px py sc) i = false := pl_of2 (by rw [← eax, ← ebx]; exact h116)
              have hcr : (crC n (σ 15 (p + 1)) (σ 16 (p + 1)) px py sc) i = true := by rw [crC, hsd, ← eay, ← ebz, bx1 (ech ▸ h161), bx3 h186]; rfl
              exact ww_sub [0, 1, 9, 10, 11, 12] rfl (ih (i + 1) (!b) (by omega) (by omega) (by rw [← hv, plcN_step (by omega) hof, hcr]; simp))
        · refine ww_iload C dX3_placeOf_119 3 rfl ?_
          refine ww_iload C dX3_placeOf_121 1 rfl ?_
          refine ww_imul C dX3_placeOf_123 ?_
          refine ww_if_gt 129 C dX3_placeOf_124 (by decide) (fun h124 => ?_) (fun h124 => ?_)
          · refine ww_iload C dX3_placeOf_129 3 rfl ?_
            refine ww_b_le C dX3_placeOf_131 dX3_placeOf_134 dX3_placeOf_135 dX3_placeOf_138 ?_
            refine ww_iload C dX3_placeOf_139 1 rfl ?_
            refine ww_b_le C dX3_placeOf_141 dX3_placeOf_144 dX3_placeOf_145 dX3_placeOf_148 ?_
            refine ww_bc_eq C dX3_placeOf_149 dX3_placeOf_152 dX3_placeOf_153 dX3_placeOf_156 ?_
            refine ww_istore (fun ch => [(12, .int (ch)), (11, .int (sd)), (10, .int (bz)), (9, .int (bx)), (8, .int (ay)), (7, .int (ax)), (6, .int (nI (af n i))), (5, .int (nI i)), (4, .int (bI b)), (0, .ref (gA G 17 (p))), (1, .int (px)), (2, .int (py)), (3, .int (sc))]) C dX3_placeOf_157 (by decide) (fun _ => rfl) (fun ch ech => ?_)
            refine ww_iload C dX3_placeOf_159 0 rfl ?_
            refine ww_if_eq 201 C dX3_placeOf_161 (by decide) (fun h161 => ?_) (fun h161 => ?_)
            · refine ww_iinc (q := 7) (fun y8 => [(5, .int (y8)), (12, .int (ch)), (11, .int (sd)), (10, .int (bz)), (9, .int (bx)), (8, .int (ay)), (7, .int (ax)), (6, .int (nI (af n i))), (4, .int (bI b)), (0, .ref (gA G 17 (p))), (1, .int (px)), (2, .int (py)), (3, .int (sc))]) C dX3_placeOf_201 rfl (by decide) (fun _ => rfl) (fun y8 ey8 => ?_)
              obtain rfl : y8 = nI (i + 1) := ninc rfl ey8
              refine ww_goto 6 C dX3_placeOf_204 (by decide) ?_
              have hof : (onC n (σ 15 (p + 1)) (σ 16 (p + 1)) px py sc) i = false := pl_of3 (by rw [← eay, ← ebz]; exact h124)
              have hcr : (crC n (σ 15 (p + 1)) (σ 16 (p + 1)) px py sc) i = false := by rw [crC, ← eay, ← ebz, bx0 (ech ▸ h161)]; rfl
              exact ww_sub [0, 8, 9, 10, 11, 12] rfl (ih (i + 1) b (by omega) (by omega) (by rw [← hv, plcN_step (by omega) hof, hcr]; simp))
            · refine ww_iload C dX3_placeOf_164 1 rfl ?_
              refine ww_b_le C dX3_placeOf_166 dX3_placeOf_169 dX3_placeOf_170 dX3_placeOf_173 ?_
              refine ww_iload C dX3_placeOf_174 2 rfl ?_
              refine ww_iload C dX3_placeOf_176 4 rfl ?_
              refine ww_bc_le C dX3_placeOf_178 dX3_placeOf_181 dX3_placeOf_182 dX3_placeOf_185 ?_
              refine ww_icmp_ne 201 C dX3_placeOf_186 (by decide) (fun h186 => ?_) (fun h186 => ?_)
              · refine ww_iinc (q := 7) (fun y9 => [(5, .int (y9)), (12, .int (ch)), (11, .int (sd)), (10, .int (bz)), (9, .int (bx)), (8, .int (ay)), (7, .int (ax)), (6, .int (nI (af n i))), (4, .int (bI b)), (0, .ref (gA G 17 (p))), (1, .int (px)), (2, .int (py)), (3, .int (sc))]) C dX3_placeOf_201 rfl (by decide) (fun _ => rfl) (fun y9 ey9 => ?_)
                obtain rfl : y9 = nI (i + 1) := ninc rfl ey9
                refine ww_goto 6 C dX3_placeOf_204 (by decide) ?_
                have hof : (onC n (σ 15 (p + 1)) (σ 16 (p + 1)) px py sc) i = false := pl_of3 (by rw [← eay, ← ebz]; exact h124)
                have hcr : (crC n (σ 15 (p + 1)) (σ 16 (p + 1)) px py sc) i = false := by rw [crC, hsd, ← eay, ← ebz, bx2 h186, Bool.and_false]
                exact ww_sub [0, 8, 9, 10, 11, 12] rfl (ih (i + 1) b (by omega) (by omega) (by rw [← hv, plcN_step (by omega) hof, hcr]; simp))
              · refine ww_iload C dX3_placeOf_189 8 rfl ?_
                refine ww_b_ne C dX3_placeOf_191 dX3_placeOf_194 dX3_placeOf_195 dX3_placeOf_198 ?_
                refine ww_istore (fun nb => [(4, .int (nb)), (12, .int (ch)), (11, .int (sd)), (10, .int (bz)), (9, .int (bx)), (8, .int (ay)), (7, .int (ax)), (6, .int (nI (af n i))), (5, .int (nI i)), (0, .ref (gA G 17 (p))), (1, .int (px)), (2, .int (py)), (3, .int (sc))]) C dX3_placeOf_199 (by decide) (fun _ => rfl) (fun nb enb => ?_)
                obtain rfl : nb = bI (!b) := enb.trans bI_inv
                refine ww_iinc (q := 8) (fun y10 => [(5, .int (y10)), (4, .int (bI (!b))), (12, .int (ch)), (11, .int (sd)), (10, .int (bz)), (9, .int (bx)), (8, .int (ay)), (7, .int (ax)), (6, .int (nI (af n i))), (0, .ref (gA G 17 (p))), (1, .int (px)), (2, .int (py)), (3, .int (sc))]) C dX3_placeOf_201 rfl (by decide) (fun _ => rfl) (fun y10 ey10 => ?_)
                obtain rfl : y10 = nI (i + 1) := ninc rfl ey10
                refine ww_goto 6 C dX3_placeOf_204 (by decide) ?_
                have hof : (onC n (σ 15 (p + 1)) (σ 16 (p + 1)) px py sc) i = false := pl_of3 (by rw [← eay, ← ebz]; exact h124)
                have hcr : (crC n (σ 15 (p + 1)) (σ 16 (p + 1)) px py sc) i = true := by rw [crC, hsd, ← eay, ← ebz, bx1 (ech ▸ h161), bx3 h186]; rfl
                exact ww_sub [0, 1, 9, 10, 11, 12] rfl (ih (i + 1) (!b) (by omega) (by omega) (by rw [← hv, plcN_step (by omega) hof, hcr]; simp))
          · refine ww_iconst (v := 1) C dX3_placeOf_127 rfl ?_
            refine ww_iret C dX3_placeOf_128 ?_
            exact ⟨by rw [← hv, plcN_on (by omega) (pl_on (by rw [hsd]; exact h108) (by rw [← eax, ← ebx]; exact h116) (by rw [← eay, ← ebz]; exact h124))], rfl⟩
set_option maxHeartbeats 4000000 in
set_option maxRecDepth 100000 in
theorem c_X3_placeOf (l : Launch) (G : Gx) (hA : wa G) (σ : Sg) (p n : Nat) (hp : p < 8) (hs : σ 14 (p + 1) 2 = nI n) (hn : n ≤ 14) (px py sc : Int32) : CtI l yX3_placeOf wsX3_placeOf (rmd 2) G [.ref (gA G 17 (p)), .int (px), .int (py), .int (sc)] σ (fun r σ2 => r = plcC n (σ 15 (p + 1)) (σ 16 (p + 1)) px py sc ∧ σ2 = σ) := by
  refine ct_i (maxL := 13) (ret := (some .int)) (by decide) rfl (Nat.le_of_ble_eq_true rfl) hA (fun K hl C => ?_)
  subst hl
  change WW K G _ _ σ [(0, .ref (gA G 17 (p))), (1, .int (px)), (2, .int (py)), (3, .int (sc))] 0 []
  refine ww_iconst (v := 0) C dX3_placeOf_0 rfl ?_
  refine ww_istore (fun y1 => [(4, .int (y1)), (0, .ref (gA G 17 (p))), (1, .int (px)), (2, .int (py)), (3, .int (sc))]) C dX3_placeOf_1 (by decide) (fun _ => rfl) (fun y1 ey1 => ?_)
  obtain rfl : y1 = nI 0 := (ey1.trans (by decide))
  refine ww_iconst (v := 0) C dX3_placeOf_3 rfl ?_
  refine ww_istore (fun y2 => [(5, .int (y2)), (4, .int (nI 0)), (0, .ref (gA G 17 (p))), (1, .int (px)), (2, .int (py)), (3, .int (sc))]) C dX3_placeOf_4 (by decide) (fun _ => rfl) (fun y2 ey2 => ?_)
  obtain rfl : y2 = nI 0 := (ey2.trans (by decide))
  exact lp_X3_placeOf hA C σ p n hp hs hn px py sc (n + 1) 0 false (by omega) (by omega) rfl
set_option maxHeartbeats 4000000 in
set_option maxRecDepth 100000 in
theorem c_X3_look (l : Launch) (G : Gx) (hA : wa G) (σ : Sg) (p n : Nat) (hp : p < 8) (hs : σ 14 (p + 1) 2 = nI n) (hn : n ≤ 14) (i j : Nat) (hi : i < n) (hj : j < n) : CtI l yX3_look wsX3_look (rmd 5) G [.ref (gA G 17 (p)), .int (nI i), .int (nI j)] σ (fun r σ2 => r = lookF n (σ 15 (p + 1)) (σ 16 (p + 1)) i j ∧ σ2 = σ) := by
  refine ct_i (maxL := 5) (ret := (some .int)) (by decide) rfl (Nat.le_of_ble_eq_true rfl) hA (fun K hl C => ?_)
  subst hl
  change WW K G _ _ σ [(0, .ref (gA G 17 (p))), (1, .int (nI i)), (2, .int (nI j))] 0 []
  refine ww_aload_n C dX3_look_0 rfl 0 rfl ?_
  refine ww_gr (j := p + 1) (k := 17) (f := 0) C rfl rfl hp rfl in_X3_look_X3 (by decide) lk_X3_look_12 dX3_look_1 rfl ?_
  refine ww_iload_n C dX3_look_4 rfl 1 rfl ?_
  refine ww_calliF (cx_V (n := 1) (As := [.int (nI i)]) C  (c_X1_after (kL K) G hA _ (p + 1) n (Nat.add_lt_add_right hp 1) hs hn i (by omega)) gX3_look_X1_after rfl ⟨rfl, rfl⟩ (by decide +kernel) (by decide) rfl (Nat.add_lt_add_right hp 1) rfl rfl rfl (Nat.le_of_ble_eq_true rfl) dX3_look_5) ?_
  refine ww_iload_n C dX3_look_8 rfl 2 rfl ?_
  refine ww_icmp_eq 24 C dX3_look_9 (by decide) (fun h9 => ?_) (fun h9 => ?_)
  · have g9 : af n i = j := (cv_eq (a := af n i) (b := j) rfl rfl (lt31 (nlt14 (af_lt (by omega)) hn)) (by omega)).mp h9
    refine ww_iconst (v := 2) C dX3_look_24 rfl ?_
    refine ww_iret C dX3_look_25 ?_
    exact ⟨by rw [lookF, if_pos (Or.inl g9)], rfl⟩
  · have g9 : ¬ af n i = j := fun q => h9 ((cv_eq (a := af n i) (b := j) rfl rfl (lt31 (nlt14 (af_lt (by omega)) hn)) (by omega)).mpr q)
    refine ww_aload_n C dX3_look_12 rfl 0 rfl ?_
    refine ww_gr (j := p + 1) (k := 17) (f := 0) C rfl rfl hp rfl in_X3_look_X3 (by decide) lk_X3_look_12 dX3_look_13 rfl ?_
    refine ww_iload_n C dX3_look_16 rfl 2 rfl ?_
    refine ww_calliF (cx_V (n := 1) (As := [.int (nI j)]) C  (c_X1_after (kL K) G hA _ (p + 1) n (Nat.add_lt_add_right hp 1) hs hn j (by omega)) gX3_look_X1_after rfl ⟨rfl, rfl⟩ (by decide +kernel) (by decide) rfl (Nat.add_lt_add_right hp 1) rfl rfl rfl (Nat.le_of_ble_eq_true rfl) dX3_look_17) ?_
    refine ww_iload_n C dX3_look_20 rfl 1 rfl ?_
    refine ww_icmp_ne 26 C dX3_look_21 (by decide) (fun h21 => ?_) (fun h21 => ?_)
    · have g21 : ¬ af n j = i := fun q => h21 ((cv_eq (a := af n j) (b := i) rfl rfl (lt31 (nlt14 (af_lt (by omega)) hn)) (by omega)).mpr q)
      refine ww_aload_n C dX3_look_26 rfl 0 rfl ?_
      refine ww_gr (j := p + 1) (k := 17) (f := 0) C rfl rfl hp rfl in_X3_look_X3 (by decide) lk_X3_look_12 dX3_look_27 rfl ?_
      refine ww_gr (j := p + 1) (k := 14) (f := 0) C rfl rfl (Nat.add_lt_add_right hp 1) rfl in_X3_look_X1 (by decide) lk_X3_look_77 dX3_look_30 rfl ?_
      refine ww_iload_n C dX3_look_33 rfl 1 rfl ?_
      refine ww_iald (k := 15) (j := i) C rfl (Nat.add_lt_add_right hp 1) (by decide) dX3_look_34 rfl (by omega) ?_
      refine ww_aload_n C dX3_look_35 rfl 0 rfl ?_
      refine ww_gr (j := p + 1) (k := 17) (f := 0) C rfl rfl hp rfl in_X3_look_X3 (by decide) lk_X3_look_12 dX3_look_36 rfl ?_
      refine ww_gr (j := p + 1) (k := 14) (f := 0) C rfl rfl (Nat.add_lt_add_right hp 1) rfl in_X3_look_X1 (by decide) lk_X3_look_77 dX3_look_39 rfl ?_
      refine ww_iload_n C dX3_look_42 rfl 2 rfl ?_
      refine ww_iald (k := 15) (j := j) C rfl (Nat.add_lt_add_right hp 1) (by decide) dX3_look_43 rfl (by omega) ?_
      refine ww_iadd C dX3_look_44 ?_
      refine ww_istore_n (fun mx => [(3, .int (mx)), (0, .ref (gA G 17 (p))), (1, .int (nI i)), (2, .int (nI j))]) C dX3_look_45 rfl (by decide) (fun _ => rfl) (fun mx emx => ?_)
      refine ww_aload_n C dX3_look_46 rfl 1 rfl ?_
      refine ww_gr (j := p + 1) (k := 17) (f := 0) C rfl rfl hp rfl in_X3_look_X3 (by decide) lk_X3_look_12 dX3_look_47 rfl ?_
      refine ww_gr (j := p + 1) (k := 14) (f := 1) C rfl rfl (Nat.add_lt_add_right hp 1) rfl in_X3_look_X1 (by decide) lk_X3_look_80 dX3_look_50 rfl ?_
      refine ww_iload_n C dX3_look_53 rfl 2 rfl ?_
      refine ww_iald (k := 16) (j := i) C rfl (Nat.add_lt_add_right hp 1) (by decide) dX3_look_54 rfl (by omega) ?_
      refine ww_aload_n C dX3_look_55 rfl 1 rfl ?_
      refine ww_gr (j := p + 1) (k := 17) (f := 0) C rfl rfl hp rfl in_X3_look_X3 (by decide) lk_X3_look_12 dX3_look_56 rfl ?_
      refine ww_gr (j := p + 1) (k := 14) (f := 1) C rfl rfl (Nat.add_lt_add_right hp 1) rfl in_X3_look_X1 (by decide) lk_X3_look_80 dX3_look_59 rfl ?_
      refine ww_iload_n C dX3_look_62 rfl 3 rfl ?_
      refine ww_iald (k := 16) (j := j) C rfl (Nat.add_lt_add_right hp 1) (by decide) dX3_look_63 rfl (by omega) ?_
      refine ww_iadd C dX3_look_64 ?_
      refine ww_istore (fun my => [(4, .int (my)), (3, .int (mx)), (0, .ref (gA G 17 (p))), (1, .int (nI i)), (2, .int (nI j))]) C dX3_look_65 (by decide) (fun _ => rfl) (fun my emy => ?_)
      refine ww_aload_n C dX3_look_67 rfl 2 rfl ?_
      refine ww_iload_n C dX3_look_68 rfl 3 rfl ?_
      refine ww_iload_n C dX3_look_69 rfl 4 rfl ?_
      refine ww_calliF (cx_V (n := 2) (As := [.int (nI i), .int (nI j)]) C  (c_X3_isFree (kL K) G hA _ p n hp hs hn i j (by omega) (by omega)) gX3_look_X3_isFree rfl ⟨rfl, rfl⟩ (by decide +kernel) (by decide) rfl hp rfl rfl rfl (Nat.le_of_ble_eq_true rfl) dX3_look_70) ?_
      refine ww_if_eq 92 C dX3_look_73 (by decide) (fun h73 => ?_) (fun h73 => ?_)
      · have hfr := bI_0.mp h73
        refine ww_iconst (v := 0) C dX3_look_92 rfl ?_
        refine ww_iret C dX3_look_93 ?_
        exact ⟨by rw [lookF, if_neg (by omega), if_neg (fun q => by rw [q.1] at hfr; cases hfr)], rfl⟩
      · have hfr := bI_1.mp h73
        refine ww_aload_n C dX3_look_76 rfl 2 rfl ?_
        refine ww_iload_n C dX3_look_77 rfl 1 rfl ?_
        refine ww_iload C dX3_look_78 0 rfl ?_
        refine ww_iconst (v := 2) C dX3_look_80 rfl ?_
        refine ww_calliF (cx_V (n := 3) (As := [.int (mx), .int (my), .int (2)]) C  (c_X3_placeOf (kL K) G hA _ p n hp hs hn _ _ _) gX3_look_X3_placeOf rfl ⟨rfl, rfl⟩ (by decide +kernel) (by decide) rfl hp rfl rfl rfl (Nat.le_of_ble_eq_true rfl) dX3_look_81) ?_
        refine ww_iconst (v := 2) C dX3_look_84 rfl ?_
        refine ww_icmp_ne 92 C dX3_look_85 (by decide) (fun h85 => ?_) (fun h85 => ?_)
        · refine ww_iconst (v := 0) C dX3_look_92 rfl ?_
          refine ww_iret C dX3_look_93 ?_
          exact ⟨by rw [lookF, if_neg (by omega), if_neg (fun q => h85 (by rw [emx, emy]; exact q.2))], rfl⟩
        · refine ww_iconst (v := 1) C dX3_look_88 rfl ?_
          refine ww_goto 93 C dX3_look_89 (by decide) ?_
          refine ww_iret C dX3_look_93 ?_
          exact ⟨by rw [lookF, if_neg (by omega), if_pos ⟨Option.isNone_iff_eq_none.mp hfr, by rw [← emx, ← emy]; exact h85⟩], rfl⟩
    · have g21 : af n j = i := (cv_eq (a := af n j) (b := i) rfl rfl (lt31 (nlt14 (af_lt (by omega)) hn)) (by omega)).mp h21
      refine ww_iconst (v := 2) C dX3_look_24 rfl ?_
      refine ww_iret C dX3_look_25 ?_
      exact ⟨by rw [lookF, if_pos (Or.inr g21)], rfl⟩
end
section
theorem lw_X5_greatestDivisor_mal190 : Cond.methodLink RX5 190 Lib.MathLoose.abs_long.x ∈ wsX5_greatestDivisor := by decide +kernel
theorem lw_X5_greatestDivisor_mals : Cond.static Lib.MathLoose.abs_long.x ∈ wsX5_greatestDivisor := by decide +kernel
theorem lw_X5_greatestDivisor_mi : Cond.initialized "java/lang/Math" ∈ wsX5_greatestDivisor := by decide +kernel
theorem lw_X5_greatestDivisor_malc : Cond.code Lib.MathLoose.abs_long.x Lib.MathLoose.abs_long.code 2 (some .long) ∈ wsX5_greatestDivisor := by decide +kernel
theorem in_X3_centroidMoment_X3 : ∀ w ∈ wsX30, w ∈ wsX3_centroidMoment := by decide +kernel
theorem lk_X3_centroidMoment_12 : Cond.fieldLink RX3 12 "PolyCuts$Shape" "corners" "LPolyCuts$Corners;" ∈ wsX3_centroidMoment := by decide +kernel
theorem in_X3_centroidMoment_X1 : ∀ w ∈ wsX10, w ∈ wsX3_centroidMoment := by decide +kernel
theorem lk_X3_centroidMoment_59 : Cond.fieldLink RX3 59 "PolyCuts$Corners" "size" "I" ∈ wsX3_centroidMoment := by decide +kernel
theorem lw_X3_pointsOnEdges_ini : Cond.initialized yX5_greatestDivisor.cls ∈ wsX3_pointsOnEdges := by decide +kernel
theorem lw_X3_pointsOnEdges_sta : Cond.static yX5_greatestDivisor ∈ wsX3_pointsOnEdges := by decide +kernel
theorem in_X3_pointsOnEdges_X3 : ∀ w ∈ wsX30, w ∈ wsX3_pointsOnEdges := by decide +kernel
theorem lk_X3_pointsOnEdges_12 : Cond.fieldLink RX3 12 "PolyCuts$Shape" "corners" "LPolyCuts$Corners;" ∈ wsX3_pointsOnEdges := by decide +kernel
theorem in_X3_pointsOnEdges_X1 : ∀ w ∈ wsX10, w ∈ wsX3_pointsOnEdges := by decide +kernel
theorem lk_X3_pointsOnEdges_59 : Cond.fieldLink RX3 59 "PolyCuts$Corners" "size" "I" ∈ wsX3_pointsOnEdges := by decide +kernel
theorem lk_X3_pointsOnEdges_77 : Cond.fieldLink RX3 77 "PolyCuts$Corners" "x" "[I" ∈ wsX3_pointsOnEdges := by decide +kernel
theorem lk_X3_pointsOnEdges_80 : Cond.fieldLink RX3 80 "PolyCuts$Corners" "y" "[I" ∈ wsX3_pointsOnEdges := by decide +kernel
def abL (a : Int64) : Int64 := if 0 < a then a else -a
def gcL (a b : Int64) : Nat → Int64
  | 0 => a
  | d + 1 => if b = 0 then a else gcL b (a - a / b * b) d
def gcdC (a b : Int64) : Int64 := gcL (abL a) (abL b) 100
def sumL (f : Nat → Int64) : Nat → Int64
  | 0 => 0
  | i + 1 => sumL f i + f i
def momF (n : Nat) (v x y : Nat → Int32) (i : Nat) : Int64 := (v i + v (af n i)).toInt64 * (crs9 n x y i).toInt64
def ptsF (n : Nat) (x y : Nat → Int32) (i : Nat) : Int32 := (gcdC (x (af n i) - x i).toInt64 (y (af n i) - y i).toInt64).toInt32
def cntN (p : Nat → Bool) : Nat → Nat
  | 0 => 0
  | i + 1 => cntN p i + (if p i then 1 else 0)
def optI (r : Option Nat) : Int32 := match r with
  | none => -1
  | some i => nI i
def corC (n : Nat) (x y u v : Nat → Int32) (how : Int32) (i last j next : Nat) : Bool := decide (sq9 x y i (af n i) = sq9 u v j next) && decide (tn x y (bf n i) i (af n i) = how * tn u v last j next) && decide (adv x y (bf n i) i (af n i) = adv u v last j next)
def stp (fwd : Bool) (m j : Nat) : Nat := if fwd then af m j else bf m j
def goC (fwd : Bool) (m s : Nat) : Nat → Nat
  | 0 => s
  | i + 1 => stp fwd m (goC fwd m s i)
def corN (n m : Nat) (x y u v : Nat → Int32) (how : Int32) (fwd : Bool) (s : Nat) : Nat → Bool := fun i => !corC n x y u v how i (stp (!fwd) m (goC fwd m s i)) (goC fwd m s i) (stp fwd m (goC fwd m s i))
def fitC (n m : Nat) (x y u v : Nat → Int32) (a b how : Int32) (s : Nat) : Bool := decide (n = m) && (fndN (corN n m x y u v how (decide (hnd a * how = hnd b)) s) 0 n).isNone
theorem stp_lt {fwd : Bool} {m j : Nat} (h : j < m) : stp fwd m j < m := by
  unfold stp
  split
  · exact af_lt (by omega)
  · exact bf_lt h
theorem goC_lt {fwd : Bool} {m s : Nat} (h : s < m) : ∀ i, goC fwd m s i < m
  | 0 => h
  | i + 1 => stp_lt (goC_lt h i)
theorem cntN_le {p : Nat → Bool} : ∀ i, cntN p i ≤ i
  | 0 => Nat.le_refl 0
  | i + 1 => by
    have := cntN_le (p := p) i
    simp only [cntN]
    split <;> omega
theorem gcL_z {a b : Int64} {d : Nat} (h : b = 0) : gcL a b d = a := by
  cases d with
  | zero => rfl
  | succ d => exact if_pos h
theorem gcL_s {a b : Int64} {i : Nat} (h : ¬ b = 0) (hi : i < 100) : gcL a b (100 - i) = gcL b (a - a / b * b) (100 - (i + 1)) := by
  rw [show 100 - i = (100 - (i + 1)) + 1 by omega]
  exact if_neg h
set_option maxHeartbeats 4000000 in
set_option maxRecDepth 100000 in
theorem lp_X5_greatestDivisor {K : Kx} {G : Gx} (hA : wa G) (C : CX K G cX5_greatestDivisor 11 RX5 wsX5_greatestDivisor (rmd 1) (some .long)) (σ : Sg) (u w : Int64) : ∀ (f i : Nat) (a b : Int64), 100 - i < f → i ≤ 100 → gcL a b (100 - i) = gcdC u w → WW K G 11 (QL K G (fun r σ2 => r = gcdC u w ∧ σ2 = σ)) σ [(8, .int (nI i)), (6, .long (b)), (4, .long (a)), (0, .long (u)), (2, .long (w))] 15 [] := by
  intro f
  induction f with
  | zero => intro i a b h; exact absurd h (Nat.not_lt_zero _)
  | succ f ih =>
    intro i a b hf hi hv
    refine ww_iload C dX5_greatestDivisor_15 0 rfl ?_
    refine ww_bipush (v := 100) C dX5_greatestDivisor_17 (by decide) ?_
    refine ww_icmp_ge 50 C dX5_greatestDivisor_19 (by decide) (fun h19 => ?_) (fun h19 => ?_)
    · have g19 : 100 ≤ i := (cv_le (a := 100) (b := i) (by decide) rfl (by omega) (by omega)).mp h19
      refine ww_lload C dX5_greatestDivisor_50 2 rfl ?_
      refine ww_lret C dX5_greatestDivisor_52 ?_
      exact ⟨by rw [← hv, show 100 - i = 0 by omega]; rfl, rfl⟩
    · have g19 : ¬ 100 ≤ i := fun q => h19 ((cv_le (a := 100) (b := i) (by decide) rfl (by omega) (by omega)).mpr q)
      refine ww_lload C dX5_greatestDivisor_22 1 rfl ?_
      refine ww_lconst (v := 0) C dX5_greatestDivisor_24 rfl ?_
      refine ww_lcmp C dX5_greatestDivisor_25 ?_
      refine ww_if_eq 50 C dX5_greatestDivisor_26 (by decide) (fun h26 => ?_) (fun h26 => ?_)
      · refine ww_lload C dX5_greatestDivisor_50 2 rfl ?_
        refine ww_lret C dX5_greatestDivisor_52 ?_
        exact ⟨by rw [← hv, gcL_z ((lg_cmp_eq _ _).mp h26)], rfl⟩
      · refine ww_lload C dX5_greatestDivisor_29 2 rfl ?_
        refine ww_lload C dX5_greatestDivisor_31 1 rfl ?_
        refine ww_lrem C dX5_greatestDivisor_33 (fun q => h26 ((lg_cmp_eq _ _).mpr q)) ?_
        refine ww_lstore (fun y1 => [(9, .long (y1)), (8, .int (nI i)), (6, .long (b)), (4, .long (a)), (0, .long (u)), (2, .long (w))]) C dX5_greatestDivisor_34 (by decide) (fun _ => rfl) (fun y1 ey1 => ?_)
        rw [ey1]; clear ey1 y1
        refine ww_lload C dX5_greatestDivisor_36 2 rfl ?_
        refine ww_lstore (fun y2 => [(4, .long (y2)), (9, .long ((a) - (a) / (b) * (b))), (8, .int (nI i)), (6, .long (b)), (0, .long (u)), (2, .long (w))]) C dX5_greatestDivisor_38 (by decide) (fun _ => rfl) (fun y2 ey2 => ?_)
        rw [ey2]; clear ey2 y2
        refine ww_lload C dX5_greatestDivisor_40 1 rfl ?_
        refine ww_lstore (fun y3 => [(6, .long (y3)), (4, .long (b)), (9, .long ((a) - (a) / (b) * (b))), (8, .int (nI i)), (0, .long (u)), (2, .long (w))]) C dX5_greatestDivisor_42 (by decide) (fun _ => rfl) (fun y3 ey3 => ?_)
        rw [ey3]; clear ey3 y3
        refine ww_iinc (q := 3) (fun y4 => [(8, .int (y4)), (6, .long ((a) - (a) / (b) * (b))), (4, .long (b)), (9, .long ((a) - (a) / (b) * (b))), (0, .long (u)), (2, .long (w))]) C dX5_greatestDivisor_44 rfl (by decide) (fun _ => rfl) (fun y4 ey4 => ?_)
        obtain rfl : y4 = nI (i + 1) := ninc rfl ey4
        refine ww_goto 15 C dX5_greatestDivisor_47 (by decide) ?_
        exact ww_sub [0, 1, 2, 4, 5] rfl (ih (i + 1) b (a - a / b * b) (by omega) (by omega) (by rw [← gcL_s (fun q => h26 ((lg_cmp_eq _ _).mpr q)) (by omega)]; exact hv))
set_option maxHeartbeats 4000000 in
set_option maxRecDepth 100000 in
theorem c_X5_greatestDivisor (l : Launch) (G : Gx) (hA : wa G) (σ : Sg) (u w : Int64) : CtL l yX5_greatestDivisor wsX5_greatestDivisor (rmd 1) G [.long (u), .long (w)] σ (fun r σ2 => r = gcdC u w ∧ σ2 = σ) := by
  refine ct_l (maxL := 11) (ret := (some .long)) (by decide) rfl (Nat.le_of_ble_eq_true rfl) hA (fun K hl C => ?_)
  subst hl
  change WW K G _ _ σ [(0, .long (u)), (2, .long (w))] 0 []
  refine ww_lload_n C dX5_greatestDivisor_0 rfl 0 rfl ?_
  refine ww_mabsl C lw_X5_greatestDivisor_mal190 lw_X5_greatestDivisor_mals lw_X5_greatestDivisor_mi lw_X5_greatestDivisor_malc (by decide) (Nat.le_of_ble_eq_true rfl) dX5_greatestDivisor_1 ?_
  refine ww_lstore (fun y1 => [(4, .long (y1)), (0, .long (u)), (2, .long (w))]) C dX5_greatestDivisor_4 (by decide) (fun _ => rfl) (fun y1 ey1 => ?_)
  rw [ey1]; clear ey1 y1
  refine ww_lload_n C dX5_greatestDivisor_6 rfl 2 rfl ?_
  refine ww_mabsl C lw_X5_greatestDivisor_mal190 lw_X5_greatestDivisor_mals lw_X5_greatestDivisor_mi lw_X5_greatestDivisor_malc (by decide) (Nat.le_of_ble_eq_true rfl) dX5_greatestDivisor_7 ?_
  refine ww_lstore (fun y2 => [(6, .long (y2)), (4, .long (if 0 < (u) then (u) else -(u))), (0, .long (u)), (2, .long (w))]) C dX5_greatestDivisor_10 (by decide) (fun _ => rfl) (fun y2 ey2 => ?_)
  rw [ey2]; clear ey2 y2
  refine ww_iconst (v := 0) C dX5_greatestDivisor_12 rfl ?_
  refine ww_istore (fun y3 => [(8, .int (y3)), (6, .long (if 0 < (w) then (w) else -(w))), (4, .long (if 0 < (u) then (u) else -(u))), (0, .long (u)), (2, .long (w))]) C dX5_greatestDivisor_13 (by decide) (fun _ => rfl) (fun y3 ey3 => ?_)
  obtain rfl : y3 = nI 0 := (ey3.trans (by decide))
  exact lp_X5_greatestDivisor hA C σ u w 101 0 (abL u) (abL w) (by omega) (by omega) rfl
set_option maxHeartbeats 4000000 in
set_option maxRecDepth 100000 in
theorem lp_X3_centroidMoment_0 {K : Kx} {G : Gx} (hA : wa G) (C : CX K G cX3_centroidMoment 6 RX3 wsX3_centroidMoment (rmd 3) (some .long)) (σ : Sg) (p n : Nat) (hp : p < 8) (hs : σ 14 (p + 1) 2 = nI n) (hn : n ≤ 14) : ∀ (f i : Nat), n - i < f → i ≤ n → WW K G 6 (QL K G (fun r σ2 => r = sumL (momF n (σ 15 (p + 1)) (σ 15 (p + 1)) (σ 16 (p + 1))) n ∧ σ2 = σ)) σ [(5, .int (nI i)), (3, .long (sumL (momF n (σ 15 (p + 1)) (σ 15 (p + 1)) (σ 16 (p + 1))) i)), (2, .ref (gA G 15 (p + 1))), (0, .ref (gA G 17 (p))), (1, .int (0))] 14 [] := by
  intro f
  induction f with
  | zero => intro i  h; exact absurd h (Nat.not_lt_zero _)
  | succ f ih =>
    intro i  hf hi
    refine ww_iload C dX3_centroidMoment_14 0 rfl ?_
    refine ww_aload_n C dX3_centroidMoment_16 rfl 3 rfl ?_
    refine ww_gr (j := p + 1) (k := 17) (f := 0) C rfl rfl hp rfl in_X3_centroidMoment_X3 (by decide) lk_X3_centroidMoment_12 dX3_centroidMoment_17 rfl ?_
    refine ww_gi (k := 14) (f := 2) C rfl rfl (Nat.add_lt_add_right hp 1) rfl in_X3_centroidMoment_X1 (by decide) lk_X3_centroidMoment_59 dX3_centroidMoment_20 ?_
    refine ww_icmp_ge 60 C dX3_centroidMoment_23 (by decide) (fun h23 => ?_) (fun h23 => ?_)
    · have g23 : n ≤ i := (cv_le (a := n) (b := i) hs rfl (by omega) (by omega)).mp h23
      refine ww_lload_n C dX3_centroidMoment_60 rfl 1 rfl ?_
      refine ww_lret C dX3_centroidMoment_61 ?_
      exact ⟨by rw [show i = n by omega], rfl⟩
    · have g23 : ¬ n ≤ i := fun q => h23 ((cv_le (a := n) (b := i) hs rfl (by omega) (by omega)).mpr q)
      refine ww_lload_n C dX3_centroidMoment_26 rfl 1 rfl ?_
      refine ww_aload_n C dX3_centroidMoment_27 rfl 2 rfl ?_
      refine ww_iload C dX3_centroidMoment_28 0 rfl ?_
      refine ww_iald (k := 15) (j := i) C rfl (Nat.add_lt_add_right hp 1) (by decide) dX3_centroidMoment_30 rfl (by omega) ?_
      refine ww_aload_n C dX3_centroidMoment_31 rfl 2 rfl ?_
      refine ww_aload_n C dX3_centroidMoment_32 rfl 3 rfl ?_
      refine ww_gr (j := p + 1) (k := 17) (f := 0) C rfl rfl hp rfl in_X3_centroidMoment_X3 (by decide) lk_X3_centroidMoment_12 dX3_centroidMoment_33 rfl ?_
      refine ww_iload C dX3_centroidMoment_36 0 rfl ?_
      refine ww_calliF (cx_V (n := 1) (As := [.int (nI i)]) C  (c_X1_after (kL K) G hA _ (p + 1) n (Nat.add_lt_add_right hp 1) hs hn i (by omega)) gX3_centroidMoment_X1_after rfl ⟨rfl, rfl⟩ (by decide +kernel) (by decide) rfl (Nat.add_lt_add_right hp 1) rfl rfl rfl (Nat.le_of_ble_eq_true rfl) dX3_centroidMoment_38) ?_
      refine ww_iald (k := 15) (j := af n i) C rfl (Nat.add_lt_add_right hp 1) (by decide) dX3_centroidMoment_41 rfl (nlt14 (af_lt (by omega)) hn) ?_
      refine ww_iadd C dX3_centroidMoment_42 ?_
      refine ww_i2l C dX3_centroidMoment_43 ?_
      refine ww_aload_n C dX3_centroidMoment_44 rfl 3 rfl ?_
      refine ww_iload C dX3_centroidMoment_45 0 rfl ?_
      refine ww_calliF (cx_V (n := 1) (As := [.int (nI i)]) C  (c_X3_crossOfEdge (kL K) G hA _ p n hp hs hn i (by omega)) gX3_centroidMoment_X3_crossOfEdge rfl ⟨rfl, rfl⟩ (by decide +kernel) (by decide) rfl hp rfl rfl rfl (Nat.le_of_ble_eq_true rfl) dX3_centroidMoment_47) ?_
      refine ww_i2l C dX3_centroidMoment_50 ?_
      refine ww_lmul C dX3_centroidMoment_51 ?_
      refine ww_ladd C dX3_centroidMoment_52 ?_
      refine ww_lstore_n (fun y1 => [(3, .long (y1)), (5, .int (nI i)), (2, .ref (gA G 15 (p + 1))), (0, .ref (gA G 17 (p))), (1, .int (0))]) C dX3_centroidMoment_53 rfl (by decide) (fun _ => rfl) (fun y1 ey1 => ?_)
      rw [ey1]; clear ey1 y1
      refine ww_iinc (q := 1) (fun y2 => [(5, .int (y2)), (3, .long ((sumL (momF n (σ 15 (p + 1)) (σ 15 (p + 1)) (σ 16 (p + 1))) i) + ((((σ 15 (p + 1) (i)) + (σ 15 (p + 1) (af n i))).toInt64) * ((crs9 n (σ 15 (p + 1)) (σ 16 (p + 1)) i).toInt64)))), (2, .ref (gA G 15 (p + 1))), (0, .ref (gA G 17 (p))), (1, .int (0))]) C dX3_centroidMoment_54 rfl (by decide) (fun _ => rfl) (fun y2 ey2 => ?_)
      obtain rfl : y2 = nI (i + 1) := ninc rfl ey2
      refine ww_goto 14 C dX3_centroidMoment_57 (by decide) ?_
      exact ww_sub [0, 1, 2, 3, 4] rfl (ih (i + 1) (by omega) (by omega))
set_option maxHeartbeats 4000000 in
set_option maxRecDepth 100000 in
theorem c_X3_centroidMoment_0 (l : Launch) (G : Gx) (hA : wa G) (σ : Sg) (p n : Nat) (hp : p < 8) (hs : σ 14 (p + 1) 2 = nI n) (hn : n ≤ 14) : CtL l yX3_centroidMoment wsX3_centroidMoment (rmd 3) G [.ref (gA G 17 (p)), .int (0)] σ (fun r σ2 => r = sumL (momF n (σ 15 (p + 1)) (σ 15 (p + 1)) (σ 16 (p + 1))) n ∧ σ2 = σ) := by
  refine ct_l (maxL := 6) (ret := (some .long)) (by decide) rfl (Nat.le_of_ble_eq_true rfl) hA (fun K hl C => ?_)
  subst hl
  change WW K G _ _ σ [(0, .ref (gA G 17 (p))), (1, .int (0))] 0 []
  refine ww_aload_n C dX3_centroidMoment_0 rfl 0 rfl ?_
  refine ww_gr (j := p + 1) (k := 17) (f := 0) C rfl rfl hp rfl in_X3_centroidMoment_X3 (by decide) lk_X3_centroidMoment_12 dX3_centroidMoment_1 rfl ?_
  refine ww_iload_n C dX3_centroidMoment_4 rfl 1 rfl ?_
  refine ww_callqR (cx_V (n := 1) (As := [.int (0)]) C  (c_X1_along_0 (kL K) G hA _ _ (Nat.add_lt_add_right hp 1)) gX3_centroidMoment_X1_along rfl ⟨rfl, rfl⟩ (by decide +kernel) (by decide) rfl (Nat.add_lt_add_right hp 1) rfl rfl rfl (Nat.le_of_ble_eq_true rfl) dX3_centroidMoment_5) ?_
  refine ww_astore_n [(2, .ref (gA G 15 (p + 1))), (0, .ref (gA G 17 (p))), (1, .int (0))] C dX3_centroidMoment_8 rfl (by decide) rfl ?_
  refine ww_lconst (v := 0) C dX3_centroidMoment_9 rfl ?_
  refine ww_lstore_n (fun y1 => [(3, .long (y1)), (2, .ref (gA G 15 (p + 1))), (0, .ref (gA G 17 (p))), (1, .int (0))]) C dX3_centroidMoment_10 rfl (by decide) (fun _ => rfl) (fun y1 ey1 => ?_)
  rw [ey1]; clear ey1 y1
  refine ww_iconst (v := 0) C dX3_centroidMoment_11 rfl ?_
  refine ww_istore (fun y2 => [(5, .int (y2)), (3, .long (0)), (2, .ref (gA G 15 (p + 1))), (0, .ref (gA G 17 (p))), (1, .int (0))]) C dX3_centroidMoment_12 (by decide) (fun _ => rfl) (fun y2 ey2 => ?_)
  obtain rfl : y2 = nI 0 := (ey2.trans (by decide))
  exact lp_X3_centroidMoment_0 hA C σ p n hp hs hn (n + 1) 0 (by omega) (by omega)
set_option maxHeartbeats 4000000 in
set_option maxRecDepth 100000 in
theorem lp_X3_centroidMoment_1 {K : Kx} {G : Gx} (hA : wa G) (C : CX K G cX3_centroidMoment 6 RX3 wsX3_centroidMoment (rmd 3) (some .long)) (σ : Sg) (p n : Nat) (hp : p < 8) (hs : σ 14 (p + 1) 2 = nI n) (hn : n ≤ 14) : ∀ (f i : Nat), n - i < f → i ≤ n → WW K G 6 (QL K G (fun r σ2 => r = sumL (momF n (σ 16 (p + 1)) (σ 15 (p + 1)) (σ 16 (p + 1))) n ∧ σ2 = σ)) σ [(5, .int (nI i)), (3, .long (sumL (momF n (σ 16 (p + 1)) (σ 15 (p + 1)) (σ 16 (p + 1))) i)), (2, .ref (gA G 16 (p + 1))), (0, .ref (gA G 17 (p))), (1, .int (1))] 14 [] := by
  intro f
  induction f with
  | zero => intro i  h; exact absurd h (Nat.not_lt_zero _)
  | succ f ih =>
    intro i  hf hi
    refine ww_iload C dX3_centroidMoment_14 0 rfl ?_
    refine ww_aload_n C dX3_centroidMoment_16 rfl 3 rfl ?_
    refine ww_gr (j := p + 1) (k := 17) (f := 0) C rfl rfl hp rfl in_X3_centroidMoment_X3 (by decide) lk_X3_centroidMoment_12 dX3_centroidMoment_17 rfl ?_
    refine ww_gi (k := 14) (f := 2) C rfl rfl (Nat.add_lt_add_right hp 1) rfl in_X3_centroidMoment_X1 (by decide) lk_X3_centroidMoment_59 dX3_centroidMoment_20 ?_
    refine ww_icmp_ge 60 C dX3_centroidMoment_23 (by decide) (fun h23 => ?_) (fun h23 => ?_)
    · have g23 : n ≤ i := (cv_le (a := n) (b := i) hs rfl (by omega) (by omega)).mp h23
      refine ww_lload_n C dX3_centroidMoment_60 rfl 1 rfl ?_
      refine ww_lret C dX3_centroidMoment_61 ?_
      exact ⟨by rw [show i = n by omega], rfl⟩
    · have g23 : ¬ n ≤ i := fun q => h23 ((cv_le (a := n) (b := i) hs rfl (by omega) (by omega)).mpr q)
      refine ww_lload_n C dX3_centroidMoment_26 rfl 1 rfl ?_
      refine ww_aload_n C dX3_centroidMoment_27 rfl 2 rfl ?_
      refine ww_iload C dX3_centroidMoment_28 0 rfl ?_
      refine ww_iald (k := 16) (j := i) C rfl (Nat.add_lt_add_right hp 1) (by decide) dX3_centroidMoment_30 rfl (by omega) ?_
      refine ww_aload_n C dX3_centroidMoment_31 rfl 2 rfl ?_
      refine ww_aload_n C dX3_centroidMoment_32 rfl 3 rfl ?_
      refine ww_gr (j := p + 1) (k := 17) (f := 0) C rfl rfl hp rfl in_X3_centroidMoment_X3 (by decide) lk_X3_centroidMoment_12 dX3_centroidMoment_33 rfl ?_
      refine ww_iload C dX3_centroidMoment_36 0 rfl ?_
      refine ww_calliF (cx_V (n := 1) (As := [.int (nI i)]) C  (c_X1_after (kL K) G hA _ (p + 1) n (Nat.add_lt_add_right hp 1) hs hn i (by omega)) gX3_centroidMoment_X1_after rfl ⟨rfl, rfl⟩ (by decide +kernel) (by decide) rfl (Nat.add_lt_add_right hp 1) rfl rfl rfl (Nat.le_of_ble_eq_true rfl) dX3_centroidMoment_38) ?_
      refine ww_iald (k := 16) (j := af n i) C rfl (Nat.add_lt_add_right hp 1) (by decide) dX3_centroidMoment_41 rfl (nlt14 (af_lt (by omega)) hn) ?_
      refine ww_iadd C dX3_centroidMoment_42 ?_
      refine ww_i2l C dX3_centroidMoment_43 ?_
      refine ww_aload_n C dX3_centroidMoment_44 rfl 3 rfl ?_
      refine ww_iload C dX3_centroidMoment_45 0 rfl ?_
      refine ww_calliF (cx_V (n := 1) (As := [.int (nI i)]) C  (c_X3_crossOfEdge (kL K) G hA _ p n hp hs hn i (by omega)) gX3_centroidMoment_X3_crossOfEdge rfl ⟨rfl, rfl⟩ (by decide +kernel) (by decide) rfl hp rfl rfl rfl (Nat.le_of_ble_eq_true rfl) dX3_centroidMoment_47) ?_
      refine ww_i2l C dX3_centroidMoment_50 ?_
      refine ww_lmul C dX3_centroidMoment_51 ?_
      refine ww_ladd C dX3_centroidMoment_52 ?_
      refine ww_lstore_n (fun y1 => [(3, .long (y1)), (5, .int (nI i)), (2, .ref (gA G 16 (p + 1))), (0, .ref (gA G 17 (p))), (1, .int (1))]) C dX3_centroidMoment_53 rfl (by decide) (fun _ => rfl) (fun y1 ey1 => ?_)
      rw [ey1]; clear ey1 y1
      refine ww_iinc (q := 1) (fun y2 => [(5, .int (y2)), (3, .long ((sumL (momF n (σ 16 (p + 1)) (σ 15 (p + 1)) (σ 16 (p + 1))) i) + ((((σ 16 (p + 1) (i)) + (σ 16 (p + 1) (af n i))).toInt64) * ((crs9 n (σ 15 (p + 1)) (σ 16 (p + 1)) i).toInt64)))), (2, .ref (gA G 16 (p + 1))), (0, .ref (gA G 17 (p))), (1, .int (1))]) C dX3_centroidMoment_54 rfl (by decide) (fun _ => rfl) (fun y2 ey2 => ?_)
      obtain rfl : y2 = nI (i + 1) := ninc rfl ey2
      refine ww_goto 14 C dX3_centroidMoment_57 (by decide) ?_
      exact ww_sub [0, 1, 2, 3, 4] rfl (ih (i + 1) (by omega) (by omega))
set_option maxHeartbeats 4000000 in
set_option maxRecDepth 100000 in
theorem c_X3_centroidMoment_1 (l : Launch) (G : Gx) (hA : wa G) (σ : Sg) (p n : Nat) (hp : p < 8) (hs : σ 14 (p + 1) 2 = nI n) (hn : n ≤ 14) : CtL l yX3_centroidMoment wsX3_centroidMoment (rmd 3) G [.ref (gA G 17 (p)), .int (1)] σ (fun r σ2 => r = sumL (momF n (σ 16 (p + 1)) (σ 15 (p + 1)) (σ 16 (p + 1))) n ∧ σ2 = σ) := by
  refine ct_l (maxL := 6) (ret := (some .long)) (by decide) rfl (Nat.le_of_ble_eq_true rfl) hA (fun K hl C => ?_)
  subst hl
  change WW K G _ _ σ [(0, .ref (gA G 17 (p))), (1, .int (1))] 0 []
  refine ww_aload_n C dX3_centroidMoment_0 rfl 0 rfl ?_
  refine ww_gr (j := p + 1) (k := 17) (f := 0) C rfl rfl hp rfl in_X3_centroidMoment_X3 (by decide) lk_X3_centroidMoment_12 dX3_centroidMoment_1 rfl ?_
  refine ww_iload_n C dX3_centroidMoment_4 rfl 1 rfl ?_
  refine ww_callqR (cx_V (n := 1) (As := [.int (1)]) C  (c_X1_along_1 (kL K) G hA _ _ (Nat.add_lt_add_right hp 1)) gX3_centroidMoment_X1_along rfl ⟨rfl, rfl⟩ (by decide +kernel) (by decide) rfl (Nat.add_lt_add_right hp 1) rfl rfl rfl (Nat.le_of_ble_eq_true rfl) dX3_centroidMoment_5) ?_
  refine ww_astore_n [(2, .ref (gA G 16 (p + 1))), (0, .ref (gA G 17 (p))), (1, .int (1))] C dX3_centroidMoment_8 rfl (by decide) rfl ?_
  refine ww_lconst (v := 0) C dX3_centroidMoment_9 rfl ?_
  refine ww_lstore_n (fun y1 => [(3, .long (y1)), (2, .ref (gA G 16 (p + 1))), (0, .ref (gA G 17 (p))), (1, .int (1))]) C dX3_centroidMoment_10 rfl (by decide) (fun _ => rfl) (fun y1 ey1 => ?_)
  rw [ey1]; clear ey1 y1
  refine ww_iconst (v := 0) C dX3_centroidMoment_11 rfl ?_
  refine ww_istore (fun y2 => [(5, .int (y2)), (3, .long (0)), (2, .ref (gA G 16 (p + 1))), (0, .ref (gA G 17 (p))), (1, .int (1))]) C dX3_centroidMoment_12 (by decide) (fun _ => rfl) (fun y2 ey2 => ?_)
  obtain rfl : y2 = nI 0 := (ey2.trans (by decide))
  exact lp_X3_centroidMoment_1 hA C σ p n hp hs hn (n + 1) 0 (by omega) (by omega)
set_option maxHeartbeats 4000000 in
set_option maxRecDepth 100000 in
theorem lp_X3_pointsOnEdges {K : Kx} {G : Gx} (hA : wa G) (C : CX K G cX3_pointsOnEdges 4 RX3 wsX3_pointsOnEdges (rmd 3) (some .int)) (σ : Sg) (p n : Nat) (hp : p < 8) (hs : σ 14 (p + 1) 2 = nI n) (hn : n ≤ 14) : ∀ (f i : Nat), n - i < f → i ≤ n → WW K G 4 (QI K G (fun r σ2 => r = sumN (ptsF n (σ 15 (p + 1)) (σ 16 (p + 1))) n ∧ σ2 = σ)) σ [(2, .int (nI i)), (1, .int (sumN (ptsF n (σ 15 (p + 1)) (σ 16 (p + 1))) i)), (0, .ref (gA G 17 (p)))] 4 [] := by
  intro f
  induction f with
  | zero => intro i  h; exact absurd h (Nat.not_lt_zero _)
  | succ f ih =>
    intro i  hf hi
    refine ww_iload_n C dX3_pointsOnEdges_4 rfl 0 rfl ?_
    refine ww_aload_n C dX3_pointsOnEdges_5 rfl 2 rfl ?_
    refine ww_gr (j := p + 1) (k := 17) (f := 0) C rfl rfl hp rfl in_X3_pointsOnEdges_X3 (by decide) lk_X3_pointsOnEdges_12 dX3_pointsOnEdges_6 rfl ?_
    refine ww_gi (k := 14) (f := 2) C rfl rfl (Nat.add_lt_add_right hp 1) rfl in_X3_pointsOnEdges_X1 (by decide) lk_X3_pointsOnEdges_59 dX3_pointsOnEdges_9 ?_
    refine ww_icmp_ge 77 C dX3_pointsOnEdges_12 (by decide) (fun h12 => ?_) (fun h12 => ?_)
    · have g12 : n ≤ i := (cv_le (a := n) (b := i) hs rfl (by omega) (by omega)).mp h12
      refine ww_iload_n C dX3_pointsOnEdges_77 rfl 1 rfl ?_
      refine ww_iret C dX3_pointsOnEdges_78 ?_
      exact ⟨by rw [show i = n by omega], rfl⟩
    · have g12 : ¬ n ≤ i := fun q => h12 ((cv_le (a := n) (b := i) hs rfl (by omega) (by omega)).mpr q)
      refine ww_aload_n C dX3_pointsOnEdges_15 rfl 2 rfl ?_
      refine ww_gr (j := p + 1) (k := 17) (f := 0) C rfl rfl hp rfl in_X3_pointsOnEdges_X3 (by decide) lk_X3_pointsOnEdges_12 dX3_pointsOnEdges_16 rfl ?_
      refine ww_iload_n C dX3_pointsOnEdges_19 rfl 0 rfl ?_
      refine ww_calliF (cx_V (n := 1) (As := [.int (nI i)]) C  (c_X1_after (kL K) G hA _ (p + 1) n (Nat.add_lt_add_right hp 1) hs hn i (by omega)) gX3_pointsOnEdges_X1_after rfl ⟨rfl, rfl⟩ (by decide +kernel) (by decide) rfl (Nat.add_lt_add_right hp 1) rfl rfl rfl (Nat.le_of_ble_eq_true rfl) dX3_pointsOnEdges_20) ?_
      refine ww_istore_n (fun y1 => [(3, .int (y1)), (2, .int (nI i)), (1, .int (sumN (ptsF n (σ 15 (p + 1)) (σ 16 (p + 1))) i)), (0, .ref (gA G 17 (p)))]) C dX3_pointsOnEdges_23 rfl (by decide) (fun _ => rfl) (fun y1 ey1 => ?_)
      obtain rfl : y1 = nI (af n i) := ey1
      refine ww_iload_n C dX3_pointsOnEdges_24 rfl 2 rfl ?_
      refine ww_aload_n C dX3_pointsOnEdges_25 rfl 3 rfl ?_
      refine ww_gr (j := p + 1) (k := 17) (f := 0) C rfl rfl hp rfl in_X3_pointsOnEdges_X3 (by decide) lk_X3_pointsOnEdges_12 dX3_pointsOnEdges_26 rfl ?_
      refine ww_gr (j := p + 1) (k := 14) (f := 0) C rfl rfl (Nat.add_lt_add_right hp 1) rfl in_X3_pointsOnEdges_X1 (by decide) lk_X3_pointsOnEdges_77 dX3_pointsOnEdges_29 rfl ?_
      refine ww_iload_n C dX3_pointsOnEdges_32 rfl 0 rfl ?_
      refine ww_iald (k := 15) (j := af n i) C rfl (Nat.add_lt_add_right hp 1) (by decide) dX3_pointsOnEdges_33 rfl (nlt14 (af_lt (by omega)) hn) ?_
      refine ww_aload_n C dX3_pointsOnEdges_34 rfl 3 rfl ?_
      refine ww_gr (j := p + 1) (k := 17) (f := 0) C rfl rfl hp rfl in_X3_pointsOnEdges_X3 (by decide) lk_X3_pointsOnEdges_12 dX3_pointsOnEdges_35 rfl ?_
      refine ww_gr (j := p + 1) (k := 14) (f := 0) C rfl rfl (Nat.add_lt_add_right hp 1) rfl in_X3_pointsOnEdges_X1 (by decide) lk_X3_pointsOnEdges_77 dX3_pointsOnEdges_38 rfl ?_
      refine ww_iload_n C dX3_pointsOnEdges_41 rfl 1 rfl ?_
      refine ww_iald (k := 15) (j := i) C rfl (Nat.add_lt_add_right hp 1) (by decide) dX3_pointsOnEdges_42 rfl (by omega) ?_
      refine ww_isub C dX3_pointsOnEdges_43 ?_
      refine ww_i2l C dX3_pointsOnEdges_44 ?_
      refine ww_aload_n C dX3_pointsOnEdges_45 rfl 3 rfl ?_
      refine ww_gr (j := p + 1) (k := 17) (f := 0) C rfl rfl hp rfl in_X3_pointsOnEdges_X3 (by decide) lk_X3_pointsOnEdges_12 dX3_pointsOnEdges_46 rfl ?_
      refine ww_gr (j := p + 1) (k := 14) (f := 1) C rfl rfl (Nat.add_lt_add_right hp 1) rfl in_X3_pointsOnEdges_X1 (by decide) lk_X3_pointsOnEdges_80 dX3_pointsOnEdges_49 rfl ?_
      refine ww_iload_n C dX3_pointsOnEdges_52 rfl 0 rfl ?_
      refine ww_iald (k := 16) (j := af n i) C rfl (Nat.add_lt_add_right hp 1) (by decide) dX3_pointsOnEdges_53 rfl (nlt14 (af_lt (by omega)) hn) ?_
      refine ww_aload_n C dX3_pointsOnEdges_54 rfl 3 rfl ?_
      refine ww_gr (j := p + 1) (k := 17) (f := 0) C rfl rfl hp rfl in_X3_pointsOnEdges_X3 (by decide) lk_X3_pointsOnEdges_12 dX3_pointsOnEdges_55 rfl ?_
      refine ww_gr (j := p + 1) (k := 14) (f := 1) C rfl rfl (Nat.add_lt_add_right hp 1) rfl in_X3_pointsOnEdges_X1 (by decide) lk_X3_pointsOnEdges_80 dX3_pointsOnEdges_58 rfl ?_
      refine ww_iload_n C dX3_pointsOnEdges_61 rfl 1 rfl ?_
      refine ww_iald (k := 16) (j := i) C rfl (Nat.add_lt_add_right hp 1) (by decide) dX3_pointsOnEdges_62 rfl (by omega) ?_
      refine ww_isub C dX3_pointsOnEdges_63 ?_
      refine ww_i2l C dX3_pointsOnEdges_64 ?_
      refine ww_calllF (cx_N (n := 2) (As := [.long (((σ 15 (p + 1) (af n i)) - (σ 15 (p + 1) (i))).toInt64), .long (((σ 16 (p + 1) (af n i)) - (σ 16 (p + 1) (i))).toInt64)]) C (c_X5_greatestDivisor (kL K) G hA _ _ _) gX3_pointsOnEdges_X5_greatestDivisor_n83 rfl ⟨rfl, rfl⟩ (by decide +kernel) (by decide) rfl rfl (Nat.le_of_ble_eq_true rfl) dX3_pointsOnEdges_65 rfl lw_X3_pointsOnEdges_ini lw_X3_pointsOnEdges_sta) ?_
      refine ww_l2i C dX3_pointsOnEdges_68 ?_
      refine ww_iadd C dX3_pointsOnEdges_69 ?_
      refine ww_istore_n (fun y2 => [(1, .int (y2)), (3, .int (nI (af n i))), (2, .int (nI i)), (0, .ref (gA G 17 (p)))]) C dX3_pointsOnEdges_70 rfl (by decide) (fun _ => rfl) (fun y2 ey2 => ?_)
      rw [ey2]; clear ey2 y2
      refine ww_iinc (q := 2) (fun y3 => [(2, .int (y3)), (1, .int ((sumN (ptsF n (σ 15 (p + 1)) (σ 16 (p + 1))) i) + ((gcdC (((σ 15 (p + 1) (af n i)) - (σ 15 (p + 1) (i))).toInt64) (((σ 16 (p + 1) (af n i)) - (σ 16 (p + 1) (i))).toInt64)).toInt32))), (3, .int (nI (af n i))), (0, .ref (gA G 17 (p)))]) C dX3_pointsOnEdges_71 rfl (by decide) (fun _ => rfl) (fun y3 ey3 => ?_)
      obtain rfl : y3 = nI (i + 1) := ninc rfl ey3
      refine ww_goto 4 C dX3_pointsOnEdges_74 (by decide) ?_
      exact ww_sub [0, 1, 3] rfl (ih (i + 1) (by omega) (by omega))
set_option maxHeartbeats 4000000 in
set_option maxRecDepth 100000 in
theorem c_X3_pointsOnEdges (l : Launch) (G : Gx) (hA : wa G) (σ : Sg) (p n : Nat) (hp : p < 8) (hs : σ 14 (p + 1) 2 = nI n) (hn : n ≤ 14) : CtI l yX3_pointsOnEdges wsX3_pointsOnEdges (rmd 3) G [.ref (gA G 17 (p))] σ (fun r σ2 => r = sumN (ptsF n (σ 15 (p + 1)) (σ 16 (p + 1))) n ∧ σ2 = σ) := by
  refine ct_i (maxL := 4) (ret := (some .int)) (by decide) rfl (Nat.le_of_ble_eq_true rfl) hA (fun K hl C => ?_)
  subst hl
  change WW K G _ _ σ [(0, .ref (gA G 17 (p)))] 0 []
  refine ww_iconst (v := 0) C dX3_pointsOnEdges_0 rfl ?_
  refine ww_istore_n (fun y1 => [(1, .int (y1)), (0, .ref (gA G 17 (p)))]) C dX3_pointsOnEdges_1 rfl (by decide) (fun _ => rfl) (fun y1 ey1 => ?_)
  rw [ey1]; clear ey1 y1
  refine ww_iconst (v := 0) C dX3_pointsOnEdges_2 rfl ?_
  refine ww_istore_n (fun y2 => [(2, .int (y2)), (1, .int (0)), (0, .ref (gA G 17 (p)))]) C dX3_pointsOnEdges_3 rfl (by decide) (fun _ => rfl) (fun y2 ey2 => ?_)
  obtain rfl : y2 = nI 0 := (ey2.trans (by decide))
  exact lp_X3_pointsOnEdges hA C σ p n hp hs hn (n + 1) 0 (by omega) (by omega)
end
section
theorem in_X3_fitsCorner_X3 : ∀ w ∈ wsX30, w ∈ wsX3_fitsCorner := by decide +kernel
theorem lk_X3_fitsCorner_12 : Cond.fieldLink RX3 12 "PolyCuts$Shape" "corners" "LPolyCuts$Corners;" ∈ wsX3_fitsCorner := by decide +kernel
theorem in_X3_fits_X3 : ∀ w ∈ wsX30, w ∈ wsX3_fits := by decide +kernel
theorem lk_X3_fits_12 : Cond.fieldLink RX3 12 "PolyCuts$Shape" "corners" "LPolyCuts$Corners;" ∈ wsX3_fits := by decide +kernel
theorem in_X3_fits_X1 : ∀ w ∈ wsX10, w ∈ wsX3_fits := by decide +kernel
theorem lk_X3_fits_59 : Cond.fieldLink RX3 59 "PolyCuts$Corners" "size" "I" ∈ wsX3_fits := by decide +kernel
theorem in_X3_leastStart_X3 : ∀ w ∈ wsX30, w ∈ wsX3_leastStart := by decide +kernel
theorem lk_X3_leastStart_12 : Cond.fieldLink RX3 12 "PolyCuts$Shape" "corners" "LPolyCuts$Corners;" ∈ wsX3_leastStart := by decide +kernel
theorem in_X3_leastStart_X1 : ∀ w ∈ wsX10, w ∈ wsX3_leastStart := by decide +kernel
theorem lk_X3_leastStart_59 : Cond.fieldLink RX3 59 "PolyCuts$Corners" "size" "I" ∈ wsX3_leastStart := by decide +kernel
theorem in_X3_startCount_X3 : ∀ w ∈ wsX30, w ∈ wsX3_startCount := by decide +kernel
theorem lk_X3_startCount_12 : Cond.fieldLink RX3 12 "PolyCuts$Shape" "corners" "LPolyCuts$Corners;" ∈ wsX3_startCount := by decide +kernel
theorem in_X3_startCount_X1 : ∀ w ∈ wsX10, w ∈ wsX3_startCount := by decide +kernel
theorem lk_X3_startCount_59 : Cond.fieldLink RX3 59 "PolyCuts$Corners" "size" "I" ∈ wsX3_startCount := by decide +kernel
set_option maxHeartbeats 4000000 in
set_option maxRecDepth 100000 in
theorem c_X3_fitsCorner (l : Launch) (G : Gx) (hA : wa G) (σ : Sg) (p n : Nat) (hp : p < 8) (hs : σ 14 (p + 1) 2 = nI n) (hn : n ≤ 14) (o : Nat) (ho : o < 9) (i last j next : Nat) (hi : i < n) (hla : last < 14) (hj : j < 14) (hx : next < 14) (how : Int32) : CtI l yX3_fitsCorner wsX3_fitsCorner (rmd 2) G [.ref (gA G 17 (p)), .int (nI i), .ref (gA G 14 (o)), .int (nI last), .int (nI j), .int (nI next), .int (how)] σ (fun r σ2 => r = bI (corC n (σ 15 (p + 1)) (σ 16 (p + 1)) (σ 15 o) (σ 16 o) how i last j next) ∧ σ2 = σ) := by
  refine ct_i (maxL := 9) (ret := (some .boolean)) (by decide) rfl (Nat.le_of_ble_eq_true rfl) hA (fun K hl C => ?_)
  subst hl
  change WW K G _ _ σ [(0, .ref (gA G 17 (p))), (1, .int (nI i)), (2, .ref (gA G 14 (o))), (3, .int (nI last)), (4, .int (nI j)), (5, .int (nI next)), (6, .int (how))] 0 []
  refine ww_aload_n C dX3_fitsCorner_0 rfl 0 rfl ?_
  refine ww_gr (j := p + 1) (k := 17) (f := 0) C rfl rfl hp rfl in_X3_fitsCorner_X3 (by decide) lk_X3_fitsCorner_12 dX3_fitsCorner_1 rfl ?_
  refine ww_iload_n C dX3_fitsCorner_4 rfl 1 rfl ?_
  refine ww_calliF (cx_V (n := 1) (As := [.int (nI i)]) C  (c_X1_before (kL K) G hA _ (p + 1) n (Nat.add_lt_add_right hp 1) hs hn i (by omega) (by omega)) gX3_fitsCorner_X1_before rfl ⟨rfl, rfl⟩ (by decide +kernel) (by decide) rfl (Nat.add_lt_add_right hp 1) rfl rfl rfl (Nat.le_of_ble_eq_true rfl) dX3_fitsCorner_5) ?_
  refine ww_istore (fun y1 => [(7, .int (y1)), (0, .ref (gA G 17 (p))), (1, .int (nI i)), (2, .ref (gA G 14 (o))), (3, .int (nI last)), (4, .int (nI j)), (5, .int (nI next)), (6, .int (how))]) C dX3_fitsCorner_8 (by decide) (fun _ => rfl) (fun y1 ey1 => ?_)
  obtain rfl : y1 = nI (bf n i) := ey1
  refine ww_aload_n C dX3_fitsCorner_10 rfl 1 rfl ?_
  refine ww_gr (j := p + 1) (k := 17) (f := 0) C rfl rfl hp rfl in_X3_fitsCorner_X3 (by decide) lk_X3_fitsCorner_12 dX3_fitsCorner_11 rfl ?_
  refine ww_iload_n C dX3_fitsCorner_14 rfl 2 rfl ?_
  refine ww_calliF (cx_V (n := 1) (As := [.int (nI i)]) C  (c_X1_after (kL K) G hA _ (p + 1) n (Nat.add_lt_add_right hp 1) hs hn i (by omega)) gX3_fitsCorner_X1_after rfl ⟨rfl, rfl⟩ (by decide +kernel) (by decide) rfl (Nat.add_lt_add_right hp 1) rfl rfl rfl (Nat.le_of_ble_eq_true rfl) dX3_fitsCorner_15) ?_
  refine ww_istore (fun y2 => [(8, .int (y2)), (7, .int (nI (bf n i))), (0, .ref (gA G 17 (p))), (1, .int (nI i)), (2, .ref (gA G 14 (o))), (3, .int (nI last)), (4, .int (nI j)), (5, .int (nI next)), (6, .int (how))]) C dX3_fitsCorner_18 (by decide) (fun _ => rfl) (fun y2 ey2 => ?_)
  obtain rfl : y2 = nI (af n i) := ey2
  refine ww_aload_n C dX3_fitsCorner_20 rfl 2 rfl ?_
  refine ww_gr (j := p + 1) (k := 17) (f := 0) C rfl rfl hp rfl in_X3_fitsCorner_X3 (by decide) lk_X3_fitsCorner_12 dX3_fitsCorner_21 rfl ?_
  refine ww_iload_n C dX3_fitsCorner_24 rfl 3 rfl ?_
  refine ww_iload C dX3_fitsCorner_25 0 rfl ?_
  refine ww_calliF (cx_V (n := 2) (As := [.int (nI i), .int (nI (af n i))]) C  (c_X1_squaredLength (kL K) G hA _ (p + 1) (Nat.add_lt_add_right hp 1) i (af n i) (by omega) (nlt14 (af_lt (by omega)) hn)) gX3_fitsCorner_X1_squaredLength rfl ⟨rfl, rfl⟩ (by decide +kernel) (by decide) rfl (Nat.add_lt_add_right hp 1) rfl rfl rfl (Nat.le_of_ble_eq_true rfl) dX3_fitsCorner_27) ?_
  refine ww_aload_n C dX3_fitsCorner_30 rfl 4 rfl ?_
  refine ww_iload C dX3_fitsCorner_31 6 rfl ?_
  refine ww_iload C dX3_fitsCorner_33 7 rfl ?_
  refine ww_calliF (cx_V (n := 2) (As := [.int (nI j), .int (nI next)]) C  (c_X1_squaredLength (kL K) G hA _ (o) ho j next hj hx) gX3_fitsCorner_X1_squaredLength rfl ⟨rfl, rfl⟩ (by decide +kernel) (by decide) rfl ho rfl rfl rfl (Nat.le_of_ble_eq_true rfl) dX3_fitsCorner_35) ?_
  refine ww_icmp_ne 96 C dX3_fitsCorner_38 (by decide) (fun h38 => ?_) (fun h38 => ?_)
  · refine ww_iconst (v := 0) C dX3_fitsCorner_96 rfl ?_
    refine ww_zret C dX3_fitsCorner_97 (by first | rfl | exact bI_n) ?_
    exact ⟨by rw [corC, decide_eq_false h38]; rfl, rfl⟩
  · refine ww_aload_n C dX3_fitsCorner_41 rfl 2 rfl ?_
    refine ww_gr (j := p + 1) (k := 17) (f := 0) C rfl rfl hp rfl in_X3_fitsCorner_X3 (by decide) lk_X3_fitsCorner_12 dX3_fitsCorner_42 rfl ?_
    refine ww_iload C dX3_fitsCorner_45 1 rfl ?_
    refine ww_iload_n C dX3_fitsCorner_47 rfl 3 rfl ?_
    refine ww_iload C dX3_fitsCorner_48 0 rfl ?_
    refine ww_calliF (cx_V (n := 3) (As := [.int (nI (bf n i)), .int (nI i), .int (nI (af n i))]) C  (c_X1_turn (kL K) G hA _ (p + 1) (Nat.add_lt_add_right hp 1) (bf n i) i (af n i) (nlt14 (bf_lt (by omega)) hn) (by omega) (nlt14 (af_lt (by omega)) hn)) gX3_fitsCorner_X1_turn rfl ⟨rfl, rfl⟩ (by decide +kernel) (by decide) rfl (Nat.add_lt_add_right hp 1) rfl rfl rfl (Nat.le_of_ble_eq_true rfl) dX3_fitsCorner_50) ?_
    refine ww_iload C dX3_fitsCorner_53 8 rfl ?_
    refine ww_aload_n C dX3_fitsCorner_55 rfl 4 rfl ?_
    refine ww_iload_n C dX3_fitsCorner_56 rfl 5 rfl ?_
    refine ww_iload C dX3_fitsCorner_57 6 rfl ?_
    refine ww_iload C dX3_fitsCorner_59 7 rfl ?_
    refine ww_calliF (cx_V (n := 3) (As := [.int (nI last), .int (nI j), .int (nI next)]) C  (c_X1_turn (kL K) G hA _ (o) ho last j next hla hj hx) gX3_fitsCorner_X1_turn rfl ⟨rfl, rfl⟩ (by decide +kernel) (by decide) rfl ho rfl rfl rfl (Nat.le_of_ble_eq_true rfl) dX3_fitsCorner_61) ?_
    refine ww_imul C dX3_fitsCorner_64 ?_
    refine ww_icmp_ne 96 C dX3_fitsCorner_65 (by decide) (fun h65 => ?_) (fun h65 => ?_)
    · refine ww_iconst (v := 0) C dX3_fitsCorner_96 rfl ?_
      refine ww_zret C dX3_fitsCorner_97 (by first | rfl | exact bI_n) ?_
      exact ⟨by rw [corC, decide_eq_false h65, Bool.and_false]; rfl, rfl⟩
    · refine ww_aload_n C dX3_fitsCorner_68 rfl 2 rfl ?_
      refine ww_gr (j := p + 1) (k := 17) (f := 0) C rfl rfl hp rfl in_X3_fitsCorner_X3 (by decide) lk_X3_fitsCorner_12 dX3_fitsCorner_69 rfl ?_
      refine ww_iload C dX3_fitsCorner_72 1 rfl ?_
      refine ww_iload_n C dX3_fitsCorner_74 rfl 3 rfl ?_
      refine ww_iload C dX3_fitsCorner_75 0 rfl ?_
      refine ww_calliF (cx_V (n := 3) (As := [.int (nI (bf n i)), .int (nI i), .int (nI (af n i))]) C  (c_X1_advance (kL K) G hA _ (p + 1) (Nat.add_lt_add_right hp 1) (bf n i) i (af n i) (nlt14 (bf_lt (by omega)) hn) (by omega) (nlt14 (af_lt (by omega)) hn)) gX3_fitsCorner_X1_advance rfl ⟨rfl, rfl⟩ (by decide +kernel) (by decide) rfl (Nat.add_lt_add_right hp 1) rfl rfl rfl (Nat.le_of_ble_eq_true rfl) dX3_fitsCorner_77) ?_
      refine ww_aload_n C dX3_fitsCorner_80 rfl 4 rfl ?_
      refine ww_iload_n C dX3_fitsCorner_81 rfl 5 rfl ?_
      refine ww_iload C dX3_fitsCorner_82 6 rfl ?_
      refine ww_iload C dX3_fitsCorner_84 7 rfl ?_
      refine ww_calliF (cx_V (n := 3) (As := [.int (nI last), .int (nI j), .int (nI next)]) C  (c_X1_advance (kL K) G hA _ (o) ho last j next hla hj hx) gX3_fitsCorner_X1_advance rfl ⟨rfl, rfl⟩ (by decide +kernel) (by decide) rfl ho rfl rfl rfl (Nat.le_of_ble_eq_true rfl) dX3_fitsCorner_86) ?_
      refine ww_bc_ne C dX3_fitsCorner_89 dX3_fitsCorner_92 dX3_fitsCorner_93 dX3_fitsCorner_96 ?_
      refine ww_zret C dX3_fitsCorner_97 (by first | rfl | exact bI_n) ?_
      exact ⟨by rw [corC, decide_eq_true h38, decide_eq_true h65]; rfl, rfl⟩
theorem c_neg {b : Bool} (h : b = true) : (!b) = false := by rw [h]; rfl
theorem cntN_t {p : Nat → Bool} {i : Nat} (h : p i = true) : cntN p (i + 1) = cntN p i + 1 := by rw [cntN, h]; rfl
theorem cntN_f {p : Nat → Bool} {i : Nat} (h : p i = false) : cntN p (i + 1) = cntN p i := by rw [cntN, h]; rfl
theorem c_pos {b : Bool} (h : b = false) : (!b) = true := by rw [h]; rfl
set_option maxHeartbeats 4000000 in
set_option maxRecDepth 100000 in
theorem lp_X3_fits_true {K : Kx} {G : Gx} (hA : wa G) (C : CX K G cX3_fits 10 RX3 wsX3_fits (rmd 3) (some .boolean)) (σ : Sg) (p n q m : Nat) (hp : p < 8) (hs : σ 14 (p + 1) 2 = nI n) (hn : n ≤ 14) (hq : q < 8) (hm : σ 14 (q + 1) 2 = nI m) (hm14 : m ≤ 14) (s : Nat) (hsm : s < m) (how : Int32) (hnm : n = m) (hfw : (decide (hnd (σ 17 p 2) * how = hnd (σ 17 q 2))) = true) : ∀ (f i : Nat), n - i < f → i ≤ n → fndN (corN n m (σ 15 (p + 1)) (σ 16 (p + 1)) (σ 15 (q + 1)) (σ 16 (q + 1)) how true s) i n = fndN (corN n m (σ 15 (p + 1)) (σ 16 (p + 1)) (σ 15 (q + 1)) (σ 16 (q + 1)) how true s) 0 n → WW K G 10 (QI K G (fun r σ2 => r = bI (fitC n m (σ 15 (p + 1)) (σ 16 (p + 1)) (σ 15 (q + 1)) (σ 16 (q + 1)) (σ 17 p 2) (σ 17 q 2) how s) ∧ σ2 = σ)) σ [(7, .int (nI i)), (6, .int (nI (goC true m s i))), (5, .int (bI true)), (4, .ref (gA G 14 (q + 1))), (0, .ref (gA G 17 (p))), (1, .ref (gA G 17 (q))), (2, .int (nI s)), (3, .int (how))] 49 [] := by
  intro f
  induction f with
  | zero => intro i  h; exact absurd h (Nat.not_lt_zero _)
  | succ f ih =>
    intro i  hf hi hv
    refine ww_iload C dX3_fits_49 0 rfl ?_
    refine ww_aload_n C dX3_fits_51 rfl 4 rfl ?_
    refine ww_gr (j := p + 1) (k := 17) (f := 0) C rfl rfl hp rfl in_X3_fits_X3 (by decide) lk_X3_fits_12 dX3_fits_52 rfl ?_
    refine ww_gi (k := 14) (f := 2) C rfl rfl (Nat.add_lt_add_right hp 1) rfl in_X3_fits_X1 (by decide) lk_X3_fits_59 dX3_fits_55 ?_
    refine ww_icmp_ge 139 C dX3_fits_58 (by decide) (fun h58 => ?_) (fun h58 => ?_)
    · have g58 : n ≤ i := (cv_le (a := n) (b := i) hs rfl (by omega) (by omega)).mp h58
      refine ww_iconst (v := 1) C dX3_fits_139 rfl ?_
      refine ww_zret C dX3_fits_140 (by first | rfl | exact bI_n) ?_
      exact ⟨by rw [fitC, hfw, ← hv, fndN_end g58, decide_eq_true hnm]; rfl, rfl⟩
    · have g58 : ¬ n ≤ i := fun q => h58 ((cv_le (a := n) (b := i) hs rfl (by omega) (by omega)).mpr q)
      have hj : goC true m s i < m := goC_lt hsm i
      refine ww_iload C dX3_fits_61 2 rfl ?_
      refine ww_if_eq 76 C dX3_fits_63 (by decide) (fun h63 => ?_) (fun h63 => ?_)
      · exact absurd h63 (by decide)
      · refine ww_aload C dX3_fits_66 3 rfl ?_
        refine ww_iload C dX3_fits_68 1 rfl ?_
        refine ww_calliF (cx_V (n := 1) (As := [.int (nI (goC true m s i))]) C  (c_X1_after (kL K) G hA _ (q + 1) m (Nat.add_lt_add_right hq 1) hm hm14 (goC true m s i) (nlt14 hj hm14)) gX3_fits_X1_after rfl ⟨rfl, rfl⟩ (by decide +kernel) (by decide) rfl (Nat.add_lt_add_right hq 1) rfl rfl rfl (Nat.le_of_ble_eq_true rfl) dX3_fits_70) ?_
        refine ww_goto 83 C dX3_fits_73 (by decide) ?_
        refine ww_istore (fun y1 => [(8, .int (y1)), (7, .int (nI i)), (6, .int (nI (goC true m s i))), (5, .int (bI true)), (4, .ref (gA G 14 (q + 1))), (0, .ref (gA G 17 (p))), (1, .ref (gA G 17 (q))), (2, .int (nI s)), (3, .int (how))]) C dX3_fits_83 (by decide) (fun _ => rfl) (fun y1 ey1 => ?_)
        obtain rfl : y1 = nI (af m (goC true m s i)) := ey1
        refine ww_iload C dX3_fits_85 3 rfl ?_
        refine ww_if_eq 100 C dX3_fits_87 (by decide) (fun h87 => ?_) (fun h87 => ?_)
        · exact absurd h87 (by decide)
        · refine ww_aload C dX3_fits_90 4 rfl ?_
          refine ww_iload C dX3_fits_92 2 rfl ?_
          refine ww_calliF (cx_V (n := 1) (As := [.int (nI (goC true m s i))]) C  (c_X1_before (kL K) G hA _ (q + 1) m (Nat.add_lt_add_right hq 1) hm hm14 (goC true m s i) (nlt14 hj hm14) (by omega)) gX3_fits_X1_before rfl ⟨rfl, rfl⟩ (by decide +kernel) (by decide) rfl (Nat.add_lt_add_right hq 1) rfl rfl rfl (Nat.le_of_ble_eq_true rfl) dX3_fits_94) ?_
          refine ww_goto 107 C dX3_fits_97 (by decide) ?_
          refine ww_istore (fun y2 => [(9, .int (y2)), (8, .int (nI (af m (goC true m s i)))), (7, .int (nI i)), (6, .int (nI (goC true m s i))), (5, .int (bI true)), (4, .ref (gA G 14 (q + 1))), (0, .ref (gA G 17 (p))), (1, .ref (gA G 17 (q))), (2, .int (nI s)), (3, .int (how))]) C dX3_fits_107 (by decide) (fun _ => rfl) (fun y2 ey2 => ?_)
          obtain rfl : y2 = nI (bf m (goC true m s i)) := ey2
          refine ww_aload_n C dX3_fits_109 rfl 6 rfl ?_
          refine ww_iload C dX3_fits_110 2 rfl ?_
          refine ww_aload C dX3_fits_112 5 rfl ?_
          refine ww_iload C dX3_fits_114 0 rfl ?_
          refine ww_iload C dX3_fits_116 3 rfl ?_
          refine ww_iload C dX3_fits_118 1 rfl ?_
          refine ww_iload_n C dX3_fits_120 rfl 9 rfl ?_
          refine ww_calliF (cx_V (n := 6) (As := [.int (nI i), .ref (gA G 14 (q + 1)), .int (nI (bf m (goC true m s i))), .int (nI (goC true m s i)), .int (nI (af m (goC true m s i))), .int (how)]) C  (c_X3_fitsCorner (kL K) G hA _ p n hp hs hn (q + 1) (Nat.add_lt_add_right hq 1) i (bf m (goC true m s i)) (goC true m s i) (af m (goC true m s i)) (by omega) (nlt14 (bf_lt hj) hm14) (nlt14 hj hm14) (nlt14 (af_lt (by omega)) hm14) _) gX3_fits_X3_fitsCorner rfl ⟨rfl, rfl⟩ (by decide +kernel) (by decide) rfl hp rfl rfl rfl (Nat.le_of_ble_eq_true rfl) dX3_fits_121) ?_
          refine ww_if_ne 129 C dX3_fits_124 (by decide) (fun h124 => ?_) (fun h124 => ?_)
          · refine ww_iload C dX3_fits_129 1 rfl ?_
            refine ww_istore (fun y3 => [(6, .int (y3)), (9, .int (nI (bf m (goC true m s i)))), (8, .int (nI (af m (goC true m s i)))), (7, .int (nI i)), (5, .int (bI true)), (4, .ref (gA G 14 (q + 1))), (0, .ref (gA G 17 (p))), (1, .ref (gA G 17 (q))), (2, .int (nI s)), (3, .int (how))]) C dX3_fits_131 (by decide) (fun _ => rfl) (fun y3 ey3 => ?_)
            obtain rfl : y3 = nI (af m (goC true m s i)) := ey3
            refine ww_iinc (q := 3) (fun y4 => [(7, .int (y4)), (6, .int (nI (af m (goC true m s i)))), (9, .int (nI (bf m (goC true m s i)))), (8, .int (nI (af m (goC true m s i)))), (5, .int (bI true)), (4, .ref (gA G 14 (q + 1))), (0, .ref (gA G 17 (p))), (1, .ref (gA G 17 (q))), (2, .int (nI s)), (3, .int (how))]) C dX3_fits_133 rfl (by decide) (fun _ => rfl) (fun y4 ey4 => ?_)
            obtain rfl : y4 = nI (i + 1) := ninc rfl ey4
            refine ww_goto 49 C dX3_fits_136 (by decide) ?_
            exact ww_sub [0, 1, 4, 5, 6, 7, 8, 9] rfl (ih (i + 1) (by omega) (by omega) (by rw [← fndN_f (by omega) (c_neg (bI_1.mp h124))]; exact hv))
          · refine ww_iconst (v := 0) C dX3_fits_127 rfl ?_
            refine ww_zret C dX3_fits_128 (by first | rfl | exact bI_n) ?_
            exact ⟨by rw [fitC, hfw, ← hv, fndN_t (by omega) (c_pos (bI_0.mp h124))]; simp; rfl, rfl⟩
set_option maxHeartbeats 4000000 in
set_option maxRecDepth 100000 in
theorem lp_X3_fits_false {K : Kx} {G : Gx} (hA : wa G) (C : CX K G cX3_fits 10 RX3 wsX3_fits (rmd 3) (some .boolean)) (σ : Sg) (p n q m : Nat) (hp : p < 8) (hs : σ 14 (p + 1) 2 = nI n) (hn : n ≤ 14) (hq : q < 8) (hm : σ 14 (q + 1) 2 = nI m) (hm14 : m ≤ 14) (s : Nat) (hsm : s < m) (how : Int32) (hnm : n = m) (hfw : (decide (hnd (σ 17 p 2) * how = hnd (σ 17 q 2))) = false) : ∀ (f i : Nat), n - i < f → i ≤ n → fndN (corN n m (σ 15 (p + 1)) (σ 16 (p + 1)) (σ 15 (q + 1)) (σ 16 (q + 1)) how false s) i n = fndN (corN n m (σ 15 (p + 1)) (σ 16 (p + 1)) (σ 15 (q + 1)) (σ 16 (q + 1)) how false s) 0 n → WW K G 10 (QI K G (fun r σ2 => r = bI (fitC n m (σ 15 (p + 1)) (σ 16 (p + 1)) (σ 15 (q + 1)) (σ 16 (q + 1)) (σ 17 p 2) (σ 17 q 2) how s) ∧ σ2 = σ)) σ [(7, .int (nI i)), (6, .int (nI (goC false m s i))), (5, .int (bI false)), (4, .ref (gA G 14 (q + 1))), (0, .ref (gA G 17 (p))), (1, .ref (gA G 17 (q))), (2, .int (nI s)), (3, .int (how))] 49 [] := by
  intro f
  induction f with
  | zero => intro i  h; exact absurd h (Nat.not_lt_zero _)
  | succ f ih =>
    intro i  hf hi hv
    refine ww_iload C dX3_fits_49 0 rfl ?_
    refine ww_aload_n C dX3_fits_51 rfl 4 rfl ?_
    refine ww_gr (j := p + 1) (k := 17) (f := 0) C rfl rfl hp rfl in_X3_fits_X3 (by decide) lk_X3_fits_12 dX3_fits_52 rfl ?_
    refine ww_gi (k := 14) (f := 2) C rfl rfl (Nat.add_lt_add_right hp 1) rfl in_X3_fits_X1 (by decide) lk_X3_fits_59 dX3_fits_55 ?_
    refine ww_icmp_ge 139 C dX3_fits_58 (by decide) (fun h58 => ?_) (fun h58 => ?_)
    · have g58 : n ≤ i := (cv_le (a := n) (b := i) hs rfl (by omega) (by omega)).mp h58
      refine ww_iconst (v := 1) C dX3_fits_139 rfl ?_
      refine ww_zret C dX3_fits_140 (by first | rfl | exact bI_n) ?_
      exact ⟨by rw [fitC, hfw, ← hv, fndN_end g58, decide_eq_true hnm]; rfl, rfl⟩
    · have g58 : ¬ n ≤ i := fun q => h58 ((cv_le (a := n) (b := i) hs rfl (by omega) (by omega)).mpr q)
      have hj : goC false m s i < m := goC_lt hsm i
      refine ww_iload C dX3_fits_61 2 rfl ?_
      refine ww_if_eq 76 C dX3_fits_63 (by decide) (fun h63 => ?_) (fun h63 => ?_)
      · refine ww_aload C dX3_fits_76 3 rfl ?_
        refine ww_iload C dX3_fits_78 1 rfl ?_
        refine ww_calliF (cx_V (n := 1) (As := [.int (nI (goC false m s i))]) C  (c_X1_before (kL K) G hA _ (q + 1) m (Nat.add_lt_add_right hq 1) hm hm14 (goC false m s i) (nlt14 hj hm14) (by omega)) gX3_fits_X1_before rfl ⟨rfl, rfl⟩ (by decide +kernel) (by decide) rfl (Nat.add_lt_add_right hq 1) rfl rfl rfl (Nat.le_of_ble_eq_true rfl) dX3_fits_80) ?_
        refine ww_istore (fun y1 => [(8, .int (y1)), (7, .int (nI i)), (6, .int (nI (goC false m s i))), (5, .int (bI false)), (4, .ref (gA G 14 (q + 1))), (0, .ref (gA G 17 (p))), (1, .ref (gA G 17 (q))), (2, .int (nI s)), (3, .int (how))]) C dX3_fits_83 (by decide) (fun _ => rfl) (fun y1 ey1 => ?_)
        obtain rfl : y1 = nI (bf m (goC false m s i)) := ey1
        refine ww_iload C dX3_fits_85 3 rfl ?_
        refine ww_if_eq 100 C dX3_fits_87 (by decide) (fun h87 => ?_) (fun h87 => ?_)
        · refine ww_aload C dX3_fits_100 4 rfl ?_
          refine ww_iload C dX3_fits_102 2 rfl ?_
          refine ww_calliF (cx_V (n := 1) (As := [.int (nI (goC false m s i))]) C  (c_X1_after (kL K) G hA _ (q + 1) m (Nat.add_lt_add_right hq 1) hm hm14 (goC false m s i) (nlt14 hj hm14)) gX3_fits_X1_after rfl ⟨rfl, rfl⟩ (by decide +kernel) (by decide) rfl (Nat.add_lt_add_right hq 1) rfl rfl rfl (Nat.le_of_ble_eq_true rfl) dX3_fits_104) ?_
          refine ww_istore (fun y2 => [(9, .int (y2)), (8, .int (nI (bf m (goC false m s i)))), (7, .int (nI i)), (6, .int (nI (goC false m s i))), (5, .int (bI false)), (4, .ref (gA G 14 (q + 1))), (0, .ref (gA G 17 (p))), (1, .ref (gA G 17 (q))), (2, .int (nI s)), (3, .int (how))]) C dX3_fits_107 (by decide) (fun _ => rfl) (fun y2 ey2 => ?_)
          obtain rfl : y2 = nI (af m (goC false m s i)) := ey2
          refine ww_aload_n C dX3_fits_109 rfl 6 rfl ?_
          refine ww_iload C dX3_fits_110 2 rfl ?_
          refine ww_aload C dX3_fits_112 5 rfl ?_
          refine ww_iload C dX3_fits_114 0 rfl ?_
          refine ww_iload C dX3_fits_116 3 rfl ?_
          refine ww_iload C dX3_fits_118 1 rfl ?_
          refine ww_iload_n C dX3_fits_120 rfl 9 rfl ?_
          refine ww_calliF (cx_V (n := 6) (As := [.int (nI i), .ref (gA G 14 (q + 1)), .int (nI (af m (goC false m s i))), .int (nI (goC false m s i)), .int (nI (bf m (goC false m s i))), .int (how)]) C  (c_X3_fitsCorner (kL K) G hA _ p n hp hs hn (q + 1) (Nat.add_lt_add_right hq 1) i (af m (goC false m s i)) (goC false m s i) (bf m (goC false m s i)) (by omega) (nlt14 (af_lt (by omega)) hm14) (nlt14 hj hm14) (nlt14 (bf_lt hj) hm14) _) gX3_fits_X3_fitsCorner rfl ⟨rfl, rfl⟩ (by decide +kernel) (by decide) rfl hp rfl rfl rfl (Nat.le_of_ble_eq_true rfl) dX3_fits_121) ?_
          refine ww_if_ne 129 C dX3_fits_124 (by decide) (fun h124 => ?_) (fun h124 => ?_)
          · refine ww_iload C dX3_fits_129 1 rfl ?_
            refine ww_istore (fun y3 => [(6, .int (y3)), (9, .int (nI (af m (goC false m s i)))), (8, .int (nI (bf m (goC false m s i)))), (7, .int (nI i)), (5, .int (bI false)), (4, .ref (gA G 14 (q + 1))), (0, .ref (gA G 17 (p))), (1, .ref (gA G 17 (q))), (2, .int (nI s)), (3, .int (how))]) C dX3_fits_131 (by decide) (fun _ => rfl) (fun y3 ey3 => ?_)
            obtain rfl : y3 = nI (bf m (goC false m s i)) := ey3
            refine ww_iinc (q := 3) (fun y4 => [(7, .int (y4)), (6, .int (nI (bf m (goC false m s i)))), (9, .int (nI (af m (goC false m s i)))), (8, .int (nI (bf m (goC false m s i)))), (5, .int (bI false)), (4, .ref (gA G 14 (q + 1))), (0, .ref (gA G 17 (p))), (1, .ref (gA G 17 (q))), (2, .int (nI s)), (3, .int (how))]) C dX3_fits_133 rfl (by decide) (fun _ => rfl) (fun y4 ey4 => ?_)
            obtain rfl : y4 = nI (i + 1) := ninc rfl ey4
            refine ww_goto 49 C dX3_fits_136 (by decide) ?_
            exact ww_sub [0, 1, 4, 5, 6, 7, 8, 9] rfl (ih (i + 1) (by omega) (by omega) (by rw [← fndN_f (by omega) (c_neg (bI_1.mp h124))]; exact hv))
          · refine ww_iconst (v := 0) C dX3_fits_127 rfl ?_
            refine ww_zret C dX3_fits_128 (by first | rfl | exact bI_n) ?_
            exact ⟨by rw [fitC, hfw, ← hv, fndN_t (by omega) (c_pos (bI_0.mp h124))]; simp; rfl, rfl⟩
        · exact absurd h87 (by decide)
      · exact absurd h63 (by decide)
theorem fw_eq {P : Prop} [Decidable P] (h : bI (decide P) = bI true) : decide P = true := by
  cases hd : decide P with
  | true => rfl
  | false => rw [hd] at h; exact absurd h (by decide)
set_option maxHeartbeats 4000000 in
set_option maxRecDepth 100000 in
theorem c_X3_fits (l : Launch) (G : Gx) (hA : wa G) (σ : Sg) (p n q m : Nat) (hp : p < 8) (hs : σ 14 (p + 1) 2 = nI n) (hn : n ≤ 14) (hq : q < 8) (hm : σ 14 (q + 1) 2 = nI m) (hm14 : m ≤ 14) (s : Nat) (hsm : s < m) (how : Int32) : CtI l yX3_fits wsX3_fits (rmd 3) G [.ref (gA G 17 (p)), .ref (gA G 17 (q)), .int (nI s), .int (how)] σ (fun r σ2 => r = bI (fitC n m (σ 15 (p + 1)) (σ 16 (p + 1)) (σ 15 (q + 1)) (σ 16 (q + 1)) (σ 17 p 2) (σ 17 q 2) how s) ∧ σ2 = σ) := by
  refine ct_i (maxL := 10) (ret := (some .boolean)) (by decide) rfl (Nat.le_of_ble_eq_true rfl) hA (fun K hl C => ?_)
  subst hl
  change WW K G _ _ σ [(0, .ref (gA G 17 (p))), (1, .ref (gA G 17 (q))), (2, .int (nI s)), (3, .int (how))] 0 []
  refine ww_aload_n C dX3_fits_0 rfl 1 rfl ?_
  refine ww_gr (j := q + 1) (k := 17) (f := 0) C rfl rfl hq rfl in_X3_fits_X3 (by decide) lk_X3_fits_12 dX3_fits_1 rfl ?_
  refine ww_astore [(4, .ref (gA G 14 (q + 1))), (0, .ref (gA G 17 (p))), (1, .ref (gA G 17 (q))), (2, .int (nI s)), (3, .int (how))] C dX3_fits_4 (by decide) rfl ?_
  refine ww_aload_n C dX3_fits_6 rfl 1 rfl ?_
  refine ww_gr (j := p + 1) (k := 17) (f := 0) C rfl rfl hp rfl in_X3_fits_X3 (by decide) lk_X3_fits_12 dX3_fits_7 rfl ?_
  refine ww_gi (k := 14) (f := 2) C rfl rfl (Nat.add_lt_add_right hp 1) rfl in_X3_fits_X1 (by decide) lk_X3_fits_59 dX3_fits_10 ?_
  refine ww_aload C dX3_fits_13 0 rfl ?_
  refine ww_gi (k := 14) (f := 2) C rfl rfl (Nat.add_lt_add_right hq 1) rfl in_X3_fits_X1 (by decide) lk_X3_fits_59 dX3_fits_15 ?_
  refine ww_icmp_eq 23 C dX3_fits_18 (by decide) (fun h18 => ?_) (fun h18 => ?_)
  · have g18 : n = m := (cv_eq (a := n) (b := m) hs hm (by omega) (by omega)).mp h18
    refine ww_aload_n C dX3_fits_23 rfl 1 rfl ?_
    refine ww_calliF (cx_V (n := 0) (As := []) C  (c_X3_hand (kL K) G hA _ p hp) gX3_fits_X3_hand rfl ⟨rfl, rfl⟩ (by decide +kernel) (by decide) rfl hp rfl rfl rfl (Nat.le_of_ble_eq_true rfl) dX3_fits_24) ?_
    refine ww_iload_n C dX3_fits_27 rfl 4 rfl ?_
    refine ww_imul C dX3_fits_28 ?_
    refine ww_aload_n C dX3_fits_29 rfl 2 rfl ?_
    refine ww_calliF (cx_V (n := 0) (As := []) C  (c_X3_hand (kL K) G hA _ q hq) gX3_fits_X3_hand rfl ⟨rfl, rfl⟩ (by decide +kernel) (by decide) rfl hq rfl rfl rfl (Nat.le_of_ble_eq_true rfl) dX3_fits_30) ?_
    refine ww_bc_ne C dX3_fits_33 dX3_fits_36 dX3_fits_37 dX3_fits_40 ?_
    refine ww_istore (fun y1 => [(5, .int (y1)), (4, .ref (gA G 14 (q + 1))), (0, .ref (gA G 17 (p))), (1, .ref (gA G 17 (q))), (2, .int (nI s)), (3, .int (how))]) C dX3_fits_41 (by decide) (fun _ => rfl) (fun y1 ey1 => ?_)
    rw [ey1]; clear ey1 y1
    refine ww_iload_n C dX3_fits_43 rfl 4 rfl ?_
    refine ww_istore (fun y2 => [(6, .int (y2)), (5, .int (bI (decide (((hnd (σ 17 p 2)) * (how)) = (hnd (σ 17 q 2)))))), (4, .ref (gA G 14 (q + 1))), (0, .ref (gA G 17 (p))), (1, .ref (gA G 17 (q))), (2, .int (nI s)), (3, .int (how))]) C dX3_fits_44 (by decide) (fun _ => rfl) (fun y2 ey2 => ?_)
    obtain rfl : y2 = nI s := ey2
    refine ww_iconst (v := 0) C dX3_fits_46 rfl ?_
    refine ww_istore (fun y3 => [(7, .int (y3)), (6, .int (nI s)), (5, .int (bI (decide (((hnd (σ 17 p 2)) * (how)) = (hnd (σ 17 q 2)))))), (4, .ref (gA G 14 (q + 1))), (0, .ref (gA G 17 (p))), (1, .ref (gA G 17 (q))), (2, .int (nI s)), (3, .int (how))]) C dX3_fits_47 (by decide) (fun _ => rfl) (fun y3 ey3 => ?_)
    obtain rfl : y3 = nI 0 := (ey3.trans (by decide))
    cases hfw : (decide (hnd (σ 17 p 2) * how = hnd (σ 17 q 2))) with
    | true =>
      exact lp_X3_fits_true hA C σ p n q m hp hs hn hq hm hm14 s hsm how g18 hfw (n + 1) 0 (by omega) (by omega) rfl
    | false =>
      exact lp_X3_fits_false hA C σ p n q m hp hs hn hq hm hm14 s hsm how g18 hfw (n + 1) 0 (by omega) (by omega) rfl
  · have g18 : ¬ n = m := fun q => h18 ((cv_eq (a := n) (b := m) hs hm (by omega) (by omega)).mpr q)
    refine ww_iconst (v := 0) C dX3_fits_21 rfl ?_
    refine ww_zret C dX3_fits_22 (by first | rfl | exact bI_n) ?_
    exact ⟨by rw [fitC, decide_eq_false g18]; rfl, rfl⟩
set_option maxHeartbeats 4000000 in
set_option maxRecDepth 100000 in
theorem lp_X3_leastStart {K : Kx} {G : Gx} (hA : wa G) (C : CX K G cX3_leastStart 4 RX3 wsX3_leastStart (rmd 4) (some .int)) (σ : Sg) (p n q m : Nat) (hp : p < 8) (hs : σ 14 (p + 1) 2 = nI n) (hn : n ≤ 14) (hq : q < 8) (hm : σ 14 (q + 1) 2 = nI m) (hm14 : m ≤ 14) (how : Int32) : ∀ (f s : Nat), m - s < f → s ≤ m → fndN (fun s => fitC n m (σ 15 (p + 1)) (σ 16 (p + 1)) (σ 15 (q + 1)) (σ 16 (q + 1)) (σ 17 p 2) (σ 17 q 2) how s) s m = fndN (fun s => fitC n m (σ 15 (p + 1)) (σ 16 (p + 1)) (σ 15 (q + 1)) (σ 16 (q + 1)) (σ 17 p 2) (σ 17 q 2) how s) 0 m → WW K G 4 (QI K G (fun r σ2 => r = optI (fndN (fun s => fitC n m (σ 15 (p + 1)) (σ 16 (p + 1)) (σ 15 (q + 1)) (σ 16 (q + 1)) (σ 17 p 2) (σ 17 q 2) how s) 0 m) ∧ σ2 = σ)) σ [(3, .int (nI s)), (0, .ref (gA G 17 (p))), (1, .ref (gA G 17 (q))), (2, .int (how))] 2 [] := by
  intro f
  induction f with
  | zero => intro s  h; exact absurd h (Nat.not_lt_zero _)
  | succ f ih =>
    intro s  hf hi hv
    refine ww_iload_n C dX3_leastStart_2 rfl 0 rfl ?_
    refine ww_aload_n C dX3_leastStart_3 rfl 2 rfl ?_
    refine ww_gr (j := q + 1) (k := 17) (f := 0) C rfl rfl hq rfl in_X3_leastStart_X3 (by decide) lk_X3_leastStart_12 dX3_leastStart_4 rfl ?_
    refine ww_gi (k := 14) (f := 2) C rfl rfl (Nat.add_lt_add_right hq 1) rfl in_X3_leastStart_X1 (by decide) lk_X3_leastStart_59 dX3_leastStart_7 ?_
    refine ww_icmp_ge 31 C dX3_leastStart_10 (by decide) (fun h10 => ?_) (fun h10 => ?_)
    · have g10 : m ≤ s := (cv_le (a := m) (b := s) hm rfl (by omega) (by omega)).mp h10
      refine ww_iconst (v := -1) C dX3_leastStart_31 rfl ?_
      refine ww_iret C dX3_leastStart_32 ?_
      exact ⟨by rw [← hv, fndN_end g10]; rfl, rfl⟩
    · have g10 : ¬ m ≤ s := fun q => h10 ((cv_le (a := m) (b := s) hm rfl (by omega) (by omega)).mpr q)
      refine ww_aload_n C dX3_leastStart_13 rfl 1 rfl ?_
      refine ww_aload_n C dX3_leastStart_14 rfl 2 rfl ?_
      refine ww_iload_n C dX3_leastStart_15 rfl 0 rfl ?_
      refine ww_iload_n C dX3_leastStart_16 rfl 3 rfl ?_
      refine ww_calliF (cx_V (n := 3) (As := [.ref (gA G 17 (q)), .int (nI s), .int (how)]) C  (c_X3_fits (kL K) G hA _ p n q m hp hs hn hq hm hm14 s (by omega) _) gX3_leastStart_X3_fits rfl ⟨rfl, rfl⟩ (by decide +kernel) (by decide) rfl hp rfl rfl rfl (Nat.le_of_ble_eq_true rfl) dX3_leastStart_17) ?_
      refine ww_if_eq 25 C dX3_leastStart_20 (by decide) (fun h20 => ?_) (fun h20 => ?_)
      · refine ww_iinc (q := 0) (fun y1 => [(3, .int (y1)), (0, .ref (gA G 17 (p))), (1, .ref (gA G 17 (q))), (2, .int (how))]) C dX3_leastStart_25 rfl (by decide) (fun _ => rfl) (fun y1 ey1 => ?_)
        obtain rfl : y1 = nI (s + 1) := ninc rfl ey1
        refine ww_goto 2 C dX3_leastStart_28 (by decide) ?_
        exact ww_sub [0, 1, 2, 3] rfl (ih (s + 1) (by omega) (by omega) (by rw [← fndN_f (by omega) (bI_0.mp h20)]; exact hv))
      · refine ww_iload_n C dX3_leastStart_23 rfl 0 rfl ?_
        refine ww_iret C dX3_leastStart_24 ?_
        exact ⟨by rw [← hv, fndN_t (by omega) (bI_1.mp h20)]; rfl, rfl⟩
set_option maxHeartbeats 4000000 in
set_option maxRecDepth 100000 in
theorem c_X3_leastStart (l : Launch) (G : Gx) (hA : wa G) (σ : Sg) (p n q m : Nat) (hp : p < 8) (hs : σ 14 (p + 1) 2 = nI n) (hn : n ≤ 14) (hq : q < 8) (hm : σ 14 (q + 1) 2 = nI m) (hm14 : m ≤ 14) (how : Int32) : CtI l yX3_leastStart wsX3_leastStart (rmd 4) G [.ref (gA G 17 (p)), .ref (gA G 17 (q)), .int (how)] σ (fun r σ2 => r = optI (fndN (fun s => fitC n m (σ 15 (p + 1)) (σ 16 (p + 1)) (σ 15 (q + 1)) (σ 16 (q + 1)) (σ 17 p 2) (σ 17 q 2) how s) 0 m) ∧ σ2 = σ) := by
  refine ct_i (maxL := 4) (ret := (some .int)) (by decide) rfl (Nat.le_of_ble_eq_true rfl) hA (fun K hl C => ?_)
  subst hl
  change WW K G _ _ σ [(0, .ref (gA G 17 (p))), (1, .ref (gA G 17 (q))), (2, .int (how))] 0 []
  refine ww_iconst (v := 0) C dX3_leastStart_0 rfl ?_
  refine ww_istore_n (fun y1 => [(3, .int (y1)), (0, .ref (gA G 17 (p))), (1, .ref (gA G 17 (q))), (2, .int (how))]) C dX3_leastStart_1 rfl (by decide) (fun _ => rfl) (fun y1 ey1 => ?_)
  obtain rfl : y1 = nI 0 := (ey1.trans (by decide))
  exact lp_X3_leastStart hA C σ p n q m hp hs hn hq hm hm14 how (m + 1) 0 (by omega) (by omega) rfl
set_option maxHeartbeats 4000000 in
set_option maxRecDepth 100000 in
theorem lp_X3_startCount {K : Kx} {G : Gx} (hA : wa G) (C : CX K G cX3_startCount 4 RX3 wsX3_startCount (rmd 4) (some .int)) (σ : Sg) (p n : Nat) (hp : p < 8) (hs : σ 14 (p + 1) 2 = nI n) (hn : n ≤ 14) (how : Int32) : ∀ (f s : Nat), n - s < f → s ≤ n → WW K G 4 (QI K G (fun r σ2 => r = nI (cntN (fun s => fitC n n (σ 15 (p + 1)) (σ 16 (p + 1)) (σ 15 (p + 1)) (σ 16 (p + 1)) (σ 17 p 2) (σ 17 p 2) how s) n) ∧ σ2 = σ)) σ [(3, .int (nI s)), (2, .int (nI (cntN (fun s => fitC n n (σ 15 (p + 1)) (σ 16 (p + 1)) (σ 15 (p + 1)) (σ 16 (p + 1)) (σ 17 p 2) (σ 17 p 2) how s) s))), (0, .ref (gA G 17 (p))), (1, .int (how))] 4 [] := by
  intro f
  induction f with
  | zero => intro s  h; exact absurd h (Nat.not_lt_zero _)
  | succ f ih =>
    intro s  hf hi
    refine ww_iload_n C dX3_startCount_4 rfl 0 rfl ?_
    refine ww_aload_n C dX3_startCount_5 rfl 2 rfl ?_
    refine ww_gr (j := p + 1) (k := 17) (f := 0) C rfl rfl hp rfl in_X3_startCount_X3 (by decide) lk_X3_startCount_12 dX3_startCount_6 rfl ?_
    refine ww_gi (k := 14) (f := 2) C rfl rfl (Nat.add_lt_add_right hp 1) rfl in_X3_startCount_X1 (by decide) lk_X3_startCount_59 dX3_startCount_9 ?_
    refine ww_icmp_ge 34 C dX3_startCount_12 (by decide) (fun h12 => ?_) (fun h12 => ?_)
    · have g12 : n ≤ s := (cv_le (a := n) (b := s) hs rfl (by omega) (by omega)).mp h12
      refine ww_iload_n C dX3_startCount_34 rfl 1 rfl ?_
      refine ww_iret C dX3_startCount_35 ?_
      exact ⟨by rw [show s = n by omega], rfl⟩
    · have g12 : ¬ n ≤ s := fun q => h12 ((cv_le (a := n) (b := s) hs rfl (by omega) (by omega)).mpr q)
      refine ww_aload_n C dX3_startCount_15 rfl 2 rfl ?_
      refine ww_aload_n C dX3_startCount_16 rfl 2 rfl ?_
      refine ww_iload_n C dX3_startCount_17 rfl 0 rfl ?_
      refine ww_iload_n C dX3_startCount_18 rfl 3 rfl ?_
      refine ww_calliF (cx_V (n := 3) (As := [.ref (gA G 17 (p)), .int (nI s), .int (how)]) C  (c_X3_fits (kL K) G hA _ p n p n hp hs hn hp hs hn s (by omega) _) gX3_startCount_X3_fits rfl ⟨rfl, rfl⟩ (by decide +kernel) (by decide) rfl hp rfl rfl rfl (Nat.le_of_ble_eq_true rfl) dX3_startCount_19) ?_
      refine ww_if_eq 28 C dX3_startCount_22 (by decide) (fun h22 => ?_) (fun h22 => ?_)
      · refine ww_iinc (q := 0) (fun y1 => [(3, .int (y1)), (2, .int (nI (cntN (fun s => fitC n n (σ 15 (p + 1)) (σ 16 (p + 1)) (σ 15 (p + 1)) (σ 16 (p + 1)) (σ 17 p 2) (σ 17 p 2) how s) s))), (0, .ref (gA G 17 (p))), (1, .int (how))]) C dX3_startCount_28 rfl (by decide) (fun _ => rfl) (fun y1 ey1 => ?_)
        obtain rfl : y1 = nI (s + 1) := ninc rfl ey1
        refine ww_goto 4 C dX3_startCount_31 (by decide) ?_
        have e9 : cntN (fun s => fitC n n (σ 15 (p + 1)) (σ 16 (p + 1)) (σ 15 (p + 1)) (σ 16 (p + 1)) (σ 17 p 2) (σ 17 p 2) how s) (s + 1) = cntN (fun s => fitC n n (σ 15 (p + 1)) (σ 16 (p + 1)) (σ 15 (p + 1)) (σ 16 (p + 1)) (σ 17 p 2) (σ 17 p 2) how s) s := cntN_f (bI_0.mp h22)
        refine ww_sub [0, 1, 2, 3] (L' := [(3, .int (nI (s + 1))), (2, .int (nI (cntN (fun s => fitC n n (σ 15 (p + 1)) (σ 16 (p + 1)) (σ 15 (p + 1)) (σ 16 (p + 1)) (σ 17 p 2) (σ 17 p 2) how s) (s + 1)))), (0, .ref (gA G 17 (p))), (1, .int (how))]) (by rw [e9]; rfl) (ih (s + 1) (by omega) (by omega))
      · refine ww_iinc (q := 1) (fun y2 => [(2, .int (y2)), (3, .int (nI s)), (0, .ref (gA G 17 (p))), (1, .int (how))]) C dX3_startCount_25 rfl (by decide) (fun _ => rfl) (fun y2 ey2 => ?_)
        obtain rfl : y2 = nI (cntN (fun s => fitC n n (σ 15 (p + 1)) (σ 16 (p + 1)) (σ 15 (p + 1)) (σ 16 (p + 1)) (σ 17 p 2) (σ 17 p 2) how s) s + 1) := ninc rfl ey2
        refine ww_iinc (q := 1) (fun y3 => [(3, .int (y3)), (2, .int (nI (cntN (fun s => fitC n n (σ 15 (p + 1)) (σ 16 (p + 1)) (σ 15 (p + 1)) (σ 16 (p + 1)) (σ 17 p 2) (σ 17 p 2) how s) s + 1))), (0, .ref (gA G 17 (p))), (1, .int (how))]) C dX3_startCount_28 rfl (by decide) (fun _ => rfl) (fun y3 ey3 => ?_)
        obtain rfl : y3 = nI (s + 1) := ninc rfl ey3
        refine ww_goto 4 C dX3_startCount_31 (by decide) ?_
        have e9 : cntN (fun s => fitC n n (σ 15 (p + 1)) (σ 16 (p + 1)) (σ 15 (p + 1)) (σ 16 (p + 1)) (σ 17 p 2) (σ 17 p 2) how s) (s + 1) = cntN (fun s => fitC n n (σ 15 (p + 1)) (σ 16 (p + 1)) (σ 15 (p + 1)) (σ 16 (p + 1)) (σ 17 p 2) (σ 17 p 2) how s) s + 1 := cntN_t (bI_1.mp h22)
        refine ww_sub [0, 1, 2, 3] (L' := [(3, .int (nI (s + 1))), (2, .int (nI (cntN (fun s => fitC n n (σ 15 (p + 1)) (σ 16 (p + 1)) (σ 15 (p + 1)) (σ 16 (p + 1)) (σ 17 p 2) (σ 17 p 2) how s) (s + 1)))), (0, .ref (gA G 17 (p))), (1, .int (how))]) (by rw [e9]; rfl) (ih (s + 1) (by omega) (by omega))
set_option maxHeartbeats 4000000 in
set_option maxRecDepth 100000 in
theorem c_X3_startCount (l : Launch) (G : Gx) (hA : wa G) (σ : Sg) (p n : Nat) (hp : p < 8) (hs : σ 14 (p + 1) 2 = nI n) (hn : n ≤ 14) (how : Int32) : CtI l yX3_startCount wsX3_startCount (rmd 4) G [.ref (gA G 17 (p)), .int (how)] σ (fun r σ2 => r = nI (cntN (fun s => fitC n n (σ 15 (p + 1)) (σ 16 (p + 1)) (σ 15 (p + 1)) (σ 16 (p + 1)) (σ 17 p 2) (σ 17 p 2) how s) n) ∧ σ2 = σ) := by
  refine ct_i (maxL := 4) (ret := (some .int)) (by decide) rfl (Nat.le_of_ble_eq_true rfl) hA (fun K hl C => ?_)
  subst hl
  change WW K G _ _ σ [(0, .ref (gA G 17 (p))), (1, .int (how))] 0 []
  refine ww_iconst (v := 0) C dX3_startCount_0 rfl ?_
  refine ww_istore_n (fun y1 => [(2, .int (y1)), (0, .ref (gA G 17 (p))), (1, .int (how))]) C dX3_startCount_1 rfl (by decide) (fun _ => rfl) (fun y1 ey1 => ?_)
  obtain rfl : y1 = nI 0 := (ey1.trans (by decide))
  refine ww_iconst (v := 0) C dX3_startCount_2 rfl ?_
  refine ww_istore_n (fun y2 => [(3, .int (y2)), (2, .int (nI 0)), (0, .ref (gA G 17 (p))), (1, .int (how))]) C dX3_startCount_3 rfl (by decide) (fun _ => rfl) (fun y2 ey2 => ?_)
  obtain rfl : y2 = nI 0 := (ey2.trans (by decide))
  exact lp_X3_startCount hA C σ p n hp hs hn how (n + 1) 0 (by omega) (by omega)
end
section
theorem in_X3_become_X3 : ∀ w ∈ wsX30, w ∈ wsX3_become := by decide +kernel
theorem lk_X3_become_12 : Cond.fieldLink RX3 12 "PolyCuts$Shape" "corners" "LPolyCuts$Corners;" ∈ wsX3_become := by decide +kernel
theorem in_X3_become_X1 : ∀ w ∈ wsX10, w ∈ wsX3_become := by decide +kernel
theorem lk_X3_become_59 : Cond.fieldLink RX3 59 "PolyCuts$Corners" "size" "I" ∈ wsX3_become := by decide +kernel
theorem lk_X3_become_23 : Cond.fieldLink RX3 23 "PolyCuts$Shape" "doubleArea" "I" ∈ wsX3_become := by decide +kernel
theorem in_X3_lookAround_X3 : ∀ w ∈ wsX30, w ∈ wsX3_lookAround := by decide +kernel
theorem lk_X3_lookAround_20 : Cond.fieldLink RX3 20 "PolyCuts$Shape" "sight" "[[I" ∈ wsX3_lookAround := by decide +kernel
theorem lk_X3_lookAround_12 : Cond.fieldLink RX3 12 "PolyCuts$Shape" "corners" "LPolyCuts$Corners;" ∈ wsX3_lookAround := by decide +kernel
theorem in_X3_lookAround_X1 : ∀ w ∈ wsX10, w ∈ wsX3_lookAround := by decide +kernel
theorem lk_X3_lookAround_59 : Cond.fieldLink RX3 59 "PolyCuts$Corners" "size" "I" ∈ wsX3_lookAround := by decide +kernel
theorem sgu_sgu {σ : Sg} {k i f : Nat} {a b : Int32} : sgu (sgu σ k i f a) k i f b = sgu σ k i f b := by
  funext k' i' f'
  by_cases h : k' = k ∧ i' = i ∧ f' = f
  · simp [sgu, h]
  · simp [sgu, h]
theorem sgu_kk {σ : Sg} {k i f k' : Nat} {v : Int32} (h : k' ≠ k) : sgu σ k i f v k' = σ k' := by
  funext i' f'
  exact sgu_k h
theorem sgc_kk {σ : Sg} {k i0 i1 n k' : Nat} (h : k' ≠ k) : sgc σ k i0 i1 n k' = σ k' := by
  funext i' f'
  exact if_neg (fun q => h q.1)
set_option maxHeartbeats 4000000 in
set_option maxRecDepth 100000 in
theorem lp_X3_become {K : Kx} {G : Gx} (hA : wa G) (C : CX K G cX3_become 3 RX3 wsX3_become (rmd 3) none) (σ : Sg) (p n : Nat) (hp : p < 8) (hs : σ 14 (p + 1) 2 = nI n) (hn : n ≤ 14) (o : Nat) (ho : o < 9) : ∀ (f i : Nat) (τ : Sg), n - i < f → i ≤ n → τ = sgu σ 17 p 2 (sumN (crs9 n (σ 15 (p + 1)) (σ 16 (p + 1))) i) → WW K G 3 (QV K G (fun σ2 => σ2 = sgu σ 17 p 2 (sumN (crs9 n (σ 15 (p + 1)) (σ 16 (p + 1))) n))) τ [(2, .int (nI i)), (0, .ref (gA G 17 (p))), (1, .ref (gA G 14 (o)))] 15 [] := by
  intro f
  induction f with
  | zero => intro i τ h; exact absurd h (Nat.not_lt_zero _)
  | succ f ih =>
    intro i τ hf hi ht
    have hst : τ 14 (p + 1) 2 = nI n := by rw [ht, sgu_kk (by decide)]; exact hs
    refine ww_iload_n C dX3_become_15 rfl 0 rfl ?_
    refine ww_aload_n C dX3_become_16 rfl 1 rfl ?_
    refine ww_gr (j := p + 1) (k := 17) (f := 0) C rfl rfl hp rfl in_X3_become_X3 (by decide) lk_X3_become_12 dX3_become_17 rfl ?_
    refine ww_gi (k := 14) (f := 2) C rfl rfl (Nat.add_lt_add_right hp 1) rfl in_X3_become_X1 (by decide) lk_X3_become_59 dX3_become_20 ?_
    refine ww_icmp_ge 46 C dX3_become_23 (by decide) (fun h23 => ?_) (fun h23 => ?_)
    · have g23 : n ≤ i := (cv_le (a := n) (b := i) hst rfl (by omega) (by omega)).mp h23
      refine ww_vret C dX3_become_46 ?_
      rw [ht, show i = n by omega]
    · have g23 : ¬ n ≤ i := fun q => h23 ((cv_le (a := n) (b := i) hst rfl (by omega) (by omega)).mpr q)
      refine ww_aload_n C dX3_become_26 rfl 1 rfl ?_
      refine ww_dup C dX3_become_27 rfl ?_
      refine ww_gi (k := 17) (f := 2) C rfl rfl hp rfl in_X3_become_X3 (by decide) lk_X3_become_23 dX3_become_28 ?_
      refine ww_aload_n C dX3_become_31 rfl 1 rfl ?_
      refine ww_iload_n C dX3_become_32 rfl 0 rfl ?_
      refine ww_calliF (cx_V (n := 1) (As := [.int (nI i)]) C  (c_X3_crossOfEdge (kL K) G hA _ p n hp hst hn i (by omega)) gX3_become_X3_crossOfEdge rfl ⟨rfl, rfl⟩ (by decide +kernel) (by decide) rfl hp rfl rfl rfl (Nat.le_of_ble_eq_true rfl) dX3_become_33) ?_
      refine ww_iadd C dX3_become_36 ?_
      refine ww_pi (k := 17) (f := 2) C rfl rfl hp rfl in_X3_become_X3 tyX3_ok nmX3 (by decide) lk_X3_become_23 rfl rfl dX3_become_37 ?_
      obtain ⟨σ1, hσ1⟩ : ∃ z : Sg, z = (sgu τ 17 (p) 2 ((τ 17 (p) 2) + (crs9 n (τ 15 (p + 1)) (τ 16 (p + 1)) i))) := ⟨_, rfl⟩
      rw [← hσ1]
      refine ww_iinc (q := 0) (fun y2 => [(2, .int (y2)), (0, .ref (gA G 17 (p))), (1, .ref (gA G 14 (o)))]) C dX3_become_40 rfl (by decide) (fun _ => rfl) (fun y2 ey2 => ?_)
      obtain rfl : y2 = nI (i + 1) := ninc rfl ey2
      refine ww_goto 15 C dX3_become_43 (by decide) ?_
      exact ww_sub [0, 1, 2] rfl (ih (i + 1) _ (by omega) (by omega) (by rw [hσ1, ht, sgu_self, sgu_sgu, sgu_kk (by decide), sgu_kk (by decide)]; rfl))
/-- what become leaves behind: the row o of n corners in shape p, and its double area -/
def becF (σ : Sg) (p o n : Nat) : Sg := sgc (sgc (sgu σ 14 (p + 1) 2 (nI n)) 15 o (p + 1) n) 16 o (p + 1) n
set_option maxHeartbeats 4000000 in
set_option maxRecDepth 100000 in
theorem c_X3_become (l : Launch) (G : Gx) (hA : wa G) (σ : Sg) (p o n : Nat) (hp : p < 8) (ho : o < 9) (hs : σ 14 o 2 = nI n) (hn : n ≤ 14) : CtV l yX3_become wsX3_become (rmd 3) G [.ref (gA G 17 (p)), .ref (gA G 14 (o))] σ (fun σ2 => σ2 = sgu (becF σ p o n) 17 p 2 (sumN (crs9 n (becF σ p o n 15 (p + 1)) (becF σ p o n 16 (p + 1))) n)) := by
  refine ct_v (maxL := 3) (ret := none) (by decide) rfl (Nat.le_of_ble_eq_true rfl) hA (fun K hl C => ?_)
  subst hl
  change WW K G _ _ σ [(0, .ref (gA G 17 (p))), (1, .ref (gA G 14 (o)))] 0 []
  refine ww_aload_n C dX3_become_0 rfl 0 rfl ?_
  refine ww_gr (j := p + 1) (k := 17) (f := 0) C rfl rfl hp rfl in_X3_become_X3 (by decide) lk_X3_become_12 dX3_become_1 rfl ?_
  refine ww_aload_n C dX3_become_4 rfl 1 rfl ?_
  refine ww_callvF (cx_V (n := 1) (As := [.ref (gA G 14 (o))]) C  (c_X1_copyOf (kL K) G hA _ o (p + 1) n ho (Nat.add_lt_add_right hp 1) hs hn) gX3_become_X1_copyOf rfl ⟨rfl, rfl⟩ (by decide +kernel) (by decide) rfl (Nat.add_lt_add_right hp 1) rfl rfl rfl (Nat.le_of_ble_eq_true rfl) dX3_become_5) ?_
  obtain ⟨σ1, hσ1⟩ : ∃ z : Sg, z = (sgc (sgc (sgu σ 14 (p + 1) 2 (nI n)) 15 o (p + 1) n) 16 o (p + 1) n) := ⟨_, rfl⟩
  rw [← hσ1]
  refine ww_aload_n C dX3_become_8 rfl 0 rfl ?_
  refine ww_iconst (v := 0) C dX3_become_9 rfl ?_
  refine ww_pi (k := 17) (f := 2) C rfl rfl hp rfl in_X3_become_X3 tyX3_ok nmX3 (by decide) lk_X3_become_23 rfl rfl dX3_become_10 ?_
  obtain ⟨σ2, hσ2⟩ : ∃ z : Sg, z = (sgu σ1 17 (p) 2 (0)) := ⟨_, rfl⟩
  rw [← hσ2]
  refine ww_iconst (v := 0) C dX3_become_13 rfl ?_
  refine ww_istore_n (fun y1 => [(2, .int (y1)), (0, .ref (gA G 17 (p))), (1, .ref (gA G 14 (o)))]) C dX3_become_14 rfl (by decide) (fun _ => rfl) (fun y1 ey1 => ?_)
  obtain rfl : y1 = nI 0 := (ey1.trans (by decide))
  have hb1 : σ1 14 (p + 1) 2 = nI n := by rw [hσ1, sgc_kk (by decide), sgc_kk (by decide), sgu_self]
  rw [show becF σ p o n = σ1 from hσ1.symm]
  exact lp_X3_become hA C σ1 p n hp hb1 hn o ho (n + 1) 0 σ2 (by omega) (by omega) hσ2
def sgt (n : Nat) (x y : Nat → Int32) (a b : Nat) : Int32 := if a = b then 0 else if b < a then lookF n x y a b else lookF n x y b a
def LKo (σ τ : Sg) (p n : Nat) (x y : Nat → Int32) (i : Nat) : Prop := (∀ k, k ≠ 19 → τ k = σ k) ∧ (∀ a f, (∀ c, c < 14 → a ≠ 14 * p + c) → τ 19 a f = σ 19 a f) ∧ ∀ a b, a < i → b < i → τ 19 (14 * p + a) b = sgt n x y a b
def LKi (σ τ : Sg) (p n : Nat) (x y : Nat → Int32) (i j : Nat) : Prop := LKo σ τ p n x y i ∧ τ 19 (14 * p + i) i = 0 ∧ ∀ b, b < j → τ 19 (14 * p + i) b = lookF n x y i b ∧ τ 19 (14 * p + b) i = lookF n x y i b
theorem lk_0 {σ τ τ' : Sg} {p n : Nat} {x y : Nat → Int32} {i : Nat} (hi : i < 14) (h : LKo σ τ p n x y i) (e : τ' = sgu τ 19 (14 * p + i) i 0) : LKi σ τ' p n x y i 0 := by
  obtain ⟨h1, h2, h3⟩ := h
  refine ⟨⟨fun k hk => ?_, fun a f ha => ?_, fun a b ha hb => ?_⟩, ?_, fun b hb => absurd hb (Nat.not_lt_zero b)⟩
  · rw [e, sgu_kk hk, h1 k hk]
  · rw [e, sgu_i (ha i hi), h2 a f ha]
  · rw [e, sgu_f (by omega), h3 a b ha hb]
  · rw [e, sgu_self]
theorem lk_s {σ τ σ1 σ2 : Sg} {p n : Nat} {x y : Nat → Int32} {i j : Nat} {v w : Int32} (hi : i < 14) (hj : j < i) (h : LKi σ τ p n x y i j) (e1 : σ1 = sgu τ 19 (14 * p + i) j v) (e2 : σ2 = sgu σ1 19 (14 * p + j) i w) (hw : w = σ1 19 (14 * p + i) j) (hv : v = lookF n x y i j) : LKi σ σ2 p n x y i (j + 1) := by
  obtain ⟨⟨h1, h2, h3⟩, h4, h5⟩ := h
  have hw2 : w = lookF n x y i j := by rw [hw, e1, sgu_self, hv]
  refine ⟨⟨fun k hk => ?_, fun a f ha => ?_, fun a b ha hb => ?_⟩, ?_, fun b hb => ?_⟩
  · rw [e2, sgu_kk hk, e1, sgu_kk hk, h1 k hk]
  · rw [e2, sgu_i (ha j (by omega)), e1, sgu_i (ha i hi), h2 a f ha]
  · rw [e2, sgu_f (by omega), e1, sgu_i (by omega), h3 a b ha hb]
  · rw [e2, sgu_i (by omega), e1, sgu_f (by omega), h4]
  · rcases Nat.lt_or_ge b j with q | q
    · refine ⟨?_, ?_⟩
      · rw [e2, sgu_i (by omega), e1, sgu_f (by omega), (h5 b q).1]
      · rw [e2, sgu_i (by omega), e1, sgu_i (by omega), (h5 b q).2]
    · obtain rfl : b = j := by omega
      refine ⟨?_, ?_⟩
      · rw [e2, sgu_i (by omega), e1, sgu_self, hv]
      · rw [e2, sgu_self, hw2]
theorem lk_e {σ τ : Sg} {p n : Nat} {x y : Nat → Int32} {i : Nat} (h : LKi σ τ p n x y i i) : LKo σ τ p n x y (i + 1) := by
  obtain ⟨⟨h1, h2, h3⟩, h4, h5⟩ := h
  refine ⟨h1, h2, fun a b ha hb => ?_⟩
  rcases Nat.lt_or_ge a i with qa | qa <;> rcases Nat.lt_or_ge b i with qb | qb
  · exact h3 a b qa qb
  · obtain rfl : b = i := by omega
    rw [(h5 a qa).2, sgt, if_neg (by omega), if_neg (by omega)]
  · obtain rfl : a = i := by omega
    rw [(h5 b qb).1, sgt, if_neg (by omega), if_pos qb]
  · obtain rfl : a = i := by omega
    obtain rfl : b = a := by omega
    rw [h4, sgt, if_pos rfl]
set_option maxHeartbeats 4000000 in
set_option maxRecDepth 100000 in
theorem lp_X3_lookAround_j {K : Kx} {G : Gx} (hA : wa G) (C : CX K G cX3_lookAround 3 RX3 wsX3_lookAround (rmd 6) none) (σ : Sg) (p n : Nat) (hp : p < 8) (hs : σ 14 (p + 1) 2 = nI n) (hn : n ≤ 14) (i : Nat) (hi : i < n) (kx : ∀ τ, LKi σ τ p n (σ 15 (p + 1)) (σ 16 (p + 1)) i i → WW K G 3 (QV K G (fun σ2 => LKo σ σ2 p n (σ 15 (p + 1)) (σ 16 (p + 1)) n)) τ [(1, .int (nI i)), (0, .ref (gA G 17 (p)))] 65 []) : ∀ (f j : Nat) (τ : Sg), i - j < f → j ≤ i → LKi σ τ p n (σ 15 (p + 1)) (σ 16 (p + 1)) i j → WW K G 3 (QV K G (fun σ2 => LKo σ σ2 p n (σ 15 (p + 1)) (σ 16 (p + 1)) n)) τ [(2, .int (nI j)), (1, .int (nI i)), (0, .ref (gA G 17 (p)))] 24 [] := by
  intro f
  induction f with
  | zero => intro j τ h; exact absurd h (Nat.not_lt_zero _)
  | succ f ih =>
    intro j τ hf hj hk
    have hst : τ 14 (p + 1) 2 = nI n := by rw [hk.1.1 14 (by decide)]; exact hs
    have hx5 : τ 15 = σ 15 := hk.1.1 15 (by decide)
    have hx6 : τ 16 = σ 16 := hk.1.1 16 (by decide)
    refine ww_iload_n C dX3_lookAround_24 rfl 0 rfl ?_
    refine ww_iload_n C dX3_lookAround_25 rfl 1 rfl ?_
    refine ww_icmp_ge 65 C dX3_lookAround_26 (by decide) (fun h26 => ?_) (fun h26 => ?_)
    · have g26 : i ≤ j := (cv_le (a := i) (b := j) rfl rfl (by omega) (by omega)).mp h26
      exact ww_sub [1, 2] rfl (kx _ (by rw [show i = j by omega] at hk ⊢; exact hk))
    · have g26 : ¬ i ≤ j := fun q => h26 ((cv_le (a := i) (b := j) rfl rfl (by omega) (by omega)).mpr q)
      refine ww_aload_n C dX3_lookAround_29 rfl 2 rfl ?_
      refine ww_gr (j := p) (k := 17) (f := 1) C rfl rfl hp rfl in_X3_lookAround_X3 (by decide) lk_X3_lookAround_20 dX3_lookAround_30 rfl ?_
      refine ww_iload_n C dX3_lookAround_33 rfl 1 rfl ?_
      refine ww_aald (k := 18) (j := i) (j' := 14 * p + i) C rfl (by decide) hp (by decide) dX3_lookAround_34 rfl (by omega) rfl ?_
      refine ww_iload_n C dX3_lookAround_35 rfl 0 rfl ?_
      refine ww_aload_n C dX3_lookAround_36 rfl 2 rfl ?_
      refine ww_iload_n C dX3_lookAround_37 rfl 1 rfl ?_
      refine ww_iload_n C dX3_lookAround_38 rfl 0 rfl ?_
      refine ww_calliF (cx_V (n := 2) (As := [.int (nI i), .int (nI j)]) C  (c_X3_look (kL K) G hA _ p n hp hst hn i j (by omega) (by omega)) gX3_lookAround_X3_look rfl ⟨rfl, rfl⟩ (by decide +kernel) (by decide) rfl hp rfl rfl rfl (Nat.le_of_ble_eq_true rfl) dX3_lookAround_39) ?_
      refine ww_iast (k := 19) (j := j) C rfl (dm19 hp (by omega)) (by decide) dX3_lookAround_42 rfl (by omega) ?_
      obtain ⟨σ1, hσ1⟩ : ∃ z : Sg, z = (sgu τ 19 (14 * p + i) (j) (lookF n (τ 15 (p + 1)) (τ 16 (p + 1)) i j)) := ⟨_, rfl⟩
      rw [← hσ1]
      refine ww_aload_n C dX3_lookAround_43 rfl 2 rfl ?_
      refine ww_gr (j := p) (k := 17) (f := 1) C rfl rfl hp rfl in_X3_lookAround_X3 (by decide) lk_X3_lookAround_20 dX3_lookAround_44 rfl ?_
      refine ww_iload_n C dX3_lookAround_47 rfl 0 rfl ?_
      refine ww_aald (k := 18) (j := j) (j' := 14 * p + j) C rfl (by decide) hp (by decide) dX3_lookAround_48 rfl (by omega) rfl ?_
      refine ww_iload_n C dX3_lookAround_49 rfl 1 rfl ?_
      refine ww_aload_n C dX3_lookAround_50 rfl 2 rfl ?_
      refine ww_gr (j := p) (k := 17) (f := 1) C rfl rfl hp rfl in_X3_lookAround_X3 (by decide) lk_X3_lookAround_20 dX3_lookAround_51 rfl ?_
      refine ww_iload_n C dX3_lookAround_54 rfl 1 rfl ?_
      refine ww_aald (k := 18) (j := i) (j' := 14 * p + i) C rfl (by decide) hp (by decide) dX3_lookAround_55 rfl (by omega) rfl ?_
      refine ww_iload_n C dX3_lookAround_56 rfl 0 rfl ?_
      refine ww_iald (k := 19) (j := j) C rfl (dm19 hp (by omega)) (by decide) dX3_lookAround_57 rfl (by omega) ?_
      refine ww_iast (k := 19) (j := i) C rfl (dm19 hp (by omega)) (by decide) dX3_lookAround_58 rfl (by omega) ?_
      obtain ⟨σ2, hσ2⟩ : ∃ z : Sg, z = (sgu σ1 19 (14 * p + j) (i) (σ1 19 (14 * p + i) (j))) := ⟨_, rfl⟩
      rw [← hσ2]
      refine ww_iinc (q := 0) (fun y3 => [(2, .int (y3)), (1, .int (nI i)), (0, .ref (gA G 17 (p)))]) C dX3_lookAround_59 rfl (by decide) (fun _ => rfl) (fun y3 ey3 => ?_)
      obtain rfl : y3 = nI (j + 1) := ninc rfl ey3
      refine ww_goto 24 C dX3_lookAround_62 (by decide) ?_
      exact ww_sub [0, 1, 2] rfl (ih (j + 1) _ (by omega) (by omega) (lk_s (by omega) (by omega) hk hσ1 hσ2 rfl (by rw [hx5, hx6])))
set_option maxHeartbeats 4000000 in
set_option maxRecDepth 100000 in
theorem lp_X3_lookAround_i {K : Kx} {G : Gx} (hA : wa G) (C : CX K G cX3_lookAround 3 RX3 wsX3_lookAround (rmd 6) none) (σ : Sg) (p n : Nat) (hp : p < 8) (hs : σ 14 (p + 1) 2 = nI n) (hn : n ≤ 14) : ∀ (f i : Nat) (τ : Sg), n - i < f → i ≤ n → LKo σ τ p n (σ 15 (p + 1)) (σ 16 (p + 1)) i → WW K G 3 (QV K G (fun σ2 => LKo σ σ2 p n (σ 15 (p + 1)) (σ 16 (p + 1)) n)) τ [(1, .int (nI i)), (0, .ref (gA G 17 (p)))] 2 [] := by
  intro f
  induction f with
  | zero => intro i τ h; exact absurd h (Nat.not_lt_zero _)
  | succ f ih =>
    intro i τ hf hi hk
    have hst : τ 14 (p + 1) 2 = nI n := by rw [hk.1 14 (by decide)]; exact hs
    have hx5 : τ 15 = σ 15 := hk.1 15 (by decide)
    have hx6 : τ 16 = σ 16 := hk.1 16 (by decide)
    refine ww_iload_n C dX3_lookAround_2 rfl 0 rfl ?_
    refine ww_aload_n C dX3_lookAround_3 rfl 1 rfl ?_
    refine ww_gr (j := p + 1) (k := 17) (f := 0) C rfl rfl hp rfl in_X3_lookAround_X3 (by decide) lk_X3_lookAround_12 dX3_lookAround_4 rfl ?_
    refine ww_gi (k := 14) (f := 2) C rfl rfl (Nat.add_lt_add_right hp 1) rfl in_X3_lookAround_X1 (by decide) lk_X3_lookAround_59 dX3_lookAround_7 ?_
    refine ww_icmp_ge 71 C dX3_lookAround_10 (by decide) (fun h10 => ?_) (fun h10 => ?_)
    · have g10 : n ≤ i := (cv_le (a := n) (b := i) hst rfl (by omega) (by omega)).mp h10
      refine ww_vret C dX3_lookAround_71 ?_
      rw [show i = n by omega] at hk; exact hk
    · have g10 : ¬ n ≤ i := fun q => h10 ((cv_le (a := n) (b := i) hst rfl (by omega) (by omega)).mpr q)
      refine ww_aload_n C dX3_lookAround_13 rfl 1 rfl ?_
      refine ww_gr (j := p) (k := 17) (f := 1) C rfl rfl hp rfl in_X3_lookAround_X3 (by decide) lk_X3_lookAround_20 dX3_lookAround_14 rfl ?_
      refine ww_iload_n C dX3_lookAround_17 rfl 0 rfl ?_
      refine ww_aald (k := 18) (j := i) (j' := 14 * p + i) C rfl (by decide) hp (by decide) dX3_lookAround_18 rfl (by omega) rfl ?_
      refine ww_iload_n C dX3_lookAround_19 rfl 0 rfl ?_
      refine ww_iconst (v := 0) C dX3_lookAround_20 rfl ?_
      refine ww_iast (k := 19) (j := i) C rfl (dm19 hp (by omega)) (by decide) dX3_lookAround_21 rfl (by omega) ?_
      obtain ⟨σ1, hσ1⟩ : ∃ z : Sg, z = (sgu τ 19 (14 * p + i) (i) (0)) := ⟨_, rfl⟩
      rw [← hσ1]
      refine ww_iconst (v := 0) C dX3_lookAround_22 rfl ?_
      refine ww_istore_n (fun y2 => [(2, .int (y2)), (1, .int (nI i)), (0, .ref (gA G 17 (p)))]) C dX3_lookAround_23 rfl (by decide) (fun _ => rfl) (fun y2 ey2 => ?_)
      obtain rfl : y2 = nI 0 := (ey2.trans (by decide))
      refine lp_X3_lookAround_j hA C σ p n hp hs hn i (by omega) (fun τ2 hk2 => ?_) (i + 1) 0 _ (by omega) (by omega) (lk_0 (by omega) hk hσ1)
      refine ww_iinc (q := 0) (fun y3 => [(1, .int (y3)), (0, .ref (gA G 17 (p)))]) C dX3_lookAround_65 rfl (by decide) (fun _ => rfl) (fun y3 ey3 => ?_)
      obtain rfl : y3 = nI (i + 1) := ninc rfl ey3
      refine ww_goto 2 C dX3_lookAround_68 (by decide) ?_
      exact ww_sub [0, 1] rfl (ih (i + 1) _ (by omega) (by omega) (lk_e hk2))
set_option maxHeartbeats 4000000 in
set_option maxRecDepth 100000 in
theorem c_X3_lookAround (l : Launch) (G : Gx) (hA : wa G) (σ : Sg) (p n : Nat) (hp : p < 8) (hs : σ 14 (p + 1) 2 = nI n) (hn : n ≤ 14) : CtV l yX3_lookAround wsX3_lookAround (rmd 6) G [.ref (gA G 17 (p))] σ (fun σ2 => LKo σ σ2 p n (σ 15 (p + 1)) (σ 16 (p + 1)) n) := by
  refine ct_v (maxL := 3) (ret := none) (by decide) rfl (Nat.le_of_ble_eq_true rfl) hA (fun K hl C => ?_)
  subst hl
  change WW K G _ _ σ [(0, .ref (gA G 17 (p)))] 0 []
  refine ww_iconst (v := 0) C dX3_lookAround_0 rfl ?_
  refine ww_istore_n (fun y1 => [(1, .int (y1)), (0, .ref (gA G 17 (p)))]) C dX3_lookAround_1 rfl (by decide) (fun _ => rfl) (fun y1 ey1 => ?_)
  obtain rfl : y1 = nI 0 := (ey1.trans (by decide))
  exact lp_X3_lookAround_i hA C σ p n hp hs hn (n + 1) 0 σ (by omega) (by omega) ⟨fun _ _ => rfl, fun _ _ _ => rfl, fun _ _ h => absurd h (Nat.not_lt_zero _)⟩
end
section
theorem in_X5_shapeOf_X5 : ∀ w ∈ wsX50, w ∈ wsX5_shapeOf := by decide +kernel
theorem lk_X5_shapeOf_44 : Cond.fieldLink RX5 44 "PolyCuts" "shapeCount" "I" ∈ wsX5_shapeOf := by decide +kernel
theorem lk_X5_shapeOf_39 : Cond.fieldLink RX5 39 "PolyCuts" "shapes" "[LPolyCuts$Shape;" ∈ wsX5_shapeOf := by decide +kernel
theorem in_X5_fault_X5 : ∀ w ∈ wsX50, w ∈ wsX5_fault := by decide +kernel
theorem lk_X5_fault_19 : Cond.fieldLink RX5 19 "PolyCuts" "check" "LPolyCuts$Check;" ∈ wsX5_fault := by decide +kernel
theorem in_X5_fault_X0 : ∀ w ∈ wsX00, w ∈ wsX5_fault := by decide +kernel
theorem lk_X5_fault_86 : Cond.fieldLink RX5 86 "PolyCuts$Check" "second" "I" ∈ wsX5_fault := by decide +kernel
theorem lk_X5_fault_83 : Cond.fieldLink RX5 83 "PolyCuts$Check" "first" "I" ∈ wsX5_fault := by decide +kernel
theorem in_X5_drop_X5 : ∀ w ∈ wsX50, w ∈ wsX5_drop := by decide +kernel
theorem lk_X5_drop_44 : Cond.fieldLink RX5 44 "PolyCuts" "shapeCount" "I" ∈ wsX5_drop := by decide +kernel
theorem in_X5_count_X5 : ∀ w ∈ wsX50, w ∈ wsX5_count := by decide +kernel
theorem lk_X5_count_44 : Cond.fieldLink RX5 44 "PolyCuts" "shapeCount" "I" ∈ wsX5_count := by decide +kernel
theorem in_X5_count_X3 : ∀ w ∈ wsX30, w ∈ wsX5_count := by decide +kernel
theorem lk_X5_count_93 : Cond.fieldLink RX5 93 "PolyCuts$Shape" "corners" "LPolyCuts$Corners;" ∈ wsX5_count := by decide +kernel
theorem in_X5_count_X1 : ∀ w ∈ wsX10, w ∈ wsX5_count := by decide +kernel
theorem lk_X5_count_60 : Cond.fieldLink RX5 60 "PolyCuts$Corners" "size" "I" ∈ wsX5_count := by decide +kernel
theorem in_X5_area_X3 : ∀ w ∈ wsX30, w ∈ wsX5_area := by decide +kernel
theorem lk_X5_area_107 : Cond.fieldLink RX5 107 "PolyCuts$Shape" "doubleArea" "I" ∈ wsX5_area := by decide +kernel
theorem in_X5_triangulations_X3 : ∀ w ∈ wsX30, w ∈ wsX5_triangulations := by decide +kernel
theorem lk_X5_triangulations_150 : Cond.fieldLink RX5 150 "PolyCuts$Shape" "triangulationCount" "I" ∈ wsX5_triangulations := by decide +kernel
theorem in_X5_best_X3 : ∀ w ∈ wsX30, w ∈ wsX5_best := by decide +kernel
theorem lk_X5_best_153 : Cond.fieldLink RX5 153 "PolyCuts$Shape" "leastSum" "I" ∈ wsX5_best := by decide +kernel
theorem in_X5_parts_X3 : ∀ w ∈ wsX30, w ∈ wsX5_parts := by decide +kernel
theorem lk_X5_parts_180 : Cond.fieldLink RX5 180 "PolyCuts$Shape" "partCount" "I" ∈ wsX5_parts := by decide +kernel
theorem in_X5_points_X3 : ∀ w ∈ wsX30, w ∈ wsX5_points := by decide +kernel
theorem lk_X5_points_107 : Cond.fieldLink RX5 107 "PolyCuts$Shape" "doubleArea" "I" ∈ wsX5_points := by decide +kernel
theorem lw_X5_points_mabs124 : Cond.methodLink RX5 124 Lib.Math.abs.name ∈ wsX5_points := by decide +kernel
theorem lw_X5_points_mabss : Cond.static Lib.Math.abs.name ∈ wsX5_points := by decide +kernel
theorem lw_X5_points_mi : Cond.initialized "java/lang/Math" ∈ wsX5_points := by decide +kernel
theorem lw_X5_points_mabsc : Cond.code Lib.Math.abs.name Lib.Math.abs.code 1 (some .int) ∈ wsX5_points := by decide +kernel
theorem ix_of {x : Int32} {n : Nat} (h : 0 ≤ x ∧ x < nI n) (hn : n ≤ 14) : ∃ j, j < n ∧ x = nI j := by
  obtain ⟨j, hj, e⟩ := nI_of (x := x) (Int32.not_lt.mpr h.1)
  subst e
  exact ⟨j, (nI_ltI (by omega) (by omega)).mp h.2, rfl⟩
theorem nI_0le {n : Nat} (h : n < 2 ^ 31) : (0 : Int32) ≤ nI n := nI_pos' h
theorem kn_p {p cnt : Nat} (h : p < cnt) (h8 : cnt ≤ 8) : (0 : Int32) ≤ nI p ∧ nI p < nI cnt := ⟨nI_pos' (by omega), nI_lt h (by omega)⟩
theorem nI_nm1 {n : Nat} (h : n < 2 ^ 31) : ¬ nI n = -1 := fun e => by
  have h1 := nI_toInt h
  rw [e] at h1
  have h2 : (-1 : Int32).toInt = -1 := by decide
  omega
set_option maxHeartbeats 4000000 in
set_option maxRecDepth 100000 in
theorem c_X5_shapeOf_s (l : Launch) (G : Gx) (hA : wa G) (σ : Sg) (cnt p : Nat) (hc : σ 0 0 5 = nI cnt) (hc8 : cnt ≤ 8) (hpc : p < cnt) : CtQ l yX5_shapeOf wsX5_shapeOf (rmd 1) G [.ref (gA G 0 (0)), .int (nI p)] σ (fun r σ2 => r = some (gA G 17 p) ∧ σ2 = σ) := by
  refine ct_q (maxL := 2) (ret := (some (.object "PolyCuts$Shape"))) (by decide) rfl (Nat.le_of_ble_eq_true rfl) hA (fun K hl C => ?_)
  subst hl
  change WW K G _ _ σ [(0, .ref (gA G 0 (0))), (1, .int (nI p))] 0 []
  refine ww_iload_n C dX5_shapeOf_0 rfl 1 rfl ?_
  refine ww_if_lt 21 C dX5_shapeOf_1 (by decide) (fun h1 => ?_) (fun h1 => ?_)
  · have g1 : p < 0 := (cv_lt (a := p) (b := 0) rfl (by decide) (by omega) (by omega)).mp h1
    exact absurd g1 (by omega)
  · have g1 : ¬ p < 0 := fun q => h1 ((cv_lt (a := p) (b := 0) rfl (by decide) (by omega) (by omega)).mpr q)
    refine ww_iload_n C dX5_shapeOf_4 rfl 1 rfl ?_
    refine ww_aload_n C dX5_shapeOf_5 rfl 0 rfl ?_
    refine ww_gi (k := 0) (f := 5) C rfl rfl (by decide) rfl in_X5_shapeOf_X5 (by decide) lk_X5_shapeOf_44 dX5_shapeOf_6 ?_
    refine ww_icmp_ge 21 C dX5_shapeOf_9 (by decide) (fun h9 => ?_) (fun h9 => ?_)
    · have g9 : cnt ≤ p := (cv_le (a := cnt) (b := p) hc rfl (by omega) (by omega)).mp h9
      exact absurd g9 (by omega)
    · have g9 : ¬ cnt ≤ p := fun q => h9 ((cv_le (a := cnt) (b := p) hc rfl (by omega) (by omega)).mpr q)
      refine ww_aload_n C dX5_shapeOf_12 rfl 0 rfl ?_
      refine ww_gr (j := 0) (k := 0) (f := 4) C rfl rfl (by decide) rfl in_X5_shapeOf_X5 (by decide) lk_X5_shapeOf_39 dX5_shapeOf_13 rfl ?_
      refine ww_iload_n C dX5_shapeOf_16 rfl 1 rfl ?_
      refine ww_aald (k := 13) (j := p) (j' := p) C rfl (by decide) (by decide) (by decide) dX5_shapeOf_17 rfl (by omega) rfl ?_
      refine ww_goto 22 C dX5_shapeOf_18 (by decide) ?_
      refine ww_aret C (Or.inl ⟨_, rfl⟩) dX5_shapeOf_22 ?_
      exact ⟨rfl, rfl⟩
set_option maxHeartbeats 4000000 in
set_option maxRecDepth 100000 in
theorem c_X5_shapeOf_n (l : Launch) (G : Gx) (hA : wa G) (σ : Sg) (cnt : Nat) (hc : σ 0 0 5 = nI cnt) (hc8 : cnt ≤ 8) (x : Int32) (hu : ¬ (0 ≤ x ∧ x < nI cnt)) : CtQ l yX5_shapeOf wsX5_shapeOf (rmd 1) G [.ref (gA G 0 (0)), .int (x)] σ (fun r σ2 => r = none ∧ σ2 = σ) := by
  refine ct_q (maxL := 2) (ret := (some (.object "PolyCuts$Shape"))) (by decide) rfl (Nat.le_of_ble_eq_true rfl) hA (fun K hl C => ?_)
  subst hl
  change WW K G _ _ σ [(0, .ref (gA G 0 (0))), (1, .int (x))] 0 []
  refine ww_iload_n C dX5_shapeOf_0 rfl 1 rfl ?_
  refine ww_if_lt 21 C dX5_shapeOf_1 (by decide) (fun h1 => ?_) (fun h1 => ?_)
  · refine ww_null C dX5_shapeOf_21 ?_
    refine ww_aretN C (Or.inl ⟨_, rfl⟩) dX5_shapeOf_22 ?_
    exact ⟨rfl, rfl⟩
  · refine ww_iload_n C dX5_shapeOf_4 rfl 1 rfl ?_
    refine ww_aload_n C dX5_shapeOf_5 rfl 0 rfl ?_
    refine ww_gi (k := 0) (f := 5) C rfl rfl (by decide) rfl in_X5_shapeOf_X5 (by decide) lk_X5_shapeOf_44 dX5_shapeOf_6 ?_
    refine ww_icmp_ge 21 C dX5_shapeOf_9 (by decide) (fun h9 => ?_) (fun h9 => ?_)
    · refine ww_null C dX5_shapeOf_21 ?_
      refine ww_aretN C (Or.inl ⟨_, rfl⟩) dX5_shapeOf_22 ?_
      exact ⟨rfl, rfl⟩
    · exact absurd ⟨Int32.not_lt.mp h1, by rw [← hc]; exact Int32.not_le.mp h9⟩ hu
set_option maxHeartbeats 4000000 in
set_option maxRecDepth 100000 in
theorem c_X5_isWithin (l : Launch) (G : Gx) (hA : wa G) (σ : Sg) (x f : Int32) : CtI l yX5_isWithin wsX5_isWithin (rmd 1) G [.int (x), .int (f)] σ (fun r σ2 => r = bI (decide (-f ≤ x ∧ x ≤ f)) ∧ σ2 = σ) := by
  refine ct_i (maxL := 2) (ret := (some .boolean)) (by decide) rfl (Nat.le_of_ble_eq_true rfl) hA (fun K hl C => ?_)
  subst hl
  change WW K G _ _ σ [(0, .int (x)), (1, .int (f))] 0 []
  refine ww_iload_n C dX5_isWithin_0 rfl 0 rfl ?_
  refine ww_iload_n C dX5_isWithin_1 rfl 1 rfl ?_
  refine ww_ineg C dX5_isWithin_2 ?_
  refine ww_icmp_lt 15 C dX5_isWithin_3 (by decide) (fun h3 => ?_) (fun h3 => ?_)
  · refine ww_iconst (v := 0) C dX5_isWithin_15 rfl ?_
    refine ww_zret C dX5_isWithin_16 (by first | rfl | exact bI_n) ?_
    exact ⟨by rw [decide_eq_false (fun q => absurd q.1 (Int32.not_le.mpr h3))]; rfl, rfl⟩
  · refine ww_iload_n C dX5_isWithin_6 rfl 0 rfl ?_
    refine ww_iload_n C dX5_isWithin_7 rfl 1 rfl ?_
    refine ww_icmp_gt 15 C dX5_isWithin_8 (by decide) (fun h8 => ?_) (fun h8 => ?_)
    · refine ww_iconst (v := 0) C dX5_isWithin_15 rfl ?_
      refine ww_zret C dX5_isWithin_16 (by first | rfl | exact bI_n) ?_
      exact ⟨by rw [decide_eq_false (fun q => absurd q.2 (Int32.not_le.mpr h8))]; rfl, rfl⟩
    · refine ww_iconst (v := 1) C dX5_isWithin_11 rfl ?_
      refine ww_goto 16 C dX5_isWithin_12 (by decide) ?_
      refine ww_zret C dX5_isWithin_16 (by first | rfl | exact bI_n) ?_
      exact ⟨by rw [decide_eq_true ⟨Int32.not_lt.mp h3, Int32.not_lt.mp h8⟩]; rfl, rfl⟩
set_option maxHeartbeats 4000000 in
set_option maxRecDepth 100000 in
theorem c_X5_isZeroOrOne (l : Launch) (G : Gx) (hA : wa G) (σ : Sg) (x : Int32) : CtI l yX5_isZeroOrOne wsX5_isZeroOrOne (rmd 1) G [.int (x)] σ (fun r σ2 => r = bI (decide (x = 0 ∨ x = 1)) ∧ σ2 = σ) := by
  refine ct_i (maxL := 1) (ret := (some .boolean)) (by decide) rfl (Nat.le_of_ble_eq_true rfl) hA (fun K hl C => ?_)
  subst hl
  change WW K G _ _ σ [(0, .int (x))] 0 []
  refine ww_iload_n C dX5_isZeroOrOne_0 rfl 0 rfl ?_
  refine ww_if_eq 9 C dX5_isZeroOrOne_1 (by decide) (fun h1 => ?_) (fun h1 => ?_)
  · refine ww_iconst (v := 1) C dX5_isZeroOrOne_9 rfl ?_
    refine ww_goto 14 C dX5_isZeroOrOne_10 (by decide) ?_
    refine ww_zret C dX5_isZeroOrOne_14 (by first | rfl | exact bI_n) ?_
    exact ⟨by rw [decide_eq_true (Or.inl h1)]; rfl, rfl⟩
  · refine ww_iload_n C dX5_isZeroOrOne_4 rfl 0 rfl ?_
    refine ww_iconst (v := 1) C dX5_isZeroOrOne_5 rfl ?_
    refine ww_icmp_ne 13 C dX5_isZeroOrOne_6 (by decide) (fun h6 => ?_) (fun h6 => ?_)
    · refine ww_iconst (v := 0) C dX5_isZeroOrOne_13 rfl ?_
      refine ww_zret C dX5_isZeroOrOne_14 (by first | rfl | exact bI_n) ?_
      exact ⟨by rw [decide_eq_false (fun q => q.elim h1 h6)]; rfl, rfl⟩
    · refine ww_iconst (v := 1) C dX5_isZeroOrOne_9 rfl ?_
      refine ww_goto 14 C dX5_isZeroOrOne_10 (by decide) ?_
      refine ww_zret C dX5_isZeroOrOne_14 (by first | rfl | exact bI_n) ?_
      exact ⟨by rw [decide_eq_true (Or.inr h6)]; rfl, rfl⟩
def faultR (x a b : Int32) : Int32 := if x = 0 then a else if x = 1 then b else -3
set_option maxHeartbeats 4000000 in
set_option maxRecDepth 100000 in
theorem c_X5_fault (l : Launch) (G : Gx) (hA : wa G) (σ : Sg) (x : Int32) : CtI l yX5_fault wsX5_fault (rmd 1) G [.ref (gA G 0 (0)), .int (x)] σ (fun r σ2 => r = faultR x (σ 1 0 1) (σ 1 0 2) ∧ σ2 = σ) := by
  refine ct_i (maxL := 2) (ret := (some .int)) (by decide) rfl (Nat.le_of_ble_eq_true rfl) hA (fun K hl C => ?_)
  subst hl
  change WW K G _ _ σ [(0, .ref (gA G 0 (0))), (1, .int (x))] 0 []
  refine ww_iload_n C dX5_fault_0 rfl 1 rfl ?_
  refine ww_if_ne 12 C dX5_fault_1 (by decide) (fun h1 => ?_) (fun h1 => ?_)
  · refine ww_iload_n C dX5_fault_12 rfl 1 rfl ?_
    refine ww_iconst (v := 1) C dX5_fault_13 rfl ?_
    refine ww_icmp_ne 27 C dX5_fault_14 (by decide) (fun h14 => ?_) (fun h14 => ?_)
    · refine ww_bipush (v := -3) C dX5_fault_27 (by decide) ?_
      refine ww_iret C dX5_fault_29 ?_
      exact ⟨by rw [faultR, if_neg h1, if_neg h14], rfl⟩
    · refine ww_aload_n C dX5_fault_17 rfl 0 rfl ?_
      refine ww_gr (j := 0) (k := 0) (f := 1) C rfl rfl (by decide) rfl in_X5_fault_X5 (by decide) lk_X5_fault_19 dX5_fault_18 rfl ?_
      refine ww_gi (k := 1) (f := 2) C rfl rfl (by decide) rfl in_X5_fault_X0 (by decide) lk_X5_fault_86 dX5_fault_21 ?_
      refine ww_goto 29 C dX5_fault_24 (by decide) ?_
      refine ww_iret C dX5_fault_29 ?_
      exact ⟨by rw [faultR, if_neg h1, if_pos h14], rfl⟩
  · refine ww_aload_n C dX5_fault_4 rfl 0 rfl ?_
    refine ww_gr (j := 0) (k := 0) (f := 1) C rfl rfl (by decide) rfl in_X5_fault_X5 (by decide) lk_X5_fault_19 dX5_fault_5 rfl ?_
    refine ww_gi (k := 1) (f := 1) C rfl rfl (by decide) rfl in_X5_fault_X0 (by decide) lk_X5_fault_83 dX5_fault_8 ?_
    refine ww_iret C dX5_fault_11 ?_
    exact ⟨by rw [faultR, if_pos h1], rfl⟩
set_option maxHeartbeats 4000000 in
set_option maxRecDepth 100000 in
theorem c_X5_drop_0 (l : Launch) (G : Gx) (hA : wa G) (σ : Sg) (hc : σ 0 0 5 = nI 0) : CtI l yX5_drop wsX5_drop (rmd 1) G [.ref (gA G 0 (0))] σ (fun r σ2 => r = -2 ∧ σ2 = σ) := by
  refine ct_i (maxL := 1) (ret := (some .int)) (by decide) rfl (Nat.le_of_ble_eq_true rfl) hA (fun K hl C => ?_)
  subst hl
  change WW K G _ _ σ [(0, .ref (gA G 0 (0)))] 0 []
  refine ww_aload_n C dX5_drop_0 rfl 0 rfl ?_
  refine ww_gi (k := 0) (f := 5) C rfl rfl (by decide) rfl in_X5_drop_X5 (by decide) lk_X5_drop_44 dX5_drop_1 ?_
  refine ww_if_ne 10 C dX5_drop_4 (by decide) (fun h4 => ?_) (fun h4 => ?_)
  · have g4 : ¬ 0 = 0 := fun q => h4 ((cv_eq (a := 0) (b := 0) hc (by decide) (by omega) (by omega)).mpr q)
    exact absurd g4 (by decide)
  · have g4 : 0 = 0 := (cv_eq (a := 0) (b := 0) hc (by decide) (by omega) (by omega)).mp h4
    refine ww_bipush (v := -2) C dX5_drop_7 (by decide) ?_
    refine ww_iret C dX5_drop_9 ?_
    exact ⟨rfl, rfl⟩
set_option maxHeartbeats 4000000 in
set_option maxRecDepth 100000 in
theorem c_X5_drop_s (l : Launch) (G : Gx) (hA : wa G) (σ : Sg) (cnt : Nat) (hc : σ 0 0 5 = nI (cnt + 1)) (hc8 : cnt < 8) : CtI l yX5_drop wsX5_drop (rmd 1) G [.ref (gA G 0 (0))] σ (fun r σ2 => r = nI cnt ∧ σ2 = sgu σ 0 0 5 (nI cnt)) := by
  refine ct_i (maxL := 1) (ret := (some .int)) (by decide) rfl (Nat.le_of_ble_eq_true rfl) hA (fun K hl C => ?_)
  subst hl
  change WW K G _ _ σ [(0, .ref (gA G 0 (0)))] 0 []
  refine ww_aload_n C dX5_drop_0 rfl 0 rfl ?_
  refine ww_gi (k := 0) (f := 5) C rfl rfl (by decide) rfl in_X5_drop_X5 (by decide) lk_X5_drop_44 dX5_drop_1 ?_
  refine ww_if_ne 10 C dX5_drop_4 (by decide) (fun h4 => ?_) (fun h4 => ?_)
  · have g4 : ¬ cnt + 1 = 0 := fun q => h4 ((cv_eq (a := cnt + 1) (b := 0) hc (by decide) (by omega) (by omega)).mpr q)
    refine ww_aload_n C dX5_drop_10 rfl 0 rfl ?_
    refine ww_dup C dX5_drop_11 rfl ?_
    refine ww_gi (k := 0) (f := 5) C rfl rfl (by decide) rfl in_X5_drop_X5 (by decide) lk_X5_drop_44 dX5_drop_12 ?_
    refine ww_iconst (v := 1) C dX5_drop_15 rfl ?_
    refine ww_isub C dX5_drop_16 ?_
    refine ww_pi (k := 0) (f := 5) C rfl rfl (by decide) rfl in_X5_drop_X5 tyX5_ok nmX5 (by decide) lk_X5_drop_44 rfl rfl dX5_drop_17 ?_
    refine ww_aload_n C dX5_drop_20 rfl 0 rfl ?_
    refine ww_gi (k := 0) (f := 5) C rfl rfl (by decide) rfl in_X5_drop_X5 (by decide) lk_X5_drop_44 dX5_drop_21 ?_
    refine ww_iret C dX5_drop_24 ?_
    exact ⟨by rw [sgu_self, hc]; exact nI_pred cnt, by rw [hc, nI_pred]⟩
  · have g4 : cnt + 1 = 0 := (cv_eq (a := cnt + 1) (b := 0) hc (by decide) (by omega) (by omega)).mp h4
    exact absurd g4 (by omega)
set_option maxHeartbeats 4000000 in
set_option maxRecDepth 100000 in
theorem c_X5_count_a (l : Launch) (G : Gx) (hA : wa G) (σ : Sg) (cnt : Nat) (hc : σ 0 0 5 = nI cnt) (hc8 : cnt ≤ 8) : CtI l yX5_count wsX5_count (rmd 2) G [.ref (gA G 0 (0)), .int (-1)] σ (fun r σ2 => r = nI cnt ∧ σ2 = σ) := by
  refine ct_i (maxL := 3) (ret := (some .int)) (by decide) rfl (Nat.le_of_ble_eq_true rfl) hA (fun K hl C => ?_)
  subst hl
  change WW K G _ _ σ [(0, .ref (gA G 0 (0))), (1, .int (-1))] 0 []
  refine ww_iload_n C dX5_count_0 rfl 1 rfl ?_
  refine ww_iconst (v := -1) C dX5_count_1 rfl ?_
  refine ww_icmp_ne 10 C dX5_count_2 (by decide) (fun h2 => ?_) (fun h2 => ?_)
  · exact absurd rfl h2
  · refine ww_aload_n C dX5_count_5 rfl 0 rfl ?_
    refine ww_gi (k := 0) (f := 5) C rfl rfl (by decide) rfl in_X5_count_X5 (by decide) lk_X5_count_44 dX5_count_6 ?_
    refine ww_iret C dX5_count_9 ?_
    exact ⟨hc, rfl⟩
set_option maxHeartbeats 4000000 in
set_option maxRecDepth 100000 in
theorem c_X5_count_s (l : Launch) (G : Gx) (hA : wa G) (σ : Sg) (cnt p n : Nat) (hc : σ 0 0 5 = nI cnt) (hc8 : cnt ≤ 8) (hpc : p < cnt) (hp : p < 8) (hs : σ 14 (p + 1) 2 = nI n) (hn : n ≤ 14) : CtI l yX5_count wsX5_count (rmd 2) G [.ref (gA G 0 (0)), .int (nI p)] σ (fun r σ2 => r = nI n ∧ σ2 = σ) := by
  refine ct_i (maxL := 3) (ret := (some .int)) (by decide) rfl (Nat.le_of_ble_eq_true rfl) hA (fun K hl C => ?_)
  subst hl
  change WW K G _ _ σ [(0, .ref (gA G 0 (0))), (1, .int (nI p))] 0 []
  refine ww_iload_n C dX5_count_0 rfl 1 rfl ?_
  refine ww_iconst (v := -1) C dX5_count_1 rfl ?_
  refine ww_icmp_ne 10 C dX5_count_2 (by decide) (fun h2 => ?_) (fun h2 => ?_)
  · refine ww_aload_n C dX5_count_10 rfl 0 rfl ?_
    refine ww_iload_n C dX5_count_11 rfl 1 rfl ?_
    refine ww_callqR (cx_V (n := 1) (As := [.int (nI p)]) C  (c_X5_shapeOf_s (kL K) G hA _ cnt p hc hc8 hpc) gX5_count_X5_shapeOf rfl ⟨rfl, rfl⟩ (by decide +kernel) (by decide) rfl (by decide) rfl rfl rfl (Nat.le_of_ble_eq_true rfl) dX5_count_12) ?_
    refine ww_astore_n [(2, .ref (gA G 17 (p))), (0, .ref (gA G 0 (0))), (1, .int (nI p))] C dX5_count_15 rfl (by decide) rfl ?_
    refine ww_aload_n C dX5_count_16 rfl 0 rfl ?_
    refine ww_ifnonnull 25 C dX5_count_17 (by decide) ?_
    refine ww_aload_n C dX5_count_25 rfl 0 rfl ?_
    refine ww_gr (j := p + 1) (k := 17) (f := 0) C rfl rfl hp rfl in_X5_count_X3 (by decide) lk_X5_count_93 dX5_count_26 rfl ?_
    refine ww_gi (k := 14) (f := 2) C rfl rfl (Nat.add_lt_add_right hp 1) rfl in_X5_count_X1 (by decide) lk_X5_count_60 dX5_count_29 ?_
    refine ww_iret C dX5_count_32 ?_
    exact ⟨hs, rfl⟩
  · exact absurd h2 (nI_nm1 (by omega))
set_option maxHeartbeats 4000000 in
set_option maxRecDepth 100000 in
theorem c_X5_count_n (l : Launch) (G : Gx) (hA : wa G) (σ : Sg) (cnt : Nat) (hc : σ 0 0 5 = nI cnt) (hc8 : cnt ≤ 8) (x : Int32) (hu : ¬ (0 ≤ x ∧ x < nI cnt)) (hm : ¬ x = -1) : CtI l yX5_count wsX5_count (rmd 2) G [.ref (gA G 0 (0)), .int (x)] σ (fun r σ2 => r = -2 ∧ σ2 = σ) := by
  refine ct_i (maxL := 3) (ret := (some .int)) (by decide) rfl (Nat.le_of_ble_eq_true rfl) hA (fun K hl C => ?_)
  subst hl
  change WW K G _ _ σ [(0, .ref (gA G 0 (0))), (1, .int (x))] 0 []
  refine ww_iload_n C dX5_count_0 rfl 1 rfl ?_
  refine ww_iconst (v := -1) C dX5_count_1 rfl ?_
  refine ww_icmp_ne 10 C dX5_count_2 (by decide) (fun h2 => ?_) (fun h2 => ?_)
  · refine ww_aload_n C dX5_count_10 rfl 0 rfl ?_
    refine ww_iload_n C dX5_count_11 rfl 1 rfl ?_
    refine ww_callqN (cx_V (n := 1) (As := [.int (x)]) C  (c_X5_shapeOf_n (kL K) G hA _ cnt hc hc8 x hu) gX5_count_X5_shapeOf rfl ⟨rfl, rfl⟩ (by decide +kernel) (by decide) rfl (by decide) rfl rfl rfl (Nat.le_of_ble_eq_true rfl) dX5_count_12) ?_
    refine ww_astore_nN [(2, .null), (0, .ref (gA G 0 (0))), (1, .int (x))] C dX5_count_15 rfl (by decide) rfl ?_
    refine ww_aload_nN C dX5_count_16 rfl 0 rfl ?_
    refine ww_ifnonnullN C dX5_count_17 ?_
    refine ww_bipush (v := -2) C dX5_count_20 (by decide) ?_
    refine ww_goto 32 C dX5_count_22 (by decide) ?_
    refine ww_iret C dX5_count_32 ?_
    exact ⟨rfl, rfl⟩
  · exact absurd h2 hm
set_option maxHeartbeats 4000000 in
set_option maxRecDepth 100000 in
theorem c_X5_area_s (l : Launch) (G : Gx) (hA : wa G) (σ : Sg) (cnt p n : Nat) (hc : σ 0 0 5 = nI cnt) (hc8 : cnt ≤ 8) (hpc : p < cnt) (hp : p < 8) (hs : σ 14 (p + 1) 2 = nI n) (hn : n ≤ 14) : CtI l yX5_area wsX5_area (rmd 2) G [.ref (gA G 0 (0)), .int (nI p)] σ (fun r σ2 => r = σ 17 p 2 ∧ σ2 = σ) := by
  refine ct_i (maxL := 3) (ret := (some .int)) (by decide) rfl (Nat.le_of_ble_eq_true rfl) hA (fun K hl C => ?_)
  subst hl
  change WW K G _ _ σ [(0, .ref (gA G 0 (0))), (1, .int (nI p))] 0 []
  refine ww_aload_n C dX5_area_0 rfl 0 rfl ?_
  refine ww_iload_n C dX5_area_1 rfl 1 rfl ?_
  refine ww_callqR (cx_V (n := 1) (As := [.int (nI p)]) C  (c_X5_shapeOf_s (kL K) G hA _ cnt p hc hc8 hpc) gX5_area_X5_shapeOf rfl ⟨rfl, rfl⟩ (by decide +kernel) (by decide) rfl (by decide) rfl rfl rfl (Nat.le_of_ble_eq_true rfl) dX5_area_2) ?_
  refine ww_astore_n [(2, .ref (gA G 17 (p))), (0, .ref (gA G 0 (0))), (1, .int (nI p))] C dX5_area_5 rfl (by decide) rfl ?_
  refine ww_aload_n C dX5_area_6 rfl 0 rfl ?_
  refine ww_ifnonnull 14 C dX5_area_7 (by decide) ?_
  refine ww_aload_n C dX5_area_14 rfl 0 rfl ?_
  refine ww_gi (k := 17) (f := 2) C rfl rfl hp rfl in_X5_area_X3 (by decide) lk_X5_area_107 dX5_area_15 ?_
  refine ww_iret C dX5_area_18 ?_
  exact ⟨rfl, rfl⟩
set_option maxHeartbeats 4000000 in
set_option maxRecDepth 100000 in
theorem c_X5_area_n (l : Launch) (G : Gx) (hA : wa G) (σ : Sg) (cnt : Nat) (hc : σ 0 0 5 = nI cnt) (hc8 : cnt ≤ 8) (x : Int32) (hu : ¬ (0 ≤ x ∧ x < nI cnt)) : CtI l yX5_area wsX5_area (rmd 2) G [.ref (gA G 0 (0)), .int (x)] σ (fun r σ2 => r = 0 ∧ σ2 = σ) := by
  refine ct_i (maxL := 3) (ret := (some .int)) (by decide) rfl (Nat.le_of_ble_eq_true rfl) hA (fun K hl C => ?_)
  subst hl
  change WW K G _ _ σ [(0, .ref (gA G 0 (0))), (1, .int (x))] 0 []
  refine ww_aload_n C dX5_area_0 rfl 0 rfl ?_
  refine ww_iload_n C dX5_area_1 rfl 1 rfl ?_
  refine ww_callqN (cx_V (n := 1) (As := [.int (x)]) C  (c_X5_shapeOf_n (kL K) G hA _ cnt hc hc8 x hu) gX5_area_X5_shapeOf rfl ⟨rfl, rfl⟩ (by decide +kernel) (by decide) rfl (by decide) rfl rfl rfl (Nat.le_of_ble_eq_true rfl) dX5_area_2) ?_
  refine ww_astore_nN [(2, .null), (0, .ref (gA G 0 (0))), (1, .int (x))] C dX5_area_5 rfl (by decide) rfl ?_
  refine ww_aload_nN C dX5_area_6 rfl 0 rfl ?_
  refine ww_ifnonnullN C dX5_area_7 ?_
  refine ww_iconst (v := 0) C dX5_area_10 rfl ?_
  refine ww_goto 18 C dX5_area_11 (by decide) ?_
  refine ww_iret C dX5_area_18 ?_
  exact ⟨rfl, rfl⟩
set_option maxHeartbeats 4000000 in
set_option maxRecDepth 100000 in
theorem c_X5_triangulations_s (l : Launch) (G : Gx) (hA : wa G) (σ : Sg) (cnt p n : Nat) (hc : σ 0 0 5 = nI cnt) (hc8 : cnt ≤ 8) (hpc : p < cnt) (hp : p < 8) (hs : σ 14 (p + 1) 2 = nI n) (hn : n ≤ 14) : CtI l yX5_triangulations wsX5_triangulations (rmd 2) G [.ref (gA G 0 (0)), .int (nI p)] σ (fun r σ2 => r = σ 17 p 3 ∧ σ2 = σ) := by
  refine ct_i (maxL := 3) (ret := (some .int)) (by decide) rfl (Nat.le_of_ble_eq_true rfl) hA (fun K hl C => ?_)
  subst hl
  change WW K G _ _ σ [(0, .ref (gA G 0 (0))), (1, .int (nI p))] 0 []
  refine ww_aload_n C dX5_triangulations_0 rfl 0 rfl ?_
  refine ww_iload_n C dX5_triangulations_1 rfl 1 rfl ?_
  refine ww_callqR (cx_V (n := 1) (As := [.int (nI p)]) C  (c_X5_shapeOf_s (kL K) G hA _ cnt p hc hc8 hpc) gX5_triangulations_X5_shapeOf rfl ⟨rfl, rfl⟩ (by decide +kernel) (by decide) rfl (by decide) rfl rfl rfl (Nat.le_of_ble_eq_true rfl) dX5_triangulations_2) ?_
  refine ww_astore_n [(2, .ref (gA G 17 (p))), (0, .ref (gA G 0 (0))), (1, .int (nI p))] C dX5_triangulations_5 rfl (by decide) rfl ?_
  refine ww_aload_n C dX5_triangulations_6 rfl 0 rfl ?_
  refine ww_ifnonnull 15 C dX5_triangulations_7 (by decide) ?_
  refine ww_aload_n C dX5_triangulations_15 rfl 0 rfl ?_
  refine ww_gi (k := 17) (f := 3) C rfl rfl hp rfl in_X5_triangulations_X3 (by decide) lk_X5_triangulations_150 dX5_triangulations_16 ?_
  refine ww_iret C dX5_triangulations_19 ?_
  exact ⟨rfl, rfl⟩
set_option maxHeartbeats 4000000 in
set_option maxRecDepth 100000 in
theorem c_X5_triangulations_n (l : Launch) (G : Gx) (hA : wa G) (σ : Sg) (cnt : Nat) (hc : σ 0 0 5 = nI cnt) (hc8 : cnt ≤ 8) (x : Int32) (hu : ¬ (0 ≤ x ∧ x < nI cnt)) : CtI l yX5_triangulations wsX5_triangulations (rmd 2) G [.ref (gA G 0 (0)), .int (x)] σ (fun r σ2 => r = -2 ∧ σ2 = σ) := by
  refine ct_i (maxL := 3) (ret := (some .int)) (by decide) rfl (Nat.le_of_ble_eq_true rfl) hA (fun K hl C => ?_)
  subst hl
  change WW K G _ _ σ [(0, .ref (gA G 0 (0))), (1, .int (x))] 0 []
  refine ww_aload_n C dX5_triangulations_0 rfl 0 rfl ?_
  refine ww_iload_n C dX5_triangulations_1 rfl 1 rfl ?_
  refine ww_callqN (cx_V (n := 1) (As := [.int (x)]) C  (c_X5_shapeOf_n (kL K) G hA _ cnt hc hc8 x hu) gX5_triangulations_X5_shapeOf rfl ⟨rfl, rfl⟩ (by decide +kernel) (by decide) rfl (by decide) rfl rfl rfl (Nat.le_of_ble_eq_true rfl) dX5_triangulations_2) ?_
  refine ww_astore_nN [(2, .null), (0, .ref (gA G 0 (0))), (1, .int (x))] C dX5_triangulations_5 rfl (by decide) rfl ?_
  refine ww_aload_nN C dX5_triangulations_6 rfl 0 rfl ?_
  refine ww_ifnonnullN C dX5_triangulations_7 ?_
  refine ww_bipush (v := -2) C dX5_triangulations_10 (by decide) ?_
  refine ww_goto 19 C dX5_triangulations_12 (by decide) ?_
  refine ww_iret C dX5_triangulations_19 ?_
  exact ⟨rfl, rfl⟩
set_option maxHeartbeats 4000000 in
set_option maxRecDepth 100000 in
theorem c_X5_best_s (l : Launch) (G : Gx) (hA : wa G) (σ : Sg) (cnt p n : Nat) (hc : σ 0 0 5 = nI cnt) (hc8 : cnt ≤ 8) (hpc : p < cnt) (hp : p < 8) (hs : σ 14 (p + 1) 2 = nI n) (hn : n ≤ 14) : CtI l yX5_best wsX5_best (rmd 2) G [.ref (gA G 0 (0)), .int (nI p)] σ (fun r σ2 => r = σ 17 p 4 ∧ σ2 = σ) := by
  refine ct_i (maxL := 3) (ret := (some .int)) (by decide) rfl (Nat.le_of_ble_eq_true rfl) hA (fun K hl C => ?_)
  subst hl
  change WW K G _ _ σ [(0, .ref (gA G 0 (0))), (1, .int (nI p))] 0 []
  refine ww_aload_n C dX5_best_0 rfl 0 rfl ?_
  refine ww_iload_n C dX5_best_1 rfl 1 rfl ?_
  refine ww_callqR (cx_V (n := 1) (As := [.int (nI p)]) C  (c_X5_shapeOf_s (kL K) G hA _ cnt p hc hc8 hpc) gX5_best_X5_shapeOf rfl ⟨rfl, rfl⟩ (by decide +kernel) (by decide) rfl (by decide) rfl rfl rfl (Nat.le_of_ble_eq_true rfl) dX5_best_2) ?_
  refine ww_astore_n [(2, .ref (gA G 17 (p))), (0, .ref (gA G 0 (0))), (1, .int (nI p))] C dX5_best_5 rfl (by decide) rfl ?_
  refine ww_aload_n C dX5_best_6 rfl 0 rfl ?_
  refine ww_ifnonnull 15 C dX5_best_7 (by decide) ?_
  refine ww_aload_n C dX5_best_15 rfl 0 rfl ?_
  refine ww_gi (k := 17) (f := 4) C rfl rfl hp rfl in_X5_best_X3 (by decide) lk_X5_best_153 dX5_best_16 ?_
  refine ww_iret C dX5_best_19 ?_
  exact ⟨rfl, rfl⟩
set_option maxHeartbeats 4000000 in
set_option maxRecDepth 100000 in
theorem c_X5_best_n (l : Launch) (G : Gx) (hA : wa G) (σ : Sg) (cnt : Nat) (hc : σ 0 0 5 = nI cnt) (hc8 : cnt ≤ 8) (x : Int32) (hu : ¬ (0 ≤ x ∧ x < nI cnt)) : CtI l yX5_best wsX5_best (rmd 2) G [.ref (gA G 0 (0)), .int (x)] σ (fun r σ2 => r = -2 ∧ σ2 = σ) := by
  refine ct_i (maxL := 3) (ret := (some .int)) (by decide) rfl (Nat.le_of_ble_eq_true rfl) hA (fun K hl C => ?_)
  subst hl
  change WW K G _ _ σ [(0, .ref (gA G 0 (0))), (1, .int (x))] 0 []
  refine ww_aload_n C dX5_best_0 rfl 0 rfl ?_
  refine ww_iload_n C dX5_best_1 rfl 1 rfl ?_
  refine ww_callqN (cx_V (n := 1) (As := [.int (x)]) C  (c_X5_shapeOf_n (kL K) G hA _ cnt hc hc8 x hu) gX5_best_X5_shapeOf rfl ⟨rfl, rfl⟩ (by decide +kernel) (by decide) rfl (by decide) rfl rfl rfl (Nat.le_of_ble_eq_true rfl) dX5_best_2) ?_
  refine ww_astore_nN [(2, .null), (0, .ref (gA G 0 (0))), (1, .int (x))] C dX5_best_5 rfl (by decide) rfl ?_
  refine ww_aload_nN C dX5_best_6 rfl 0 rfl ?_
  refine ww_ifnonnullN C dX5_best_7 ?_
  refine ww_bipush (v := -2) C dX5_best_10 (by decide) ?_
  refine ww_goto 19 C dX5_best_12 (by decide) ?_
  refine ww_iret C dX5_best_19 ?_
  exact ⟨rfl, rfl⟩
set_option maxHeartbeats 4000000 in
set_option maxRecDepth 100000 in
theorem c_X5_parts_s (l : Launch) (G : Gx) (hA : wa G) (σ : Sg) (cnt p n : Nat) (hc : σ 0 0 5 = nI cnt) (hc8 : cnt ≤ 8) (hpc : p < cnt) (hp : p < 8) (hs : σ 14 (p + 1) 2 = nI n) (hn : n ≤ 14) : CtI l yX5_parts wsX5_parts (rmd 2) G [.ref (gA G 0 (0)), .int (nI p)] σ (fun r σ2 => r = σ 17 p 5 ∧ σ2 = σ) := by
  refine ct_i (maxL := 3) (ret := (some .int)) (by decide) rfl (Nat.le_of_ble_eq_true rfl) hA (fun K hl C => ?_)
  subst hl
  change WW K G _ _ σ [(0, .ref (gA G 0 (0))), (1, .int (nI p))] 0 []
  refine ww_aload_n C dX5_parts_0 rfl 0 rfl ?_
  refine ww_iload_n C dX5_parts_1 rfl 1 rfl ?_
  refine ww_callqR (cx_V (n := 1) (As := [.int (nI p)]) C  (c_X5_shapeOf_s (kL K) G hA _ cnt p hc hc8 hpc) gX5_parts_X5_shapeOf rfl ⟨rfl, rfl⟩ (by decide +kernel) (by decide) rfl (by decide) rfl rfl rfl (Nat.le_of_ble_eq_true rfl) dX5_parts_2) ?_
  refine ww_astore_n [(2, .ref (gA G 17 (p))), (0, .ref (gA G 0 (0))), (1, .int (nI p))] C dX5_parts_5 rfl (by decide) rfl ?_
  refine ww_aload_n C dX5_parts_6 rfl 0 rfl ?_
  refine ww_ifnonnull 15 C dX5_parts_7 (by decide) ?_
  refine ww_aload_n C dX5_parts_15 rfl 0 rfl ?_
  refine ww_gi (k := 17) (f := 5) C rfl rfl hp rfl in_X5_parts_X3 (by decide) lk_X5_parts_180 dX5_parts_16 ?_
  refine ww_iret C dX5_parts_19 ?_
  exact ⟨rfl, rfl⟩
set_option maxHeartbeats 4000000 in
set_option maxRecDepth 100000 in
theorem c_X5_parts_n (l : Launch) (G : Gx) (hA : wa G) (σ : Sg) (cnt : Nat) (hc : σ 0 0 5 = nI cnt) (hc8 : cnt ≤ 8) (x : Int32) (hu : ¬ (0 ≤ x ∧ x < nI cnt)) : CtI l yX5_parts wsX5_parts (rmd 2) G [.ref (gA G 0 (0)), .int (x)] σ (fun r σ2 => r = -2 ∧ σ2 = σ) := by
  refine ct_i (maxL := 3) (ret := (some .int)) (by decide) rfl (Nat.le_of_ble_eq_true rfl) hA (fun K hl C => ?_)
  subst hl
  change WW K G _ _ σ [(0, .ref (gA G 0 (0))), (1, .int (x))] 0 []
  refine ww_aload_n C dX5_parts_0 rfl 0 rfl ?_
  refine ww_iload_n C dX5_parts_1 rfl 1 rfl ?_
  refine ww_callqN (cx_V (n := 1) (As := [.int (x)]) C  (c_X5_shapeOf_n (kL K) G hA _ cnt hc hc8 x hu) gX5_parts_X5_shapeOf rfl ⟨rfl, rfl⟩ (by decide +kernel) (by decide) rfl (by decide) rfl rfl rfl (Nat.le_of_ble_eq_true rfl) dX5_parts_2) ?_
  refine ww_astore_nN [(2, .null), (0, .ref (gA G 0 (0))), (1, .int (x))] C dX5_parts_5 rfl (by decide) rfl ?_
  refine ww_aload_nN C dX5_parts_6 rfl 0 rfl ?_
  refine ww_ifnonnullN C dX5_parts_7 ?_
  refine ww_bipush (v := -2) C dX5_parts_10 (by decide) ?_
  refine ww_goto 19 C dX5_parts_12 (by decide) ?_
  refine ww_iret C dX5_parts_19 ?_
  exact ⟨rfl, rfl⟩
def inR (v x y : Int32) : Int32 := if (-3000 ≤ x ∧ x ≤ 3000) ∧ (-3000 ≤ y ∧ y ≤ 3000) then v else -3
set_option maxHeartbeats 4000000 in
set_option maxRecDepth 100000 in
theorem c_X5_in_s (l : Launch) (G : Gx) (hA : wa G) (σ : Sg) (cnt p n : Nat) (hc : σ 0 0 5 = nI cnt) (hc8 : cnt ≤ 8) (hpc : p < cnt) (hp : p < 8) (hs : σ 14 (p + 1) 2 = nI n) (hn : n ≤ 14) (u v : Int32) : CtI l yX5_in wsX5_in (rmd 3) G [.ref (gA G 0 (0)), .int (nI p), .int (u), .int (v)] σ (fun r σ2 => r = inR (plcC n (σ 15 (p + 1)) (σ 16 (p + 1)) u v 1) u v ∧ σ2 = σ) := by
  refine ct_i (maxL := 5) (ret := (some .int)) (by decide) rfl (Nat.le_of_ble_eq_true rfl) hA (fun K hl C => ?_)
  subst hl
  change WW K G _ _ σ [(0, .ref (gA G 0 (0))), (1, .int (nI p)), (2, .int (u)), (3, .int (v))] 0 []
  refine ww_aload_n C dX5_in_0 rfl 0 rfl ?_
  refine ww_iload_n C dX5_in_1 rfl 1 rfl ?_
  refine ww_callqR (cx_V (n := 1) (As := [.int (nI p)]) C  (c_X5_shapeOf_s (kL K) G hA _ cnt p hc hc8 hpc) gX5_in_X5_shapeOf rfl ⟨rfl, rfl⟩ (by decide +kernel) (by decide) rfl (by decide) rfl rfl rfl (Nat.le_of_ble_eq_true rfl) dX5_in_2) ?_
  refine ww_astore [(4, .ref (gA G 17 (p))), (0, .ref (gA G 0 (0))), (1, .int (nI p)), (2, .int (u)), (3, .int (v))] C dX5_in_5 (by decide) rfl ?_
  refine ww_aload C dX5_in_7 0 rfl ?_
  refine ww_ifnonnull 15 C dX5_in_9 (by decide) ?_
  refine ww_iload_n C dX5_in_15 rfl 3 rfl ?_
  refine ww_sipush (v := 3000) C dX5_in_16 (by decide) ?_
  refine ww_calliF (cx_S (n := 2) (As := [.int (u), .int (3000)]) C  (c_X5_isWithin (kL K) G hA _ _ _) gX5_in_X5_isWithin rfl ⟨rfl, rfl⟩ (by decide +kernel) (by decide) rfl rfl (Nat.le_of_ble_eq_true rfl) dX5_in_19) ?_
  refine ww_if_eq 35 C dX5_in_22 (by decide) (fun h22 => ?_) (fun h22 => ?_)
  · refine ww_bipush (v := -3) C dX5_in_35 (by decide) ?_
    refine ww_iret C dX5_in_37 ?_
    exact ⟨by rw [inR, if_neg (fun q => of_decide_eq_false (bI_0.mp h22) q.1)], rfl⟩
  · refine ww_iload_n C dX5_in_25 rfl 4 rfl ?_
    refine ww_sipush (v := 3000) C dX5_in_26 (by decide) ?_
    refine ww_calliF (cx_S (n := 2) (As := [.int (v), .int (3000)]) C  (c_X5_isWithin (kL K) G hA _ _ _) gX5_in_X5_isWithin rfl ⟨rfl, rfl⟩ (by decide +kernel) (by decide) rfl rfl (Nat.le_of_ble_eq_true rfl) dX5_in_29) ?_
    refine ww_if_ne 38 C dX5_in_32 (by decide) (fun h32 => ?_) (fun h32 => ?_)
    · refine ww_aload C dX5_in_38 0 rfl ?_
      refine ww_iload_n C dX5_in_40 rfl 3 rfl ?_
      refine ww_iload_n C dX5_in_41 rfl 4 rfl ?_
      refine ww_iconst (v := 1) C dX5_in_42 rfl ?_
      refine ww_calliF (cx_V (n := 3) (As := [.int (u), .int (v), .int (1)]) C  (c_X3_placeOf (kL K) G hA _ p n hp hs hn _ _ _) gX5_in_X3_placeOf rfl ⟨rfl, rfl⟩ (by decide +kernel) (by decide) rfl hp rfl rfl rfl (Nat.le_of_ble_eq_true rfl) dX5_in_43) ?_
      refine ww_iret C dX5_in_46 ?_
      exact ⟨by rw [inR, if_pos ⟨of_decide_eq_true (bI_1.mp h22), of_decide_eq_true (bI_1.mp h32)⟩], rfl⟩
    · refine ww_bipush (v := -3) C dX5_in_35 (by decide) ?_
      refine ww_iret C dX5_in_37 ?_
      exact ⟨by rw [inR, if_neg (fun q => of_decide_eq_false (bI_0.mp h32) q.2)], rfl⟩
set_option maxHeartbeats 4000000 in
set_option maxRecDepth 100000 in
theorem c_X5_in_n (l : Launch) (G : Gx) (hA : wa G) (σ : Sg) (cnt : Nat) (hc : σ 0 0 5 = nI cnt) (hc8 : cnt ≤ 8) (x : Int32) (hu : ¬ (0 ≤ x ∧ x < nI cnt)) (u v : Int32) : CtI l yX5_in wsX5_in (rmd 3) G [.ref (gA G 0 (0)), .int (x), .int (u), .int (v)] σ (fun r σ2 => r = -2 ∧ σ2 = σ) := by
  refine ct_i (maxL := 5) (ret := (some .int)) (by decide) rfl (Nat.le_of_ble_eq_true rfl) hA (fun K hl C => ?_)
  subst hl
  change WW K G _ _ σ [(0, .ref (gA G 0 (0))), (1, .int (x)), (2, .int (u)), (3, .int (v))] 0 []
  refine ww_aload_n C dX5_in_0 rfl 0 rfl ?_
  refine ww_iload_n C dX5_in_1 rfl 1 rfl ?_
  refine ww_callqN (cx_V (n := 1) (As := [.int (x)]) C  (c_X5_shapeOf_n (kL K) G hA _ cnt hc hc8 x hu) gX5_in_X5_shapeOf rfl ⟨rfl, rfl⟩ (by decide +kernel) (by decide) rfl (by decide) rfl rfl rfl (Nat.le_of_ble_eq_true rfl) dX5_in_2) ?_
  refine ww_astoreN [(4, .null), (0, .ref (gA G 0 (0))), (1, .int (x)), (2, .int (u)), (3, .int (v))] C dX5_in_5 (by decide) rfl ?_
  refine ww_aloadN C dX5_in_7 0 rfl ?_
  refine ww_ifnonnullN C dX5_in_9 ?_
  refine ww_bipush (v := -2) C dX5_in_12 (by decide) ?_
  refine ww_iret C dX5_in_14 ?_
  exact ⟨rfl, rfl⟩
def ptsR (on ar w : Int32) : Int32 := if w = 0 then on else if w = 1 then ((if 0 ≤ ar then ar else 0 - ar) - on + 2) / 2 else -3
set_option maxHeartbeats 4000000 in
set_option maxRecDepth 100000 in
theorem c_X5_points_s (l : Launch) (G : Gx) (hA : wa G) (σ : Sg) (cnt p n : Nat) (hc : σ 0 0 5 = nI cnt) (hc8 : cnt ≤ 8) (hpc : p < cnt) (hp : p < 8) (hs : σ 14 (p + 1) 2 = nI n) (hn : n ≤ 14) (w : Int32) : CtI l yX5_points wsX5_points (rmd 4) G [.ref (gA G 0 (0)), .int (nI p), .int (w)] σ (fun r σ2 => r = ptsR (sumN (ptsF n (σ 15 (p + 1)) (σ 16 (p + 1))) n) (σ 17 p 2) w ∧ σ2 = σ) := by
  refine ct_i (maxL := 5) (ret := (some .int)) (by decide) rfl (Nat.le_of_ble_eq_true rfl) hA (fun K hl C => ?_)
  subst hl
  change WW K G _ _ σ [(0, .ref (gA G 0 (0))), (1, .int (nI p)), (2, .int (w))] 0 []
  refine ww_aload_n C dX5_points_0 rfl 0 rfl ?_
  refine ww_iload_n C dX5_points_1 rfl 1 rfl ?_
  refine ww_callqR (cx_V (n := 1) (As := [.int (nI p)]) C  (c_X5_shapeOf_s (kL K) G hA _ cnt p hc hc8 hpc) gX5_points_X5_shapeOf rfl ⟨rfl, rfl⟩ (by decide +kernel) (by decide) rfl (by decide) rfl rfl rfl (Nat.le_of_ble_eq_true rfl) dX5_points_2) ?_
  refine ww_astore_n [(3, .ref (gA G 17 (p))), (0, .ref (gA G 0 (0))), (1, .int (nI p)), (2, .int (w))] C dX5_points_5 rfl (by decide) rfl ?_
  refine ww_aload_n C dX5_points_6 rfl 0 rfl ?_
  refine ww_ifnonnull 13 C dX5_points_7 (by decide) ?_
  refine ww_iload_n C dX5_points_13 rfl 3 rfl ?_
  refine ww_calliF (cx_S (n := 1) (As := [.int (w)]) C  (c_X5_isZeroOrOne (kL K) G hA _ _) gX5_points_X5_isZeroOrOne rfl ⟨rfl, rfl⟩ (by decide +kernel) (by decide) rfl rfl (Nat.le_of_ble_eq_true rfl) dX5_points_14) ?_
  refine ww_if_ne 23 C dX5_points_17 (by decide) (fun h17 => ?_) (fun h17 => ?_)
  · have hz := of_decide_eq_true (bI_1.mp h17)
    refine ww_aload_n C dX5_points_23 rfl 0 rfl ?_
    refine ww_calliF (cx_V (n := 0) (As := []) C  (c_X3_pointsOnEdges (kL K) G hA _ p n hp hs hn) gX5_points_X3_pointsOnEdges rfl ⟨rfl, rfl⟩ (by decide +kernel) (by decide) rfl hp rfl rfl rfl (Nat.le_of_ble_eq_true rfl) dX5_points_24) ?_
    refine ww_istore (fun y1 => [(4, .int (y1)), (3, .ref (gA G 17 (p))), (0, .ref (gA G 0 (0))), (1, .int (nI p)), (2, .int (w))]) C dX5_points_27 (by decide) (fun _ => rfl) (fun y1 ey1 => ?_)
    rw [ey1]; clear ey1 y1
    refine ww_iload_n C dX5_points_29 rfl 4 rfl ?_
    refine ww_if_ne 38 C dX5_points_30 (by decide) (fun h30 => ?_) (fun h30 => ?_)
    · refine ww_aload_n C dX5_points_38 rfl 1 rfl ?_
      refine ww_gi (k := 17) (f := 2) C rfl rfl hp rfl in_X5_points_X3 (by decide) lk_X5_points_107 dX5_points_39 ?_
      refine ww_mabs C lw_X5_points_mabs124 lw_X5_points_mabss lw_X5_points_mi lw_X5_points_mabsc (by decide) (Nat.le_of_ble_eq_true rfl) dX5_points_42 ?_
      refine ww_iload C dX5_points_45 0 rfl ?_
      refine ww_isub C dX5_points_47 ?_
      refine ww_iconst (v := 2) C dX5_points_48 rfl ?_
      refine ww_iadd C dX5_points_49 ?_
      refine ww_iconst (v := 2) C dX5_points_50 rfl ?_
      refine ww_idiv C dX5_points_51 (by decide) ?_
      refine ww_iret C dX5_points_52 ?_
      exact ⟨by rw [ptsR, if_neg h30, if_pos (hz.resolve_left h30)], rfl⟩
    · refine ww_iload C dX5_points_33 0 rfl ?_
      refine ww_goto 52 C dX5_points_35 (by decide) ?_
      refine ww_iret C dX5_points_52 ?_
      exact ⟨by rw [ptsR, if_pos h30], rfl⟩
  · have hz := of_decide_eq_false (bI_0.mp h17)
    refine ww_bipush (v := -3) C dX5_points_20 (by decide) ?_
    refine ww_iret C dX5_points_22 ?_
    exact ⟨by rw [ptsR, if_neg (fun q => hz (Or.inl q)), if_neg (fun q => hz (Or.inr q))], rfl⟩
set_option maxHeartbeats 4000000 in
set_option maxRecDepth 100000 in
theorem c_X5_points_n (l : Launch) (G : Gx) (hA : wa G) (σ : Sg) (cnt : Nat) (hc : σ 0 0 5 = nI cnt) (hc8 : cnt ≤ 8) (x : Int32) (hu : ¬ (0 ≤ x ∧ x < nI cnt)) (w : Int32) : CtI l yX5_points wsX5_points (rmd 4) G [.ref (gA G 0 (0)), .int (x), .int (w)] σ (fun r σ2 => r = -2 ∧ σ2 = σ) := by
  refine ct_i (maxL := 5) (ret := (some .int)) (by decide) rfl (Nat.le_of_ble_eq_true rfl) hA (fun K hl C => ?_)
  subst hl
  change WW K G _ _ σ [(0, .ref (gA G 0 (0))), (1, .int (x)), (2, .int (w))] 0 []
  refine ww_aload_n C dX5_points_0 rfl 0 rfl ?_
  refine ww_iload_n C dX5_points_1 rfl 1 rfl ?_
  refine ww_callqN (cx_V (n := 1) (As := [.int (x)]) C  (c_X5_shapeOf_n (kL K) G hA _ cnt hc hc8 x hu) gX5_points_X5_shapeOf rfl ⟨rfl, rfl⟩ (by decide +kernel) (by decide) rfl (by decide) rfl rfl rfl (Nat.le_of_ble_eq_true rfl) dX5_points_2) ?_
  refine ww_astore_nN [(3, .null), (0, .ref (gA G 0 (0))), (1, .int (x)), (2, .int (w))] C dX5_points_5 rfl (by decide) rfl ?_
  refine ww_aload_nN C dX5_points_6 rfl 0 rfl ?_
  refine ww_ifnonnullN C dX5_points_7 ?_
  refine ww_bipush (v := -2) C dX5_points_10 (by decide) ?_
  refine ww_iret C dX5_points_12 ?_
  exact ⟨rfl, rfl⟩
end
section
theorem in_X5_at_X3 : ∀ w ∈ wsX30, w ∈ wsX5_at := by decide +kernel
theorem lk_X5_at_93 : Cond.fieldLink RX5 93 "PolyCuts$Shape" "corners" "LPolyCuts$Corners;" ∈ wsX5_at := by decide +kernel
theorem in_X5_sees_X3 : ∀ w ∈ wsX30, w ∈ wsX5_sees := by decide +kernel
theorem lk_X5_sees_93 : Cond.fieldLink RX5 93 "PolyCuts$Shape" "corners" "LPolyCuts$Corners;" ∈ wsX5_sees := by decide +kernel
theorem lk_X5_sees_134 : Cond.fieldLink RX5 134 "PolyCuts$Shape" "sight" "[[I" ∈ wsX5_sees := by decide +kernel
theorem lc_X5_centroid_36 : Jvm.Cond.constantLong RX5 114 3 ∈ wsX5_centroid := by decide +kernel
theorem in_X5_centroid_X3 : ∀ w ∈ wsX30, w ∈ wsX5_centroid := by decide +kernel
theorem lk_X5_centroid_107 : Cond.fieldLink RX5 107 "PolyCuts$Shape" "doubleArea" "I" ∈ wsX5_centroid := by decide +kernel
theorem in_X5_triangle_X3 : ∀ w ∈ wsX30, w ∈ wsX5_triangle := by decide +kernel
theorem lk_X5_triangle_165 : Cond.fieldLink RX5 165 "PolyCuts$Shape" "triangleTo" "[I" ∈ wsX5_triangle := by decide +kernel
theorem lk_X5_triangle_162 : Cond.fieldLink RX5 162 "PolyCuts$Shape" "triangleFrom" "[I" ∈ wsX5_triangle := by decide +kernel
theorem lk_X5_triangle_159 : Cond.fieldLink RX5 159 "PolyCuts$Shape" "triangleThird" "[I" ∈ wsX5_triangle := by decide +kernel
theorem in_X5_diagonal_X3 : ∀ w ∈ wsX30, w ∈ wsX5_diagonal := by decide +kernel
theorem lk_X5_diagonal_177 : Cond.fieldLink RX5 177 "PolyCuts$Shape" "diagonalGreater" "[I" ∈ wsX5_diagonal := by decide +kernel
theorem lk_X5_diagonal_174 : Cond.fieldLink RX5 174 "PolyCuts$Shape" "diagonalLesser" "[I" ∈ wsX5_diagonal := by decide +kernel
theorem lk_X5_diagonal_171 : Cond.fieldLink RX5 171 "PolyCuts$Shape" "diagonalStays" "[I" ∈ wsX5_diagonal := by decide +kernel
def cornR (n : Nat) (c : Int32) (v : Nat → Int32) : Int32 := if 0 ≤ c ∧ c < nI n then v c.toNatClampNeg else -2
theorem cornR_f {n : Nat} {c : Int32} {v : Nat → Int32} (h : bI (decide (0 ≤ c ∧ c < nI n)) = 0) : cornR n c v = -2 := if_neg (of_decide_eq_false (bI_0.mp h))
theorem cornR_t {n j : Nat} {v : Nat → Int32} (hj : j < n) (hn : n ≤ 14) : cornR n (nI j) v = v j := by
  rw [cornR, if_pos ⟨nI_pos' (by omega), nI_lt hj (by omega)⟩, nI_clamp (by omega)]
set_option maxHeartbeats 4000000 in
set_option maxRecDepth 100000 in
theorem c_X5_at_0 (l : Launch) (G : Gx) (hA : wa G) (σ : Sg) (cnt p n : Nat) (hc : σ 0 0 5 = nI cnt) (hc8 : cnt ≤ 8) (hpc : p < cnt) (hp : p < 8) (hs : σ 14 (p + 1) 2 = nI n) (hn : n ≤ 14) (c : Int32) : CtI l yX5_at wsX5_at (rmd 2) G [.ref (gA G 0 (0)), .int (nI p), .int (c), .int (0)] σ (fun r σ2 => r = cornR n c (σ 15 (p + 1)) ∧ σ2 = σ) := by
  refine ct_i (maxL := 5) (ret := (some .int)) (by decide) rfl (Nat.le_of_ble_eq_true rfl) hA (fun K hl C => ?_)
  subst hl
  change WW K G _ _ σ [(0, .ref (gA G 0 (0))), (1, .int (nI p)), (2, .int (c)), (3, .int (0))] 0 []
  refine ww_aload_n C dX5_at_0 rfl 0 rfl ?_
  refine ww_iload_n C dX5_at_1 rfl 1 rfl ?_
  refine ww_callqR (cx_V (n := 1) (As := [.int (nI p)]) C  (c_X5_shapeOf_s (kL K) G hA _ cnt p hc hc8 hpc) gX5_at_X5_shapeOf rfl ⟨rfl, rfl⟩ (by decide +kernel) (by decide) rfl (by decide) rfl rfl rfl (Nat.le_of_ble_eq_true rfl) dX5_at_2) ?_
  refine ww_astore [(4, .ref (gA G 17 (p))), (0, .ref (gA G 0 (0))), (1, .int (nI p)), (2, .int (c)), (3, .int (0))] C dX5_at_5 (by decide) rfl ?_
  refine ww_aload C dX5_at_7 0 rfl ?_
  refine ww_ifnull C dX5_at_9 ?_
  refine ww_aload C dX5_at_12 0 rfl ?_
  refine ww_gr (j := p + 1) (k := 17) (f := 0) C rfl rfl hp rfl in_X5_at_X3 (by decide) lk_X5_at_93 dX5_at_14 rfl ?_
  refine ww_iload_n C dX5_at_17 rfl 3 rfl ?_
  refine ww_calliF (cx_V (n := 1) (As := [.int (c)]) C  (c_X1_has (kL K) G hA _ (p + 1) n (Nat.add_lt_add_right hp 1) hs hn _) gX5_at_X1_has rfl ⟨rfl, rfl⟩ (by decide +kernel) (by decide) rfl (Nat.add_lt_add_right hp 1) rfl rfl rfl (Nat.le_of_ble_eq_true rfl) dX5_at_18) ?_
  refine ww_if_ne 27 C dX5_at_21 (by decide) (fun h21 => ?_) (fun h21 => ?_)
  · obtain ⟨j, hj, rfl⟩ := ix_of (of_decide_eq_true (bI_1.mp h21)) hn
    refine ww_iload_n C dX5_at_27 rfl 4 rfl ?_
    refine ww_calliF (cx_S (n := 1) (As := [.int (0)]) C  (c_X5_isZeroOrOne (kL K) G hA _ _) gX5_at_X5_isZeroOrOne rfl ⟨rfl, rfl⟩ (by decide +kernel) (by decide) rfl rfl (Nat.le_of_ble_eq_true rfl) dX5_at_28) ?_
    refine ww_if_ne 37 C dX5_at_31 (by decide) (fun h31 => ?_) (fun h31 => ?_)
    · refine ww_aload C dX5_at_37 0 rfl ?_
      refine ww_gr (j := p + 1) (k := 17) (f := 0) C rfl rfl hp rfl in_X5_at_X3 (by decide) lk_X5_at_93 dX5_at_39 rfl ?_
      refine ww_iload_n C dX5_at_42 rfl 4 rfl ?_
      refine ww_callqR (cx_V (n := 1) (As := [.int (0)]) C  (c_X1_along_0 (kL K) G hA _ _ (Nat.add_lt_add_right hp 1)) gX5_at_X1_along rfl ⟨rfl, rfl⟩ (by decide +kernel) (by decide) rfl (Nat.add_lt_add_right hp 1) rfl rfl rfl (Nat.le_of_ble_eq_true rfl) dX5_at_43) ?_
      refine ww_iload_n C dX5_at_46 rfl 3 rfl ?_
      refine ww_iald (k := 15) (j := j) C rfl (Nat.add_lt_add_right hp 1) (by decide) dX5_at_47 rfl (by omega) ?_
      refine ww_iret C dX5_at_48 ?_
      exact ⟨by rw [cornR_t hj hn], rfl⟩
    · exact absurd h31 (by decide)
  · refine ww_bipush (v := -2) C dX5_at_24 (by decide) ?_
    refine ww_iret C dX5_at_26 ?_
    exact ⟨by rw [cornR_f h21], rfl⟩
set_option maxHeartbeats 4000000 in
set_option maxRecDepth 100000 in
theorem c_X5_at_1 (l : Launch) (G : Gx) (hA : wa G) (σ : Sg) (cnt p n : Nat) (hc : σ 0 0 5 = nI cnt) (hc8 : cnt ≤ 8) (hpc : p < cnt) (hp : p < 8) (hs : σ 14 (p + 1) 2 = nI n) (hn : n ≤ 14) (c : Int32) : CtI l yX5_at wsX5_at (rmd 2) G [.ref (gA G 0 (0)), .int (nI p), .int (c), .int (1)] σ (fun r σ2 => r = cornR n c (σ 16 (p + 1)) ∧ σ2 = σ) := by
  refine ct_i (maxL := 5) (ret := (some .int)) (by decide) rfl (Nat.le_of_ble_eq_true rfl) hA (fun K hl C => ?_)
  subst hl
  change WW K G _ _ σ [(0, .ref (gA G 0 (0))), (1, .int (nI p)), (2, .int (c)), (3, .int (1))] 0 []
  refine ww_aload_n C dX5_at_0 rfl 0 rfl ?_
  refine ww_iload_n C dX5_at_1 rfl 1 rfl ?_
  refine ww_callqR (cx_V (n := 1) (As := [.int (nI p)]) C  (c_X5_shapeOf_s (kL K) G hA _ cnt p hc hc8 hpc) gX5_at_X5_shapeOf rfl ⟨rfl, rfl⟩ (by decide +kernel) (by decide) rfl (by decide) rfl rfl rfl (Nat.le_of_ble_eq_true rfl) dX5_at_2) ?_
  refine ww_astore [(4, .ref (gA G 17 (p))), (0, .ref (gA G 0 (0))), (1, .int (nI p)), (2, .int (c)), (3, .int (1))] C dX5_at_5 (by decide) rfl ?_
  refine ww_aload C dX5_at_7 0 rfl ?_
  refine ww_ifnull C dX5_at_9 ?_
  refine ww_aload C dX5_at_12 0 rfl ?_
  refine ww_gr (j := p + 1) (k := 17) (f := 0) C rfl rfl hp rfl in_X5_at_X3 (by decide) lk_X5_at_93 dX5_at_14 rfl ?_
  refine ww_iload_n C dX5_at_17 rfl 3 rfl ?_
  refine ww_calliF (cx_V (n := 1) (As := [.int (c)]) C  (c_X1_has (kL K) G hA _ (p + 1) n (Nat.add_lt_add_right hp 1) hs hn _) gX5_at_X1_has rfl ⟨rfl, rfl⟩ (by decide +kernel) (by decide) rfl (Nat.add_lt_add_right hp 1) rfl rfl rfl (Nat.le_of_ble_eq_true rfl) dX5_at_18) ?_
  refine ww_if_ne 27 C dX5_at_21 (by decide) (fun h21 => ?_) (fun h21 => ?_)
  · obtain ⟨j, hj, rfl⟩ := ix_of (of_decide_eq_true (bI_1.mp h21)) hn
    refine ww_iload_n C dX5_at_27 rfl 4 rfl ?_
    refine ww_calliF (cx_S (n := 1) (As := [.int (1)]) C  (c_X5_isZeroOrOne (kL K) G hA _ _) gX5_at_X5_isZeroOrOne rfl ⟨rfl, rfl⟩ (by decide +kernel) (by decide) rfl rfl (Nat.le_of_ble_eq_true rfl) dX5_at_28) ?_
    refine ww_if_ne 37 C dX5_at_31 (by decide) (fun h31 => ?_) (fun h31 => ?_)
    · refine ww_aload C dX5_at_37 0 rfl ?_
      refine ww_gr (j := p + 1) (k := 17) (f := 0) C rfl rfl hp rfl in_X5_at_X3 (by decide) lk_X5_at_93 dX5_at_39 rfl ?_
      refine ww_iload_n C dX5_at_42 rfl 4 rfl ?_
      refine ww_callqR (cx_V (n := 1) (As := [.int (1)]) C  (c_X1_along_1 (kL K) G hA _ _ (Nat.add_lt_add_right hp 1)) gX5_at_X1_along rfl ⟨rfl, rfl⟩ (by decide +kernel) (by decide) rfl (Nat.add_lt_add_right hp 1) rfl rfl rfl (Nat.le_of_ble_eq_true rfl) dX5_at_43) ?_
      refine ww_iload_n C dX5_at_46 rfl 3 rfl ?_
      refine ww_iald (k := 16) (j := j) C rfl (Nat.add_lt_add_right hp 1) (by decide) dX5_at_47 rfl (by omega) ?_
      refine ww_iret C dX5_at_48 ?_
      exact ⟨by rw [cornR_t hj hn], rfl⟩
    · exact absurd h31 (by decide)
  · refine ww_bipush (v := -2) C dX5_at_24 (by decide) ?_
    refine ww_iret C dX5_at_26 ?_
    exact ⟨by rw [cornR_f h21], rfl⟩
set_option maxHeartbeats 4000000 in
set_option maxRecDepth 100000 in
theorem c_X5_at_o (l : Launch) (G : Gx) (hA : wa G) (σ : Sg) (cnt p n : Nat) (hc : σ 0 0 5 = nI cnt) (hc8 : cnt ≤ 8) (hpc : p < cnt) (hp : p < 8) (hs : σ 14 (p + 1) 2 = nI n) (hn : n ≤ 14) (c w : Int32) (hw : ¬ (w = 0 ∨ w = 1)) : CtI l yX5_at wsX5_at (rmd 2) G [.ref (gA G 0 (0)), .int (nI p), .int (c), .int (w)] σ (fun r σ2 => r = cornR n c (fun _ => -3) ∧ σ2 = σ) := by
  refine ct_i (maxL := 5) (ret := (some .int)) (by decide) rfl (Nat.le_of_ble_eq_true rfl) hA (fun K hl C => ?_)
  subst hl
  change WW K G _ _ σ [(0, .ref (gA G 0 (0))), (1, .int (nI p)), (2, .int (c)), (3, .int (w))] 0 []
  refine ww_aload_n C dX5_at_0 rfl 0 rfl ?_
  refine ww_iload_n C dX5_at_1 rfl 1 rfl ?_
  refine ww_callqR (cx_V (n := 1) (As := [.int (nI p)]) C  (c_X5_shapeOf_s (kL K) G hA _ cnt p hc hc8 hpc) gX5_at_X5_shapeOf rfl ⟨rfl, rfl⟩ (by decide +kernel) (by decide) rfl (by decide) rfl rfl rfl (Nat.le_of_ble_eq_true rfl) dX5_at_2) ?_
  refine ww_astore [(4, .ref (gA G 17 (p))), (0, .ref (gA G 0 (0))), (1, .int (nI p)), (2, .int (c)), (3, .int (w))] C dX5_at_5 (by decide) rfl ?_
  refine ww_aload C dX5_at_7 0 rfl ?_
  refine ww_ifnull C dX5_at_9 ?_
  refine ww_aload C dX5_at_12 0 rfl ?_
  refine ww_gr (j := p + 1) (k := 17) (f := 0) C rfl rfl hp rfl in_X5_at_X3 (by decide) lk_X5_at_93 dX5_at_14 rfl ?_
  refine ww_iload_n C dX5_at_17 rfl 3 rfl ?_
  refine ww_calliF (cx_V (n := 1) (As := [.int (c)]) C  (c_X1_has (kL K) G hA _ (p + 1) n (Nat.add_lt_add_right hp 1) hs hn _) gX5_at_X1_has rfl ⟨rfl, rfl⟩ (by decide +kernel) (by decide) rfl (Nat.add_lt_add_right hp 1) rfl rfl rfl (Nat.le_of_ble_eq_true rfl) dX5_at_18) ?_
  refine ww_if_ne 27 C dX5_at_21 (by decide) (fun h21 => ?_) (fun h21 => ?_)
  · obtain ⟨j, hj, rfl⟩ := ix_of (of_decide_eq_true (bI_1.mp h21)) hn
    refine ww_iload_n C dX5_at_27 rfl 4 rfl ?_
    refine ww_calliF (cx_S (n := 1) (As := [.int (w)]) C  (c_X5_isZeroOrOne (kL K) G hA _ _) gX5_at_X5_isZeroOrOne rfl ⟨rfl, rfl⟩ (by decide +kernel) (by decide) rfl rfl (Nat.le_of_ble_eq_true rfl) dX5_at_28) ?_
    refine ww_if_ne 37 C dX5_at_31 (by decide) (fun h31 => ?_) (fun h31 => ?_)
    · exact absurd (of_decide_eq_true (bI_1.mp h31)) hw
    · refine ww_bipush (v := -3) C dX5_at_34 (by decide) ?_
      refine ww_iret C dX5_at_36 ?_
      exact ⟨by rw [cornR_t hj hn], rfl⟩
  · refine ww_bipush (v := -2) C dX5_at_24 (by decide) ?_
    refine ww_iret C dX5_at_26 ?_
    exact ⟨by rw [cornR_f h21], rfl⟩
set_option maxHeartbeats 4000000 in
set_option maxRecDepth 100000 in
theorem c_X5_at_n (l : Launch) (G : Gx) (hA : wa G) (σ : Sg) (cnt : Nat) (hc : σ 0 0 5 = nI cnt) (hc8 : cnt ≤ 8) (x : Int32) (hu : ¬ (0 ≤ x ∧ x < nI cnt)) (c w : Int32) : CtI l yX5_at wsX5_at (rmd 2) G [.ref (gA G 0 (0)), .int (x), .int (c), .int (w)] σ (fun r σ2 => r = -2 ∧ σ2 = σ) := by
  refine ct_i (maxL := 5) (ret := (some .int)) (by decide) rfl (Nat.le_of_ble_eq_true rfl) hA (fun K hl C => ?_)
  subst hl
  change WW K G _ _ σ [(0, .ref (gA G 0 (0))), (1, .int (x)), (2, .int (c)), (3, .int (w))] 0 []
  refine ww_aload_n C dX5_at_0 rfl 0 rfl ?_
  refine ww_iload_n C dX5_at_1 rfl 1 rfl ?_
  refine ww_callqN (cx_V (n := 1) (As := [.int (x)]) C  (c_X5_shapeOf_n (kL K) G hA _ cnt hc hc8 x hu) gX5_at_X5_shapeOf rfl ⟨rfl, rfl⟩ (by decide +kernel) (by decide) rfl (by decide) rfl rfl rfl (Nat.le_of_ble_eq_true rfl) dX5_at_2) ?_
  refine ww_astoreN [(4, .null), (0, .ref (gA G 0 (0))), (1, .int (x)), (2, .int (c)), (3, .int (w))] C dX5_at_5 (by decide) rfl ?_
  refine ww_aloadN C dX5_at_7 0 rfl ?_
  refine ww_ifnullN 24 C dX5_at_9 (by decide) ?_
  refine ww_bipush (v := -2) C dX5_at_24 (by decide) ?_
  refine ww_iret C dX5_at_26 ?_
  exact ⟨rfl, rfl⟩
def pairR (n : Nat) (c d : Int32) (v : Nat → Nat → Int32) : Int32 := cornR n c (fun a => cornR n d (v a))
theorem pair_f1 {n : Nat} {c d : Int32} {v : Nat → Nat → Int32} (h : bI (decide (0 ≤ c ∧ c < nI n)) = 0) : pairR n c d v = -2 := cornR_f h
theorem pair_f2 {n j : Nat} {d : Int32} {v : Nat → Nat → Int32} (hj : j < n) (hn : n ≤ 14) (h : bI (decide (0 ≤ d ∧ d < nI n)) = 0) : pairR n (nI j) d v = -2 := by rw [pairR, cornR_t hj hn, cornR_f h]
theorem pair_t {n i j : Nat} {v : Nat → Nat → Int32} (hi : i < n) (hj : j < n) (hn : n ≤ 14) : pairR n (nI i) (nI j) v = v i j := by rw [pairR, cornR_t hi hn, cornR_t hj hn]
def seesV (s : Nat → Nat → Int32) (a b : Nat) : Int32 := if a = b then -3 else s a b
set_option maxHeartbeats 4000000 in
set_option maxRecDepth 100000 in
theorem c_X5_sees_s (l : Launch) (G : Gx) (hA : wa G) (σ : Sg) (cnt p n : Nat) (hc : σ 0 0 5 = nI cnt) (hc8 : cnt ≤ 8) (hpc : p < cnt) (hp : p < 8) (hs : σ 14 (p + 1) 2 = nI n) (hn : n ≤ 14) (c d : Int32) : CtI l yX5_sees wsX5_sees (rmd 2) G [.ref (gA G 0 (0)), .int (nI p), .int (c), .int (d)] σ (fun r σ2 => r = pairR n c d (seesV (fun a b => σ 19 (14 * p + a) b)) ∧ σ2 = σ) := by
  refine ct_i (maxL := 5) (ret := (some .int)) (by decide) rfl (Nat.le_of_ble_eq_true rfl) hA (fun K hl C => ?_)
  subst hl
  change WW K G _ _ σ [(0, .ref (gA G 0 (0))), (1, .int (nI p)), (2, .int (c)), (3, .int (d))] 0 []
  refine ww_aload_n C dX5_sees_0 rfl 0 rfl ?_
  refine ww_iload_n C dX5_sees_1 rfl 1 rfl ?_
  refine ww_callqR (cx_V (n := 1) (As := [.int (nI p)]) C  (c_X5_shapeOf_s (kL K) G hA _ cnt p hc hc8 hpc) gX5_sees_X5_shapeOf rfl ⟨rfl, rfl⟩ (by decide +kernel) (by decide) rfl (by decide) rfl rfl rfl (Nat.le_of_ble_eq_true rfl) dX5_sees_2) ?_
  refine ww_astore [(4, .ref (gA G 17 (p))), (0, .ref (gA G 0 (0))), (1, .int (nI p)), (2, .int (c)), (3, .int (d))] C dX5_sees_5 (by decide) rfl ?_
  refine ww_aload C dX5_sees_7 0 rfl ?_
  refine ww_ifnull C dX5_sees_9 ?_
  refine ww_aload C dX5_sees_12 0 rfl ?_
  refine ww_gr (j := p + 1) (k := 17) (f := 0) C rfl rfl hp rfl in_X5_sees_X3 (by decide) lk_X5_sees_93 dX5_sees_14 rfl ?_
  refine ww_iload_n C dX5_sees_17 rfl 3 rfl ?_
  refine ww_calliF (cx_V (n := 1) (As := [.int (c)]) C  (c_X1_has (kL K) G hA _ (p + 1) n (Nat.add_lt_add_right hp 1) hs hn _) gX5_sees_X1_has rfl ⟨rfl, rfl⟩ (by decide +kernel) (by decide) rfl (Nat.add_lt_add_right hp 1) rfl rfl rfl (Nat.le_of_ble_eq_true rfl) dX5_sees_18) ?_
  refine ww_if_eq 36 C dX5_sees_21 (by decide) (fun h21 => ?_) (fun h21 => ?_)
  · refine ww_bipush (v := -2) C dX5_sees_36 (by decide) ?_
    refine ww_iret C dX5_sees_38 ?_
    exact ⟨by rw [pair_f1 h21], rfl⟩
  · obtain ⟨i, hi, rfl⟩ := ix_of (of_decide_eq_true (bI_1.mp h21)) hn
    refine ww_aload C dX5_sees_24 0 rfl ?_
    refine ww_gr (j := p + 1) (k := 17) (f := 0) C rfl rfl hp rfl in_X5_sees_X3 (by decide) lk_X5_sees_93 dX5_sees_26 rfl ?_
    refine ww_iload_n C dX5_sees_29 rfl 4 rfl ?_
    refine ww_calliF (cx_V (n := 1) (As := [.int (d)]) C  (c_X1_has (kL K) G hA _ (p + 1) n (Nat.add_lt_add_right hp 1) hs hn _) gX5_sees_X1_has rfl ⟨rfl, rfl⟩ (by decide +kernel) (by decide) rfl (Nat.add_lt_add_right hp 1) rfl rfl rfl (Nat.le_of_ble_eq_true rfl) dX5_sees_30) ?_
    refine ww_if_ne 39 C dX5_sees_33 (by decide) (fun h33 => ?_) (fun h33 => ?_)
    · obtain ⟨j, hj, rfl⟩ := ix_of (of_decide_eq_true (bI_1.mp h33)) hn
      refine ww_iload_n C dX5_sees_39 rfl 3 rfl ?_
      refine ww_iload_n C dX5_sees_40 rfl 4 rfl ?_
      refine ww_icmp_ne 49 C dX5_sees_41 (by decide) (fun h41 => ?_) (fun h41 => ?_)
      · have g41 : ¬ i = j := fun q => h41 ((cv_eq (a := i) (b := j) rfl rfl (by omega) (by omega)).mpr q)
        refine ww_aload C dX5_sees_49 0 rfl ?_
        refine ww_gr (j := p) (k := 17) (f := 1) C rfl rfl hp rfl in_X5_sees_X3 (by decide) lk_X5_sees_134 dX5_sees_51 rfl ?_
        refine ww_iload_n C dX5_sees_54 rfl 3 rfl ?_
        refine ww_aald (k := 18) (j := i) (j' := 14 * p + i) C rfl (by decide) hp (by decide) dX5_sees_55 rfl (by omega) rfl ?_
        refine ww_iload_n C dX5_sees_56 rfl 4 rfl ?_
        refine ww_iald (k := 19) (j := j) C rfl (dm19 hp (by omega)) (by decide) dX5_sees_57 rfl (by omega) ?_
        refine ww_iret C dX5_sees_58 ?_
        exact ⟨by rw [pair_t hi hj hn, seesV, if_neg g41], rfl⟩
      · have g41 : i = j := (cv_eq (a := i) (b := j) rfl rfl (by omega) (by omega)).mp h41
        refine ww_bipush (v := -3) C dX5_sees_44 (by decide) ?_
        refine ww_goto 58 C dX5_sees_46 (by decide) ?_
        refine ww_iret C dX5_sees_58 ?_
        exact ⟨by rw [pair_t hi hj hn, seesV, if_pos g41], rfl⟩
    · refine ww_bipush (v := -2) C dX5_sees_36 (by decide) ?_
      refine ww_iret C dX5_sees_38 ?_
      exact ⟨by rw [pair_f2 hi hn h33], rfl⟩
set_option maxHeartbeats 4000000 in
set_option maxRecDepth 100000 in
theorem c_X5_sees_n (l : Launch) (G : Gx) (hA : wa G) (σ : Sg) (cnt : Nat) (hc : σ 0 0 5 = nI cnt) (hc8 : cnt ≤ 8) (x : Int32) (hu : ¬ (0 ≤ x ∧ x < nI cnt)) (c d : Int32) : CtI l yX5_sees wsX5_sees (rmd 2) G [.ref (gA G 0 (0)), .int (x), .int (c), .int (d)] σ (fun r σ2 => r = -2 ∧ σ2 = σ) := by
  refine ct_i (maxL := 5) (ret := (some .int)) (by decide) rfl (Nat.le_of_ble_eq_true rfl) hA (fun K hl C => ?_)
  subst hl
  change WW K G _ _ σ [(0, .ref (gA G 0 (0))), (1, .int (x)), (2, .int (c)), (3, .int (d))] 0 []
  refine ww_aload_n C dX5_sees_0 rfl 0 rfl ?_
  refine ww_iload_n C dX5_sees_1 rfl 1 rfl ?_
  refine ww_callqN (cx_V (n := 1) (As := [.int (x)]) C  (c_X5_shapeOf_n (kL K) G hA _ cnt hc hc8 x hu) gX5_sees_X5_shapeOf rfl ⟨rfl, rfl⟩ (by decide +kernel) (by decide) rfl (by decide) rfl rfl rfl (Nat.le_of_ble_eq_true rfl) dX5_sees_2) ?_
  refine ww_astoreN [(4, .null), (0, .ref (gA G 0 (0))), (1, .int (x)), (2, .int (c)), (3, .int (d))] C dX5_sees_5 (by decide) rfl ?_
  refine ww_aloadN C dX5_sees_7 0 rfl ?_
  refine ww_ifnullN 36 C dX5_sees_9 (by decide) ?_
  refine ww_bipush (v := -2) C dX5_sees_36 (by decide) ?_
  refine ww_iret C dX5_sees_38 ?_
  exact ⟨rfl, rfl⟩
theorem neg_ne {a : Int64} (h : ¬ a = 0) : ¬ -a = 0 := fun q => by
  have h2 : - -a = -0 := congrArg (fun z => -z) q
  rw [Int64.neg_neg] at h2
  exact h (h2.trans (by decide))
def cenR (ab be : Int64) (w : Int32) : Int64 := if gcdC ab be = 0 then 0 else if w = 0 then ab / (if be < 0 then -gcdC ab be else gcdC ab be) else if w = 1 then be / (if be < 0 then -gcdC ab be else gcdC ab be) else 0
set_option maxHeartbeats 4000000 in
set_option maxRecDepth 100000 in
theorem c_X5_centroid_0 (l : Launch) (G : Gx) (hA : wa G) (σ : Sg) (cnt p n : Nat) (hc : σ 0 0 5 = nI cnt) (hc8 : cnt ≤ 8) (hpc : p < cnt) (hp : p < 8) (hs : σ 14 (p + 1) 2 = nI n) (hn : n ≤ 14) (w : Int32) : CtL l yX5_centroid wsX5_centroid (rmd 4) G [.ref (gA G 0 (0)), .int (nI p), .int (0), .int (w)] σ (fun r σ2 => r = (if w = 0 ∨ w = 1 then cenR (sumL (momF n (σ 15 (p + 1)) (σ 15 (p + 1)) (σ 16 (p + 1))) n) (3 * (σ 17 p 2).toInt64) w else 0) ∧ σ2 = σ) := by
  refine ct_l (maxL := 13) (ret := (some .long)) (by decide) rfl (Nat.le_of_ble_eq_true rfl) hA (fun K hl C => ?_)
  subst hl
  change WW K G _ _ σ [(0, .ref (gA G 0 (0))), (1, .int (nI p)), (2, .int (0)), (3, .int (w))] 0 []
  refine ww_aload_n C dX5_centroid_0 rfl 0 rfl ?_
  refine ww_iload_n C dX5_centroid_1 rfl 1 rfl ?_
  refine ww_callqR (cx_V (n := 1) (As := [.int (nI p)]) C  (c_X5_shapeOf_s (kL K) G hA _ cnt p hc hc8 hpc) gX5_centroid_X5_shapeOf rfl ⟨rfl, rfl⟩ (by decide +kernel) (by decide) rfl (by decide) rfl rfl rfl (Nat.le_of_ble_eq_true rfl) dX5_centroid_2) ?_
  refine ww_astore [(4, .ref (gA G 17 (p))), (0, .ref (gA G 0 (0))), (1, .int (nI p)), (2, .int (0)), (3, .int (w))] C dX5_centroid_5 (by decide) rfl ?_
  refine ww_aload C dX5_centroid_7 0 rfl ?_
  refine ww_ifnull C dX5_centroid_9 ?_
  refine ww_iload_n C dX5_centroid_12 rfl 3 rfl ?_
  refine ww_calliF (cx_S (n := 1) (As := [.int (0)]) C  (c_X5_isZeroOrOne (kL K) G hA _ _) gX5_centroid_X5_isZeroOrOne rfl ⟨rfl, rfl⟩ (by decide +kernel) (by decide) rfl rfl (Nat.le_of_ble_eq_true rfl) dX5_centroid_13) ?_
  refine ww_if_eq 26 C dX5_centroid_16 (by decide) (fun h16 => ?_) (fun h16 => ?_)
  · exact absurd h16 (by decide)
  · refine ww_iload_n C dX5_centroid_19 rfl 4 rfl ?_
    refine ww_calliF (cx_S (n := 1) (As := [.int (w)]) C  (c_X5_isZeroOrOne (kL K) G hA _ _) gX5_centroid_X5_isZeroOrOne rfl ⟨rfl, rfl⟩ (by decide +kernel) (by decide) rfl rfl (Nat.le_of_ble_eq_true rfl) dX5_centroid_20) ?_
    refine ww_if_ne 28 C dX5_centroid_23 (by decide) (fun h23 => ?_) (fun h23 => ?_)
    · have hz := of_decide_eq_true (bI_1.mp h23)
      refine ww_aload C dX5_centroid_28 0 rfl ?_
      refine ww_iload_n C dX5_centroid_30 rfl 3 rfl ?_
      refine ww_calllF (cx_V (n := 1) (As := [.int (0)]) C  (c_X3_centroidMoment_0 (kL K) G hA _ p n hp hs hn) gX5_centroid_X3_centroidMoment rfl ⟨rfl, rfl⟩ (by decide +kernel) (by decide) rfl hp rfl rfl rfl (Nat.le_of_ble_eq_true rfl) dX5_centroid_31) ?_
      refine ww_lstore (fun y1 => [(5, .long (y1)), (4, .ref (gA G 17 (p))), (0, .ref (gA G 0 (0))), (1, .int (nI p)), (2, .int (0)), (3, .int (w))]) C dX5_centroid_34 (by decide) (fun _ => rfl) (fun y1 ey1 => ?_)
      rw [ey1]; clear ey1 y1
      refine ww_ldc2 (v := 3) C lc_X5_centroid_36 dX5_centroid_36 ?_
      refine ww_aload C dX5_centroid_39 1 rfl ?_
      refine ww_gi (k := 17) (f := 2) C rfl rfl hp rfl in_X5_centroid_X3 (by decide) lk_X5_centroid_107 dX5_centroid_41 ?_
      refine ww_i2l C dX5_centroid_44 ?_
      refine ww_lmul C dX5_centroid_45 ?_
      refine ww_lstore (fun y2 => [(7, .long (y2)), (5, .long (sumL (momF n (σ 15 (p + 1)) (σ 15 (p + 1)) (σ 16 (p + 1))) n)), (4, .ref (gA G 17 (p))), (0, .ref (gA G 0 (0))), (1, .int (nI p)), (2, .int (0)), (3, .int (w))]) C dX5_centroid_46 (by decide) (fun _ => rfl) (fun y2 ey2 => ?_)
      rw [ey2]; clear ey2 y2
      refine ww_lload C dX5_centroid_48 1 rfl ?_
      refine ww_lload C dX5_centroid_50 0 rfl ?_
      refine ww_calllF (cx_S (n := 2) (As := [.long (sumL (momF n (σ 15 (p + 1)) (σ 15 (p + 1)) (σ 16 (p + 1))) n), .long ((3) * ((σ 17 (p) 2).toInt64))]) C  (c_X5_greatestDivisor (kL K) G hA _ _ _) gX5_centroid_X5_greatestDivisor rfl ⟨rfl, rfl⟩ (by decide +kernel) (by decide) rfl rfl (Nat.le_of_ble_eq_true rfl) dX5_centroid_52) ?_
      refine ww_lstore (fun y3 => [(9, .long (y3)), (7, .long ((3) * ((σ 17 (p) 2).toInt64))), (5, .long (sumL (momF n (σ 15 (p + 1)) (σ 15 (p + 1)) (σ 16 (p + 1))) n)), (4, .ref (gA G 17 (p))), (0, .ref (gA G 0 (0))), (1, .int (nI p)), (2, .int (0)), (3, .int (w))]) C dX5_centroid_55 (by decide) (fun _ => rfl) (fun y3 ey3 => ?_)
      rw [ey3]; clear ey3 y3
      refine ww_lload C dX5_centroid_57 0 rfl ?_
      refine ww_lconst (v := 0) C dX5_centroid_59 rfl ?_
      refine ww_lcmp C dX5_centroid_60 ?_
      refine ww_if_ne 66 C dX5_centroid_61 (by decide) (fun h61 => ?_) (fun h61 => ?_)
      · have hg0 : ¬ gcdC (sumL (momF n (σ 15 (p + 1)) (σ 15 (p + 1)) (σ 16 (p + 1))) n) (3 * (σ 17 p 2).toInt64) = 0 := fun q => h61 ((lg_cmp_eq _ _).mpr q)
        refine ww_lload C dX5_centroid_66 1 rfl ?_
        refine ww_lconst (v := 0) C dX5_centroid_68 rfl ?_
        refine ww_lcmp C dX5_centroid_69 ?_
        refine ww_if_ge 79 C dX5_centroid_70 (by decide) (fun h70 => ?_) (fun h70 => ?_)
        · refine ww_lload C dX5_centroid_79 0 rfl ?_
          refine ww_lstore (fun y4 => [(11, .long (y4)), (9, .long (gcdC (sumL (momF n (σ 15 (p + 1)) (σ 15 (p + 1)) (σ 16 (p + 1))) n) ((3) * ((σ 17 (p) 2).toInt64)))), (7, .long ((3) * ((σ 17 (p) 2).toInt64))), (5, .long (sumL (momF n (σ 15 (p + 1)) (σ 15 (p + 1)) (σ 16 (p + 1))) n)), (4, .ref (gA G 17 (p))), (0, .ref (gA G 0 (0))), (1, .int (nI p)), (2, .int (0)), (3, .int (w))]) C dX5_centroid_81 (by decide) (fun _ => rfl) (fun y4 ey4 => ?_)
          rw [ey4]; clear ey4 y4
          refine ww_iload_n C dX5_centroid_83 rfl 8 rfl ?_
          refine ww_if_ne 92 C dX5_centroid_84 (by decide) (fun h84 => ?_) (fun h84 => ?_)
          · refine ww_lload C dX5_centroid_92 2 rfl ?_
            refine ww_lload C dX5_centroid_94 0 rfl ?_
            refine ww_ldiv C dX5_centroid_96 (by first | exact hg0 | exact neg_ne hg0) ?_
            refine ww_lret C dX5_centroid_97 ?_
            exact ⟨by rw [if_pos hz, cenR, if_neg hg0, if_neg h84, if_pos (hz.resolve_left h84), if_neg (fun q => absurd ((lg_cmp_ge _ _).mp h70) (Int64.not_le.mpr q))], rfl⟩
          · refine ww_lload C dX5_centroid_87 3 rfl ?_
            refine ww_goto 94 C dX5_centroid_89 (by decide) ?_
            refine ww_lload C dX5_centroid_94 0 rfl ?_
            refine ww_ldiv C dX5_centroid_96 (by first | exact hg0 | exact neg_ne hg0) ?_
            refine ww_lret C dX5_centroid_97 ?_
            exact ⟨by rw [if_pos hz, cenR, if_neg hg0, if_pos h84, if_neg (fun q => absurd ((lg_cmp_ge _ _).mp h70) (Int64.not_le.mpr q))], rfl⟩
        · refine ww_lload C dX5_centroid_73 0 rfl ?_
          refine ww_lneg C dX5_centroid_75 ?_
          refine ww_goto 81 C dX5_centroid_76 (by decide) ?_
          refine ww_lstore (fun y5 => [(11, .long (y5)), (9, .long (gcdC (sumL (momF n (σ 15 (p + 1)) (σ 15 (p + 1)) (σ 16 (p + 1))) n) ((3) * ((σ 17 (p) 2).toInt64)))), (7, .long ((3) * ((σ 17 (p) 2).toInt64))), (5, .long (sumL (momF n (σ 15 (p + 1)) (σ 15 (p + 1)) (σ 16 (p + 1))) n)), (4, .ref (gA G 17 (p))), (0, .ref (gA G 0 (0))), (1, .int (nI p)), (2, .int (0)), (3, .int (w))]) C dX5_centroid_81 (by decide) (fun _ => rfl) (fun y5 ey5 => ?_)
          rw [ey5]; clear ey5 y5
          refine ww_iload_n C dX5_centroid_83 rfl 8 rfl ?_
          refine ww_if_ne 92 C dX5_centroid_84 (by decide) (fun h84 => ?_) (fun h84 => ?_)
          · refine ww_lload C dX5_centroid_92 2 rfl ?_
            refine ww_lload C dX5_centroid_94 0 rfl ?_
            refine ww_ldiv C dX5_centroid_96 (by first | exact hg0 | exact neg_ne hg0) ?_
            refine ww_lret C dX5_centroid_97 ?_
            exact ⟨by rw [if_pos hz, cenR, if_neg hg0, if_neg h84, if_pos (hz.resolve_left h84), if_pos (Int64.not_le.mp (fun q => h70 ((lg_cmp_ge _ _).mpr q)))], rfl⟩
          · refine ww_lload C dX5_centroid_87 3 rfl ?_
            refine ww_goto 94 C dX5_centroid_89 (by decide) ?_
            refine ww_lload C dX5_centroid_94 0 rfl ?_
            refine ww_ldiv C dX5_centroid_96 (by first | exact hg0 | exact neg_ne hg0) ?_
            refine ww_lret C dX5_centroid_97 ?_
            exact ⟨by rw [if_pos hz, cenR, if_neg hg0, if_pos h84, if_pos (Int64.not_le.mp (fun q => h70 ((lg_cmp_ge _ _).mpr q)))], rfl⟩
      · refine ww_lconst (v := 0) C dX5_centroid_64 rfl ?_
        refine ww_lret C dX5_centroid_65 ?_
        exact ⟨by rw [if_pos hz, cenR, if_pos ((lg_cmp_eq _ _).mp h61)], rfl⟩
    · refine ww_lconst (v := 0) C dX5_centroid_26 rfl ?_
      refine ww_lret C dX5_centroid_27 ?_
      exact ⟨by rw [if_neg (of_decide_eq_false (bI_0.mp h23))], rfl⟩
set_option maxHeartbeats 4000000 in
set_option maxRecDepth 100000 in
theorem c_X5_centroid_1 (l : Launch) (G : Gx) (hA : wa G) (σ : Sg) (cnt p n : Nat) (hc : σ 0 0 5 = nI cnt) (hc8 : cnt ≤ 8) (hpc : p < cnt) (hp : p < 8) (hs : σ 14 (p + 1) 2 = nI n) (hn : n ≤ 14) (w : Int32) : CtL l yX5_centroid wsX5_centroid (rmd 4) G [.ref (gA G 0 (0)), .int (nI p), .int (1), .int (w)] σ (fun r σ2 => r = (if w = 0 ∨ w = 1 then cenR (sumL (momF n (σ 16 (p + 1)) (σ 15 (p + 1)) (σ 16 (p + 1))) n) (3 * (σ 17 p 2).toInt64) w else 0) ∧ σ2 = σ) := by
  refine ct_l (maxL := 13) (ret := (some .long)) (by decide) rfl (Nat.le_of_ble_eq_true rfl) hA (fun K hl C => ?_)
  subst hl
  change WW K G _ _ σ [(0, .ref (gA G 0 (0))), (1, .int (nI p)), (2, .int (1)), (3, .int (w))] 0 []
  refine ww_aload_n C dX5_centroid_0 rfl 0 rfl ?_
  refine ww_iload_n C dX5_centroid_1 rfl 1 rfl ?_
  refine ww_callqR (cx_V (n := 1) (As := [.int (nI p)]) C  (c_X5_shapeOf_s (kL K) G hA _ cnt p hc hc8 hpc) gX5_centroid_X5_shapeOf rfl ⟨rfl, rfl⟩ (by decide +kernel) (by decide) rfl (by decide) rfl rfl rfl (Nat.le_of_ble_eq_true rfl) dX5_centroid_2) ?_
  refine ww_astore [(4, .ref (gA G 17 (p))), (0, .ref (gA G 0 (0))), (1, .int (nI p)), (2, .int (1)), (3, .int (w))] C dX5_centroid_5 (by decide) rfl ?_
  refine ww_aload C dX5_centroid_7 0 rfl ?_
  refine ww_ifnull C dX5_centroid_9 ?_
  refine ww_iload_n C dX5_centroid_12 rfl 3 rfl ?_
  refine ww_calliF (cx_S (n := 1) (As := [.int (1)]) C  (c_X5_isZeroOrOne (kL K) G hA _ _) gX5_centroid_X5_isZeroOrOne rfl ⟨rfl, rfl⟩ (by decide +kernel) (by decide) rfl rfl (Nat.le_of_ble_eq_true rfl) dX5_centroid_13) ?_
  refine ww_if_eq 26 C dX5_centroid_16 (by decide) (fun h16 => ?_) (fun h16 => ?_)
  · exact absurd h16 (by decide)
  · refine ww_iload_n C dX5_centroid_19 rfl 4 rfl ?_
    refine ww_calliF (cx_S (n := 1) (As := [.int (w)]) C  (c_X5_isZeroOrOne (kL K) G hA _ _) gX5_centroid_X5_isZeroOrOne rfl ⟨rfl, rfl⟩ (by decide +kernel) (by decide) rfl rfl (Nat.le_of_ble_eq_true rfl) dX5_centroid_20) ?_
    refine ww_if_ne 28 C dX5_centroid_23 (by decide) (fun h23 => ?_) (fun h23 => ?_)
    · have hz := of_decide_eq_true (bI_1.mp h23)
      refine ww_aload C dX5_centroid_28 0 rfl ?_
      refine ww_iload_n C dX5_centroid_30 rfl 3 rfl ?_
      refine ww_calllF (cx_V (n := 1) (As := [.int (1)]) C  (c_X3_centroidMoment_1 (kL K) G hA _ p n hp hs hn) gX5_centroid_X3_centroidMoment rfl ⟨rfl, rfl⟩ (by decide +kernel) (by decide) rfl hp rfl rfl rfl (Nat.le_of_ble_eq_true rfl) dX5_centroid_31) ?_
      refine ww_lstore (fun y1 => [(5, .long (y1)), (4, .ref (gA G 17 (p))), (0, .ref (gA G 0 (0))), (1, .int (nI p)), (2, .int (1)), (3, .int (w))]) C dX5_centroid_34 (by decide) (fun _ => rfl) (fun y1 ey1 => ?_)
      rw [ey1]; clear ey1 y1
      refine ww_ldc2 (v := 3) C lc_X5_centroid_36 dX5_centroid_36 ?_
      refine ww_aload C dX5_centroid_39 1 rfl ?_
      refine ww_gi (k := 17) (f := 2) C rfl rfl hp rfl in_X5_centroid_X3 (by decide) lk_X5_centroid_107 dX5_centroid_41 ?_
      refine ww_i2l C dX5_centroid_44 ?_
      refine ww_lmul C dX5_centroid_45 ?_
      refine ww_lstore (fun y2 => [(7, .long (y2)), (5, .long (sumL (momF n (σ 16 (p + 1)) (σ 15 (p + 1)) (σ 16 (p + 1))) n)), (4, .ref (gA G 17 (p))), (0, .ref (gA G 0 (0))), (1, .int (nI p)), (2, .int (1)), (3, .int (w))]) C dX5_centroid_46 (by decide) (fun _ => rfl) (fun y2 ey2 => ?_)
      rw [ey2]; clear ey2 y2
      refine ww_lload C dX5_centroid_48 1 rfl ?_
      refine ww_lload C dX5_centroid_50 0 rfl ?_
      refine ww_calllF (cx_S (n := 2) (As := [.long (sumL (momF n (σ 16 (p + 1)) (σ 15 (p + 1)) (σ 16 (p + 1))) n), .long ((3) * ((σ 17 (p) 2).toInt64))]) C  (c_X5_greatestDivisor (kL K) G hA _ _ _) gX5_centroid_X5_greatestDivisor rfl ⟨rfl, rfl⟩ (by decide +kernel) (by decide) rfl rfl (Nat.le_of_ble_eq_true rfl) dX5_centroid_52) ?_
      refine ww_lstore (fun y3 => [(9, .long (y3)), (7, .long ((3) * ((σ 17 (p) 2).toInt64))), (5, .long (sumL (momF n (σ 16 (p + 1)) (σ 15 (p + 1)) (σ 16 (p + 1))) n)), (4, .ref (gA G 17 (p))), (0, .ref (gA G 0 (0))), (1, .int (nI p)), (2, .int (1)), (3, .int (w))]) C dX5_centroid_55 (by decide) (fun _ => rfl) (fun y3 ey3 => ?_)
      rw [ey3]; clear ey3 y3
      refine ww_lload C dX5_centroid_57 0 rfl ?_
      refine ww_lconst (v := 0) C dX5_centroid_59 rfl ?_
      refine ww_lcmp C dX5_centroid_60 ?_
      refine ww_if_ne 66 C dX5_centroid_61 (by decide) (fun h61 => ?_) (fun h61 => ?_)
      · have hg0 : ¬ gcdC (sumL (momF n (σ 16 (p + 1)) (σ 15 (p + 1)) (σ 16 (p + 1))) n) (3 * (σ 17 p 2).toInt64) = 0 := fun q => h61 ((lg_cmp_eq _ _).mpr q)
        refine ww_lload C dX5_centroid_66 1 rfl ?_
        refine ww_lconst (v := 0) C dX5_centroid_68 rfl ?_
        refine ww_lcmp C dX5_centroid_69 ?_
        refine ww_if_ge 79 C dX5_centroid_70 (by decide) (fun h70 => ?_) (fun h70 => ?_)
        · refine ww_lload C dX5_centroid_79 0 rfl ?_
          refine ww_lstore (fun y4 => [(11, .long (y4)), (9, .long (gcdC (sumL (momF n (σ 16 (p + 1)) (σ 15 (p + 1)) (σ 16 (p + 1))) n) ((3) * ((σ 17 (p) 2).toInt64)))), (7, .long ((3) * ((σ 17 (p) 2).toInt64))), (5, .long (sumL (momF n (σ 16 (p + 1)) (σ 15 (p + 1)) (σ 16 (p + 1))) n)), (4, .ref (gA G 17 (p))), (0, .ref (gA G 0 (0))), (1, .int (nI p)), (2, .int (1)), (3, .int (w))]) C dX5_centroid_81 (by decide) (fun _ => rfl) (fun y4 ey4 => ?_)
          rw [ey4]; clear ey4 y4
          refine ww_iload_n C dX5_centroid_83 rfl 8 rfl ?_
          refine ww_if_ne 92 C dX5_centroid_84 (by decide) (fun h84 => ?_) (fun h84 => ?_)
          · refine ww_lload C dX5_centroid_92 2 rfl ?_
            refine ww_lload C dX5_centroid_94 0 rfl ?_
            refine ww_ldiv C dX5_centroid_96 (by first | exact hg0 | exact neg_ne hg0) ?_
            refine ww_lret C dX5_centroid_97 ?_
            exact ⟨by rw [if_pos hz, cenR, if_neg hg0, if_neg h84, if_pos (hz.resolve_left h84), if_neg (fun q => absurd ((lg_cmp_ge _ _).mp h70) (Int64.not_le.mpr q))], rfl⟩
          · refine ww_lload C dX5_centroid_87 3 rfl ?_
            refine ww_goto 94 C dX5_centroid_89 (by decide) ?_
            refine ww_lload C dX5_centroid_94 0 rfl ?_
            refine ww_ldiv C dX5_centroid_96 (by first | exact hg0 | exact neg_ne hg0) ?_
            refine ww_lret C dX5_centroid_97 ?_
            exact ⟨by rw [if_pos hz, cenR, if_neg hg0, if_pos h84, if_neg (fun q => absurd ((lg_cmp_ge _ _).mp h70) (Int64.not_le.mpr q))], rfl⟩
        · refine ww_lload C dX5_centroid_73 0 rfl ?_
          refine ww_lneg C dX5_centroid_75 ?_
          refine ww_goto 81 C dX5_centroid_76 (by decide) ?_
          refine ww_lstore (fun y5 => [(11, .long (y5)), (9, .long (gcdC (sumL (momF n (σ 16 (p + 1)) (σ 15 (p + 1)) (σ 16 (p + 1))) n) ((3) * ((σ 17 (p) 2).toInt64)))), (7, .long ((3) * ((σ 17 (p) 2).toInt64))), (5, .long (sumL (momF n (σ 16 (p + 1)) (σ 15 (p + 1)) (σ 16 (p + 1))) n)), (4, .ref (gA G 17 (p))), (0, .ref (gA G 0 (0))), (1, .int (nI p)), (2, .int (1)), (3, .int (w))]) C dX5_centroid_81 (by decide) (fun _ => rfl) (fun y5 ey5 => ?_)
          rw [ey5]; clear ey5 y5
          refine ww_iload_n C dX5_centroid_83 rfl 8 rfl ?_
          refine ww_if_ne 92 C dX5_centroid_84 (by decide) (fun h84 => ?_) (fun h84 => ?_)
          · refine ww_lload C dX5_centroid_92 2 rfl ?_
            refine ww_lload C dX5_centroid_94 0 rfl ?_
            refine ww_ldiv C dX5_centroid_96 (by first | exact hg0 | exact neg_ne hg0) ?_
            refine ww_lret C dX5_centroid_97 ?_
            exact ⟨by rw [if_pos hz, cenR, if_neg hg0, if_neg h84, if_pos (hz.resolve_left h84), if_pos (Int64.not_le.mp (fun q => h70 ((lg_cmp_ge _ _).mpr q)))], rfl⟩
          · refine ww_lload C dX5_centroid_87 3 rfl ?_
            refine ww_goto 94 C dX5_centroid_89 (by decide) ?_
            refine ww_lload C dX5_centroid_94 0 rfl ?_
            refine ww_ldiv C dX5_centroid_96 (by first | exact hg0 | exact neg_ne hg0) ?_
            refine ww_lret C dX5_centroid_97 ?_
            exact ⟨by rw [if_pos hz, cenR, if_neg hg0, if_pos h84, if_pos (Int64.not_le.mp (fun q => h70 ((lg_cmp_ge _ _).mpr q)))], rfl⟩
      · refine ww_lconst (v := 0) C dX5_centroid_64 rfl ?_
        refine ww_lret C dX5_centroid_65 ?_
        exact ⟨by rw [if_pos hz, cenR, if_pos ((lg_cmp_eq _ _).mp h61)], rfl⟩
    · refine ww_lconst (v := 0) C dX5_centroid_26 rfl ?_
      refine ww_lret C dX5_centroid_27 ?_
      exact ⟨by rw [if_neg (of_decide_eq_false (bI_0.mp h23))], rfl⟩
set_option maxHeartbeats 4000000 in
set_option maxRecDepth 100000 in
theorem c_X5_centroid_o (l : Launch) (G : Gx) (hA : wa G) (σ : Sg) (cnt p n : Nat) (hc : σ 0 0 5 = nI cnt) (hc8 : cnt ≤ 8) (hpc : p < cnt) (hp : p < 8) (hs : σ 14 (p + 1) 2 = nI n) (hn : n ≤ 14) (u w : Int32) (hu : ¬ (u = 0 ∨ u = 1)) : CtL l yX5_centroid wsX5_centroid (rmd 4) G [.ref (gA G 0 (0)), .int (nI p), .int (u), .int (w)] σ (fun r σ2 => r = 0 ∧ σ2 = σ) := by
  refine ct_l (maxL := 13) (ret := (some .long)) (by decide) rfl (Nat.le_of_ble_eq_true rfl) hA (fun K hl C => ?_)
  subst hl
  change WW K G _ _ σ [(0, .ref (gA G 0 (0))), (1, .int (nI p)), (2, .int (u)), (3, .int (w))] 0 []
  refine ww_aload_n C dX5_centroid_0 rfl 0 rfl ?_
  refine ww_iload_n C dX5_centroid_1 rfl 1 rfl ?_
  refine ww_callqR (cx_V (n := 1) (As := [.int (nI p)]) C  (c_X5_shapeOf_s (kL K) G hA _ cnt p hc hc8 hpc) gX5_centroid_X5_shapeOf rfl ⟨rfl, rfl⟩ (by decide +kernel) (by decide) rfl (by decide) rfl rfl rfl (Nat.le_of_ble_eq_true rfl) dX5_centroid_2) ?_
  refine ww_astore [(4, .ref (gA G 17 (p))), (0, .ref (gA G 0 (0))), (1, .int (nI p)), (2, .int (u)), (3, .int (w))] C dX5_centroid_5 (by decide) rfl ?_
  refine ww_aload C dX5_centroid_7 0 rfl ?_
  refine ww_ifnull C dX5_centroid_9 ?_
  refine ww_iload_n C dX5_centroid_12 rfl 3 rfl ?_
  refine ww_calliF (cx_S (n := 1) (As := [.int (u)]) C  (c_X5_isZeroOrOne (kL K) G hA _ _) gX5_centroid_X5_isZeroOrOne rfl ⟨rfl, rfl⟩ (by decide +kernel) (by decide) rfl rfl (Nat.le_of_ble_eq_true rfl) dX5_centroid_13) ?_
  refine ww_if_eq 26 C dX5_centroid_16 (by decide) (fun h16 => ?_) (fun h16 => ?_)
  · refine ww_lconst (v := 0) C dX5_centroid_26 rfl ?_
    refine ww_lret C dX5_centroid_27 ?_
    exact ⟨rfl, rfl⟩
  · exact absurd (of_decide_eq_true (bI_1.mp h16)) hu
set_option maxHeartbeats 4000000 in
set_option maxRecDepth 100000 in
theorem c_X5_centroid_n (l : Launch) (G : Gx) (hA : wa G) (σ : Sg) (cnt : Nat) (hc : σ 0 0 5 = nI cnt) (hc8 : cnt ≤ 8) (x : Int32) (hu : ¬ (0 ≤ x ∧ x < nI cnt)) (u w : Int32) : CtL l yX5_centroid wsX5_centroid (rmd 4) G [.ref (gA G 0 (0)), .int (x), .int (u), .int (w)] σ (fun r σ2 => r = 0 ∧ σ2 = σ) := by
  refine ct_l (maxL := 13) (ret := (some .long)) (by decide) rfl (Nat.le_of_ble_eq_true rfl) hA (fun K hl C => ?_)
  subst hl
  change WW K G _ _ σ [(0, .ref (gA G 0 (0))), (1, .int (x)), (2, .int (u)), (3, .int (w))] 0 []
  refine ww_aload_n C dX5_centroid_0 rfl 0 rfl ?_
  refine ww_iload_n C dX5_centroid_1 rfl 1 rfl ?_
  refine ww_callqN (cx_V (n := 1) (As := [.int (x)]) C  (c_X5_shapeOf_n (kL K) G hA _ cnt hc hc8 x hu) gX5_centroid_X5_shapeOf rfl ⟨rfl, rfl⟩ (by decide +kernel) (by decide) rfl (by decide) rfl rfl rfl (Nat.le_of_ble_eq_true rfl) dX5_centroid_2) ?_
  refine ww_astoreN [(4, .null), (0, .ref (gA G 0 (0))), (1, .int (x)), (2, .int (u)), (3, .int (w))] C dX5_centroid_5 (by decide) rfl ?_
  refine ww_aloadN C dX5_centroid_7 0 rfl ?_
  refine ww_ifnullN 26 C dX5_centroid_9 (by decide) ?_
  refine ww_lconst (v := 0) C dX5_centroid_26 rfl ?_
  refine ww_lret C dX5_centroid_27 ?_
  exact ⟨rfl, rfl⟩
def lstR (m : Nat) (t w : Int32) (a b c : Nat → Int32) : Int32 := if 0 ≤ w ∧ w ≤ 2 then (if 0 ≤ t ∧ t < nI m then (if w = 0 then a t.toNatClampNeg else if w = 1 then b t.toNatClampNeg else c t.toNatClampNeg) else -1) else -3
theorem lst_o {m : Nat} {t w : Int32} {a b c : Nat → Int32} (h : ¬ (0 ≤ w ∧ w ≤ 2)) : lstR m t w a b c = -3 := if_neg h
theorem lst_n {m : Nat} {t w : Int32} {a b c : Nat → Int32} (h : 0 ≤ w ∧ w ≤ 2) (ht : ¬ (0 ≤ t ∧ t < nI m)) : lstR m t w a b c = -1 := by rw [lstR, if_pos h, if_neg ht]
theorem lst_t {m j : Nat} {w : Int32} {a b c : Nat → Int32} (h : 0 ≤ w ∧ w ≤ 2) (hj : j < m) (hm : m < 2 ^ 31) : lstR m (nI j) w a b c = if w = 0 then a j else if w = 1 then b j else c j := by
  rw [lstR, if_pos h, if_pos ⟨nI_pos' (by omega), nI_lt hj hm⟩, nI_clamp (by omega)]
theorem w_2 {w : Int32} (h : 0 ≤ w ∧ w ≤ 2) (h0 : ¬ w = 0) (h1 : ¬ w = 1) : w = 2 := by
  obtain ⟨j, hj, e⟩ := nI_of2 (x := w) (M := 2) (n := 2) (by decide) (Int32.not_lt.mpr h.1) h.2
  subst e
  have h3 : ¬ j = 0 := fun q => h0 (by rw [q]; decide)
  have h4 : ¬ j = 1 := fun q => h1 (by rw [q]; decide)
  have h5 : j = 2 := by omega
  rw [h5]; decide
set_option maxHeartbeats 4000000 in
set_option maxRecDepth 100000 in
theorem c_X5_triangle_s (l : Launch) (G : Gx) (hA : wa G) (σ : Sg) (cnt p n : Nat) (hc : σ 0 0 5 = nI cnt) (hc8 : cnt ≤ 8) (hpc : p < cnt) (hp : p < 8) (hs : σ 14 (p + 1) 2 = nI n) (hn : n ≤ 14) (h3 : 3 ≤ n) (t w : Int32) : CtI l yX5_triangle wsX5_triangle (rmd 2) G [.ref (gA G 0 (0)), .int (nI p), .int (t), .int (w)] σ (fun r σ2 => r = lstR (n - 2) t w (σ 20 p) (σ 21 p) (σ 22 p) ∧ σ2 = σ) := by
  refine ct_i (maxL := 5) (ret := (some .int)) (by decide) rfl (Nat.le_of_ble_eq_true rfl) hA (fun K hl C => ?_)
  subst hl
  change WW K G _ _ σ [(0, .ref (gA G 0 (0))), (1, .int (nI p)), (2, .int (t)), (3, .int (w))] 0 []
  refine ww_aload_n C dX5_triangle_0 rfl 0 rfl ?_
  refine ww_iload_n C dX5_triangle_1 rfl 1 rfl ?_
  refine ww_callqR (cx_V (n := 1) (As := [.int (nI p)]) C  (c_X5_shapeOf_s (kL K) G hA _ cnt p hc hc8 hpc) gX5_triangle_X5_shapeOf rfl ⟨rfl, rfl⟩ (by decide +kernel) (by decide) rfl (by decide) rfl rfl rfl (Nat.le_of_ble_eq_true rfl) dX5_triangle_2) ?_
  refine ww_astore [(4, .ref (gA G 17 (p))), (0, .ref (gA G 0 (0))), (1, .int (nI p)), (2, .int (t)), (3, .int (w))] C dX5_triangle_5 (by decide) rfl ?_
  refine ww_aload C dX5_triangle_7 0 rfl ?_
  refine ww_ifnonnull 15 C dX5_triangle_9 (by decide) ?_
  refine ww_iload_n C dX5_triangle_15 rfl 4 rfl ?_
  refine ww_if_lt 24 C dX5_triangle_16 (by decide) (fun h16 => ?_) (fun h16 => ?_)
  · refine ww_bipush (v := -3) C dX5_triangle_24 (by decide) ?_
    refine ww_iret C dX5_triangle_26 ?_
    exact ⟨by rw [lst_o (fun q => absurd h16 (Int32.not_lt.mpr q.1))], rfl⟩
  · refine ww_iload_n C dX5_triangle_19 rfl 4 rfl ?_
    refine ww_iconst (v := 2) C dX5_triangle_20 rfl ?_
    refine ww_icmp_le 27 C dX5_triangle_21 (by decide) (fun h21 => ?_) (fun h21 => ?_)
    · have hw : (0 : Int32) ≤ w ∧ w ≤ 2 := ⟨Int32.not_lt.mp h16, h21⟩
      refine ww_iload_n C dX5_triangle_27 rfl 3 rfl ?_
      refine ww_if_lt 40 C dX5_triangle_28 (by decide) (fun h28 => ?_) (fun h28 => ?_)
      · refine ww_iconst (v := -1) C dX5_triangle_40 rfl ?_
        refine ww_iret C dX5_triangle_41 ?_
        exact ⟨by rw [lst_n hw (fun q => absurd h28 (Int32.not_lt.mpr q.1))], rfl⟩
      · refine ww_iload_n C dX5_triangle_31 rfl 3 rfl ?_
        refine ww_aload C dX5_triangle_32 0 rfl ?_
        refine ww_calliF (cx_V (n := 0) (As := []) C  (c_X3_triangleCount (kL K) G hA _ p n hp hs hn) gX5_triangle_X3_triangleCount rfl ⟨rfl, rfl⟩ (by decide +kernel) (by decide) rfl hp rfl rfl rfl (Nat.le_of_ble_eq_true rfl) dX5_triangle_34) ?_
        refine ww_icmp_lt 42 C dX5_triangle_37 (by decide) (fun h37 => ?_) (fun h37 => ?_)
        · rw [show nI n - 2 = nI (n - 2) from pk_sub (a := n) (b := 2) (by omega)] at h37
          obtain ⟨j, hj, rfl⟩ := ix_of ⟨Int32.not_lt.mp h28, h37⟩ (show n - 2 ≤ 14 by omega)
          refine ww_iload_n C dX5_triangle_42 rfl 4 rfl ?_
          refine ww_iconst (v := 1) C dX5_triangle_43 rfl ?_
          refine ww_icmp_ne 55 C dX5_triangle_44 (by decide) (fun h44 => ?_) (fun h44 => ?_)
          · refine ww_iload_n C dX5_triangle_55 rfl 4 rfl ?_
            refine ww_if_ne 69 C dX5_triangle_56 (by decide) (fun h56 => ?_) (fun h56 => ?_)
            · refine ww_aload C dX5_triangle_69 0 rfl ?_
              refine ww_gr (j := p) (k := 17) (f := 8) C rfl rfl hp rfl in_X5_triangle_X3 (by decide) lk_X5_triangle_165 dX5_triangle_71 rfl ?_
              refine ww_iload_n C dX5_triangle_74 rfl 3 rfl ?_
              refine ww_iald (k := 22) (j := j) C rfl hp (by decide) dX5_triangle_75 rfl (by omega) ?_
              refine ww_iret C dX5_triangle_76 ?_
              exact ⟨by rw [lst_t hw hj (by omega), if_neg h56, if_neg h44], rfl⟩
            · refine ww_aload C dX5_triangle_59 0 rfl ?_
              refine ww_gr (j := p) (k := 17) (f := 6) C rfl rfl hp rfl in_X5_triangle_X3 (by decide) lk_X5_triangle_162 dX5_triangle_61 rfl ?_
              refine ww_iload_n C dX5_triangle_64 rfl 3 rfl ?_
              refine ww_iald (k := 20) (j := j) C rfl hp (by decide) dX5_triangle_65 rfl (by omega) ?_
              refine ww_goto 76 C dX5_triangle_66 (by decide) ?_
              refine ww_iret C dX5_triangle_76 ?_
              exact ⟨by rw [lst_t hw hj (by omega), if_pos h56], rfl⟩
          · refine ww_aload C dX5_triangle_47 0 rfl ?_
            refine ww_gr (j := p) (k := 17) (f := 7) C rfl rfl hp rfl in_X5_triangle_X3 (by decide) lk_X5_triangle_159 dX5_triangle_49 rfl ?_
            refine ww_iload_n C dX5_triangle_52 rfl 3 rfl ?_
            refine ww_iald (k := 21) (j := j) C rfl hp (by decide) dX5_triangle_53 rfl (by omega) ?_
            refine ww_iret C dX5_triangle_54 ?_
            exact ⟨by rw [lst_t hw hj (by omega), if_neg (by rw [h44]; decide), if_pos h44], rfl⟩
        · refine ww_iconst (v := -1) C dX5_triangle_40 rfl ?_
          refine ww_iret C dX5_triangle_41 ?_
          exact ⟨by rw [lst_n hw (fun q => h37 (by rw [show nI n - 2 = nI (n - 2) from pk_sub (a := n) (b := 2) (by omega)]; exact q.2))], rfl⟩
    · refine ww_bipush (v := -3) C dX5_triangle_24 (by decide) ?_
      refine ww_iret C dX5_triangle_26 ?_
      exact ⟨by rw [lst_o (fun q => h21 q.2)], rfl⟩
set_option maxHeartbeats 4000000 in
set_option maxRecDepth 100000 in
theorem c_X5_triangle_n (l : Launch) (G : Gx) (hA : wa G) (σ : Sg) (cnt : Nat) (hc : σ 0 0 5 = nI cnt) (hc8 : cnt ≤ 8) (x : Int32) (hu : ¬ (0 ≤ x ∧ x < nI cnt)) (t w : Int32) : CtI l yX5_triangle wsX5_triangle (rmd 2) G [.ref (gA G 0 (0)), .int (x), .int (t), .int (w)] σ (fun r σ2 => r = -2 ∧ σ2 = σ) := by
  refine ct_i (maxL := 5) (ret := (some .int)) (by decide) rfl (Nat.le_of_ble_eq_true rfl) hA (fun K hl C => ?_)
  subst hl
  change WW K G _ _ σ [(0, .ref (gA G 0 (0))), (1, .int (x)), (2, .int (t)), (3, .int (w))] 0 []
  refine ww_aload_n C dX5_triangle_0 rfl 0 rfl ?_
  refine ww_iload_n C dX5_triangle_1 rfl 1 rfl ?_
  refine ww_callqN (cx_V (n := 1) (As := [.int (x)]) C  (c_X5_shapeOf_n (kL K) G hA _ cnt hc hc8 x hu) gX5_triangle_X5_shapeOf rfl ⟨rfl, rfl⟩ (by decide +kernel) (by decide) rfl (by decide) rfl rfl rfl (Nat.le_of_ble_eq_true rfl) dX5_triangle_2) ?_
  refine ww_astoreN [(4, .null), (0, .ref (gA G 0 (0))), (1, .int (x)), (2, .int (t)), (3, .int (w))] C dX5_triangle_5 (by decide) rfl ?_
  refine ww_aloadN C dX5_triangle_7 0 rfl ?_
  refine ww_ifnonnullN C dX5_triangle_9 ?_
  refine ww_bipush (v := -2) C dX5_triangle_12 (by decide) ?_
  refine ww_iret C dX5_triangle_14 ?_
  exact ⟨rfl, rfl⟩
set_option maxHeartbeats 4000000 in
set_option maxRecDepth 100000 in
theorem c_X5_diagonal_s (l : Launch) (G : Gx) (hA : wa G) (σ : Sg) (cnt p n : Nat) (hc : σ 0 0 5 = nI cnt) (hc8 : cnt ≤ 8) (hpc : p < cnt) (hp : p < 8) (hs : σ 14 (p + 1) 2 = nI n) (hn : n ≤ 14) (h3 : 3 ≤ n) (t w : Int32) : CtI l yX5_diagonal wsX5_diagonal (rmd 2) G [.ref (gA G 0 (0)), .int (nI p), .int (t), .int (w)] σ (fun r σ2 => r = lstR (n - 3) t w (σ 23 p) (σ 24 p) (σ 25 p) ∧ σ2 = σ) := by
  refine ct_i (maxL := 5) (ret := (some .int)) (by decide) rfl (Nat.le_of_ble_eq_true rfl) hA (fun K hl C => ?_)
  subst hl
  change WW K G _ _ σ [(0, .ref (gA G 0 (0))), (1, .int (nI p)), (2, .int (t)), (3, .int (w))] 0 []
  refine ww_aload_n C dX5_diagonal_0 rfl 0 rfl ?_
  refine ww_iload_n C dX5_diagonal_1 rfl 1 rfl ?_
  refine ww_callqR (cx_V (n := 1) (As := [.int (nI p)]) C  (c_X5_shapeOf_s (kL K) G hA _ cnt p hc hc8 hpc) gX5_diagonal_X5_shapeOf rfl ⟨rfl, rfl⟩ (by decide +kernel) (by decide) rfl (by decide) rfl rfl rfl (Nat.le_of_ble_eq_true rfl) dX5_diagonal_2) ?_
  refine ww_astore [(4, .ref (gA G 17 (p))), (0, .ref (gA G 0 (0))), (1, .int (nI p)), (2, .int (t)), (3, .int (w))] C dX5_diagonal_5 (by decide) rfl ?_
  refine ww_aload C dX5_diagonal_7 0 rfl ?_
  refine ww_ifnonnull 15 C dX5_diagonal_9 (by decide) ?_
  refine ww_iload_n C dX5_diagonal_15 rfl 4 rfl ?_
  refine ww_if_lt 24 C dX5_diagonal_16 (by decide) (fun h16 => ?_) (fun h16 => ?_)
  · refine ww_bipush (v := -3) C dX5_diagonal_24 (by decide) ?_
    refine ww_iret C dX5_diagonal_26 ?_
    exact ⟨by rw [lst_o (fun q => absurd h16 (Int32.not_lt.mpr q.1))], rfl⟩
  · refine ww_iload_n C dX5_diagonal_19 rfl 4 rfl ?_
    refine ww_iconst (v := 2) C dX5_diagonal_20 rfl ?_
    refine ww_icmp_le 27 C dX5_diagonal_21 (by decide) (fun h21 => ?_) (fun h21 => ?_)
    · have hw : (0 : Int32) ≤ w ∧ w ≤ 2 := ⟨Int32.not_lt.mp h16, h21⟩
      refine ww_iload_n C dX5_diagonal_27 rfl 3 rfl ?_
      refine ww_if_lt 40 C dX5_diagonal_28 (by decide) (fun h28 => ?_) (fun h28 => ?_)
      · refine ww_iconst (v := -1) C dX5_diagonal_40 rfl ?_
        refine ww_iret C dX5_diagonal_41 ?_
        exact ⟨by rw [lst_n hw (fun q => absurd h28 (Int32.not_lt.mpr q.1))], rfl⟩
      · refine ww_iload_n C dX5_diagonal_31 rfl 3 rfl ?_
        refine ww_aload C dX5_diagonal_32 0 rfl ?_
        refine ww_calliF (cx_V (n := 0) (As := []) C  (c_X3_diagonalCount (kL K) G hA _ p n hp hs hn) gX5_diagonal_X3_diagonalCount rfl ⟨rfl, rfl⟩ (by decide +kernel) (by decide) rfl hp rfl rfl rfl (Nat.le_of_ble_eq_true rfl) dX5_diagonal_34) ?_
        refine ww_icmp_lt 42 C dX5_diagonal_37 (by decide) (fun h37 => ?_) (fun h37 => ?_)
        · rw [show nI n - 3 = nI (n - 3) from pk_sub (a := n) (b := 3) (by omega)] at h37
          obtain ⟨j, hj, rfl⟩ := ix_of ⟨Int32.not_lt.mp h28, h37⟩ (show n - 3 ≤ 14 by omega)
          refine ww_iload_n C dX5_diagonal_42 rfl 4 rfl ?_
          refine ww_iconst (v := 2) C dX5_diagonal_43 rfl ?_
          refine ww_icmp_ne 55 C dX5_diagonal_44 (by decide) (fun h44 => ?_) (fun h44 => ?_)
          · refine ww_iload_n C dX5_diagonal_55 rfl 4 rfl ?_
            refine ww_if_ne 69 C dX5_diagonal_56 (by decide) (fun h56 => ?_) (fun h56 => ?_)
            · refine ww_aload C dX5_diagonal_69 0 rfl ?_
              refine ww_gr (j := p) (k := 17) (f := 10) C rfl rfl hp rfl in_X5_diagonal_X3 (by decide) lk_X5_diagonal_177 dX5_diagonal_71 rfl ?_
              refine ww_iload_n C dX5_diagonal_74 rfl 3 rfl ?_
              refine ww_iald (k := 24) (j := j) C rfl hp (by decide) dX5_diagonal_75 rfl (by omega) ?_
              refine ww_iret C dX5_diagonal_76 ?_
              exact ⟨by rw [lst_t hw hj (by omega), if_neg h56, if_pos (Classical.byContradiction (fun q => h44 (w_2 hw h56 q)))], rfl⟩
            · refine ww_aload C dX5_diagonal_59 0 rfl ?_
              refine ww_gr (j := p) (k := 17) (f := 9) C rfl rfl hp rfl in_X5_diagonal_X3 (by decide) lk_X5_diagonal_174 dX5_diagonal_61 rfl ?_
              refine ww_iload_n C dX5_diagonal_64 rfl 3 rfl ?_
              refine ww_iald (k := 23) (j := j) C rfl hp (by decide) dX5_diagonal_65 rfl (by omega) ?_
              refine ww_goto 76 C dX5_diagonal_66 (by decide) ?_
              refine ww_iret C dX5_diagonal_76 ?_
              exact ⟨by rw [lst_t hw hj (by omega), if_pos h56], rfl⟩
          · refine ww_aload C dX5_diagonal_47 0 rfl ?_
            refine ww_gr (j := p) (k := 17) (f := 11) C rfl rfl hp rfl in_X5_diagonal_X3 (by decide) lk_X5_diagonal_171 dX5_diagonal_49 rfl ?_
            refine ww_iload_n C dX5_diagonal_52 rfl 3 rfl ?_
            refine ww_iald (k := 25) (j := j) C rfl hp (by decide) dX5_diagonal_53 rfl (by omega) ?_
            refine ww_iret C dX5_diagonal_54 ?_
            exact ⟨by rw [lst_t hw hj (by omega), if_neg (by rw [h44]; decide), if_neg (by rw [h44]; decide)], rfl⟩
        · refine ww_iconst (v := -1) C dX5_diagonal_40 rfl ?_
          refine ww_iret C dX5_diagonal_41 ?_
          exact ⟨by rw [lst_n hw (fun q => h37 (by rw [show nI n - 3 = nI (n - 3) from pk_sub (a := n) (b := 3) (by omega)]; exact q.2))], rfl⟩
    · refine ww_bipush (v := -3) C dX5_diagonal_24 (by decide) ?_
      refine ww_iret C dX5_diagonal_26 ?_
      exact ⟨by rw [lst_o (fun q => h21 q.2)], rfl⟩
set_option maxHeartbeats 4000000 in
set_option maxRecDepth 100000 in
theorem c_X5_diagonal_n (l : Launch) (G : Gx) (hA : wa G) (σ : Sg) (cnt : Nat) (hc : σ 0 0 5 = nI cnt) (hc8 : cnt ≤ 8) (x : Int32) (hu : ¬ (0 ≤ x ∧ x < nI cnt)) (t w : Int32) : CtI l yX5_diagonal wsX5_diagonal (rmd 2) G [.ref (gA G 0 (0)), .int (x), .int (t), .int (w)] σ (fun r σ2 => r = -2 ∧ σ2 = σ) := by
  refine ct_i (maxL := 5) (ret := (some .int)) (by decide) rfl (Nat.le_of_ble_eq_true rfl) hA (fun K hl C => ?_)
  subst hl
  change WW K G _ _ σ [(0, .ref (gA G 0 (0))), (1, .int (x)), (2, .int (t)), (3, .int (w))] 0 []
  refine ww_aload_n C dX5_diagonal_0 rfl 0 rfl ?_
  refine ww_iload_n C dX5_diagonal_1 rfl 1 rfl ?_
  refine ww_callqN (cx_V (n := 1) (As := [.int (x)]) C  (c_X5_shapeOf_n (kL K) G hA _ cnt hc hc8 x hu) gX5_diagonal_X5_shapeOf rfl ⟨rfl, rfl⟩ (by decide +kernel) (by decide) rfl (by decide) rfl rfl rfl (Nat.le_of_ble_eq_true rfl) dX5_diagonal_2) ?_
  refine ww_astoreN [(4, .null), (0, .ref (gA G 0 (0))), (1, .int (x)), (2, .int (t)), (3, .int (w))] C dX5_diagonal_5 (by decide) rfl ?_
  refine ww_aloadN C dX5_diagonal_7 0 rfl ?_
  refine ww_ifnonnullN C dX5_diagonal_9 ?_
  refine ww_bipush (v := -2) C dX5_diagonal_12 (by decide) ?_
  refine ww_iret C dX5_diagonal_14 ?_
  exact ⟨rfl, rfl⟩
end
section
theorem in_X5_corner_X5 : ∀ w ∈ wsX50, w ∈ wsX5_corner := by decide +kernel
theorem lk_X5_corner_10 : Cond.fieldLink RX5 10 "PolyCuts" "row" "LPolyCuts$Corners;" ∈ wsX5_corner := by decide +kernel
theorem in_X5_corner_X1 : ∀ w ∈ wsX10, w ∈ wsX5_corner := by decide +kernel
theorem lk_X5_corner_60 : Cond.fieldLink RX5 60 "PolyCuts$Corners" "size" "I" ∈ wsX5_corner := by decide +kernel
theorem fnd_lt0 {p : Nat → Bool} : ∀ (d a : Nat) {j : Nat}, fnd p a d = some j → j < a + d
  | 0, a, j, h => by cases h
  | d + 1, a, j, h => by
    rw [fnd] at h
    by_cases hp : p a = true
    · rw [if_pos hp] at h
      cases h
      omega
    · rw [if_neg hp] at h
      have := fnd_lt0 d (a + 1) h
      omega
theorem fnd_lt {p : Nat → Bool} {a n j : Nat} (h : fndN p a n = some j) : j < n := by
  have h1 := fnd_lt0 _ _ h
  rcases Nat.lt_or_ge a n with q | q
  · omega
  · rw [fndN_end q] at h
    cases h
def sameR (a b : Option Nat) : Int32 := if a ≠ none then 1 else if b ≠ none then 2 else 0
def ontoR (a b : Option Nat) : Int32 := optI (if a ≠ none then a else b)
theorem optI_m {a : Option Nat} {p : Nat → Bool} {i n : Nat} (e : a = fndN p i n) (h : optI a = -1) (hn : n < 2 ^ 31) : a = none := by
  cases a with
  | none => rfl
  | some j =>
    have hj : j < n := fnd_lt e.symm
    exact absurd h (nI_nm1 (by omega))
theorem optI_n {a : Option Nat} (h : ¬ optI a = -1) : a ≠ none := fun q => h (by rw [q]; rfl)
set_option maxHeartbeats 4000000 in
set_option maxRecDepth 100000 in
theorem c_X5_same_ss (l : Launch) (G : Gx) (hA : wa G) (σ : Sg) (cnt p n q m : Nat) (hc : σ 0 0 5 = nI cnt) (hc8 : cnt ≤ 8) (hpc : p < cnt) (hp : p < 8) (hs : σ 14 (p + 1) 2 = nI n) (hn : n ≤ 14) (hqc : q < cnt) (hq : q < 8) (hm : σ 14 (q + 1) 2 = nI m) (hm14 : m ≤ 14) : CtI l yX5_same wsX5_same (rmd 5) G [.ref (gA G 0 (0)), .int (nI p), .int (nI q)] σ (fun r σ2 => r = sameR (fndN (fun s => fitC n m (σ 15 (p + 1)) (σ 16 (p + 1)) (σ 15 (q + 1)) (σ 16 (q + 1)) (σ 17 p 2) (σ 17 q 2) (1) s) 0 m) (fndN (fun s => fitC n m (σ 15 (p + 1)) (σ 16 (p + 1)) (σ 15 (q + 1)) (σ 16 (q + 1)) (σ 17 p 2) (σ 17 q 2) (-1) s) 0 m) ∧ σ2 = σ) := by
  refine ct_i (maxL := 5) (ret := (some .int)) (by decide) rfl (Nat.le_of_ble_eq_true rfl) hA (fun K hl C => ?_)
  subst hl
  change WW K G _ _ σ [(0, .ref (gA G 0 (0))), (1, .int (nI p)), (2, .int (nI q))] 0 []
  refine ww_aload_n C dX5_same_0 rfl 0 rfl ?_
  refine ww_iload_n C dX5_same_1 rfl 1 rfl ?_
  refine ww_callqR (cx_V (n := 1) (As := [.int (nI p)]) C  (c_X5_shapeOf_s (kL K) G hA _ cnt p hc hc8 hpc) gX5_same_X5_shapeOf rfl ⟨rfl, rfl⟩ (by decide +kernel) (by decide) rfl (by decide) rfl rfl rfl (Nat.le_of_ble_eq_true rfl) dX5_same_2) ?_
  refine ww_astore_n [(3, .ref (gA G 17 (p))), (0, .ref (gA G 0 (0))), (1, .int (nI p)), (2, .int (nI q))] C dX5_same_5 rfl (by decide) rfl ?_
  refine ww_aload_n C dX5_same_6 rfl 1 rfl ?_
  refine ww_iload_n C dX5_same_7 rfl 3 rfl ?_
  refine ww_callqR (cx_V (n := 1) (As := [.int (nI q)]) C  (c_X5_shapeOf_s (kL K) G hA _ cnt q hc hc8 hqc) gX5_same_X5_shapeOf rfl ⟨rfl, rfl⟩ (by decide +kernel) (by decide) rfl (by decide) rfl rfl rfl (Nat.le_of_ble_eq_true rfl) dX5_same_8) ?_
  refine ww_astore [(4, .ref (gA G 17 (q))), (3, .ref (gA G 17 (p))), (0, .ref (gA G 0 (0))), (1, .int (nI p)), (2, .int (nI q))] C dX5_same_11 (by decide) rfl ?_
  refine ww_aload_n C dX5_same_13 rfl 1 rfl ?_
  refine ww_ifnull C dX5_same_14 ?_
  refine ww_aload C dX5_same_17 0 rfl ?_
  refine ww_ifnonnull 25 C dX5_same_19 (by decide) ?_
  refine ww_aload_n C dX5_same_25 rfl 1 rfl ?_
  refine ww_aload C dX5_same_26 0 rfl ?_
  refine ww_iconst (v := 1) C dX5_same_28 rfl ?_
  refine ww_calliF (cx_V (n := 2) (As := [.ref (gA G 17 (q)), .int (1)]) C  (c_X3_leastStart (kL K) G hA _ p n q m hp hs hn hq hm hm14 _) gX5_same_X3_leastStart rfl ⟨rfl, rfl⟩ (by decide +kernel) (by decide) rfl hp rfl rfl rfl (Nat.le_of_ble_eq_true rfl) dX5_same_29) ?_
  refine ww_iconst (v := -1) C dX5_same_32 rfl ?_
  refine ww_icmp_eq 38 C dX5_same_33 (by decide) (fun h33 => ?_) (fun h33 => ?_)
  · refine ww_aload_n C dX5_same_38 rfl 1 rfl ?_
    refine ww_aload C dX5_same_39 0 rfl ?_
    refine ww_iconst (v := -1) C dX5_same_41 rfl ?_
    refine ww_calliF (cx_V (n := 2) (As := [.ref (gA G 17 (q)), .int (-1)]) C  (c_X3_leastStart (kL K) G hA _ p n q m hp hs hn hq hm hm14 _) gX5_same_X3_leastStart rfl ⟨rfl, rfl⟩ (by decide +kernel) (by decide) rfl hp rfl rfl rfl (Nat.le_of_ble_eq_true rfl) dX5_same_42) ?_
    refine ww_iconst (v := -1) C dX5_same_45 rfl ?_
    refine ww_icmp_eq 53 C dX5_same_46 (by decide) (fun h46 => ?_) (fun h46 => ?_)
    · refine ww_iconst (v := 0) C dX5_same_53 rfl ?_
      refine ww_iret C dX5_same_54 ?_
      exact ⟨by rw [sameR, if_neg (not_not_intro (optI_m rfl h33 (by omega))), if_neg (not_not_intro (optI_m rfl h46 (by omega)))], rfl⟩
    · refine ww_iconst (v := 2) C dX5_same_49 rfl ?_
      refine ww_goto 54 C dX5_same_50 (by decide) ?_
      refine ww_iret C dX5_same_54 ?_
      exact ⟨by rw [sameR, if_neg (not_not_intro (optI_m rfl h33 (by omega))), if_pos (optI_n h46)], rfl⟩
  · refine ww_iconst (v := 1) C dX5_same_36 rfl ?_
    refine ww_iret C dX5_same_37 ?_
    exact ⟨by rw [sameR, if_pos (optI_n h33)], rfl⟩
set_option maxHeartbeats 4000000 in
set_option maxRecDepth 100000 in
theorem c_X5_onto_ss (l : Launch) (G : Gx) (hA : wa G) (σ : Sg) (cnt p n q m : Nat) (hc : σ 0 0 5 = nI cnt) (hc8 : cnt ≤ 8) (hpc : p < cnt) (hp : p < 8) (hs : σ 14 (p + 1) 2 = nI n) (hn : n ≤ 14) (hqc : q < cnt) (hq : q < 8) (hm : σ 14 (q + 1) 2 = nI m) (hm14 : m ≤ 14) : CtI l yX5_onto wsX5_onto (rmd 5) G [.ref (gA G 0 (0)), .int (nI p), .int (nI q)] σ (fun r σ2 => r = ontoR (fndN (fun s => fitC n m (σ 15 (p + 1)) (σ 16 (p + 1)) (σ 15 (q + 1)) (σ 16 (q + 1)) (σ 17 p 2) (σ 17 q 2) (1) s) 0 m) (fndN (fun s => fitC n m (σ 15 (p + 1)) (σ 16 (p + 1)) (σ 15 (q + 1)) (σ 16 (q + 1)) (σ 17 p 2) (σ 17 q 2) (-1) s) 0 m) ∧ σ2 = σ) := by
  refine ct_i (maxL := 6) (ret := (some .int)) (by decide) rfl (Nat.le_of_ble_eq_true rfl) hA (fun K hl C => ?_)
  subst hl
  change WW K G _ _ σ [(0, .ref (gA G 0 (0))), (1, .int (nI p)), (2, .int (nI q))] 0 []
  refine ww_aload_n C dX5_onto_0 rfl 0 rfl ?_
  refine ww_iload_n C dX5_onto_1 rfl 1 rfl ?_
  refine ww_callqR (cx_V (n := 1) (As := [.int (nI p)]) C  (c_X5_shapeOf_s (kL K) G hA _ cnt p hc hc8 hpc) gX5_onto_X5_shapeOf rfl ⟨rfl, rfl⟩ (by decide +kernel) (by decide) rfl (by decide) rfl rfl rfl (Nat.le_of_ble_eq_true rfl) dX5_onto_2) ?_
  refine ww_astore_n [(3, .ref (gA G 17 (p))), (0, .ref (gA G 0 (0))), (1, .int (nI p)), (2, .int (nI q))] C dX5_onto_5 rfl (by decide) rfl ?_
  refine ww_aload_n C dX5_onto_6 rfl 1 rfl ?_
  refine ww_iload_n C dX5_onto_7 rfl 3 rfl ?_
  refine ww_callqR (cx_V (n := 1) (As := [.int (nI q)]) C  (c_X5_shapeOf_s (kL K) G hA _ cnt q hc hc8 hqc) gX5_onto_X5_shapeOf rfl ⟨rfl, rfl⟩ (by decide +kernel) (by decide) rfl (by decide) rfl rfl rfl (Nat.le_of_ble_eq_true rfl) dX5_onto_8) ?_
  refine ww_astore [(4, .ref (gA G 17 (q))), (3, .ref (gA G 17 (p))), (0, .ref (gA G 0 (0))), (1, .int (nI p)), (2, .int (nI q))] C dX5_onto_11 (by decide) rfl ?_
  refine ww_aload_n C dX5_onto_13 rfl 1 rfl ?_
  refine ww_ifnull C dX5_onto_14 ?_
  refine ww_aload C dX5_onto_17 0 rfl ?_
  refine ww_ifnonnull 25 C dX5_onto_19 (by decide) ?_
  refine ww_aload_n C dX5_onto_25 rfl 1 rfl ?_
  refine ww_aload C dX5_onto_26 0 rfl ?_
  refine ww_iconst (v := 1) C dX5_onto_28 rfl ?_
  refine ww_calliF (cx_V (n := 2) (As := [.ref (gA G 17 (q)), .int (1)]) C  (c_X3_leastStart (kL K) G hA _ p n q m hp hs hn hq hm hm14 _) gX5_onto_X3_leastStart rfl ⟨rfl, rfl⟩ (by decide +kernel) (by decide) rfl hp rfl rfl rfl (Nat.le_of_ble_eq_true rfl) dX5_onto_29) ?_
  refine ww_istore (fun y1 => [(5, .int (y1)), (4, .ref (gA G 17 (q))), (3, .ref (gA G 17 (p))), (0, .ref (gA G 0 (0))), (1, .int (nI p)), (2, .int (nI q))]) C dX5_onto_32 (by decide) (fun _ => rfl) (fun y1 ey1 => ?_)
  rw [ey1]; clear ey1 y1
  refine ww_iload C dX5_onto_34 0 rfl ?_
  refine ww_iconst (v := -1) C dX5_onto_36 rfl ?_
  refine ww_icmp_eq 45 C dX5_onto_37 (by decide) (fun h37 => ?_) (fun h37 => ?_)
  · refine ww_aload_n C dX5_onto_45 rfl 2 rfl ?_
    refine ww_aload C dX5_onto_46 1 rfl ?_
    refine ww_iconst (v := -1) C dX5_onto_48 rfl ?_
    refine ww_calliF (cx_V (n := 2) (As := [.ref (gA G 17 (q)), .int (-1)]) C  (c_X3_leastStart (kL K) G hA _ p n q m hp hs hn hq hm hm14 _) gX5_onto_X3_leastStart rfl ⟨rfl, rfl⟩ (by decide +kernel) (by decide) rfl hp rfl rfl rfl (Nat.le_of_ble_eq_true rfl) dX5_onto_49) ?_
    refine ww_iret C dX5_onto_52 ?_
    exact ⟨by rw [ontoR, if_neg (not_not_intro (optI_m rfl h37 (by omega)))], rfl⟩
  · refine ww_iload C dX5_onto_40 0 rfl ?_
    refine ww_goto 52 C dX5_onto_42 (by decide) ?_
    refine ww_iret C dX5_onto_52 ?_
    exact ⟨by rw [ontoR, if_pos (optI_n h37)], rfl⟩
set_option maxHeartbeats 4000000 in
set_option maxRecDepth 100000 in
theorem c_X5_same_nn (l : Launch) (G : Gx) (hA : wa G) (σ : Sg) (cnt : Nat) (hc : σ 0 0 5 = nI cnt) (hc8 : cnt ≤ 8) (x : Int32) (hu : ¬ (0 ≤ x ∧ x < nI cnt)) (z : Int32) (hz : ¬ (0 ≤ z ∧ z < nI cnt)) : CtI l yX5_same wsX5_same (rmd 5) G [.ref (gA G 0 (0)), .int (x), .int (z)] σ (fun r σ2 => r = -2 ∧ σ2 = σ) := by
  refine ct_i (maxL := 5) (ret := (some .int)) (by decide) rfl (Nat.le_of_ble_eq_true rfl) hA (fun K hl C => ?_)
  subst hl
  change WW K G _ _ σ [(0, .ref (gA G 0 (0))), (1, .int (x)), (2, .int (z))] 0 []
  refine ww_aload_n C dX5_same_0 rfl 0 rfl ?_
  refine ww_iload_n C dX5_same_1 rfl 1 rfl ?_
  refine ww_callqN (cx_V (n := 1) (As := [.int (x)]) C  (c_X5_shapeOf_n (kL K) G hA _ cnt hc hc8 x hu) gX5_same_X5_shapeOf rfl ⟨rfl, rfl⟩ (by decide +kernel) (by decide) rfl (by decide) rfl rfl rfl (Nat.le_of_ble_eq_true rfl) dX5_same_2) ?_
  refine ww_astore_nN [(3, .null), (0, .ref (gA G 0 (0))), (1, .int (x)), (2, .int (z))] C dX5_same_5 rfl (by decide) rfl ?_
  refine ww_aload_n C dX5_same_6 rfl 1 rfl ?_
  refine ww_iload_n C dX5_same_7 rfl 3 rfl ?_
  refine ww_callqN (cx_V (n := 1) (As := [.int (z)]) C  (c_X5_shapeOf_n (kL K) G hA _ cnt hc hc8 z hz) gX5_same_X5_shapeOf rfl ⟨rfl, rfl⟩ (by decide +kernel) (by decide) rfl (by decide) rfl rfl rfl (Nat.le_of_ble_eq_true rfl) dX5_same_8) ?_
  refine ww_astoreN [(4, .null), (3, .null), (0, .ref (gA G 0 (0))), (1, .int (x)), (2, .int (z))] C dX5_same_11 (by decide) rfl ?_
  refine ww_aload_nN C dX5_same_13 rfl 1 rfl ?_
  refine ww_ifnullN 22 C dX5_same_14 (by decide) ?_
  refine ww_bipush (v := -2) C dX5_same_22 (by decide) ?_
  refine ww_iret C dX5_same_24 ?_
  exact ⟨rfl, rfl⟩
set_option maxHeartbeats 4000000 in
set_option maxRecDepth 100000 in
theorem c_X5_same_ns (l : Launch) (G : Gx) (hA : wa G) (σ : Sg) (cnt : Nat) (hc : σ 0 0 5 = nI cnt) (hc8 : cnt ≤ 8) (x : Int32) (hu : ¬ (0 ≤ x ∧ x < nI cnt)) (p : Nat) (hpc : p < cnt) (hp : p < 8) : CtI l yX5_same wsX5_same (rmd 5) G [.ref (gA G 0 (0)), .int (x), .int (nI p)] σ (fun r σ2 => r = -2 ∧ σ2 = σ) := by
  refine ct_i (maxL := 5) (ret := (some .int)) (by decide) rfl (Nat.le_of_ble_eq_true rfl) hA (fun K hl C => ?_)
  subst hl
  change WW K G _ _ σ [(0, .ref (gA G 0 (0))), (1, .int (x)), (2, .int (nI p))] 0 []
  refine ww_aload_n C dX5_same_0 rfl 0 rfl ?_
  refine ww_iload_n C dX5_same_1 rfl 1 rfl ?_
  refine ww_callqN (cx_V (n := 1) (As := [.int (x)]) C  (c_X5_shapeOf_n (kL K) G hA _ cnt hc hc8 x hu) gX5_same_X5_shapeOf rfl ⟨rfl, rfl⟩ (by decide +kernel) (by decide) rfl (by decide) rfl rfl rfl (Nat.le_of_ble_eq_true rfl) dX5_same_2) ?_
  refine ww_astore_nN [(3, .null), (0, .ref (gA G 0 (0))), (1, .int (x)), (2, .int (nI p))] C dX5_same_5 rfl (by decide) rfl ?_
  refine ww_aload_n C dX5_same_6 rfl 1 rfl ?_
  refine ww_iload_n C dX5_same_7 rfl 3 rfl ?_
  refine ww_callqR (cx_V (n := 1) (As := [.int (nI p)]) C  (c_X5_shapeOf_s (kL K) G hA _ cnt p hc hc8 hpc) gX5_same_X5_shapeOf rfl ⟨rfl, rfl⟩ (by decide +kernel) (by decide) rfl (by decide) rfl rfl rfl (Nat.le_of_ble_eq_true rfl) dX5_same_8) ?_
  refine ww_astore [(4, .ref (gA G 17 (p))), (3, .null), (0, .ref (gA G 0 (0))), (1, .int (x)), (2, .int (nI p))] C dX5_same_11 (by decide) rfl ?_
  refine ww_aload_nN C dX5_same_13 rfl 1 rfl ?_
  refine ww_ifnullN 22 C dX5_same_14 (by decide) ?_
  refine ww_bipush (v := -2) C dX5_same_22 (by decide) ?_
  refine ww_iret C dX5_same_24 ?_
  exact ⟨rfl, rfl⟩
set_option maxHeartbeats 4000000 in
set_option maxRecDepth 100000 in
theorem c_X5_same_sn (l : Launch) (G : Gx) (hA : wa G) (σ : Sg) (cnt : Nat) (hc : σ 0 0 5 = nI cnt) (hc8 : cnt ≤ 8) (x : Int32) (hu : ¬ (0 ≤ x ∧ x < nI cnt)) (p : Nat) (hpc : p < cnt) (hp : p < 8) : CtI l yX5_same wsX5_same (rmd 5) G [.ref (gA G 0 (0)), .int (nI p), .int (x)] σ (fun r σ2 => r = -2 ∧ σ2 = σ) := by
  refine ct_i (maxL := 5) (ret := (some .int)) (by decide) rfl (Nat.le_of_ble_eq_true rfl) hA (fun K hl C => ?_)
  subst hl
  change WW K G _ _ σ [(0, .ref (gA G 0 (0))), (1, .int (nI p)), (2, .int (x))] 0 []
  refine ww_aload_n C dX5_same_0 rfl 0 rfl ?_
  refine ww_iload_n C dX5_same_1 rfl 1 rfl ?_
  refine ww_callqR (cx_V (n := 1) (As := [.int (nI p)]) C  (c_X5_shapeOf_s (kL K) G hA _ cnt p hc hc8 hpc) gX5_same_X5_shapeOf rfl ⟨rfl, rfl⟩ (by decide +kernel) (by decide) rfl (by decide) rfl rfl rfl (Nat.le_of_ble_eq_true rfl) dX5_same_2) ?_
  refine ww_astore_n [(3, .ref (gA G 17 (p))), (0, .ref (gA G 0 (0))), (1, .int (nI p)), (2, .int (x))] C dX5_same_5 rfl (by decide) rfl ?_
  refine ww_aload_n C dX5_same_6 rfl 1 rfl ?_
  refine ww_iload_n C dX5_same_7 rfl 3 rfl ?_
  refine ww_callqN (cx_V (n := 1) (As := [.int (x)]) C  (c_X5_shapeOf_n (kL K) G hA _ cnt hc hc8 x hu) gX5_same_X5_shapeOf rfl ⟨rfl, rfl⟩ (by decide +kernel) (by decide) rfl (by decide) rfl rfl rfl (Nat.le_of_ble_eq_true rfl) dX5_same_8) ?_
  refine ww_astoreN [(4, .null), (3, .ref (gA G 17 (p))), (0, .ref (gA G 0 (0))), (1, .int (nI p)), (2, .int (x))] C dX5_same_11 (by decide) rfl ?_
  refine ww_aload_n C dX5_same_13 rfl 1 rfl ?_
  refine ww_ifnull C dX5_same_14 ?_
  refine ww_aloadN C dX5_same_17 0 rfl ?_
  refine ww_ifnonnullN C dX5_same_19 ?_
  refine ww_bipush (v := -2) C dX5_same_22 (by decide) ?_
  refine ww_iret C dX5_same_24 ?_
  exact ⟨rfl, rfl⟩
set_option maxHeartbeats 4000000 in
set_option maxRecDepth 100000 in
theorem c_X5_onto_nn (l : Launch) (G : Gx) (hA : wa G) (σ : Sg) (cnt : Nat) (hc : σ 0 0 5 = nI cnt) (hc8 : cnt ≤ 8) (x : Int32) (hu : ¬ (0 ≤ x ∧ x < nI cnt)) (z : Int32) (hz : ¬ (0 ≤ z ∧ z < nI cnt)) : CtI l yX5_onto wsX5_onto (rmd 5) G [.ref (gA G 0 (0)), .int (x), .int (z)] σ (fun r σ2 => r = -2 ∧ σ2 = σ) := by
  refine ct_i (maxL := 6) (ret := (some .int)) (by decide) rfl (Nat.le_of_ble_eq_true rfl) hA (fun K hl C => ?_)
  subst hl
  change WW K G _ _ σ [(0, .ref (gA G 0 (0))), (1, .int (x)), (2, .int (z))] 0 []
  refine ww_aload_n C dX5_onto_0 rfl 0 rfl ?_
  refine ww_iload_n C dX5_onto_1 rfl 1 rfl ?_
  refine ww_callqN (cx_V (n := 1) (As := [.int (x)]) C  (c_X5_shapeOf_n (kL K) G hA _ cnt hc hc8 x hu) gX5_onto_X5_shapeOf rfl ⟨rfl, rfl⟩ (by decide +kernel) (by decide) rfl (by decide) rfl rfl rfl (Nat.le_of_ble_eq_true rfl) dX5_onto_2) ?_
  refine ww_astore_nN [(3, .null), (0, .ref (gA G 0 (0))), (1, .int (x)), (2, .int (z))] C dX5_onto_5 rfl (by decide) rfl ?_
  refine ww_aload_n C dX5_onto_6 rfl 1 rfl ?_
  refine ww_iload_n C dX5_onto_7 rfl 3 rfl ?_
  refine ww_callqN (cx_V (n := 1) (As := [.int (z)]) C  (c_X5_shapeOf_n (kL K) G hA _ cnt hc hc8 z hz) gX5_onto_X5_shapeOf rfl ⟨rfl, rfl⟩ (by decide +kernel) (by decide) rfl (by decide) rfl rfl rfl (Nat.le_of_ble_eq_true rfl) dX5_onto_8) ?_
  refine ww_astoreN [(4, .null), (3, .null), (0, .ref (gA G 0 (0))), (1, .int (x)), (2, .int (z))] C dX5_onto_11 (by decide) rfl ?_
  refine ww_aload_nN C dX5_onto_13 rfl 1 rfl ?_
  refine ww_ifnullN 22 C dX5_onto_14 (by decide) ?_
  refine ww_bipush (v := -2) C dX5_onto_22 (by decide) ?_
  refine ww_iret C dX5_onto_24 ?_
  exact ⟨rfl, rfl⟩
set_option maxHeartbeats 4000000 in
set_option maxRecDepth 100000 in
theorem c_X5_onto_ns (l : Launch) (G : Gx) (hA : wa G) (σ : Sg) (cnt : Nat) (hc : σ 0 0 5 = nI cnt) (hc8 : cnt ≤ 8) (x : Int32) (hu : ¬ (0 ≤ x ∧ x < nI cnt)) (p : Nat) (hpc : p < cnt) (hp : p < 8) : CtI l yX5_onto wsX5_onto (rmd 5) G [.ref (gA G 0 (0)), .int (x), .int (nI p)] σ (fun r σ2 => r = -2 ∧ σ2 = σ) := by
  refine ct_i (maxL := 6) (ret := (some .int)) (by decide) rfl (Nat.le_of_ble_eq_true rfl) hA (fun K hl C => ?_)
  subst hl
  change WW K G _ _ σ [(0, .ref (gA G 0 (0))), (1, .int (x)), (2, .int (nI p))] 0 []
  refine ww_aload_n C dX5_onto_0 rfl 0 rfl ?_
  refine ww_iload_n C dX5_onto_1 rfl 1 rfl ?_
  refine ww_callqN (cx_V (n := 1) (As := [.int (x)]) C  (c_X5_shapeOf_n (kL K) G hA _ cnt hc hc8 x hu) gX5_onto_X5_shapeOf rfl ⟨rfl, rfl⟩ (by decide +kernel) (by decide) rfl (by decide) rfl rfl rfl (Nat.le_of_ble_eq_true rfl) dX5_onto_2) ?_
  refine ww_astore_nN [(3, .null), (0, .ref (gA G 0 (0))), (1, .int (x)), (2, .int (nI p))] C dX5_onto_5 rfl (by decide) rfl ?_
  refine ww_aload_n C dX5_onto_6 rfl 1 rfl ?_
  refine ww_iload_n C dX5_onto_7 rfl 3 rfl ?_
  refine ww_callqR (cx_V (n := 1) (As := [.int (nI p)]) C  (c_X5_shapeOf_s (kL K) G hA _ cnt p hc hc8 hpc) gX5_onto_X5_shapeOf rfl ⟨rfl, rfl⟩ (by decide +kernel) (by decide) rfl (by decide) rfl rfl rfl (Nat.le_of_ble_eq_true rfl) dX5_onto_8) ?_
  refine ww_astore [(4, .ref (gA G 17 (p))), (3, .null), (0, .ref (gA G 0 (0))), (1, .int (x)), (2, .int (nI p))] C dX5_onto_11 (by decide) rfl ?_
  refine ww_aload_nN C dX5_onto_13 rfl 1 rfl ?_
  refine ww_ifnullN 22 C dX5_onto_14 (by decide) ?_
  refine ww_bipush (v := -2) C dX5_onto_22 (by decide) ?_
  refine ww_iret C dX5_onto_24 ?_
  exact ⟨rfl, rfl⟩
set_option maxHeartbeats 4000000 in
set_option maxRecDepth 100000 in
theorem c_X5_onto_sn (l : Launch) (G : Gx) (hA : wa G) (σ : Sg) (cnt : Nat) (hc : σ 0 0 5 = nI cnt) (hc8 : cnt ≤ 8) (x : Int32) (hu : ¬ (0 ≤ x ∧ x < nI cnt)) (p : Nat) (hpc : p < cnt) (hp : p < 8) : CtI l yX5_onto wsX5_onto (rmd 5) G [.ref (gA G 0 (0)), .int (nI p), .int (x)] σ (fun r σ2 => r = -2 ∧ σ2 = σ) := by
  refine ct_i (maxL := 6) (ret := (some .int)) (by decide) rfl (Nat.le_of_ble_eq_true rfl) hA (fun K hl C => ?_)
  subst hl
  change WW K G _ _ σ [(0, .ref (gA G 0 (0))), (1, .int (nI p)), (2, .int (x))] 0 []
  refine ww_aload_n C dX5_onto_0 rfl 0 rfl ?_
  refine ww_iload_n C dX5_onto_1 rfl 1 rfl ?_
  refine ww_callqR (cx_V (n := 1) (As := [.int (nI p)]) C  (c_X5_shapeOf_s (kL K) G hA _ cnt p hc hc8 hpc) gX5_onto_X5_shapeOf rfl ⟨rfl, rfl⟩ (by decide +kernel) (by decide) rfl (by decide) rfl rfl rfl (Nat.le_of_ble_eq_true rfl) dX5_onto_2) ?_
  refine ww_astore_n [(3, .ref (gA G 17 (p))), (0, .ref (gA G 0 (0))), (1, .int (nI p)), (2, .int (x))] C dX5_onto_5 rfl (by decide) rfl ?_
  refine ww_aload_n C dX5_onto_6 rfl 1 rfl ?_
  refine ww_iload_n C dX5_onto_7 rfl 3 rfl ?_
  refine ww_callqN (cx_V (n := 1) (As := [.int (x)]) C  (c_X5_shapeOf_n (kL K) G hA _ cnt hc hc8 x hu) gX5_onto_X5_shapeOf rfl ⟨rfl, rfl⟩ (by decide +kernel) (by decide) rfl (by decide) rfl rfl rfl (Nat.le_of_ble_eq_true rfl) dX5_onto_8) ?_
  refine ww_astoreN [(4, .null), (3, .ref (gA G 17 (p))), (0, .ref (gA G 0 (0))), (1, .int (nI p)), (2, .int (x))] C dX5_onto_11 (by decide) rfl ?_
  refine ww_aload_n C dX5_onto_13 rfl 1 rfl ?_
  refine ww_ifnull C dX5_onto_14 ?_
  refine ww_aloadN C dX5_onto_17 0 rfl ?_
  refine ww_ifnonnullN C dX5_onto_19 ?_
  refine ww_bipush (v := -2) C dX5_onto_22 (by decide) ?_
  refine ww_iret C dX5_onto_24 ?_
  exact ⟨rfl, rfl⟩
def symR (w a b : Int32) : Int32 := if w = 0 then a else if w = 1 then a + b else -3
set_option maxHeartbeats 4000000 in
set_option maxRecDepth 100000 in
theorem c_X5_symmetries_s (l : Launch) (G : Gx) (hA : wa G) (σ : Sg) (cnt p n : Nat) (hc : σ 0 0 5 = nI cnt) (hc8 : cnt ≤ 8) (hpc : p < cnt) (hp : p < 8) (hs : σ 14 (p + 1) 2 = nI n) (hn : n ≤ 14) (w : Int32) : CtI l yX5_symmetries wsX5_symmetries (rmd 5) G [.ref (gA G 0 (0)), .int (nI p), .int (w)] σ (fun r σ2 => r = symR w (nI (cntN (fun s => fitC n n (σ 15 (p + 1)) (σ 16 (p + 1)) (σ 15 (p + 1)) (σ 16 (p + 1)) (σ 17 p 2) (σ 17 p 2) (1) s) n)) (nI (cntN (fun s => fitC n n (σ 15 (p + 1)) (σ 16 (p + 1)) (σ 15 (p + 1)) (σ 16 (p + 1)) (σ 17 p 2) (σ 17 p 2) (-1) s) n)) ∧ σ2 = σ) := by
  refine ct_i (maxL := 5) (ret := (some .int)) (by decide) rfl (Nat.le_of_ble_eq_true rfl) hA (fun K hl C => ?_)
  subst hl
  change WW K G _ _ σ [(0, .ref (gA G 0 (0))), (1, .int (nI p)), (2, .int (w))] 0 []
  refine ww_aload_n C dX5_symmetries_0 rfl 0 rfl ?_
  refine ww_iload_n C dX5_symmetries_1 rfl 1 rfl ?_
  refine ww_callqR (cx_V (n := 1) (As := [.int (nI p)]) C  (c_X5_shapeOf_s (kL K) G hA _ cnt p hc hc8 hpc) gX5_symmetries_X5_shapeOf rfl ⟨rfl, rfl⟩ (by decide +kernel) (by decide) rfl (by decide) rfl rfl rfl (Nat.le_of_ble_eq_true rfl) dX5_symmetries_2) ?_
  refine ww_astore_n [(3, .ref (gA G 17 (p))), (0, .ref (gA G 0 (0))), (1, .int (nI p)), (2, .int (w))] C dX5_symmetries_5 rfl (by decide) rfl ?_
  refine ww_aload_n C dX5_symmetries_6 rfl 0 rfl ?_
  refine ww_ifnonnull 13 C dX5_symmetries_7 (by decide) ?_
  refine ww_iload_n C dX5_symmetries_13 rfl 3 rfl ?_
  refine ww_calliF (cx_S (n := 1) (As := [.int (w)]) C  (c_X5_isZeroOrOne (kL K) G hA _ _) gX5_symmetries_X5_isZeroOrOne rfl ⟨rfl, rfl⟩ (by decide +kernel) (by decide) rfl rfl (Nat.le_of_ble_eq_true rfl) dX5_symmetries_14) ?_
  refine ww_if_ne 23 C dX5_symmetries_17 (by decide) (fun h17 => ?_) (fun h17 => ?_)
  · have hz := of_decide_eq_true (bI_1.mp h17)
    refine ww_aload_n C dX5_symmetries_23 rfl 0 rfl ?_
    refine ww_iconst (v := 1) C dX5_symmetries_24 rfl ?_
    refine ww_calliF (cx_V (n := 1) (As := [.int (1)]) C  (c_X3_startCount (kL K) G hA _ p n hp hs hn _) gX5_symmetries_X3_startCount rfl ⟨rfl, rfl⟩ (by decide +kernel) (by decide) rfl hp rfl rfl rfl (Nat.le_of_ble_eq_true rfl) dX5_symmetries_25) ?_
    refine ww_istore (fun y1 => [(4, .int (y1)), (3, .ref (gA G 17 (p))), (0, .ref (gA G 0 (0))), (1, .int (nI p)), (2, .int (w))]) C dX5_symmetries_28 (by decide) (fun _ => rfl) (fun y1 ey1 => ?_)
    rw [ey1]; clear ey1 y1
    refine ww_iload_n C dX5_symmetries_30 rfl 4 rfl ?_
    refine ww_if_ne 39 C dX5_symmetries_31 (by decide) (fun h31 => ?_) (fun h31 => ?_)
    · refine ww_iload C dX5_symmetries_39 0 rfl ?_
      refine ww_aload_n C dX5_symmetries_41 rfl 1 rfl ?_
      refine ww_iconst (v := -1) C dX5_symmetries_42 rfl ?_
      refine ww_calliF (cx_V (n := 1) (As := [.int (-1)]) C  (c_X3_startCount (kL K) G hA _ p n hp hs hn _) gX5_symmetries_X3_startCount rfl ⟨rfl, rfl⟩ (by decide +kernel) (by decide) rfl hp rfl rfl rfl (Nat.le_of_ble_eq_true rfl) dX5_symmetries_43) ?_
      refine ww_iadd C dX5_symmetries_46 ?_
      refine ww_iret C dX5_symmetries_47 ?_
      exact ⟨by rw [symR, if_neg h31, if_pos (hz.resolve_left h31)], rfl⟩
    · refine ww_iload C dX5_symmetries_34 0 rfl ?_
      refine ww_goto 47 C dX5_symmetries_36 (by decide) ?_
      refine ww_iret C dX5_symmetries_47 ?_
      exact ⟨by rw [symR, if_pos h31], rfl⟩
  · have hz := of_decide_eq_false (bI_0.mp h17)
    refine ww_bipush (v := -3) C dX5_symmetries_20 (by decide) ?_
    refine ww_iret C dX5_symmetries_22 ?_
    exact ⟨by rw [symR, if_neg (fun q => hz (Or.inl q)), if_neg (fun q => hz (Or.inr q))], rfl⟩
set_option maxHeartbeats 4000000 in
set_option maxRecDepth 100000 in
theorem c_X5_symmetries_n (l : Launch) (G : Gx) (hA : wa G) (σ : Sg) (cnt : Nat) (hc : σ 0 0 5 = nI cnt) (hc8 : cnt ≤ 8) (x : Int32) (hu : ¬ (0 ≤ x ∧ x < nI cnt)) (w : Int32) : CtI l yX5_symmetries wsX5_symmetries (rmd 5) G [.ref (gA G 0 (0)), .int (x), .int (w)] σ (fun r σ2 => r = -2 ∧ σ2 = σ) := by
  refine ct_i (maxL := 5) (ret := (some .int)) (by decide) rfl (Nat.le_of_ble_eq_true rfl) hA (fun K hl C => ?_)
  subst hl
  change WW K G _ _ σ [(0, .ref (gA G 0 (0))), (1, .int (x)), (2, .int (w))] 0 []
  refine ww_aload_n C dX5_symmetries_0 rfl 0 rfl ?_
  refine ww_iload_n C dX5_symmetries_1 rfl 1 rfl ?_
  refine ww_callqN (cx_V (n := 1) (As := [.int (x)]) C  (c_X5_shapeOf_n (kL K) G hA _ cnt hc hc8 x hu) gX5_symmetries_X5_shapeOf rfl ⟨rfl, rfl⟩ (by decide +kernel) (by decide) rfl (by decide) rfl rfl rfl (Nat.le_of_ble_eq_true rfl) dX5_symmetries_2) ?_
  refine ww_astore_nN [(3, .null), (0, .ref (gA G 0 (0))), (1, .int (x)), (2, .int (w))] C dX5_symmetries_5 rfl (by decide) rfl ?_
  refine ww_aload_nN C dX5_symmetries_6 rfl 0 rfl ?_
  refine ww_ifnonnullN C dX5_symmetries_7 ?_
  refine ww_bipush (v := -2) C dX5_symmetries_10 (by decide) ?_
  refine ww_iret C dX5_symmetries_12 ?_
  exact ⟨rfl, rfl⟩
abbrev wi9 (x : Int32) : Prop := -1000 ≤ x ∧ x ≤ 1000
set_option maxHeartbeats 4000000 in
set_option maxRecDepth 100000 in
theorem c_X5_corner_o (l : Launch) (G : Gx) (hA : wa G) (σ : Sg) (n : Nat) (hs : σ 14 0 2 = nI n) (hn : n ≤ 14) (x y : Int32) (ho : ¬ (wi9 x ∧ wi9 y)) : CtI l yX5_corner wsX5_corner (rmd 3) G [.ref (gA G 0 (0)), .int (x), .int (y)] σ (fun r σ2 => r = -3 ∧ σ2 = σ) := by
  refine ct_i (maxL := 3) (ret := (some .int)) (by decide) rfl (Nat.le_of_ble_eq_true rfl) hA (fun K hl C => ?_)
  subst hl
  change WW K G _ _ σ [(0, .ref (gA G 0 (0))), (1, .int (x)), (2, .int (y))] 0 []
  refine ww_iload_n C dX5_corner_0 rfl 1 rfl ?_
  refine ww_sipush (v := 1000) C dX5_corner_1 (by decide) ?_
  refine ww_calliF (cx_S (n := 2) (As := [.int (x), .int (1000)]) C  (c_X5_isWithin (kL K) G hA _ _ _) gX5_corner_X5_isWithin rfl ⟨rfl, rfl⟩ (by decide +kernel) (by decide) rfl rfl (Nat.le_of_ble_eq_true rfl) dX5_corner_4) ?_
  refine ww_if_eq 20 C dX5_corner_7 (by decide) (fun h7 => ?_) (fun h7 => ?_)
  · have hx := of_decide_eq_false (bI_0.mp h7)
    refine ww_bipush (v := -3) C dX5_corner_20 (by decide) ?_
    refine ww_iret C dX5_corner_22 ?_
    exact ⟨rfl, rfl⟩
  · have hx := of_decide_eq_true (bI_1.mp h7)
    refine ww_iload_n C dX5_corner_10 rfl 2 rfl ?_
    refine ww_sipush (v := 1000) C dX5_corner_11 (by decide) ?_
    refine ww_calliF (cx_S (n := 2) (As := [.int (y), .int (1000)]) C  (c_X5_isWithin (kL K) G hA _ _ _) gX5_corner_X5_isWithin rfl ⟨rfl, rfl⟩ (by decide +kernel) (by decide) rfl rfl (Nat.le_of_ble_eq_true rfl) dX5_corner_14) ?_
    refine ww_if_ne 23 C dX5_corner_17 (by decide) (fun h17 => ?_) (fun h17 => ?_)
    · exact absurd ⟨hx, of_decide_eq_true (bI_1.mp h17)⟩ ho
    · have hy := of_decide_eq_false (bI_0.mp h17)
      refine ww_bipush (v := -3) C dX5_corner_20 (by decide) ?_
      refine ww_iret C dX5_corner_22 ?_
      exact ⟨rfl, rfl⟩
set_option maxHeartbeats 4000000 in
set_option maxRecDepth 100000 in
theorem c_X5_corner_f (l : Launch) (G : Gx) (hA : wa G) (σ : Sg) (n : Nat) (hs : σ 14 0 2 = nI n) (hn : n ≤ 14) (x y : Int32) (hw : wi9 x ∧ wi9 y) (h14 : n = 14) : CtI l yX5_corner wsX5_corner (rmd 3) G [.ref (gA G 0 (0)), .int (x), .int (y)] σ (fun r σ2 => r = -4 ∧ σ2 = σ) := by
  refine ct_i (maxL := 3) (ret := (some .int)) (by decide) rfl (Nat.le_of_ble_eq_true rfl) hA (fun K hl C => ?_)
  subst hl
  change WW K G _ _ σ [(0, .ref (gA G 0 (0))), (1, .int (x)), (2, .int (y))] 0 []
  refine ww_iload_n C dX5_corner_0 rfl 1 rfl ?_
  refine ww_sipush (v := 1000) C dX5_corner_1 (by decide) ?_
  refine ww_calliF (cx_S (n := 2) (As := [.int (x), .int (1000)]) C  (c_X5_isWithin (kL K) G hA _ _ _) gX5_corner_X5_isWithin rfl ⟨rfl, rfl⟩ (by decide +kernel) (by decide) rfl rfl (Nat.le_of_ble_eq_true rfl) dX5_corner_4) ?_
  refine ww_if_eq 20 C dX5_corner_7 (by decide) (fun h7 => ?_) (fun h7 => ?_)
  · exact absurd hw.1 (of_decide_eq_false (bI_0.mp h7))
  · have hx := of_decide_eq_true (bI_1.mp h7)
    refine ww_iload_n C dX5_corner_10 rfl 2 rfl ?_
    refine ww_sipush (v := 1000) C dX5_corner_11 (by decide) ?_
    refine ww_calliF (cx_S (n := 2) (As := [.int (y), .int (1000)]) C  (c_X5_isWithin (kL K) G hA _ _ _) gX5_corner_X5_isWithin rfl ⟨rfl, rfl⟩ (by decide +kernel) (by decide) rfl rfl (Nat.le_of_ble_eq_true rfl) dX5_corner_14) ?_
    refine ww_if_ne 23 C dX5_corner_17 (by decide) (fun h17 => ?_) (fun h17 => ?_)
    · have hy := of_decide_eq_true (bI_1.mp h17)
      refine ww_aload_n C dX5_corner_23 rfl 0 rfl ?_
      refine ww_gr (j := 0) (k := 0) (f := 0) C rfl rfl (by decide) rfl in_X5_corner_X5 (by decide) lk_X5_corner_10 dX5_corner_24 rfl ?_
      refine ww_calliF (cx_V (n := 0) (As := []) C  (c_X1_isFull (kL K) G hA _ 0 n (by decide) hs hn) gX5_corner_X1_isFull rfl ⟨rfl, rfl⟩ (by decide +kernel) (by decide) rfl (by decide) rfl rfl rfl (Nat.le_of_ble_eq_true rfl) dX5_corner_27) ?_
      refine ww_if_eq 36 C dX5_corner_30 (by decide) (fun h30 => ?_) (fun h30 => ?_)
      · exact absurd (of_decide_eq_false (bI_0.mp h30)) (by omega)
      · have hf := of_decide_eq_true (bI_1.mp h30)
        refine ww_bipush (v := -4) C dX5_corner_33 (by decide) ?_
        refine ww_iret C dX5_corner_35 ?_
        exact ⟨rfl, rfl⟩
    · exact absurd hw.2 (of_decide_eq_false (bI_0.mp h17))
set_option maxHeartbeats 4000000 in
set_option maxRecDepth 100000 in
theorem c_X5_corner_a (l : Launch) (G : Gx) (hA : wa G) (σ : Sg) (n : Nat) (hs : σ 14 0 2 = nI n) (hn : n ≤ 14) (x y : Int32) (hw : wi9 x ∧ wi9 y) (h14 : n < 14) : CtI l yX5_corner wsX5_corner (rmd 3) G [.ref (gA G 0 (0)), .int (x), .int (y)] σ (fun r σ2 => r = nI (n + 1) ∧ σ2 = sgu (sgu (sgu σ 15 0 n x) 16 0 n y) 14 0 2 (nI (n + 1))) := by
  refine ct_i (maxL := 3) (ret := (some .int)) (by decide) rfl (Nat.le_of_ble_eq_true rfl) hA (fun K hl C => ?_)
  subst hl
  change WW K G _ _ σ [(0, .ref (gA G 0 (0))), (1, .int (x)), (2, .int (y))] 0 []
  refine ww_iload_n C dX5_corner_0 rfl 1 rfl ?_
  refine ww_sipush (v := 1000) C dX5_corner_1 (by decide) ?_
  refine ww_calliF (cx_S (n := 2) (As := [.int (x), .int (1000)]) C  (c_X5_isWithin (kL K) G hA _ _ _) gX5_corner_X5_isWithin rfl ⟨rfl, rfl⟩ (by decide +kernel) (by decide) rfl rfl (Nat.le_of_ble_eq_true rfl) dX5_corner_4) ?_
  refine ww_if_eq 20 C dX5_corner_7 (by decide) (fun h7 => ?_) (fun h7 => ?_)
  · exact absurd hw.1 (of_decide_eq_false (bI_0.mp h7))
  · have hx := of_decide_eq_true (bI_1.mp h7)
    refine ww_iload_n C dX5_corner_10 rfl 2 rfl ?_
    refine ww_sipush (v := 1000) C dX5_corner_11 (by decide) ?_
    refine ww_calliF (cx_S (n := 2) (As := [.int (y), .int (1000)]) C  (c_X5_isWithin (kL K) G hA _ _ _) gX5_corner_X5_isWithin rfl ⟨rfl, rfl⟩ (by decide +kernel) (by decide) rfl rfl (Nat.le_of_ble_eq_true rfl) dX5_corner_14) ?_
    refine ww_if_ne 23 C dX5_corner_17 (by decide) (fun h17 => ?_) (fun h17 => ?_)
    · have hy := of_decide_eq_true (bI_1.mp h17)
      refine ww_aload_n C dX5_corner_23 rfl 0 rfl ?_
      refine ww_gr (j := 0) (k := 0) (f := 0) C rfl rfl (by decide) rfl in_X5_corner_X5 (by decide) lk_X5_corner_10 dX5_corner_24 rfl ?_
      refine ww_calliF (cx_V (n := 0) (As := []) C  (c_X1_isFull (kL K) G hA _ 0 n (by decide) hs hn) gX5_corner_X1_isFull rfl ⟨rfl, rfl⟩ (by decide +kernel) (by decide) rfl (by decide) rfl rfl rfl (Nat.le_of_ble_eq_true rfl) dX5_corner_27) ?_
      refine ww_if_eq 36 C dX5_corner_30 (by decide) (fun h30 => ?_) (fun h30 => ?_)
      · have hf := of_decide_eq_false (bI_0.mp h30)
        refine ww_aload_n C dX5_corner_36 rfl 0 rfl ?_
        refine ww_gr (j := 0) (k := 0) (f := 0) C rfl rfl (by decide) rfl in_X5_corner_X5 (by decide) lk_X5_corner_10 dX5_corner_37 rfl ?_
        refine ww_iload_n C dX5_corner_40 rfl 1 rfl ?_
        refine ww_iload_n C dX5_corner_41 rfl 2 rfl ?_
        refine ww_callvF (cx_V (n := 2) (As := [.int (x), .int (y)]) C  (c_X1_append (kL K) G hA _ 0 n (by decide) hs hn (by omega) _ _) gX5_corner_X1_append rfl ⟨rfl, rfl⟩ (by decide +kernel) (by decide) rfl (by decide) rfl rfl rfl (Nat.le_of_ble_eq_true rfl) dX5_corner_42) ?_
        refine ww_aload_n C dX5_corner_45 rfl 0 rfl ?_
        refine ww_gr (j := 0) (k := 0) (f := 0) C rfl rfl (by decide) rfl in_X5_corner_X5 (by decide) lk_X5_corner_10 dX5_corner_46 rfl ?_
        refine ww_gi (k := 14) (f := 2) C rfl rfl (by decide) rfl in_X5_corner_X1 (by decide) lk_X5_corner_60 dX5_corner_49 ?_
        refine ww_iret C dX5_corner_52 ?_
        exact ⟨by rw [sgu_self], rfl⟩
      · exact absurd (of_decide_eq_true (bI_1.mp h30)) (by omega)
    · exact absurd hw.2 (of_decide_eq_false (bI_0.mp h17))
end
section
theorem in_X4_leastNext_X3 : ∀ w ∈ wsX30, w ∈ wsX4_leastNext := by decide +kernel
theorem lk_X4_leastNext_15 : Cond.fieldLink RX4 15 "PolyCuts$Shape" "corners" "LPolyCuts$Corners;" ∈ wsX4_leastNext := by decide +kernel
theorem in_X4_leastNext_X1 : ∀ w ∈ wsX10, w ∈ wsX4_leastNext := by decide +kernel
theorem lk_X4_leastNext_21 : Cond.fieldLink RX4 21 "PolyCuts$Corners" "size" "I" ∈ wsX4_leastNext := by decide +kernel
theorem lk_X4_leastNext_31 : Cond.fieldLink RX4 31 "PolyCuts$Shape" "sight" "[[I" ∈ wsX4_leastNext := by decide +kernel
theorem in_X4_leastNext_X4 : ∀ w ∈ wsX40, w ∈ wsX4_leastNext := by decide +kernel
theorem lk_X4_leastNext_9 : Cond.fieldLink RX4 9 "PolyCuts$Walk" "stepsLeft" "[I" ∈ wsX4_leastNext := by decide +kernel
theorem in_X4_measure_X4 : ∀ w ∈ wsX40, w ∈ wsX4_measure := by decide +kernel
theorem lk_X4_measure_9 : Cond.fieldLink RX4 9 "PolyCuts$Walk" "stepsLeft" "[I" ∈ wsX4_measure := by decide +kernel
theorem in_X4_measure_X3 : ∀ w ∈ wsX30, w ∈ wsX4_measure := by decide +kernel
theorem lk_X4_measure_15 : Cond.fieldLink RX4 15 "PolyCuts$Shape" "corners" "LPolyCuts$Corners;" ∈ wsX4_measure := by decide +kernel
theorem in_X4_measure_X1 : ∀ w ∈ wsX10, w ∈ wsX4_measure := by decide +kernel
theorem lk_X4_measure_21 : Cond.fieldLink RX4 21 "PolyCuts$Corners" "size" "I" ∈ wsX4_measure := by decide +kernel
theorem in_X4_cornerAfter_X4 : ∀ w ∈ wsX40, w ∈ wsX4_cornerAfter := by decide +kernel
theorem lk_X4_cornerAfter_9 : Cond.fieldLink RX4 9 "PolyCuts$Walk" "stepsLeft" "[I" ∈ wsX4_cornerAfter := by decide +kernel
theorem in_X5_way_X3 : ∀ w ∈ wsX30, w ∈ wsX5_way := by decide +kernel
theorem lk_X5_way_93 : Cond.fieldLink RX5 93 "PolyCuts$Shape" "corners" "LPolyCuts$Corners;" ∈ wsX5_way := by decide +kernel
theorem in_X5_way_X5 : ∀ w ∈ wsX50, w ∈ wsX5_way := by decide +kernel
theorem lk_X5_way_33 : Cond.fieldLink RX5 33 "PolyCuts" "walk" "LPolyCuts$Walk;" ∈ wsX5_way := by decide +kernel
theorem in_X5_way_X4 : ∀ w ∈ wsX40, w ∈ wsX5_way := by decide +kernel
theorem lk_X5_way_142 : Cond.fieldLink RX5 142 "PolyCuts$Walk" "stepsLeft" "[I" ∈ wsX5_way := by decide +kernel
theorem in_X5_step_X3 : ∀ w ∈ wsX30, w ∈ wsX5_step := by decide +kernel
theorem lk_X5_step_93 : Cond.fieldLink RX5 93 "PolyCuts$Shape" "corners" "LPolyCuts$Corners;" ∈ wsX5_step := by decide +kernel
theorem in_X5_step_X5 : ∀ w ∈ wsX50, w ∈ wsX5_step := by decide +kernel
theorem lk_X5_step_33 : Cond.fieldLink RX5 33 "PolyCuts" "walk" "LPolyCuts$Walk;" ∈ wsX5_step := by decide +kernel
def sgr (σ : Sg) (k i : Nat) (D : Nat → Int32) : Sg := fun k' i' f => if k' = k ∧ i' = i then D f else σ k' i' f
theorem sgr_self {σ : Sg} {k i : Nat} {D : Nat → Int32} : sgr σ k i D k i = D := by funext f; exact if_pos ⟨rfl, rfl⟩
theorem sgr_kk {σ : Sg} {k i k' : Nat} {D : Nat → Int32} (h : k' ≠ k) : sgr σ k i D k' = σ k' := by funext i' f; exact if_neg (fun q => h q.1)
theorem sgr_ii {σ : Sg} {k i k' i' : Nat} {D : Nat → Int32} (h : i' ≠ i) : sgr σ k i D k' i' = σ k' i' := by funext f; exact if_neg (fun q => h q.2)
theorem sgr_upd {σ : Sg} {k i f : Nat} {D : Nat → Int32} {v : Int32} : sgu (sgr σ k i D) k i f v = sgr σ k i (upd D f v) := by
  funext k' i' f'
  by_cases h : k' = k ∧ i' = i
  · by_cases hf : f' = f
    · simp [sgu, sgr, upd, h, hf]
    · simp [sgu, sgr, upd, h, hf]
  · simp only [sgu, sgr, if_neg h]
    rw [if_neg (fun q => h ⟨q.1, q.2.1⟩)]
theorem sgr_id {σ : Sg} {k i : Nat} : sgr σ k i (σ k i) = σ := by
  funext k' i' f'
  by_cases h : k' = k ∧ i' = i
  · obtain ⟨rfl, rfl⟩ := h; exact if_pos ⟨rfl, rfl⟩
  · exact if_neg h
def lnP (s D : Nat → Int32) (left : Int32) : Nat → Bool := fun j => !decide (s j = 0) && decide (D j = left)
def mIn (n : Nat) (S : Nat → Nat → Int32) (st : Int32) (D : Nat → Int32) : Nat → Nat → Int32
  | 0 => D
  | i + 1 => if mIn n S st D i i = -1 ∧ fndN (lnP (S i) (mIn n S st D i) (st - 1)) 0 n ≠ none then upd (mIn n S st D i) i st else mIn n S st D i
def mOut (n : Nat) (S : Nat → Nat → Int32) (D : Nat → Int32) : Nat → Nat → Int32
  | 0 => D
  | k + 1 => mIn n S (nI (k + 1)) (mOut n S D k) n
def mD0 (n g : Nat) (D : Nat → Int32) : Nat → Int32 := fun f => if f = g then 0 else if f < n then -1 else D f
def walkC (n : Nat) (S : Nat → Nat → Int32) (D : Nat → Int32) : Nat → Nat → Int32 → Int32
  | 0, h, _ => nI h
  | c + 1, h, left => match fndN (lnP (S h) D left) 0 n with
    | none => -1
    | some j => walkC n S D c j (left - 1)
def caR (n : Nat) (S : Nat → Nat → Int32) (D : Nat → Int32) (fr : Nat) (x : Int32) : Int32 := if 0 ≤ x ∧ x ≤ D fr then walkC n S D x.toNatClampNeg fr (D fr - 1) else -1
theorem mIn_t {n : Nat} {S : Nat → Nat → Int32} {st : Int32} {D : Nat → Int32} {i : Nat} (h1 : mIn n S st D i i = -1) (h2 : fndN (lnP (S i) (mIn n S st D i) (st - 1)) 0 n ≠ none) : mIn n S st D (i + 1) = upd (mIn n S st D i) i st := by rw [mIn, if_pos ⟨h1, h2⟩]
theorem mIn_f {n : Nat} {S : Nat → Nat → Int32} {st : Int32} {D : Nat → Int32} {i : Nat} (h : ¬ (mIn n S st D i i = -1 ∧ fndN (lnP (S i) (mIn n S st D i) (st - 1)) 0 n ≠ none)) : mIn n S st D (i + 1) = mIn n S st D i := by rw [mIn, if_neg h]
theorem ln_0 {s D : Nat → Int32} {l : Int32} {j : Nat} (h : s j = 0) : lnP s D l j = false := by simp [lnP, h]
theorem ln_1 {s D : Nat → Int32} {l : Int32} {j : Nat} (h : ¬ D j = l) : lnP s D l j = false := by simp [lnP, h]
theorem ln_2 {s D : Nat → Int32} {l : Int32} {j : Nat} (h0 : ¬ s j = 0) (h : D j = l) : lnP s D l j = true := by simp [lnP, h0, h]
theorem m0_s {i : Nat} {D : Nat → Int32} : upd (fun f => if f < i then -1 else D f) i (-1) = fun f => if f < i + 1 then -1 else D f := by
  funext f
  by_cases h : f = i
  · subst h; simp [upd]
  · by_cases h2 : f < i
    · simp [upd, h, h2, show f < i + 1 by omega]
    · simp [upd, h, h2, show ¬ f < i + 1 by omega]
theorem m0_e {n g : Nat} {D : Nat → Int32} : upd (fun f => if f < n then -1 else D f) g 0 = fun f => if f = g then 0 else if f < n then -1 else D f := by
  funext f
  by_cases h : f = g
  · simp [upd, h]
  · simp [upd, h]
set_option maxHeartbeats 4000000 in
set_option maxRecDepth 100000 in
theorem lp_X4_leastNext {K : Kx} {G : Gx} (hA : wa G) (C : CX K G cX4_leastNext 5 RX4 wsX4_leastNext (rmd 1) (some .int)) (σ : Sg) (p n : Nat) (hp : p < 8) (hs : σ 14 (p + 1) 2 = nI n) (hn : n ≤ 14) (h : Nat) (hh : h < 14) (left : Int32) : ∀ (f j : Nat), n - j < f → j ≤ n → fndN (lnP (σ 19 (14 * p + h)) (σ 3 0) left) j n = fndN (lnP (σ 19 (14 * p + h)) (σ 3 0) left) 0 n → WW K G 5 (QI K G (fun r σ2 => r = optI (fndN (lnP (σ 19 (14 * p + h)) (σ 3 0) left) 0 n) ∧ σ2 = σ)) σ [(4, .int (nI j)), (0, .ref (gA G 2 (0))), (1, .ref (gA G 17 (p))), (2, .int (nI h)), (3, .int (left))] 3 [] := by
  intro f
  induction f with
  | zero => intro j  h; exact absurd h (Nat.not_lt_zero _)
  | succ f ih =>
    intro j  hf hj hv
    refine ww_iload C dX4_leastNext_3 0 rfl ?_
    refine ww_aload_n C dX4_leastNext_5 rfl 2 rfl ?_
    refine ww_gr (j := p + 1) (k := 17) (f := 0) C rfl rfl hp rfl in_X4_leastNext_X3 (by decide) lk_X4_leastNext_15 dX4_leastNext_6 rfl ?_
    refine ww_gi (k := 14) (f := 2) C rfl rfl (Nat.add_lt_add_right hp 1) rfl in_X4_leastNext_X1 (by decide) lk_X4_leastNext_21 dX4_leastNext_9 ?_
    refine ww_icmp_ge 47 C dX4_leastNext_12 (by decide) (fun h12 => ?_) (fun h12 => ?_)
    · have g12 : n ≤ j := (cv_le (a := n) (b := j) hs rfl (by omega) (by omega)).mp h12
      refine ww_iconst (v := -1) C dX4_leastNext_47 rfl ?_
      refine ww_iret C dX4_leastNext_48 ?_
      exact ⟨by rw [← hv, fndN_end g12]; rfl, rfl⟩
    · have g12 : ¬ n ≤ j := fun q => h12 ((cv_le (a := n) (b := j) hs rfl (by omega) (by omega)).mpr q)
      refine ww_aload_n C dX4_leastNext_15 rfl 2 rfl ?_
      refine ww_gr (j := p) (k := 17) (f := 1) C rfl rfl hp rfl in_X4_leastNext_X3 (by decide) lk_X4_leastNext_31 dX4_leastNext_16 rfl ?_
      refine ww_iload_n C dX4_leastNext_19 rfl 3 rfl ?_
      refine ww_aald (k := 18) (j := h) (j' := 14 * p + h) C rfl (by decide) hp (by decide) dX4_leastNext_20 rfl hh rfl ?_
      refine ww_iload C dX4_leastNext_21 0 rfl ?_
      refine ww_iald (k := 19) (j := j) C rfl (dm19 hp hh) (by decide) dX4_leastNext_23 rfl (by omega) ?_
      refine ww_if_eq 41 C dX4_leastNext_24 (by decide) (fun h24 => ?_) (fun h24 => ?_)
      · refine ww_iinc (q := 0) (fun y1 => [(4, .int (y1)), (0, .ref (gA G 2 (0))), (1, .ref (gA G 17 (p))), (2, .int (nI h)), (3, .int (left))]) C dX4_leastNext_41 rfl (by decide) (fun _ => rfl) (fun y1 ey1 => ?_)
        obtain rfl : y1 = nI (j + 1) := ninc rfl ey1
        refine ww_goto 3 C dX4_leastNext_44 (by decide) ?_
        exact ww_sub [0, 1, 2, 3, 4] rfl (ih (j + 1) (by omega) (by omega) (by rw [← fndN_f (by omega) (ln_0 h24)]; exact hv))
      · refine ww_aload_n C dX4_leastNext_27 rfl 1 rfl ?_
        refine ww_gr (j := 0) (k := 2) (f := 0) C rfl rfl (by decide) rfl in_X4_leastNext_X4 (by decide) lk_X4_leastNext_9 dX4_leastNext_28 rfl ?_
        refine ww_iload C dX4_leastNext_31 0 rfl ?_
        refine ww_iald (k := 3) (j := j) C rfl (by decide) (by decide) dX4_leastNext_33 rfl (by omega) ?_
        refine ww_iload_n C dX4_leastNext_34 rfl 4 rfl ?_
        refine ww_icmp_ne 41 C dX4_leastNext_35 (by decide) (fun h35 => ?_) (fun h35 => ?_)
        · refine ww_iinc (q := 0) (fun y2 => [(4, .int (y2)), (0, .ref (gA G 2 (0))), (1, .ref (gA G 17 (p))), (2, .int (nI h)), (3, .int (left))]) C dX4_leastNext_41 rfl (by decide) (fun _ => rfl) (fun y2 ey2 => ?_)
          obtain rfl : y2 = nI (j + 1) := ninc rfl ey2
          refine ww_goto 3 C dX4_leastNext_44 (by decide) ?_
          exact ww_sub [0, 1, 2, 3, 4] rfl (ih (j + 1) (by omega) (by omega) (by rw [← fndN_f (by omega) (ln_1 h35)]; exact hv))
        · refine ww_iload C dX4_leastNext_38 0 rfl ?_
          refine ww_iret C dX4_leastNext_40 ?_
          exact ⟨by rw [← hv, fndN_t (by omega) (ln_2 h24 h35)]; rfl, rfl⟩
set_option maxHeartbeats 4000000 in
set_option maxRecDepth 100000 in
theorem c_X4_leastNext (l : Launch) (G : Gx) (hA : wa G) (σ : Sg) (p n : Nat) (hp : p < 8) (hs : σ 14 (p + 1) 2 = nI n) (hn : n ≤ 14) (h : Nat) (hh : h < 14) (left : Int32) : CtI l yX4_leastNext wsX4_leastNext (rmd 1) G [.ref (gA G 2 (0)), .ref (gA G 17 (p)), .int (nI h), .int (left)] σ (fun r σ2 => r = optI (fndN (lnP (σ 19 (14 * p + h)) (σ 3 0) left) 0 n) ∧ σ2 = σ) := by
  refine ct_i (maxL := 5) (ret := (some .int)) (by decide) rfl (Nat.le_of_ble_eq_true rfl) hA (fun K hl C => ?_)
  subst hl
  change WW K G _ _ σ [(0, .ref (gA G 2 (0))), (1, .ref (gA G 17 (p))), (2, .int (nI h)), (3, .int (left))] 0 []
  refine ww_iconst (v := 0) C dX4_leastNext_0 rfl ?_
  refine ww_istore (fun y1 => [(4, .int (y1)), (0, .ref (gA G 2 (0))), (1, .ref (gA G 17 (p))), (2, .int (nI h)), (3, .int (left))]) C dX4_leastNext_1 (by decide) (fun _ => rfl) (fun y1 ey1 => ?_)
  obtain rfl : y1 = nI 0 := (ey1.trans (by decide))
  exact lp_X4_leastNext hA C σ p n hp hs hn h hh left (n + 1) 0 (by omega) (by omega) rfl
set_option maxHeartbeats 4000000 in
set_option maxRecDepth 100000 in
theorem lp_X4_measure_i {K : Kx} {G : Gx} (hA : wa G) (C : CX K G cX4_measure 6 RX4 wsX4_measure (rmd 2) none) (σ : Sg) (p n : Nat) (hp : p < 8) (hs : σ 14 (p + 1) 2 = nI n) (hn : n ≤ 14) (g : Nat) (hg : g < n) (st : Nat) (h1 : 1 ≤ st) (hst1 : st < n) (kx : WW K G 6 (QV K G (fun σ2 => σ2 = sgr σ 3 0 (mOut n (fun a b => σ 19 (14 * p + a) b) (mD0 n g (σ 3 0)) (n - 1)))) (sgr σ 3 0 (mIn n (fun a b => σ 19 (14 * p + a) b) (nI st) (mOut n (fun a b => σ 19 (14 * p + a) b) (mD0 n g (σ 3 0)) (st - 1)) n)) [(4, .int (nI st)), (3, .int (nI n)), (0, .ref (gA G 2 (0))), (1, .ref (gA G 17 (p))), (2, .int (nI g))] 97 []) : ∀ (f i : Nat) (τ : Sg), n - i < f → i ≤ n → τ = sgr σ 3 0 (mIn n (fun a b => σ 19 (14 * p + a) b) (nI st) (mOut n (fun a b => σ 19 (14 * p + a) b) (mD0 n g (σ 3 0)) (st - 1)) i) → WW K G 6 (QV K G (fun σ2 => σ2 = sgr σ 3 0 (mOut n (fun a b => σ 19 (14 * p + a) b) (mD0 n g (σ 3 0)) (n - 1)))) τ [(5, .int (nI i)), (4, .int (nI st)), (3, .int (nI n)), (0, .ref (gA G 2 (0))), (1, .ref (gA G 17 (p))), (2, .int (nI g))] 50 [] := by
  intro f
  induction f with
  | zero => intro i τ h; exact absurd h (Nat.not_lt_zero _)
  | succ f ih =>
    intro i τ hf hi ht
    have hst : τ 14 (p + 1) 2 = nI n := by rw [ht, sgr_kk (by decide)]; exact hs
    refine ww_iload C dX4_measure_50 0 rfl ?_
    refine ww_iload_n C dX4_measure_52 rfl 2 rfl ?_
    refine ww_icmp_ge 97 C dX4_measure_53 (by decide) (fun h53 => ?_) (fun h53 => ?_)
    · have g53 : n ≤ i := (cv_le (a := n) (b := i) rfl rfl (by omega) (by omega)).mp h53
      exact ww_sub [1, 2, 3, 4, 5] rfl (by rw [ht, show i = n by omega]; exact kx)
    · have g53 : ¬ n ≤ i := fun q => h53 ((cv_le (a := n) (b := i) rfl rfl (by omega) (by omega)).mpr q)
      refine ww_aload_n C dX4_measure_56 rfl 3 rfl ?_
      refine ww_gr (j := 0) (k := 2) (f := 0) C rfl rfl (by decide) rfl in_X4_measure_X4 (by decide) lk_X4_measure_9 dX4_measure_57 rfl ?_
      refine ww_iload C dX4_measure_60 0 rfl ?_
      refine ww_iald (k := 3) (j := i) C rfl (by decide) (by decide) dX4_measure_62 rfl (by omega) ?_
      refine ww_iconst (v := -1) C dX4_measure_63 rfl ?_
      refine ww_icmp_ne 91 C dX4_measure_64 (by decide) (fun h64 => ?_) (fun h64 => ?_)
      · refine ww_iinc (q := 0) (fun y1 => [(5, .int (y1)), (4, .int (nI st)), (3, .int (nI n)), (0, .ref (gA G 2 (0))), (1, .ref (gA G 17 (p))), (2, .int (nI g))]) C dX4_measure_91 rfl (by decide) (fun _ => rfl) (fun y1 ey1 => ?_)
        obtain rfl : y1 = nI (i + 1) := ninc rfl ey1
        refine ww_goto 50 C dX4_measure_94 (by decide) ?_
        exact ww_sub [0, 1, 2, 3, 4, 5] rfl (ih (i + 1) _ (by omega) (by omega) (ht.trans (by rw [mIn_f (fun q => h64 (by rw [ht, sgr_self]; exact q.1))])))
      · refine ww_aload_n C dX4_measure_67 rfl 3 rfl ?_
        refine ww_aload_n C dX4_measure_68 rfl 4 rfl ?_
        refine ww_iload C dX4_measure_69 0 rfl ?_
        refine ww_iload C dX4_measure_71 1 rfl ?_
        refine ww_iconst (v := 1) C dX4_measure_73 rfl ?_
        refine ww_isub C dX4_measure_74 ?_
        refine ww_calliF (cx_V (n := 3) (As := [.ref (gA G 17 (p)), .int (nI i), .int ((nI st) - (1))]) C  (c_X4_leastNext (kL K) G hA _ p n hp hst hn i (by omega) _) gX4_measure_X4_leastNext rfl ⟨rfl, rfl⟩ (by decide +kernel) (by decide) rfl (by decide) rfl rfl rfl (Nat.le_of_ble_eq_true rfl) dX4_measure_75) ?_
        refine ww_iconst (v := -1) C dX4_measure_78 rfl ?_
        refine ww_icmp_eq 91 C dX4_measure_79 (by decide) (fun h79 => ?_) (fun h79 => ?_)
        · refine ww_iinc (q := 0) (fun y2 => [(5, .int (y2)), (4, .int (nI st)), (3, .int (nI n)), (0, .ref (gA G 2 (0))), (1, .ref (gA G 17 (p))), (2, .int (nI g))]) C dX4_measure_91 rfl (by decide) (fun _ => rfl) (fun y2 ey2 => ?_)
          obtain rfl : y2 = nI (i + 1) := ninc rfl ey2
          refine ww_goto 50 C dX4_measure_94 (by decide) ?_
          exact ww_sub [0, 1, 2, 3, 4, 5] rfl (ih (i + 1) _ (by omega) (by omega) (ht.trans (by rw [mIn_f (fun q => q.2 (optI_m rfl (by rw [ht, sgr_self, sgr_kk (by decide)] at h79; exact h79) (by omega)))])))
        · refine ww_aload_n C dX4_measure_82 rfl 3 rfl ?_
          refine ww_gr (j := 0) (k := 2) (f := 0) C rfl rfl (by decide) rfl in_X4_measure_X4 (by decide) lk_X4_measure_9 dX4_measure_83 rfl ?_
          refine ww_iload C dX4_measure_86 0 rfl ?_
          refine ww_iload C dX4_measure_88 1 rfl ?_
          refine ww_iast (k := 3) (j := i) C rfl (by decide) (by decide) dX4_measure_90 rfl (by omega) ?_
          obtain ⟨σ3, hσ3⟩ : ∃ z : Sg, z = (sgu τ 3 (0) (i) (nI st)) := ⟨_, rfl⟩
          rw [← hσ3]
          refine ww_iinc (q := 0) (fun y4 => [(5, .int (y4)), (4, .int (nI st)), (3, .int (nI n)), (0, .ref (gA G 2 (0))), (1, .ref (gA G 17 (p))), (2, .int (nI g))]) C dX4_measure_91 rfl (by decide) (fun _ => rfl) (fun y4 ey4 => ?_)
          obtain rfl : y4 = nI (i + 1) := ninc rfl ey4
          refine ww_goto 50 C dX4_measure_94 (by decide) ?_
          exact ww_sub [0, 1, 2, 3, 4, 5] rfl (ih (i + 1) _ (by omega) (by omega) (by rw [hσ3, ht, sgr_upd, mIn_t (by rw [ht, sgr_self] at h64; exact h64) (optI_n (by rw [ht, sgr_self, sgr_kk (by decide)] at h79; exact h79))]))
set_option maxHeartbeats 4000000 in
set_option maxRecDepth 100000 in
theorem lp_X4_measure_s {K : Kx} {G : Gx} (hA : wa G) (C : CX K G cX4_measure 6 RX4 wsX4_measure (rmd 2) none) (σ : Sg) (p n : Nat) (hp : p < 8) (hs : σ 14 (p + 1) 2 = nI n) (hn : n ≤ 14) (g : Nat) (hg : g < n) : ∀ (f st : Nat) (τ : Sg), n - st < f → 1 ≤ st → st ≤ n → τ = sgr σ 3 0 (mOut n (fun a b => σ 19 (14 * p + a) b) (mD0 n g (σ 3 0)) (st - 1)) → WW K G 6 (QV K G (fun σ2 => σ2 = sgr σ 3 0 (mOut n (fun a b => σ 19 (14 * p + a) b) (mD0 n g (σ 3 0)) (n - 1)))) τ [(4, .int (nI st)), (3, .int (nI n)), (0, .ref (gA G 2 (0))), (1, .ref (gA G 17 (p))), (2, .int (nI g))] 41 [] := by
  intro f
  induction f with
  | zero => intro st τ h; exact absurd h (Nat.not_lt_zero _)
  | succ f ih =>
    intro st τ hf h1 hi ht
    have hst : τ 14 (p + 1) 2 = nI n := by rw [ht, sgr_kk (by decide)]; exact hs
    refine ww_iload C dX4_measure_41 0 rfl ?_
    refine ww_iload_n C dX4_measure_43 rfl 1 rfl ?_
    refine ww_icmp_ge 103 C dX4_measure_44 (by decide) (fun h44 => ?_) (fun h44 => ?_)
    · have g44 : n ≤ st := (cv_le (a := n) (b := st) rfl rfl (by omega) (by omega)).mp h44
      refine ww_vret C dX4_measure_103 ?_
      rw [ht, show st = n by omega]
    · have g44 : ¬ n ≤ st := fun q => h44 ((cv_le (a := n) (b := st) rfl rfl (by omega) (by omega)).mpr q)
      refine ww_iconst (v := 0) C dX4_measure_47 rfl ?_
      refine ww_istore (fun y1 => [(5, .int (y1)), (4, .int (nI st)), (3, .int (nI n)), (0, .ref (gA G 2 (0))), (1, .ref (gA G 17 (p))), (2, .int (nI g))]) C dX4_measure_48 (by decide) (fun _ => rfl) (fun y1 ey1 => ?_)
      obtain rfl : y1 = nI 0 := (ey1.trans (by decide))
      refine ww_sub [0, 1, 2, 3, 4, 5] rfl (lp_X4_measure_i hA C σ p n hp hs hn g hg st h1 (by omega) ?_ (n + 1) 0 τ (by omega) (by omega) ht)
      refine ww_iinc (q := 0) (fun y2 => [(4, .int (y2)), (3, .int (nI n)), (0, .ref (gA G 2 (0))), (1, .ref (gA G 17 (p))), (2, .int (nI g))]) C dX4_measure_97 rfl (by decide) (fun _ => rfl) (fun y2 ey2 => ?_)
      obtain rfl : y2 = nI (st + 1) := ninc rfl ey2
      refine ww_goto 41 C dX4_measure_100 (by decide) ?_
      exact ww_sub [0, 1, 2, 3, 4] rfl (ih (st + 1) _ (by omega) (by omega) (by omega) (by rw [show st + 1 - 1 = (st - 1) + 1 by omega, mOut, show st - 1 + 1 = st by omega]))
set_option maxHeartbeats 4000000 in
set_option maxRecDepth 100000 in
theorem lp_X4_measure_0 {K : Kx} {G : Gx} (hA : wa G) (C : CX K G cX4_measure 6 RX4 wsX4_measure (rmd 2) none) (σ : Sg) (p n : Nat) (hp : p < 8) (hs : σ 14 (p + 1) 2 = nI n) (hn : n ≤ 14) (g : Nat) (hg : g < n) : ∀ (f i : Nat) (τ : Sg), n - i < f → i ≤ n → τ = sgr σ 3 0 (fun f => if f < i then -1 else σ 3 0 f) → WW K G 6 (QV K G (fun σ2 => σ2 = sgr σ 3 0 (mOut n (fun a b => σ 19 (14 * p + a) b) (mD0 n g (σ 3 0)) (n - 1)))) τ [(4, .int (nI i)), (3, .int (nI n)), (0, .ref (gA G 2 (0))), (1, .ref (gA G 17 (p))), (2, .int (nI g))] 11 [] := by
  intro f
  induction f with
  | zero => intro i τ h; exact absurd h (Nat.not_lt_zero _)
  | succ f ih =>
    intro i τ hf hi ht
    have hst : τ 14 (p + 1) 2 = nI n := by rw [ht, sgr_kk (by decide)]; exact hs
    refine ww_iload C dX4_measure_11 0 rfl ?_
    refine ww_iload_n C dX4_measure_13 rfl 1 rfl ?_
    refine ww_icmp_ge 31 C dX4_measure_14 (by decide) (fun h14 => ?_) (fun h14 => ?_)
    · have g14 : n ≤ i := (cv_le (a := n) (b := i) rfl rfl (by omega) (by omega)).mp h14
      refine ww_aload_n C dX4_measure_31 rfl 2 rfl ?_
      refine ww_gr (j := 0) (k := 2) (f := 0) C rfl rfl (by decide) rfl in_X4_measure_X4 (by decide) lk_X4_measure_9 dX4_measure_32 rfl ?_
      refine ww_iload_n C dX4_measure_35 rfl 4 rfl ?_
      refine ww_iconst (v := 0) C dX4_measure_36 rfl ?_
      refine ww_iast (k := 3) (j := g) C rfl (by decide) (by decide) dX4_measure_37 rfl (by omega) ?_
      obtain ⟨σ1, hσ1⟩ : ∃ z : Sg, z = (sgu τ 3 (0) (g) (0)) := ⟨_, rfl⟩
      rw [← hσ1]
      refine ww_iconst (v := 1) C dX4_measure_38 rfl ?_
      refine ww_istore (fun y2 => [(4, .int (y2)), (3, .int (nI n)), (0, .ref (gA G 2 (0))), (1, .ref (gA G 17 (p))), (2, .int (nI g))]) C dX4_measure_39 (by decide) (fun _ => rfl) (fun y2 ey2 => ?_)
      obtain rfl : y2 = nI 1 := (ey2.trans (by decide))
      exact ww_sub [0, 1, 2, 3, 4] rfl (lp_X4_measure_s hA C σ p n hp hs hn g hg (n + 1) 1 _ (by omega) (by omega) (by omega) (by rw [hσ1, ht, sgr_upd, show i = n by omega, m0_e]; rfl))
    · have g14 : ¬ n ≤ i := fun q => h14 ((cv_le (a := n) (b := i) rfl rfl (by omega) (by omega)).mpr q)
      refine ww_aload_n C dX4_measure_17 rfl 2 rfl ?_
      refine ww_gr (j := 0) (k := 2) (f := 0) C rfl rfl (by decide) rfl in_X4_measure_X4 (by decide) lk_X4_measure_9 dX4_measure_18 rfl ?_
      refine ww_iload C dX4_measure_21 0 rfl ?_
      refine ww_iconst (v := -1) C dX4_measure_23 rfl ?_
      refine ww_iast (k := 3) (j := i) C rfl (by decide) (by decide) dX4_measure_24 rfl (by omega) ?_
      obtain ⟨σ3, hσ3⟩ : ∃ z : Sg, z = (sgu τ 3 (0) (i) (-1)) := ⟨_, rfl⟩
      rw [← hσ3]
      refine ww_iinc (q := 0) (fun y4 => [(4, .int (y4)), (3, .int (nI n)), (0, .ref (gA G 2 (0))), (1, .ref (gA G 17 (p))), (2, .int (nI g))]) C dX4_measure_25 rfl (by decide) (fun _ => rfl) (fun y4 ey4 => ?_)
      obtain rfl : y4 = nI (i + 1) := ninc rfl ey4
      refine ww_goto 11 C dX4_measure_28 (by decide) ?_
      exact ww_sub [0, 1, 2, 3, 4] rfl (ih (i + 1) _ (by omega) (by omega) (by rw [hσ3, ht, sgr_upd, m0_s]))
set_option maxHeartbeats 4000000 in
set_option maxRecDepth 100000 in
theorem c_X4_measure (l : Launch) (G : Gx) (hA : wa G) (σ : Sg) (p n : Nat) (hp : p < 8) (hs : σ 14 (p + 1) 2 = nI n) (hn : n ≤ 14) (g : Nat) (hg : g < n) : CtV l yX4_measure wsX4_measure (rmd 2) G [.ref (gA G 2 (0)), .ref (gA G 17 (p)), .int (nI g)] σ (fun σ2 => σ2 = sgr σ 3 0 (mOut n (fun a b => σ 19 (14 * p + a) b) (mD0 n g (σ 3 0)) (n - 1))) := by
  refine ct_v (maxL := 6) (ret := none) (by decide) rfl (Nat.le_of_ble_eq_true rfl) hA (fun K hl C => ?_)
  subst hl
  change WW K G _ _ σ [(0, .ref (gA G 2 (0))), (1, .ref (gA G 17 (p))), (2, .int (nI g))] 0 []
  refine ww_aload_n C dX4_measure_0 rfl 1 rfl ?_
  refine ww_gr (j := p + 1) (k := 17) (f := 0) C rfl rfl hp rfl in_X4_measure_X3 (by decide) lk_X4_measure_15 dX4_measure_1 rfl ?_
  refine ww_gi (k := 14) (f := 2) C rfl rfl (Nat.add_lt_add_right hp 1) rfl in_X4_measure_X1 (by decide) lk_X4_measure_21 dX4_measure_4 ?_
  refine ww_istore_n (fun y1 => [(3, .int (y1)), (0, .ref (gA G 2 (0))), (1, .ref (gA G 17 (p))), (2, .int (nI g))]) C dX4_measure_7 rfl (by decide) (fun _ => rfl) (fun y1 ey1 => ?_)
  obtain rfl : y1 = nI n := (ey1.trans hs)
  refine ww_iconst (v := 0) C dX4_measure_8 rfl ?_
  refine ww_istore (fun y2 => [(4, .int (y2)), (3, .int (nI n)), (0, .ref (gA G 2 (0))), (1, .ref (gA G 17 (p))), (2, .int (nI g))]) C dX4_measure_9 (by decide) (fun _ => rfl) (fun y2 ey2 => ?_)
  obtain rfl : y2 = nI 0 := (ey2.trans (by decide))
  exact ww_sub [0, 1, 2, 3, 4] rfl (lp_X4_measure_0 hA C σ p n hp hs hn g hg (n + 1) 0 σ (by omega) (by omega) (by rw [show (fun f => if f < 0 then (-1 : Int32) else σ 3 0 f) = σ 3 0 from rfl, sgr_id]))
theorem dec9 {a : Int32} {c : Nat} : a - nI (c + 1) + Int32.ofInt (-1) = a - nI (c + 1 + 1) := by
  rw [nI_succ (c + 1)]
  have h : Int32.ofInt (-1) = -1 := by decide
  rw [h]
  grind
theorem dec8 {a : Int32} {c : Nat} : a - nI (c + 1) - 1 = a - nI (c + 1 + 1) := by
  rw [nI_succ (c + 1)]
  grind
theorem lt9 {df kk c : Nat} (h1 : df < 2 ^ 30) (h2 : kk < 2 ^ 30) (h3 : c + 1 < 2 ^ 30) : nI df - nI (c + 1) < nI df - nI kk ↔ kk ≤ c := by
  rw [Int32.lt_iff_toInt_lt, pk_sub_toInt h1 h3, pk_sub_toInt h1 h2]
  omega
theorem walkC_s {n : Nat} {S : Nat → Nat → Int32} {D : Nat → Int32} {c h j : Nat} {left : Int32} (hq : fndN (lnP (S h) D left) 0 n = some j) : walkC n S D (c + 1) h left = walkC n S D c j (left - 1) := by rw [walkC, hq]
theorem walkC_n {n : Nat} {S : Nat → Nat → Int32} {D : Nat → Int32} {c h : Nat} {left : Int32} (hq : fndN (lnP (S h) D left) 0 n = none) : walkC n S D (c + 1) h left = -1 := by rw [walkC, hq]
theorem optI_s {a : Option Nat} {x : Int32} (e : x = optI a) (h : ¬ x = -1) : ∃ j, a = some j ∧ x = nI j := by
  cases a with
  | none => exact absurd e h
  | some j => exact ⟨j, rfl, e⟩
theorem ww_q2 {K : Kx} {G : Gx} {nL : Nat} {post post' : Int32 → Sg → Prop} {σ : Sg} {L : List (Nat × Value)} {pc : Nat} {st : List Value} (h : ∀ r σ', post r σ' → post' r σ') (k : WW K G nL (QI K G post) σ L pc st) : WW K G nL (QI K G post') σ L pc st := fun ls H locs h1 h2 h3 T hT X => by
  obtain ⟨t, a, o, b1, b2, ⟨⟨r, u, c1, c2, c3⟩, c4⟩, c5⟩ := k ls H locs h1 h2 h3 T hT X
  exact ⟨t, a, o, b1, b2, ⟨⟨r, u, c1, h r u c2, c3⟩, c4⟩, c5⟩
set_option maxHeartbeats 4000000 in
set_option maxRecDepth 100000 in
theorem lp_X4_cornerAfter {K : Kx} {G : Gx} (hA : wa G) (C : CX K G cX4_cornerAfter 7 RX4 wsX4_cornerAfter (rmd 2) (some .int)) (σ : Sg) (p n : Nat) (hp : p < 8) (hs : σ 14 (p + 1) 2 = nI n) (hn : n ≤ 14) (fr df : Nat) (hfr : fr < n) (hd : σ 3 0 fr = nI df) (hdf : df ≤ 14) (kk : Nat) (hk : kk ≤ df) : ∀ (f c : Nat) (h : Nat), kk - c < f → c ≤ kk → h < n → walkC n (fun a b => σ 19 (14 * p + a) b) (σ 3 0) (kk - c) (h) (nI df - nI (c + 1)) = walkC n (fun a b => σ 19 (14 * p + a) b) (σ 3 0) (kk) (fr) (nI df - 1) → WW K G 7 (QI K G (fun r σ2 => r = walkC n (fun a b => σ 19 (14 * p + a) b) (σ 3 0) (kk) (fr) (nI df - 1) ∧ σ2 = σ)) σ [(5, .int (nI df - nI (c + 1))), (4, .int (nI h)), (0, .ref (gA G 2 (0))), (1, .ref (gA G 17 (p))), (2, .int (nI fr)), (3, .int (nI kk))] 29 [] := by
  intro f
  induction f with
  | zero => intro c h h; exact absurd h (Nat.not_lt_zero _)
  | succ f ih =>
    intro c h hf hc hh hv
    refine ww_iload C dX4_cornerAfter_29 0 rfl ?_
    refine ww_aload_n C dX4_cornerAfter_31 rfl 2 rfl ?_
    refine ww_gr (j := 0) (k := 2) (f := 0) C rfl rfl (by decide) rfl in_X4_cornerAfter_X4 (by decide) lk_X4_cornerAfter_9 dX4_cornerAfter_32 rfl ?_
    refine ww_iload_n C dX4_cornerAfter_35 rfl 4 rfl ?_
    refine ww_iald (k := 3) (j := fr) C rfl (by decide) (by decide) dX4_cornerAfter_36 rfl (by omega) ?_
    refine ww_iload_n C dX4_cornerAfter_37 rfl 5 rfl ?_
    refine ww_isub C dX4_cornerAfter_38 ?_
    refine ww_icmp_lt 71 C dX4_cornerAfter_39 (by decide) (fun h39 => ?_) (fun h39 => ?_)
    · rw [hd] at h39
      have hck : kk ≤ c := (lt9 (by omega) (by omega) (by omega)).mp h39
      refine ww_iload C dX4_cornerAfter_71 1 rfl ?_
      refine ww_iret C dX4_cornerAfter_73 ?_
      exact ⟨by rw [← hv, show kk - c = 0 by omega]; rfl, rfl⟩
    · rw [hd] at h39
      have hck : c < kk := Nat.not_le.mp (fun q => h39 ((lt9 (by omega) (by omega) (by omega)).mpr q))
      refine ww_aload_n C dX4_cornerAfter_42 rfl 2 rfl ?_
      refine ww_aload_n C dX4_cornerAfter_43 rfl 3 rfl ?_
      refine ww_iload C dX4_cornerAfter_44 1 rfl ?_
      refine ww_iload C dX4_cornerAfter_46 0 rfl ?_
      refine ww_calliF (cx_V (n := 3) (As := [.ref (gA G 17 (p)), .int (nI h), .int (nI df - nI (c + 1))]) C  (c_X4_leastNext (kL K) G hA _ p n hp hs hn h (by omega) _) gX4_cornerAfter_X4_leastNext rfl ⟨rfl, rfl⟩ (by decide +kernel) (by decide) rfl (by decide) rfl rfl rfl (Nat.le_of_ble_eq_true rfl) dX4_cornerAfter_48) ?_
      refine ww_istore (fun nx => [(6, .int (nx)), (5, .int (nI df - nI (c + 1))), (4, .int (nI h)), (0, .ref (gA G 2 (0))), (1, .ref (gA G 17 (p))), (2, .int (nI fr)), (3, .int (nI kk))]) C dX4_cornerAfter_51 (by decide) (fun _ => rfl) (fun nx enx => ?_)
      refine ww_iload C dX4_cornerAfter_53 0 rfl ?_
      refine ww_iconst (v := -1) C dX4_cornerAfter_55 rfl ?_
      refine ww_icmp_ne 61 C dX4_cornerAfter_56 (by decide) (fun h56 => ?_) (fun h56 => ?_)
      · obtain ⟨j, hjq, rfl⟩ := optI_s enx h56
        have hjn : j < n := fnd_lt hjq
        refine ww_iload C dX4_cornerAfter_61 0 rfl ?_
        refine ww_istore (fun y1 => [(4, .int (y1)), (6, .int (nI j)), (5, .int (nI df - nI (c + 1))), (0, .ref (gA G 2 (0))), (1, .ref (gA G 17 (p))), (2, .int (nI fr)), (3, .int (nI kk))]) C dX4_cornerAfter_63 (by decide) (fun _ => rfl) (fun y1 ey1 => ?_)
        obtain rfl : y1 = nI j := ey1
        refine ww_iinc (q := 2) (fun y2 => [(5, .int (y2)), (4, .int (nI j)), (6, .int (nI j)), (0, .ref (gA G 2 (0))), (1, .ref (gA G 17 (p))), (2, .int (nI fr)), (3, .int (nI kk))]) C dX4_cornerAfter_65 rfl (by decide) (fun _ => rfl) (fun y2 ey2 => ?_)
        refine ww_goto 29 C dX4_cornerAfter_68 (by decide) ?_
        have e5 : y2 = nI df - nI (c + 1 + 1) := ey2.trans dec9
        subst e5
        exact ww_sub [0, 1, 3, 4, 5, 6] rfl (ih (c + 1) j (by omega) (by omega) hjn (by rw [← hv, show kk - c = (kk - (c + 1)) + 1 by omega, walkC_s (S := (fun a b => σ 19 (14 * p + a) b)) (h := h) hjq, dec8]))
      · refine ww_iconst (v := -1) C dX4_cornerAfter_59 rfl ?_
        refine ww_iret C dX4_cornerAfter_60 ?_
        exact ⟨by rw [← hv, show kk - c = (kk - (c + 1)) + 1 by omega, walkC_n (S := (fun a b => σ 19 (14 * p + a) b)) (h := h) (optI_m rfl (enx ▸ h56) (by omega))], rfl⟩
set_option maxHeartbeats 4000000 in
set_option maxRecDepth 100000 in
theorem c_X4_cornerAfter (l : Launch) (G : Gx) (hA : wa G) (σ : Sg) (p n : Nat) (hp : p < 8) (hs : σ 14 (p + 1) 2 = nI n) (hn : n ≤ 14) (fr df : Nat) (hfr : fr < n) (hd : σ 3 0 fr = nI df) (hdf : df ≤ 14) (x : Int32) : CtI l yX4_cornerAfter wsX4_cornerAfter (rmd 2) G [.ref (gA G 2 (0)), .ref (gA G 17 (p)), .int (nI fr), .int (x)] σ (fun r σ2 => r = caR n (fun a b => σ 19 (14 * p + a) b) (σ 3 0) fr x ∧ σ2 = σ) := by
  refine ct_i (maxL := 7) (ret := (some .int)) (by decide) rfl (Nat.le_of_ble_eq_true rfl) hA (fun K hl C => ?_)
  subst hl
  change WW K G _ _ σ [(0, .ref (gA G 2 (0))), (1, .ref (gA G 17 (p))), (2, .int (nI fr)), (3, .int (x))] 0 []
  refine ww_iload_n C dX4_cornerAfter_0 rfl 3 rfl ?_
  refine ww_if_lt 14 C dX4_cornerAfter_1 (by decide) (fun h1 => ?_) (fun h1 => ?_)
  · refine ww_iconst (v := -1) C dX4_cornerAfter_14 rfl ?_
    refine ww_iret C dX4_cornerAfter_15 ?_
    exact ⟨by rw [caR, if_neg (fun q => absurd h1 (Int32.not_lt.mpr q.1))], rfl⟩
  · refine ww_iload_n C dX4_cornerAfter_4 rfl 3 rfl ?_
    refine ww_aload_n C dX4_cornerAfter_5 rfl 0 rfl ?_
    refine ww_gr (j := 0) (k := 2) (f := 0) C rfl rfl (by decide) rfl in_X4_cornerAfter_X4 (by decide) lk_X4_cornerAfter_9 dX4_cornerAfter_6 rfl ?_
    refine ww_iload_n C dX4_cornerAfter_9 rfl 2 rfl ?_
    refine ww_iald (k := 3) (j := fr) C rfl (by decide) (by decide) dX4_cornerAfter_10 rfl (by omega) ?_
    refine ww_icmp_le 16 C dX4_cornerAfter_11 (by decide) (fun h11 => ?_) (fun h11 => ?_)
    · obtain ⟨kk, hkk, rfl⟩ : ∃ j, j ≤ df ∧ x = nI j := by
        obtain ⟨j, hj, e⟩ := nI_of h1
        subst e
        rw [hd] at h11
        exact ⟨j, (nI_leI (by omega) (by omega)).mp h11, rfl⟩
      refine ww_iload_n C dX4_cornerAfter_16 rfl 2 rfl ?_
      refine ww_istore (fun y1 => [(4, .int (y1)), (0, .ref (gA G 2 (0))), (1, .ref (gA G 17 (p))), (2, .int (nI fr)), (3, .int (nI kk))]) C dX4_cornerAfter_17 (by decide) (fun _ => rfl) (fun y1 ey1 => ?_)
      obtain rfl : y1 = nI fr := ey1
      refine ww_aload_n C dX4_cornerAfter_19 rfl 1 rfl ?_
      refine ww_gr (j := 0) (k := 2) (f := 0) C rfl rfl (by decide) rfl in_X4_cornerAfter_X4 (by decide) lk_X4_cornerAfter_9 dX4_cornerAfter_20 rfl ?_
      refine ww_iload_n C dX4_cornerAfter_23 rfl 3 rfl ?_
      refine ww_iald (k := 3) (j := fr) C rfl (by decide) (by decide) dX4_cornerAfter_24 rfl (by omega) ?_
      refine ww_iconst (v := 1) C dX4_cornerAfter_25 rfl ?_
      refine ww_isub C dX4_cornerAfter_26 ?_
      refine ww_istore (fun y2 => [(5, .int (y2)), (4, .int (nI fr)), (0, .ref (gA G 2 (0))), (1, .ref (gA G 17 (p))), (2, .int (nI fr)), (3, .int (nI kk))]) C dX4_cornerAfter_27 (by decide) (fun _ => rfl) (fun y2 ey2 => ?_)
      rw [ey2]; clear ey2 y2
      exact ww_sub [0, 1, 2, 3, 4, 5] rfl (by rw [hd]; exact ww_q2 (fun r σ2 q => ⟨q.1.trans (by rw [caR, if_pos ⟨nI_pos' (by omega), by rw [hd]; exact nI_le hkk (by omega)⟩, nI_clamp (by omega), hd]), q.2⟩) (lp_X4_cornerAfter hA C σ p n hp hs hn fr df hfr hd hdf kk hkk (kk + 1) 0 fr (by omega) (by omega) hfr rfl))
    · refine ww_iconst (v := -1) C dX4_cornerAfter_14 rfl ?_
      refine ww_iret C dX4_cornerAfter_15 ?_
      exact ⟨by rw [caR, if_neg (fun q => h11 q.2)], rfl⟩
set_option maxHeartbeats 4000000 in
set_option maxRecDepth 100000 in
theorem c_X4_cornerAfter_m (l : Launch) (G : Gx) (hA : wa G) (σ : Sg) (p n : Nat) (hp : p < 8) (hs : σ 14 (p + 1) 2 = nI n) (hn : n ≤ 14) (fr : Nat) (hfr : fr < n) (hd : σ 3 0 fr = -1) (x : Int32) : CtI l yX4_cornerAfter wsX4_cornerAfter (rmd 2) G [.ref (gA G 2 (0)), .ref (gA G 17 (p)), .int (nI fr), .int (x)] σ (fun r σ2 => r = caR n (fun a b => σ 19 (14 * p + a) b) (σ 3 0) fr x ∧ σ2 = σ) := by
  refine ct_i (maxL := 7) (ret := (some .int)) (by decide) rfl (Nat.le_of_ble_eq_true rfl) hA (fun K hl C => ?_)
  subst hl
  change WW K G _ _ σ [(0, .ref (gA G 2 (0))), (1, .ref (gA G 17 (p))), (2, .int (nI fr)), (3, .int (x))] 0 []
  refine ww_iload_n C dX4_cornerAfter_0 rfl 3 rfl ?_
  refine ww_if_lt 14 C dX4_cornerAfter_1 (by decide) (fun h1 => ?_) (fun h1 => ?_)
  · refine ww_iconst (v := -1) C dX4_cornerAfter_14 rfl ?_
    refine ww_iret C dX4_cornerAfter_15 ?_
    exact ⟨by rw [caR, if_neg (fun q => absurd h1 (Int32.not_lt.mpr q.1))], rfl⟩
  · refine ww_iload_n C dX4_cornerAfter_4 rfl 3 rfl ?_
    refine ww_aload_n C dX4_cornerAfter_5 rfl 0 rfl ?_
    refine ww_gr (j := 0) (k := 2) (f := 0) C rfl rfl (by decide) rfl in_X4_cornerAfter_X4 (by decide) lk_X4_cornerAfter_9 dX4_cornerAfter_6 rfl ?_
    refine ww_iload_n C dX4_cornerAfter_9 rfl 2 rfl ?_
    refine ww_iald (k := 3) (j := fr) C rfl (by decide) (by decide) dX4_cornerAfter_10 rfl (by omega) ?_
    refine ww_icmp_le 16 C dX4_cornerAfter_11 (by decide) (fun h11 => ?_) (fun h11 => ?_)
    · exact absurd (by rw [hd] at h11; exact h11) (Int32.not_le.mpr (Int32.lt_of_lt_of_le (show (-1 : Int32) < 0 by decide) (Int32.not_lt.mp h1)))
    · refine ww_iconst (v := -1) C dX4_cornerAfter_14 rfl ?_
      refine ww_iret C dX4_cornerAfter_15 ?_
      exact ⟨by rw [caR, if_neg (fun q => h11 q.2)], rfl⟩
def okD (n : Nat) (D : Nat → Int32) (k : Nat) : Prop := ∀ a, a < n → D a = -1 ∨ ∃ d, d ≤ k ∧ D a = nI d
theorem okD_up {n k : Nat} {D : Nat → Int32} (h : okD n D k) : okD n D (k + 1) := fun a ha => (h a ha).elim Or.inl (fun ⟨d, h1, h2⟩ => Or.inr ⟨d, by omega, h2⟩)
theorem okD_in {n k : Nat} {S : Nat → Nat → Int32} {D : Nat → Int32} (h : okD n D k) : ∀ i, okD n (mIn n S (nI (k + 1)) D i) (k + 1)
  | 0 => okD_up h
  | i + 1 => by
    have hi := okD_in (S := S) h i
    rw [mIn]
    split
    · intro a ha
      by_cases e : a = i
      · exact Or.inr ⟨k + 1, Nat.le_refl _, by rw [e]; exact if_pos rfl⟩
      · rw [show upd (mIn n S (nI (k + 1)) D i) i (nI (k + 1)) a = mIn n S (nI (k + 1)) D i a from if_neg e]
        exact hi a ha
    · exact hi
theorem okD_out {n : Nat} {S : Nat → Nat → Int32} {D : Nat → Int32} (h : okD n D 0) : ∀ k, okD n (mOut n S D k) k
  | 0 => h
  | k + 1 => okD_in (okD_out h k) n
theorem okD_0 {n g : Nat} {D : Nat → Int32} : okD n (mD0 n g D) 0 := fun a ha => by
  by_cases e : a = g
  · exact Or.inr ⟨0, Nat.le_refl 0, if_pos e⟩
  · exact Or.inl (by rw [mD0, if_neg e, if_pos ha])
set_option maxHeartbeats 4000000 in
set_option maxRecDepth 100000 in
theorem c_X5_way_s (l : Launch) (G : Gx) (hA : wa G) (σ : Sg) (cnt p n : Nat) (hc : σ 0 0 5 = nI cnt) (hc8 : cnt ≤ 8) (hpc : p < cnt) (hp : p < 8) (hs : σ 14 (p + 1) 2 = nI n) (hn : n ≤ 14) (c d : Int32) : CtI l yX5_way wsX5_way (rmd 3) G [.ref (gA G 0 (0)), .int (nI p), .int (c), .int (d)] σ (fun r σ2 => r = pairR n c d (fun a b => (mOut n (fun a b => σ 19 (14 * p + a) b) (mD0 n b (σ 3 0)) (n - 1)) a) ∧ ∀ k, k ≠ 3 → σ2 k = σ k) := by
  refine ct_i (maxL := 5) (ret := (some .int)) (by decide) rfl (Nat.le_of_ble_eq_true rfl) hA (fun K hl C => ?_)
  subst hl
  change WW K G _ _ σ [(0, .ref (gA G 0 (0))), (1, .int (nI p)), (2, .int (c)), (3, .int (d))] 0 []
  refine ww_aload_n C dX5_way_0 rfl 0 rfl ?_
  refine ww_iload_n C dX5_way_1 rfl 1 rfl ?_
  refine ww_callqR (cx_V (n := 1) (As := [.int (nI p)]) C  (c_X5_shapeOf_s (kL K) G hA _ cnt p hc hc8 hpc) gX5_way_X5_shapeOf rfl ⟨rfl, rfl⟩ (by decide +kernel) (by decide) rfl (by decide) rfl rfl rfl (Nat.le_of_ble_eq_true rfl) dX5_way_2) ?_
  refine ww_astore [(4, .ref (gA G 17 (p))), (0, .ref (gA G 0 (0))), (1, .int (nI p)), (2, .int (c)), (3, .int (d))] C dX5_way_5 (by decide) rfl ?_
  refine ww_aload C dX5_way_7 0 rfl ?_
  refine ww_ifnull C dX5_way_9 ?_
  refine ww_aload C dX5_way_12 0 rfl ?_
  refine ww_gr (j := p + 1) (k := 17) (f := 0) C rfl rfl hp rfl in_X5_way_X3 (by decide) lk_X5_way_93 dX5_way_14 rfl ?_
  refine ww_iload_n C dX5_way_17 rfl 3 rfl ?_
  refine ww_calliF (cx_V (n := 1) (As := [.int (c)]) C  (c_X1_has (kL K) G hA _ (p + 1) n (Nat.add_lt_add_right hp 1) hs hn _) gX5_way_X1_has rfl ⟨rfl, rfl⟩ (by decide +kernel) (by decide) rfl (Nat.add_lt_add_right hp 1) rfl rfl rfl (Nat.le_of_ble_eq_true rfl) dX5_way_18) ?_
  refine ww_if_eq 36 C dX5_way_21 (by decide) (fun h21 => ?_) (fun h21 => ?_)
  · refine ww_bipush (v := -2) C dX5_way_36 (by decide) ?_
    refine ww_iret C dX5_way_38 ?_
    exact ⟨by rw [pair_f1 h21], fun _ _ => rfl⟩
  · obtain ⟨i, hi, rfl⟩ := ix_of (of_decide_eq_true (bI_1.mp h21)) hn
    refine ww_aload C dX5_way_24 0 rfl ?_
    refine ww_gr (j := p + 1) (k := 17) (f := 0) C rfl rfl hp rfl in_X5_way_X3 (by decide) lk_X5_way_93 dX5_way_26 rfl ?_
    refine ww_iload_n C dX5_way_29 rfl 4 rfl ?_
    refine ww_calliF (cx_V (n := 1) (As := [.int (d)]) C  (c_X1_has (kL K) G hA _ (p + 1) n (Nat.add_lt_add_right hp 1) hs hn _) gX5_way_X1_has rfl ⟨rfl, rfl⟩ (by decide +kernel) (by decide) rfl (Nat.add_lt_add_right hp 1) rfl rfl rfl (Nat.le_of_ble_eq_true rfl) dX5_way_30) ?_
    refine ww_if_ne 39 C dX5_way_33 (by decide) (fun h33 => ?_) (fun h33 => ?_)
    · obtain ⟨j, hj, rfl⟩ := ix_of (of_decide_eq_true (bI_1.mp h33)) hn
      refine ww_aload_n C dX5_way_39 rfl 1 rfl ?_
      refine ww_gr (j := 0) (k := 0) (f := 3) C rfl rfl (by decide) rfl in_X5_way_X5 (by decide) lk_X5_way_33 dX5_way_40 rfl ?_
      refine ww_aload C dX5_way_43 0 rfl ?_
      refine ww_iload_n C dX5_way_45 rfl 4 rfl ?_
      refine ww_callvF (cx_V (n := 2) (As := [.ref (gA G 17 (p)), .int (nI j)]) C  (c_X4_measure (kL K) G hA _ p n hp hs hn j (by omega)) gX5_way_X4_measure rfl ⟨rfl, rfl⟩ (by decide +kernel) (by decide) rfl (by decide) rfl rfl rfl (Nat.le_of_ble_eq_true rfl) dX5_way_46) ?_
      obtain ⟨σ1, hσ1⟩ : ∃ z : Sg, z = (sgr σ 3 0 (mOut n (fun a b => σ 19 (14 * p + a) b) (mD0 n j (σ 3 0)) (n - 1))) := ⟨_, rfl⟩
      rw [← hσ1]
      refine ww_aload_n C dX5_way_49 rfl 1 rfl ?_
      refine ww_gr (j := 0) (k := 0) (f := 3) C rfl rfl (by decide) rfl in_X5_way_X5 (by decide) lk_X5_way_33 dX5_way_50 rfl ?_
      refine ww_gr (j := 0) (k := 2) (f := 0) C rfl rfl (by decide) rfl in_X5_way_X4 (by decide) lk_X5_way_142 dX5_way_53 rfl ?_
      refine ww_iload_n C dX5_way_56 rfl 3 rfl ?_
      refine ww_iald (k := 3) (j := i) C rfl (by decide) (by decide) dX5_way_57 rfl (by omega) ?_
      refine ww_iret C dX5_way_58 ?_
      exact ⟨by rw [pair_t hi hj hn, hσ1, sgr_self], fun k hk => by rw [hσ1, sgr_kk hk]⟩
    · refine ww_bipush (v := -2) C dX5_way_36 (by decide) ?_
      refine ww_iret C dX5_way_38 ?_
      exact ⟨by rw [pair_f2 hi hn h33], fun _ _ => rfl⟩
set_option maxHeartbeats 4000000 in
set_option maxRecDepth 100000 in
theorem c_X5_way_n (l : Launch) (G : Gx) (hA : wa G) (σ : Sg) (cnt : Nat) (hc : σ 0 0 5 = nI cnt) (hc8 : cnt ≤ 8) (x : Int32) (hu : ¬ (0 ≤ x ∧ x < nI cnt)) (c d : Int32) : CtI l yX5_way wsX5_way (rmd 3) G [.ref (gA G 0 (0)), .int (x), .int (c), .int (d)] σ (fun r σ2 => r = -2 ∧ ∀ k, k ≠ 3 → σ2 k = σ k) := by
  refine ct_i (maxL := 5) (ret := (some .int)) (by decide) rfl (Nat.le_of_ble_eq_true rfl) hA (fun K hl C => ?_)
  subst hl
  change WW K G _ _ σ [(0, .ref (gA G 0 (0))), (1, .int (x)), (2, .int (c)), (3, .int (d))] 0 []
  refine ww_aload_n C dX5_way_0 rfl 0 rfl ?_
  refine ww_iload_n C dX5_way_1 rfl 1 rfl ?_
  refine ww_callqN (cx_V (n := 1) (As := [.int (x)]) C  (c_X5_shapeOf_n (kL K) G hA _ cnt hc hc8 x hu) gX5_way_X5_shapeOf rfl ⟨rfl, rfl⟩ (by decide +kernel) (by decide) rfl (by decide) rfl rfl rfl (Nat.le_of_ble_eq_true rfl) dX5_way_2) ?_
  refine ww_astoreN [(4, .null), (0, .ref (gA G 0 (0))), (1, .int (x)), (2, .int (c)), (3, .int (d))] C dX5_way_5 (by decide) rfl ?_
  refine ww_aloadN C dX5_way_7 0 rfl ?_
  refine ww_ifnullN 36 C dX5_way_9 (by decide) ?_
  refine ww_bipush (v := -2) C dX5_way_36 (by decide) ?_
  refine ww_iret C dX5_way_38 ?_
  exact ⟨rfl, fun _ _ => rfl⟩
theorem c_ca (l : Launch) (G : Gx) (hA : wa G) (σ : Sg) (p n : Nat) (hp : p < 8) (hs : σ 14 (p + 1) 2 = nI n) (hn : n ≤ 14) (fr : Nat) (hfr : fr < n) (hok : okD n (σ 3 0) (n - 1)) (x : Int32) : CtI l yX4_cornerAfter wsX4_cornerAfter (rmd 2) G [.ref (gA G 2 0), .ref (gA G 17 p), .int (nI fr), .int x] σ (fun r σ2 => r = caR n (fun a b => σ 19 (14 * p + a) b) (σ 3 0) fr x ∧ σ2 = σ) := by
  rcases hok fr hfr with h | ⟨d, h1, h2⟩
  · exact c_X4_cornerAfter_m l G hA σ p n hp hs hn fr hfr h x
  · exact c_X4_cornerAfter l G hA σ p n hp hs hn fr d hfr h2 (by omega) x
set_option maxHeartbeats 4000000 in
set_option maxRecDepth 100000 in
theorem c_X5_step_s (l : Launch) (G : Gx) (hA : wa G) (σ : Sg) (cnt p n : Nat) (hc : σ 0 0 5 = nI cnt) (hc8 : cnt ≤ 8) (hpc : p < cnt) (hp : p < 8) (hs : σ 14 (p + 1) 2 = nI n) (hn : n ≤ 14) (c d x : Int32) : CtI l yX5_step wsX5_step (rmd 3) G [.ref (gA G 0 (0)), .int (nI p), .int (c), .int (d), .int (x)] σ (fun r σ2 => r = pairR n c d (fun a b => caR n (fun a b => σ 19 (14 * p + a) b) (mOut n (fun a b => σ 19 (14 * p + a) b) (mD0 n b (σ 3 0)) (n - 1)) a x) ∧ ∀ k, k ≠ 3 → σ2 k = σ k) := by
  refine ct_i (maxL := 6) (ret := (some .int)) (by decide) rfl (Nat.le_of_ble_eq_true rfl) hA (fun K hl C => ?_)
  subst hl
  change WW K G _ _ σ [(0, .ref (gA G 0 (0))), (1, .int (nI p)), (2, .int (c)), (3, .int (d)), (4, .int (x))] 0 []
  refine ww_aload_n C dX5_step_0 rfl 0 rfl ?_
  refine ww_iload_n C dX5_step_1 rfl 1 rfl ?_
  refine ww_callqR (cx_V (n := 1) (As := [.int (nI p)]) C  (c_X5_shapeOf_s (kL K) G hA _ cnt p hc hc8 hpc) gX5_step_X5_shapeOf rfl ⟨rfl, rfl⟩ (by decide +kernel) (by decide) rfl (by decide) rfl rfl rfl (Nat.le_of_ble_eq_true rfl) dX5_step_2) ?_
  refine ww_astore [(5, .ref (gA G 17 (p))), (0, .ref (gA G 0 (0))), (1, .int (nI p)), (2, .int (c)), (3, .int (d)), (4, .int (x))] C dX5_step_5 (by decide) rfl ?_
  refine ww_aload C dX5_step_7 0 rfl ?_
  refine ww_ifnull C dX5_step_9 ?_
  refine ww_aload C dX5_step_12 0 rfl ?_
  refine ww_gr (j := p + 1) (k := 17) (f := 0) C rfl rfl hp rfl in_X5_step_X3 (by decide) lk_X5_step_93 dX5_step_14 rfl ?_
  refine ww_iload_n C dX5_step_17 rfl 3 rfl ?_
  refine ww_calliF (cx_V (n := 1) (As := [.int (c)]) C  (c_X1_has (kL K) G hA _ (p + 1) n (Nat.add_lt_add_right hp 1) hs hn _) gX5_step_X1_has rfl ⟨rfl, rfl⟩ (by decide +kernel) (by decide) rfl (Nat.add_lt_add_right hp 1) rfl rfl rfl (Nat.le_of_ble_eq_true rfl) dX5_step_18) ?_
  refine ww_if_eq 36 C dX5_step_21 (by decide) (fun h21 => ?_) (fun h21 => ?_)
  · refine ww_bipush (v := -2) C dX5_step_36 (by decide) ?_
    refine ww_iret C dX5_step_38 ?_
    exact ⟨by rw [pair_f1 h21], fun _ _ => rfl⟩
  · obtain ⟨i, hi, rfl⟩ := ix_of (of_decide_eq_true (bI_1.mp h21)) hn
    refine ww_aload C dX5_step_24 0 rfl ?_
    refine ww_gr (j := p + 1) (k := 17) (f := 0) C rfl rfl hp rfl in_X5_step_X3 (by decide) lk_X5_step_93 dX5_step_26 rfl ?_
    refine ww_iload_n C dX5_step_29 rfl 4 rfl ?_
    refine ww_calliF (cx_V (n := 1) (As := [.int (d)]) C  (c_X1_has (kL K) G hA _ (p + 1) n (Nat.add_lt_add_right hp 1) hs hn _) gX5_step_X1_has rfl ⟨rfl, rfl⟩ (by decide +kernel) (by decide) rfl (Nat.add_lt_add_right hp 1) rfl rfl rfl (Nat.le_of_ble_eq_true rfl) dX5_step_30) ?_
    refine ww_if_ne 39 C dX5_step_33 (by decide) (fun h33 => ?_) (fun h33 => ?_)
    · obtain ⟨j, hj, rfl⟩ := ix_of (of_decide_eq_true (bI_1.mp h33)) hn
      refine ww_aload_n C dX5_step_39 rfl 1 rfl ?_
      refine ww_gr (j := 0) (k := 0) (f := 3) C rfl rfl (by decide) rfl in_X5_step_X5 (by decide) lk_X5_step_33 dX5_step_40 rfl ?_
      refine ww_aload C dX5_step_43 0 rfl ?_
      refine ww_iload_n C dX5_step_45 rfl 4 rfl ?_
      refine ww_callvF (cx_V (n := 2) (As := [.ref (gA G 17 (p)), .int (nI j)]) C  (c_X4_measure (kL K) G hA _ p n hp hs hn j (by omega)) gX5_step_X4_measure rfl ⟨rfl, rfl⟩ (by decide +kernel) (by decide) rfl (by decide) rfl rfl rfl (Nat.le_of_ble_eq_true rfl) dX5_step_46) ?_
      obtain ⟨σ1, hσ1⟩ : ∃ z : Sg, z = (sgr σ 3 0 (mOut n (fun a b => σ 19 (14 * p + a) b) (mD0 n j (σ 3 0)) (n - 1))) := ⟨_, rfl⟩
      rw [← hσ1]
      have hs1 : σ1 14 (p + 1) 2 = nI n := by rw [hσ1, sgr_kk (by decide)]; exact hs
      have hok : okD n (σ1 3 0) (n - 1) := by rw [hσ1, sgr_self]; exact okD_out okD_0 (n - 1)
      refine ww_aload_n C dX5_step_49 rfl 1 rfl ?_
      refine ww_gr (j := 0) (k := 0) (f := 3) C rfl rfl (by decide) rfl in_X5_step_X5 (by decide) lk_X5_step_33 dX5_step_50 rfl ?_
      refine ww_aload C dX5_step_53 0 rfl ?_
      refine ww_iload_n C dX5_step_55 rfl 3 rfl ?_
      refine ww_iload C dX5_step_56 5 rfl ?_
      refine ww_calliF (cx_V (n := 3) (As := [.ref (gA G 17 (p)), .int (nI i), .int (x)]) C  (c_ca (kL K) G hA σ1 p n hp hs1 hn i hi hok _) gX5_step_X4_cornerAfter rfl ⟨rfl, rfl⟩ (by decide +kernel) (by decide) rfl (by decide) rfl rfl rfl (Nat.le_of_ble_eq_true rfl) dX5_step_58) ?_
      refine ww_iret C dX5_step_61 ?_
      exact ⟨by rw [pair_t hi hj hn, hσ1, sgr_self, sgr_kk (by decide)], fun k hk => by rw [hσ1, sgr_kk hk]⟩
    · refine ww_bipush (v := -2) C dX5_step_36 (by decide) ?_
      refine ww_iret C dX5_step_38 ?_
      exact ⟨by rw [pair_f2 hi hn h33], fun _ _ => rfl⟩
set_option maxHeartbeats 4000000 in
set_option maxRecDepth 100000 in
theorem c_X5_step_n (l : Launch) (G : Gx) (hA : wa G) (σ : Sg) (cnt : Nat) (hc : σ 0 0 5 = nI cnt) (hc8 : cnt ≤ 8) (x : Int32) (hu : ¬ (0 ≤ x ∧ x < nI cnt)) (c d w : Int32) : CtI l yX5_step wsX5_step (rmd 3) G [.ref (gA G 0 (0)), .int (x), .int (c), .int (d), .int (w)] σ (fun r σ2 => r = -2 ∧ ∀ k, k ≠ 3 → σ2 k = σ k) := by
  refine ct_i (maxL := 6) (ret := (some .int)) (by decide) rfl (Nat.le_of_ble_eq_true rfl) hA (fun K hl C => ?_)
  subst hl
  change WW K G _ _ σ [(0, .ref (gA G 0 (0))), (1, .int (x)), (2, .int (c)), (3, .int (d)), (4, .int (w))] 0 []
  refine ww_aload_n C dX5_step_0 rfl 0 rfl ?_
  refine ww_iload_n C dX5_step_1 rfl 1 rfl ?_
  refine ww_callqN (cx_V (n := 1) (As := [.int (x)]) C  (c_X5_shapeOf_n (kL K) G hA _ cnt hc hc8 x hu) gX5_step_X5_shapeOf rfl ⟨rfl, rfl⟩ (by decide +kernel) (by decide) rfl (by decide) rfl rfl rfl (Nat.le_of_ble_eq_true rfl) dX5_step_2) ?_
  refine ww_astoreN [(5, .null), (0, .ref (gA G 0 (0))), (1, .int (x)), (2, .int (c)), (3, .int (d)), (4, .int (w))] C dX5_step_5 (by decide) rfl ?_
  refine ww_aloadN C dX5_step_7 0 rfl ?_
  refine ww_ifnullN 36 C dX5_step_9 (by decide) ?_
  refine ww_bipush (v := -2) C dX5_step_36 (by decide) ?_
  refine ww_iret C dX5_step_38 ?_
  exact ⟨rfl, fun _ _ => rfl⟩
end
section
theorem in_X2_weighSpan_X3 : ∀ w ∈ wsX30, w ∈ wsX2_weighSpan := by decide +kernel
theorem lk_X2_weighSpan_60 : Cond.fieldLink RX2 60 "PolyCuts$Shape" "sight" "[[I" ∈ wsX2_weighSpan := by decide +kernel
theorem in_X2_weighSpan_X2 : ∀ w ∈ wsX20, w ∈ wsX2_weighSpan := by decide +kernel
theorem lk_X2_weighSpan_16 : Cond.fieldLink RX2 16 "PolyCuts$Cutter" "sum" "[[I" ∈ wsX2_weighSpan := by decide +kernel
theorem lk_X2_weighSpan_25 : Cond.fieldLink RX2 25 "PolyCuts$Shape" "corners" "LPolyCuts$Corners;" ∈ wsX2_weighSpan := by decide +kernel
theorem lk_X2_weighSpan_11 : Cond.fieldLink RX2 11 "PolyCuts$Cutter" "ways" "[[I" ∈ wsX2_weighSpan := by decide +kernel
theorem lk_X2_weighSpan_19 : Cond.fieldLink RX2 19 "PolyCuts$Cutter" "third" "[[I" ∈ wsX2_weighSpan := by decide +kernel
/-- a span's three numbers: ways, least sum, third corner -/
abbrev T3 : Type := Int32 × Int32 × Int32
def sp3 (σ : Sg) (i j : Nat) (c : T3) : Sg := sgu (sgu (sgu σ 9 i j c.1) 10 i j c.2.1) 11 i j c.2.2
def spS (w s : Nat → Nat → Int32) (i j : Nat) : Nat → T3
  | 0 => (0, 0, nI (i + 1))
  | d + 1 => ((spS w s i j d).1 + w i (i + 1 + d) * w (i + 1 + d) j, if 0 < w i (i + 1 + d) * w (i + 1 + d) j ∧ ((spS w s i j d).1 = 0 ∨ s i (i + 1 + d) + s (i + 1 + d) j < (spS w s i j d).2.1) then (s i (i + 1 + d) + s (i + 1 + d) j, nI (i + 1 + d)) else (spS w s i j d).2)
def spF (w s : Nat → Nat → Int32) (sg sq : Int32) (i j : Nat) : T3 := if sg = 0 then (0, 0, nI (i + 1)) else if sg = 1 then ((spS w s i j (j - i - 1)).1, (spS w s i j (j - i - 1)).2.1 + sq, (spS w s i j (j - i - 1)).2.2) else spS w s i j (j - i - 1)
theorem sgu_comm {σ : Sg} {k i f k' i' f' : Nat} {a b : Int32} (h : k ≠ k') : sgu (sgu σ k i f a) k' i' f' b = sgu (sgu σ k' i' f' b) k i f a := by
  funext x y z
  by_cases h1 : x = k' ∧ y = i' ∧ z = f'
  · obtain ⟨rfl, rfl, rfl⟩ := h1
    rw [sgu_self, sgu_k (Ne.symm h), sgu_self]
  · by_cases h2 : x = k ∧ y = i ∧ z = f
    · obtain ⟨rfl, rfl, rfl⟩ := h2
      rw [sgu_k h, sgu_self, sgu_self]
    · simp only [sgu, if_neg h1, if_neg h2]
theorem sp3_9 {σ : Sg} {i j : Nat} {c : T3} {v : Int32} : sgu (sp3 σ i j c) 9 i j v = sp3 σ i j (v, c.2) := by
  unfold sp3
  rw [sgu_comm (by decide), sgu_comm (k := 10) (by decide), sgu_sgu]
theorem sp3_10 {σ : Sg} {i j : Nat} {c : T3} {v : Int32} : sgu (sp3 σ i j c) 10 i j v = sp3 σ i j (c.1, v, c.2.2) := by
  unfold sp3
  rw [sgu_comm (by decide), sgu_sgu]
theorem sp3_11 {σ : Sg} {i j : Nat} {c : T3} {v : Int32} : sgu (sp3 σ i j c) 11 i j v = sp3 σ i j (c.1, c.2.1, v) := by
  unfold sp3
  rw [sgu_sgu]
theorem sp3_w {σ : Sg} {i j : Nat} {c : T3} : sp3 σ i j c 9 i j = c.1 := by
  rw [sp3, sgu_k (by decide), sgu_k (by decide), sgu_self]
theorem sp3_s {σ : Sg} {i j : Nat} {c : T3} : sp3 σ i j c 10 i j = c.2.1 := by
  rw [sp3, sgu_k (by decide), sgu_self]
theorem sp3_t {σ : Sg} {i j : Nat} {c : T3} : sp3 σ i j c 11 i j = c.2.2 := by
  rw [sp3, sgu_self]
theorem sp3_i {σ : Sg} {i j k a b : Nat} {c : T3} (h : a ≠ i) : sp3 σ i j c k a b = σ k a b := by
  rw [sp3, sgu_i h, sgu_i h, sgu_i h]
theorem sp3_j {σ : Sg} {i j k a b : Nat} {c : T3} (h : b ≠ j) : sp3 σ i j c k a b = σ k a b := by
  rw [sp3, sgu_f h, sgu_f h, sgu_f h]
theorem sp3_k {σ : Sg} {i j k : Nat} {c : T3} (h : k ≠ 9 ∧ k ≠ 10 ∧ k ≠ 11) : sp3 σ i j c k = σ k := by
  rw [sp3, sgu_kk h.2.2, sgu_kk h.2.1, sgu_kk h.1]
set_option maxHeartbeats 4000000 in
set_option maxRecDepth 100000 in
theorem lp_X2_weighSpan {K : Kx} {G : Gx} (hA : wa G) (C : CX K G cX2_weighSpan 7 RX2 wsX2_weighSpan (rmd 2) none) (σ : Sg) (p n : Nat) (hp : p < 8) (hs : σ 14 (p + 1) 2 = nI n) (hn : n ≤ 14) (i j : Nat) (hij : i + 2 ≤ j) (hj : j < n) (h0 : ¬ (σ 19 (14 * p + i) j) = 0) : ∀ (f k : Nat) (τ : Sg), j - k < f → i + 1 ≤ k → k ≤ j → τ = sp3 σ i j (spS (σ 9) (σ 10) i j (k - (i + 1))) → WW K G 7 (QV K G (fun σ2 => σ2 = sp3 σ i j (spF (σ 9) (σ 10) (σ 19 (14 * p + i) j) (sq9 (σ 15 (p + 1)) (σ 16 (p + 1)) i j) i j))) τ [(4, .int (nI k)), (0, .ref (gA G 4 (0))), (1, .ref (gA G 17 (p))), (2, .int (nI i)), (3, .int (nI j))] 46 [] := by
  intro f
  induction f with
  | zero => intro k τ h; exact absurd h (Nat.not_lt_zero _)
  | succ f ih =>
    intro k τ hf hk hkj ht
    refine ww_iload C dX2_weighSpan_46 0 rfl ?_
    refine ww_iload_n C dX2_weighSpan_48 rfl 4 rfl ?_
    refine ww_icmp_ge 162 C dX2_weighSpan_49 (by decide) (fun h49 => ?_) (fun h49 => ?_)
    · have g49 : j ≤ k := (cv_le (a := j) (b := k) rfl rfl (by omega) (by omega)).mp h49
      refine ww_aload_n C dX2_weighSpan_162 rfl 2 rfl ?_
      refine ww_gr (j := p) (k := 17) (f := 1) C rfl rfl hp rfl in_X2_weighSpan_X3 (by decide) lk_X2_weighSpan_60 dX2_weighSpan_163 rfl ?_
      refine ww_iload_n C dX2_weighSpan_166 rfl 3 rfl ?_
      refine ww_aald (k := 18) (j := i) (j' := 14 * p + i) C rfl (by decide) hp (by decide) dX2_weighSpan_167 rfl (by omega) rfl ?_
      refine ww_iload_n C dX2_weighSpan_168 rfl 4 rfl ?_
      refine ww_iald (k := 19) (j := j) C rfl (dm19 hp (by omega)) (by decide) dX2_weighSpan_169 rfl (by omega) ?_
      refine ww_iconst (v := 1) C dX2_weighSpan_170 rfl ?_
      refine ww_icmp_ne 194 C dX2_weighSpan_171 (by decide) (fun h171 => ?_) (fun h171 => ?_)
      · refine ww_vret C dX2_weighSpan_194 ?_
        rw [ht, spF, if_neg h0, if_neg (by rw [ht, sp3_k (by decide)] at h171; exact h171), show k = j by omega, show j - (i + 1) = j - i - 1 by omega]
      · refine ww_aload_n C dX2_weighSpan_174 rfl 1 rfl ?_
        refine ww_gr (j := 0) (k := 4) (f := 1) C rfl rfl (by decide) rfl in_X2_weighSpan_X2 (by decide) lk_X2_weighSpan_16 dX2_weighSpan_175 rfl ?_
        refine ww_iload_n C dX2_weighSpan_178 rfl 3 rfl ?_
        refine ww_aald (k := 6) (j := i) (j' := i) C rfl (by decide) (by decide) (by decide) dX2_weighSpan_179 rfl (by omega) rfl ?_
        refine ww_iload_n C dX2_weighSpan_180 rfl 4 rfl ?_
        refine ww_dup2 C dX2_weighSpan_181 rfl rfl ?_
        refine ww_iald (k := 10) (j := j) C rfl (show i < 14 from (by omega)) (by decide) dX2_weighSpan_182 rfl (by omega) ?_
        refine ww_aload_n C dX2_weighSpan_183 rfl 2 rfl ?_
        refine ww_gr (j := p + 1) (k := 17) (f := 0) C rfl rfl hp rfl in_X2_weighSpan_X3 (by decide) lk_X2_weighSpan_25 dX2_weighSpan_184 rfl ?_
        refine ww_iload_n C dX2_weighSpan_187 rfl 3 rfl ?_
        refine ww_iload_n C dX2_weighSpan_188 rfl 4 rfl ?_
        refine ww_calliF (cx_V (n := 2) (As := [.int (nI i), .int (nI j)]) C  (c_X1_squaredLength (kL K) G hA _ (p + 1) (Nat.add_lt_add_right hp 1) i j (by omega) (by omega)) gX2_weighSpan_X1_squaredLength rfl ⟨rfl, rfl⟩ (by decide +kernel) (by decide) rfl (Nat.add_lt_add_right hp 1) rfl rfl rfl (Nat.le_of_ble_eq_true rfl) dX2_weighSpan_189) ?_
        refine ww_iadd C dX2_weighSpan_192 ?_
        refine ww_iast (k := 10) (j := j) C rfl (show i < 14 from (by omega)) (by decide) dX2_weighSpan_193 rfl (by omega) ?_
        obtain ⟨σ1, hσ1⟩ : ∃ z : Sg, z = (sgu τ 10 (i) (j) ((τ 10 (i) (j)) + (sq9 (τ 15 (p + 1)) (τ 16 (p + 1)) i j))) := ⟨_, rfl⟩
        rw [← hσ1]
        refine ww_vret C dX2_weighSpan_194 ?_
        rw [hσ1, ht, sp3_s, sp3_10, spF, if_neg h0, if_pos (by rw [ht, sp3_k (by decide)] at h171; exact h171), show k = j by omega, show j - (i + 1) = j - i - 1 by omega, sp3_k (by decide), sp3_k (by decide)]
    · have g49 : ¬ j ≤ k := fun q => h49 ((cv_le (a := j) (b := k) rfl rfl (by omega) (by omega)).mpr q)
      refine ww_aload_n C dX2_weighSpan_52 rfl 1 rfl ?_
      refine ww_gr (j := 0) (k := 4) (f := 0) C rfl rfl (by decide) rfl in_X2_weighSpan_X2 (by decide) lk_X2_weighSpan_11 dX2_weighSpan_53 rfl ?_
      refine ww_iload_n C dX2_weighSpan_56 rfl 3 rfl ?_
      refine ww_aald (k := 5) (j := i) (j' := i) C rfl (by decide) (by decide) (by decide) dX2_weighSpan_57 rfl (by omega) rfl ?_
      refine ww_iload C dX2_weighSpan_58 0 rfl ?_
      refine ww_iald (k := 9) (j := k) C rfl (show i < 14 from (by omega)) (by decide) dX2_weighSpan_60 rfl (by omega) ?_
      refine ww_aload_n C dX2_weighSpan_61 rfl 1 rfl ?_
      refine ww_gr (j := 0) (k := 4) (f := 0) C rfl rfl (by decide) rfl in_X2_weighSpan_X2 (by decide) lk_X2_weighSpan_11 dX2_weighSpan_62 rfl ?_
      refine ww_iload C dX2_weighSpan_65 0 rfl ?_
      refine ww_aald (k := 5) (j := k) (j' := k) C rfl (by decide) (by decide) (by decide) dX2_weighSpan_67 rfl (by omega) rfl ?_
      refine ww_iload_n C dX2_weighSpan_68 rfl 4 rfl ?_
      refine ww_iald (k := 9) (j := j) C rfl (show k < 14 from (by omega)) (by decide) dX2_weighSpan_69 rfl (by omega) ?_
      refine ww_imul C dX2_weighSpan_70 ?_
      refine ww_istore (fun bo => [(5, .int (bo)), (4, .int (nI k)), (0, .ref (gA G 4 (0))), (1, .ref (gA G 17 (p))), (2, .int (nI i)), (3, .int (nI j))]) C dX2_weighSpan_71 (by decide) (fun _ => rfl) (fun bo ebo => ?_)
      refine ww_aload_n C dX2_weighSpan_73 rfl 2 rfl ?_
      refine ww_gr (j := 0) (k := 4) (f := 1) C rfl rfl (by decide) rfl in_X2_weighSpan_X2 (by decide) lk_X2_weighSpan_16 dX2_weighSpan_74 rfl ?_
      refine ww_iload_n C dX2_weighSpan_77 rfl 4 rfl ?_
      refine ww_aald (k := 6) (j := i) (j' := i) C rfl (by decide) (by decide) (by decide) dX2_weighSpan_78 rfl (by omega) rfl ?_
      refine ww_iload C dX2_weighSpan_79 1 rfl ?_
      refine ww_iald (k := 10) (j := k) C rfl (show i < 14 from (by omega)) (by decide) dX2_weighSpan_81 rfl (by omega) ?_
      refine ww_aload_n C dX2_weighSpan_82 rfl 2 rfl ?_
      refine ww_gr (j := 0) (k := 4) (f := 1) C rfl rfl (by decide) rfl in_X2_weighSpan_X2 (by decide) lk_X2_weighSpan_16 dX2_weighSpan_83 rfl ?_
      refine ww_iload C dX2_weighSpan_86 1 rfl ?_
      refine ww_aald (k := 6) (j := k) (j' := k) C rfl (by decide) (by decide) (by decide) dX2_weighSpan_88 rfl (by omega) rfl ?_
      refine ww_iload_n C dX2_weighSpan_89 rfl 5 rfl ?_
      refine ww_iald (k := 10) (j := j) C rfl (show k < 14 from (by omega)) (by decide) dX2_weighSpan_90 rfl (by omega) ?_
      refine ww_iadd C dX2_weighSpan_91 ?_
      refine ww_istore (fun to => [(6, .int (to)), (5, .int (bo)), (4, .int (nI k)), (0, .ref (gA G 4 (0))), (1, .ref (gA G 17 (p))), (2, .int (nI i)), (3, .int (nI j))]) C dX2_weighSpan_92 (by decide) (fun _ => rfl) (fun to eto => ?_)
      refine ww_iload C dX2_weighSpan_94 1 rfl ?_
      refine ww_if_le 143 C dX2_weighSpan_96 (by decide) (fun h96 => ?_) (fun h96 => ?_)
      · refine ww_aload_n C dX2_weighSpan_143 rfl 3 rfl ?_
        refine ww_gr (j := 0) (k := 4) (f := 0) C rfl rfl (by decide) rfl in_X2_weighSpan_X2 (by decide) lk_X2_weighSpan_11 dX2_weighSpan_144 rfl ?_
        refine ww_iload_n C dX2_weighSpan_147 rfl 5 rfl ?_
        refine ww_aald (k := 5) (j := i) (j' := i) C rfl (by decide) (by decide) (by decide) dX2_weighSpan_148 rfl (by omega) rfl ?_
        refine ww_iload_n C dX2_weighSpan_149 rfl 6 rfl ?_
        refine ww_dup2 C dX2_weighSpan_150 rfl rfl ?_
        refine ww_iald (k := 9) (j := j) C rfl (show i < 14 from (by omega)) (by decide) dX2_weighSpan_151 rfl (by omega) ?_
        refine ww_iload C dX2_weighSpan_152 1 rfl ?_
        refine ww_iadd C dX2_weighSpan_154 ?_
        refine ww_iast (k := 9) (j := j) C rfl (show i < 14 from (by omega)) (by decide) dX2_weighSpan_155 rfl (by omega) ?_
        obtain ⟨σ2, hσ2⟩ : ∃ z : Sg, z = (sgu τ 9 (i) (j) ((τ 9 (i) (j)) + (bo))) := ⟨_, rfl⟩
        rw [← hσ2]
        refine ww_iinc (q := 2) (fun y3 => [(4, .int (y3)), (6, .int (to)), (5, .int (bo)), (0, .ref (gA G 4 (0))), (1, .ref (gA G 17 (p))), (2, .int (nI i)), (3, .int (nI j))]) C dX2_weighSpan_156 rfl (by decide) (fun _ => rfl) (fun y3 ey3 => ?_)
        obtain rfl : y3 = nI (k + 1) := ninc rfl ey3
        refine ww_goto 46 C dX2_weighSpan_159 (by decide) ?_
        have hb : bo = (σ 9 i k * σ 9 k j) := by rw [ebo, ht, sp3_j (by omega), sp3_i (by omega)]
        have ha : to = (σ 10 i k + σ 10 k j) := by rw [eto, ht, sp3_j (by omega), sp3_i (by omega)]
        have hk1 : i + 1 + (k - (i + 1)) = k := by omega
        have hst : σ2 = sp3 σ i j (spS (σ 9) (σ 10) i j (k + 1 - (i + 1))) := by
          rw [show k + 1 - (i + 1) = (k - (i + 1)) + 1 by omega, spS, hk1, if_neg (fun q => absurd (by rw [← hb] at q; exact q.1) (Int32.not_lt.mpr h96)), hσ2, ht, sp3_w, sp3_9, ← hb]
        exact ww_sub [0, 3, 4, 5, 6] rfl (ih (k + 1) _ (by omega) (by omega) (by omega) hst)
      · refine ww_aload_n C dX2_weighSpan_99 rfl 3 rfl ?_
        refine ww_gr (j := 0) (k := 4) (f := 0) C rfl rfl (by decide) rfl in_X2_weighSpan_X2 (by decide) lk_X2_weighSpan_11 dX2_weighSpan_100 rfl ?_
        refine ww_iload_n C dX2_weighSpan_103 rfl 5 rfl ?_
        refine ww_aald (k := 5) (j := i) (j' := i) C rfl (by decide) (by decide) (by decide) dX2_weighSpan_104 rfl (by omega) rfl ?_
        refine ww_iload_n C dX2_weighSpan_105 rfl 6 rfl ?_
        refine ww_iald (k := 9) (j := j) C rfl (show i < 14 from (by omega)) (by decide) dX2_weighSpan_106 rfl (by omega) ?_
        refine ww_if_eq 123 C dX2_weighSpan_107 (by decide) (fun h107 => ?_) (fun h107 => ?_)
        · refine ww_aload_n C dX2_weighSpan_123 rfl 3 rfl ?_
          refine ww_gr (j := 0) (k := 4) (f := 1) C rfl rfl (by decide) rfl in_X2_weighSpan_X2 (by decide) lk_X2_weighSpan_16 dX2_weighSpan_124 rfl ?_
          refine ww_iload_n C dX2_weighSpan_127 rfl 5 rfl ?_
          refine ww_aald (k := 6) (j := i) (j' := i) C rfl (by decide) (by decide) (by decide) dX2_weighSpan_128 rfl (by omega) rfl ?_
          refine ww_iload_n C dX2_weighSpan_129 rfl 6 rfl ?_
          refine ww_iload C dX2_weighSpan_130 0 rfl ?_
          refine ww_iast (k := 10) (j := j) C rfl (show i < 14 from (by omega)) (by decide) dX2_weighSpan_132 rfl (by omega) ?_
          obtain ⟨σ4, hσ4⟩ : ∃ z : Sg, z = (sgu τ 10 (i) (j) (to)) := ⟨_, rfl⟩
          rw [← hσ4]
          refine ww_aload_n C dX2_weighSpan_133 rfl 3 rfl ?_
          refine ww_gr (j := 0) (k := 4) (f := 2) C rfl rfl (by decide) rfl in_X2_weighSpan_X2 (by decide) lk_X2_weighSpan_19 dX2_weighSpan_134 rfl ?_
          refine ww_iload_n C dX2_weighSpan_137 rfl 5 rfl ?_
          refine ww_aald (k := 7) (j := i) (j' := i) C rfl (by decide) (by decide) (by decide) dX2_weighSpan_138 rfl (by omega) rfl ?_
          refine ww_iload_n C dX2_weighSpan_139 rfl 6 rfl ?_
          refine ww_iload C dX2_weighSpan_140 2 rfl ?_
          refine ww_iast (k := 11) (j := j) C rfl (show i < 14 from (by omega)) (by decide) dX2_weighSpan_142 rfl (by omega) ?_
          obtain ⟨σ5, hσ5⟩ : ∃ z : Sg, z = (sgu σ4 11 (i) (j) (nI k)) := ⟨_, rfl⟩
          rw [← hσ5]
          refine ww_aload_n C dX2_weighSpan_143 rfl 3 rfl ?_
          refine ww_gr (j := 0) (k := 4) (f := 0) C rfl rfl (by decide) rfl in_X2_weighSpan_X2 (by decide) lk_X2_weighSpan_11 dX2_weighSpan_144 rfl ?_
          refine ww_iload_n C dX2_weighSpan_147 rfl 5 rfl ?_
          refine ww_aald (k := 5) (j := i) (j' := i) C rfl (by decide) (by decide) (by decide) dX2_weighSpan_148 rfl (by omega) rfl ?_
          refine ww_iload_n C dX2_weighSpan_149 rfl 6 rfl ?_
          refine ww_dup2 C dX2_weighSpan_150 rfl rfl ?_
          refine ww_iald (k := 9) (j := j) C rfl (show i < 14 from (by omega)) (by decide) dX2_weighSpan_151 rfl (by omega) ?_
          refine ww_iload C dX2_weighSpan_152 1 rfl ?_
          refine ww_iadd C dX2_weighSpan_154 ?_
          refine ww_iast (k := 9) (j := j) C rfl (show i < 14 from (by omega)) (by decide) dX2_weighSpan_155 rfl (by omega) ?_
          obtain ⟨σ6, hσ6⟩ : ∃ z : Sg, z = (sgu σ5 9 (i) (j) ((σ5 9 (i) (j)) + (bo))) := ⟨_, rfl⟩
          rw [← hσ6]
          refine ww_iinc (q := 2) (fun y7 => [(4, .int (y7)), (6, .int (to)), (5, .int (bo)), (0, .ref (gA G 4 (0))), (1, .ref (gA G 17 (p))), (2, .int (nI i)), (3, .int (nI j))]) C dX2_weighSpan_156 rfl (by decide) (fun _ => rfl) (fun y7 ey7 => ?_)
          obtain rfl : y7 = nI (k + 1) := ninc rfl ey7
          refine ww_goto 46 C dX2_weighSpan_159 (by decide) ?_
          have hb : bo = (σ 9 i k * σ 9 k j) := by rw [ebo, ht, sp3_j (by omega), sp3_i (by omega)]
          have ha : to = (σ 10 i k + σ 10 k j) := by rw [eto, ht, sp3_j (by omega), sp3_i (by omega)]
          have hk1 : i + 1 + (k - (i + 1)) = k := by omega
          have hst : σ6 = sp3 σ i j (spS (σ 9) (σ 10) i j (k + 1 - (i + 1))) := by
            rw [show k + 1 - (i + 1) = (k - (i + 1)) + 1 by omega, spS, hk1, if_pos ⟨by rw [← hb]; exact Int32.not_le.mp h96, Or.inl (by rw [ht, sp3_w] at h107; exact h107)⟩, hσ6, hσ5, hσ4, ht, sp3_10, sp3_11, sp3_w, sp3_9, ← hb, ← ha]
          exact ww_sub [0, 3, 4, 5, 6] rfl (ih (k + 1) _ (by omega) (by omega) (by omega) hst)
        · refine ww_iload C dX2_weighSpan_110 0 rfl ?_
          refine ww_aload_n C dX2_weighSpan_112 rfl 3 rfl ?_
          refine ww_gr (j := 0) (k := 4) (f := 1) C rfl rfl (by decide) rfl in_X2_weighSpan_X2 (by decide) lk_X2_weighSpan_16 dX2_weighSpan_113 rfl ?_
          refine ww_iload_n C dX2_weighSpan_116 rfl 5 rfl ?_
          refine ww_aald (k := 6) (j := i) (j' := i) C rfl (by decide) (by decide) (by decide) dX2_weighSpan_117 rfl (by omega) rfl ?_
          refine ww_iload_n C dX2_weighSpan_118 rfl 6 rfl ?_
          refine ww_iald (k := 10) (j := j) C rfl (show i < 14 from (by omega)) (by decide) dX2_weighSpan_119 rfl (by omega) ?_
          refine ww_icmp_ge 143 C dX2_weighSpan_120 (by decide) (fun h120 => ?_) (fun h120 => ?_)
          · refine ww_aload_n C dX2_weighSpan_143 rfl 3 rfl ?_
            refine ww_gr (j := 0) (k := 4) (f := 0) C rfl rfl (by decide) rfl in_X2_weighSpan_X2 (by decide) lk_X2_weighSpan_11 dX2_weighSpan_144 rfl ?_
            refine ww_iload_n C dX2_weighSpan_147 rfl 5 rfl ?_
            refine ww_aald (k := 5) (j := i) (j' := i) C rfl (by decide) (by decide) (by decide) dX2_weighSpan_148 rfl (by omega) rfl ?_
            refine ww_iload_n C dX2_weighSpan_149 rfl 6 rfl ?_
            refine ww_dup2 C dX2_weighSpan_150 rfl rfl ?_
            refine ww_iald (k := 9) (j := j) C rfl (show i < 14 from (by omega)) (by decide) dX2_weighSpan_151 rfl (by omega) ?_
            refine ww_iload C dX2_weighSpan_152 1 rfl ?_
            refine ww_iadd C dX2_weighSpan_154 ?_
            refine ww_iast (k := 9) (j := j) C rfl (show i < 14 from (by omega)) (by decide) dX2_weighSpan_155 rfl (by omega) ?_
            obtain ⟨σ8, hσ8⟩ : ∃ z : Sg, z = (sgu τ 9 (i) (j) ((τ 9 (i) (j)) + (bo))) := ⟨_, rfl⟩
            rw [← hσ8]
            refine ww_iinc (q := 2) (fun y9 => [(4, .int (y9)), (6, .int (to)), (5, .int (bo)), (0, .ref (gA G 4 (0))), (1, .ref (gA G 17 (p))), (2, .int (nI i)), (3, .int (nI j))]) C dX2_weighSpan_156 rfl (by decide) (fun _ => rfl) (fun y9 ey9 => ?_)
            obtain rfl : y9 = nI (k + 1) := ninc rfl ey9
            refine ww_goto 46 C dX2_weighSpan_159 (by decide) ?_
            have hb : bo = (σ 9 i k * σ 9 k j) := by rw [ebo, ht, sp3_j (by omega), sp3_i (by omega)]
            have ha : to = (σ 10 i k + σ 10 k j) := by rw [eto, ht, sp3_j (by omega), sp3_i (by omega)]
            have hk1 : i + 1 + (k - (i + 1)) = k := by omega
            have hst : σ8 = sp3 σ i j (spS (σ 9) (σ 10) i j (k + 1 - (i + 1))) := by
              rw [show k + 1 - (i + 1) = (k - (i + 1)) + 1 by omega, spS, hk1, if_neg (fun q => q.2.elim (fun q2 => by rw [ht, sp3_w] at h107; exact h107 q2) (fun q2 => by rw [← ha] at q2; rw [ht, sp3_s] at h120; exact absurd q2 (Int32.not_lt.mpr h120))), hσ8, ht, sp3_w, sp3_9, ← hb]
            exact ww_sub [0, 3, 4, 5, 6] rfl (ih (k + 1) _ (by omega) (by omega) (by omega) hst)
          · refine ww_aload_n C dX2_weighSpan_123 rfl 3 rfl ?_
            refine ww_gr (j := 0) (k := 4) (f := 1) C rfl rfl (by decide) rfl in_X2_weighSpan_X2 (by decide) lk_X2_weighSpan_16 dX2_weighSpan_124 rfl ?_
            refine ww_iload_n C dX2_weighSpan_127 rfl 5 rfl ?_
            refine ww_aald (k := 6) (j := i) (j' := i) C rfl (by decide) (by decide) (by decide) dX2_weighSpan_128 rfl (by omega) rfl ?_
            refine ww_iload_n C dX2_weighSpan_129 rfl 6 rfl ?_
            refine ww_iload C dX2_weighSpan_130 0 rfl ?_
            refine ww_iast (k := 10) (j := j) C rfl (show i < 14 from (by omega)) (by decide) dX2_weighSpan_132 rfl (by omega) ?_
            obtain ⟨σ10, hσ10⟩ : ∃ z : Sg, z = (sgu τ 10 (i) (j) (to)) := ⟨_, rfl⟩
            rw [← hσ10]
            refine ww_aload_n C dX2_weighSpan_133 rfl 3 rfl ?_
            refine ww_gr (j := 0) (k := 4) (f := 2) C rfl rfl (by decide) rfl in_X2_weighSpan_X2 (by decide) lk_X2_weighSpan_19 dX2_weighSpan_134 rfl ?_
            refine ww_iload_n C dX2_weighSpan_137 rfl 5 rfl ?_
            refine ww_aald (k := 7) (j := i) (j' := i) C rfl (by decide) (by decide) (by decide) dX2_weighSpan_138 rfl (by omega) rfl ?_
            refine ww_iload_n C dX2_weighSpan_139 rfl 6 rfl ?_
            refine ww_iload C dX2_weighSpan_140 2 rfl ?_
            refine ww_iast (k := 11) (j := j) C rfl (show i < 14 from (by omega)) (by decide) dX2_weighSpan_142 rfl (by omega) ?_
            obtain ⟨σ11, hσ11⟩ : ∃ z : Sg, z = (sgu σ10 11 (i) (j) (nI k)) := ⟨_, rfl⟩
            rw [← hσ11]
            refine ww_aload_n C dX2_weighSpan_143 rfl 3 rfl ?_
            refine ww_gr (j := 0) (k := 4) (f := 0) C rfl rfl (by decide) rfl in_X2_weighSpan_X2 (by decide) lk_X2_weighSpan_11 dX2_weighSpan_144 rfl ?_
            refine ww_iload_n C dX2_weighSpan_147 rfl 5 rfl ?_
            refine ww_aald (k := 5) (j := i) (j' := i) C rfl (by decide) (by decide) (by decide) dX2_weighSpan_148 rfl (by omega) rfl ?_
            refine ww_iload_n C dX2_weighSpan_149 rfl 6 rfl ?_
            refine ww_dup2 C dX2_weighSpan_150 rfl rfl ?_
            refine ww_iald (k := 9) (j := j) C rfl (show i < 14 from (by omega)) (by decide) dX2_weighSpan_151 rfl (by omega) ?_
            refine ww_iload C dX2_weighSpan_152 1 rfl ?_
            refine ww_iadd C dX2_weighSpan_154 ?_
            refine ww_iast (k := 9) (j := j) C rfl (show i < 14 from (by omega)) (by decide) dX2_weighSpan_155 rfl (by omega) ?_
            obtain ⟨σ12, hσ12⟩ : ∃ z : Sg, z = (sgu σ11 9 (i) (j) ((σ11 9 (i) (j)) + (bo))) := ⟨_, rfl⟩
            rw [← hσ12]
            refine ww_iinc (q := 2) (fun y13 => [(4, .int (y13)), (6, .int (to)), (5, .int (bo)), (0, .ref (gA G 4 (0))), (1, .ref (gA G 17 (p))), (2, .int (nI i)), (3, .int (nI j))]) C dX2_weighSpan_156 rfl (by decide) (fun _ => rfl) (fun y13 ey13 => ?_)
            obtain rfl : y13 = nI (k + 1) := ninc rfl ey13
            refine ww_goto 46 C dX2_weighSpan_159 (by decide) ?_
            have hb : bo = (σ 9 i k * σ 9 k j) := by rw [ebo, ht, sp3_j (by omega), sp3_i (by omega)]
            have ha : to = (σ 10 i k + σ 10 k j) := by rw [eto, ht, sp3_j (by omega), sp3_i (by omega)]
            have hk1 : i + 1 + (k - (i + 1)) = k := by omega
            have hst : σ12 = sp3 σ i j (spS (σ 9) (σ 10) i j (k + 1 - (i + 1))) := by
              rw [show k + 1 - (i + 1) = (k - (i + 1)) + 1 by omega, spS, hk1, if_pos ⟨by rw [← hb]; exact Int32.not_le.mp h96, Or.inr (by rw [← ha]; rw [ht, sp3_s] at h120; exact Int32.not_le.mp h120)⟩, hσ12, hσ11, hσ10, ht, sp3_10, sp3_11, sp3_w, sp3_9, ← hb, ← ha]
            exact ww_sub [0, 3, 4, 5, 6] rfl (ih (k + 1) _ (by omega) (by omega) (by omega) hst)
set_option maxHeartbeats 4000000 in
set_option maxRecDepth 100000 in
theorem c_X2_weighSpan (l : Launch) (G : Gx) (hA : wa G) (σ : Sg) (p n : Nat) (hp : p < 8) (hs : σ 14 (p + 1) 2 = nI n) (hn : n ≤ 14) (i j : Nat) (hij : i + 2 ≤ j) (hj : j < n) : CtV l yX2_weighSpan wsX2_weighSpan (rmd 2) G [.ref (gA G 4 (0)), .ref (gA G 17 (p)), .int (nI i), .int (nI j)] σ (fun σ2 => σ2 = sp3 σ i j (spF (σ 9) (σ 10) (σ 19 (14 * p + i) j) (sq9 (σ 15 (p + 1)) (σ 16 (p + 1)) i j) i j)) := by
  refine ct_v (maxL := 7) (ret := none) (by decide) rfl (Nat.le_of_ble_eq_true rfl) hA (fun K hl C => ?_)
  subst hl
  change WW K G _ _ σ [(0, .ref (gA G 4 (0))), (1, .ref (gA G 17 (p))), (2, .int (nI i)), (3, .int (nI j))] 0 []
  refine ww_aload_n C dX2_weighSpan_0 rfl 0 rfl ?_
  refine ww_gr (j := 0) (k := 4) (f := 0) C rfl rfl (by decide) rfl in_X2_weighSpan_X2 (by decide) lk_X2_weighSpan_11 dX2_weighSpan_1 rfl ?_
  refine ww_iload_n C dX2_weighSpan_4 rfl 2 rfl ?_
  refine ww_aald (k := 5) (j := i) (j' := i) C rfl (by decide) (by decide) (by decide) dX2_weighSpan_5 rfl (by omega) rfl ?_
  refine ww_iload_n C dX2_weighSpan_6 rfl 3 rfl ?_
  refine ww_iconst (v := 0) C dX2_weighSpan_7 rfl ?_
  refine ww_iast (k := 9) (j := j) C rfl (show i < 14 from (by omega)) (by decide) dX2_weighSpan_8 rfl (by omega) ?_
  obtain ⟨σ1, hσ1⟩ : ∃ z : Sg, z = (sgu σ 9 (i) (j) (0)) := ⟨_, rfl⟩
  rw [← hσ1]
  refine ww_aload_n C dX2_weighSpan_9 rfl 0 rfl ?_
  refine ww_gr (j := 0) (k := 4) (f := 1) C rfl rfl (by decide) rfl in_X2_weighSpan_X2 (by decide) lk_X2_weighSpan_16 dX2_weighSpan_10 rfl ?_
  refine ww_iload_n C dX2_weighSpan_13 rfl 2 rfl ?_
  refine ww_aald (k := 6) (j := i) (j' := i) C rfl (by decide) (by decide) (by decide) dX2_weighSpan_14 rfl (by omega) rfl ?_
  refine ww_iload_n C dX2_weighSpan_15 rfl 3 rfl ?_
  refine ww_iconst (v := 0) C dX2_weighSpan_16 rfl ?_
  refine ww_iast (k := 10) (j := j) C rfl (show i < 14 from (by omega)) (by decide) dX2_weighSpan_17 rfl (by omega) ?_
  obtain ⟨σ2, hσ2⟩ : ∃ z : Sg, z = (sgu σ1 10 (i) (j) (0)) := ⟨_, rfl⟩
  rw [← hσ2]
  refine ww_aload_n C dX2_weighSpan_18 rfl 0 rfl ?_
  refine ww_gr (j := 0) (k := 4) (f := 2) C rfl rfl (by decide) rfl in_X2_weighSpan_X2 (by decide) lk_X2_weighSpan_19 dX2_weighSpan_19 rfl ?_
  refine ww_iload_n C dX2_weighSpan_22 rfl 2 rfl ?_
  refine ww_aald (k := 7) (j := i) (j' := i) C rfl (by decide) (by decide) (by decide) dX2_weighSpan_23 rfl (by omega) rfl ?_
  refine ww_iload_n C dX2_weighSpan_24 rfl 3 rfl ?_
  refine ww_iload_n C dX2_weighSpan_25 rfl 2 rfl ?_
  refine ww_iconst (v := 1) C dX2_weighSpan_26 rfl ?_
  refine ww_iadd C dX2_weighSpan_27 ?_
  refine ww_iast (k := 11) (j := j) C rfl (show i < 14 from (by omega)) (by decide) dX2_weighSpan_28 rfl (by omega) ?_
  obtain ⟨σ3, hσ3⟩ : ∃ z : Sg, z = (sgu σ2 11 (i) (j) ((nI i) + (1))) := ⟨_, rfl⟩
  rw [← hσ3]
  refine ww_aload_n C dX2_weighSpan_29 rfl 1 rfl ?_
  refine ww_gr (j := p) (k := 17) (f := 1) C rfl rfl hp rfl in_X2_weighSpan_X3 (by decide) lk_X2_weighSpan_60 dX2_weighSpan_30 rfl ?_
  refine ww_iload_n C dX2_weighSpan_33 rfl 2 rfl ?_
  refine ww_aald (k := 18) (j := i) (j' := 14 * p + i) C rfl (by decide) hp (by decide) dX2_weighSpan_34 rfl (by omega) rfl ?_
  refine ww_iload_n C dX2_weighSpan_35 rfl 3 rfl ?_
  refine ww_iald (k := 19) (j := j) C rfl (dm19 hp (by omega)) (by decide) dX2_weighSpan_36 rfl (by omega) ?_
  refine ww_if_ne 41 C dX2_weighSpan_37 (by decide) (fun h37 => ?_) (fun h37 => ?_)
  · refine ww_iload_n C dX2_weighSpan_41 rfl 2 rfl ?_
    refine ww_iconst (v := 1) C dX2_weighSpan_42 rfl ?_
    refine ww_iadd C dX2_weighSpan_43 ?_
    refine ww_istore (fun y4 => [(4, .int (y4)), (0, .ref (gA G 4 (0))), (1, .ref (gA G 17 (p))), (2, .int (nI i)), (3, .int (nI j))]) C dX2_weighSpan_44 (by decide) (fun _ => rfl) (fun y4 ey4 => ?_)
    obtain rfl : y4 = nI (i + 1) := (ey4.trans (nI_add (i) (1)))
    have hst : σ3 = sp3 σ i j (spS (σ 9) (σ 10) i j (i + 1 - (i + 1))) := by rw [hσ3, hσ2, hσ1, Nat.sub_self, nI_1]; rfl
    exact ww_sub [0, 1, 2, 3, 4] rfl (lp_X2_weighSpan hA C σ p n hp hs hn i j hij hj (by rw [hσ3, hσ2, hσ1, sgu_kk (by decide), sgu_kk (by decide), sgu_kk (by decide)] at h37; exact h37) (j + 1) (i + 1) _ (by omega) (by omega) (by omega) hst)
  · refine ww_vret C dX2_weighSpan_40 ?_
    rw [hσ3, hσ2, hσ1] at h37 ⊢; rw [sgu_kk (by decide), sgu_kk (by decide), sgu_kk (by decide)] at h37; rw [spF, if_pos h37, nI_1]; rfl
end
section
theorem in_X2_weighSpans_X2 : ∀ w ∈ wsX20, w ∈ wsX2_weighSpans := by decide +kernel
theorem lk_X2_weighSpans_11 : Cond.fieldLink RX2 11 "PolyCuts$Cutter" "ways" "[[I" ∈ wsX2_weighSpans := by decide +kernel
theorem lk_X2_weighSpans_16 : Cond.fieldLink RX2 16 "PolyCuts$Cutter" "sum" "[[I" ∈ wsX2_weighSpans := by decide +kernel
theorem in_X2_weighSpans_X3 : ∀ w ∈ wsX30, w ∈ wsX2_weighSpans := by decide +kernel
theorem lk_X2_weighSpans_25 : Cond.fieldLink RX2 25 "PolyCuts$Shape" "corners" "LPolyCuts$Corners;" ∈ wsX2_weighSpans := by decide +kernel
theorem in_X2_weighSpans_X1 : ∀ w ∈ wsX10, w ∈ wsX2_weighSpans := by decide +kernel
theorem lk_X2_weighSpans_31 : Cond.fieldLink RX2 31 "PolyCuts$Corners" "size" "I" ∈ wsX2_weighSpans := by decide +kernel
theorem spS_c {w s w' s' : Nat → Nat → Int32} {i j : Nat} : ∀ d, (∀ k, i < k → k < i + 1 + d → w i k = w' i k ∧ w k j = w' k j ∧ s i k = s' i k ∧ s k j = s' k j) → spS w s i j d = spS w' s' i j d
  | 0, _ => rfl
  | d + 1, h => by
    have h1 := spS_c d (fun k h2 h3 => h k h2 (by omega))
    obtain ⟨e1, e2, e3, e4⟩ := h (i + 1 + d) (by omega) (by omega)
    simp only [spS]
    rw [h1, e1, e2, e3, e4]
theorem spF_c {w s w' s' : Nat → Nat → Int32} {sg sq : Int32} {i j : Nat} (h : ∀ k, i < k → k < j → w i k = w' i k ∧ w k j = w' k j ∧ s i k = s' i k ∧ s k j = s' k j) : spF w s sg sq i j = spF w' s' sg sq i j := by
  have h1 : spS w s i j (j - i - 1) = spS w' s' i j (j - i - 1) := spS_c _ (fun k h2 h3 => h k h2 (by omega))
  simp only [spF]
  rw [h1]
def tri3 (τ : Sg) (i j : Nat) : T3 := (τ 9 i j, τ 10 i j, τ 11 i j)
/-- the spans of a width below wd, and those of width wd that begin below i0, are weighed -/
def WSi (σ τ : Sg) (p n wd i0 : Nat) : Prop := (∀ k, k ≠ 9 ∧ k ≠ 10 ∧ k ≠ 11 → τ k = σ k) ∧ (∀ i, i + 1 < n → τ 9 i (i + 1) = 1 ∧ τ 10 i (i + 1) = 0) ∧ ∀ i j, i + 2 ≤ j → j < n → (j - i < wd ∨ (j - i = wd ∧ i < i0)) → tri3 τ i j = spF (τ 9) (τ 10) (σ 19 (14 * p + i) j) (sq9 (σ 15 (p + 1)) (σ 16 (p + 1)) i j) i j
theorem tri3_o {τ : Sg} {i j a b : Nat} {c : T3} (h : a ≠ i ∨ b ≠ j) : tri3 (sp3 τ i j c) a b = tri3 τ a b := by
  unfold tri3
  rcases h with h | h
  · rw [sp3_i h, sp3_i h, sp3_i h]
  · rw [sp3_j h, sp3_j h, sp3_j h]
theorem ws_s {σ τ τ' : Sg} {p n wd i0 : Nat} (h2 : 2 ≤ wd) (hi : i0 + wd < n) (h : WSi σ τ p n wd i0) (e : τ' = sp3 τ i0 (i0 + wd) (spF (τ 9) (τ 10) (τ 19 (14 * p + i0) (i0 + wd)) (sq9 (τ 15 (p + 1)) (τ 16 (p + 1)) i0 (i0 + wd)) i0 (i0 + wd))) : WSi σ τ' p n wd (i0 + 1) := by
  obtain ⟨h3, h4, h5⟩ := h
  rw [h3 19 (by decide), h3 15 (by decide), h3 16 (by decide)] at e
  have key : ∀ i j, i + 2 ≤ j → j - i ≤ wd → ∀ k, i < k → k < j → τ' 9 i k = τ 9 i k ∧ τ' 9 k j = τ 9 k j ∧ τ' 10 i k = τ 10 i k ∧ τ' 10 k j = τ 10 k j := fun i j hij hw k hk1 hk2 => by
    have q1 : i ≠ i0 ∨ k ≠ i0 + wd := by omega
    have q2 : k ≠ i0 ∨ j ≠ i0 + wd := by omega
    subst e
    refine ⟨?_, ?_, ?_, ?_⟩
    · rcases q1 with q | q
      · exact sp3_i q
      · exact sp3_j q
    · rcases q2 with q | q
      · exact sp3_i q
      · exact sp3_j q
    · rcases q1 with q | q
      · exact sp3_i q
      · exact sp3_j q
    · rcases q2 with q | q
      · exact sp3_i q
      · exact sp3_j q
  refine ⟨fun k hk => by rw [e, sp3_k hk, h3 k hk], fun i hi1 => ?_, fun i j hij hj hc => ?_⟩
  · rw [e]
    rcases (show i ≠ i0 ∨ i + 1 ≠ i0 + wd by omega) with q | q
    · rw [sp3_i q, sp3_i q]; exact h4 i hi1
    · rw [sp3_j q, sp3_j q]; exact h4 i hi1
  · rw [spF_c (key i j hij (by omega))]
    by_cases hq : i = i0 ∧ j = i0 + wd
    · obtain ⟨rfl, rfl⟩ := hq
      rw [e]
      show (_, _, _) = _
      rw [sp3_w, sp3_s, sp3_t]
    · rw [e, tri3_o (by omega)]
      exact h5 i j hij hj (by omega)
theorem ws_n {σ τ : Sg} {p n wd i0 : Nat} (hi : n ≤ i0 + wd) (h : WSi σ τ p n wd i0) : WSi σ τ p n (wd + 1) 0 := ⟨h.1, h.2.1, fun i j h1 h2 h3 => h.2.2 i j h1 h2 (by omega)⟩
/-- all spans are weighed -/
def WSA (σ τ : Sg) (p n : Nat) : Prop := (∀ k, k ≠ 9 ∧ k ≠ 10 ∧ k ≠ 11 → τ k = σ k) ∧ (∀ i, i + 1 < n → τ 9 i (i + 1) = 1 ∧ τ 10 i (i + 1) = 0) ∧ ∀ i j, i + 2 ≤ j → j < n → tri3 τ i j = spF (τ 9) (τ 10) (σ 19 (14 * p + i) j) (sq9 (σ 15 (p + 1)) (σ 16 (p + 1)) i j) i j
def WS0 (σ τ : Sg) (i0 : Nat) : Prop := (∀ k, k ≠ 9 ∧ k ≠ 10 ∧ k ≠ 11 → τ k = σ k) ∧ ∀ i, i < i0 → τ 9 i (i + 1) = 1 ∧ τ 10 i (i + 1) = 0
theorem ws0_s {σ τ σ1 σ2 : Sg} {i0 : Nat} (h : WS0 σ τ i0) (e1 : σ1 = sgu τ 9 i0 (i0 + 1) 1) (e2 : σ2 = sgu σ1 10 i0 (i0 + 1) 0) : WS0 σ σ2 (i0 + 1) := by
  refine ⟨fun k hk => by rw [e2, sgu_kk hk.2.1, e1, sgu_kk hk.1, h.1 k hk], fun i hi => ?_⟩
  by_cases q : i = i0
  · subst q
    rw [e2, sgu_k (by decide), e1, sgu_self, sgu_self]
    exact ⟨rfl, rfl⟩
  · rw [e2, sgu_i q, sgu_i q, e1, sgu_i q, sgu_i q]
    exact h.2 i (by omega)
set_option maxHeartbeats 4000000 in
set_option maxRecDepth 100000 in
theorem lp_X2_weighSpans_i {K : Kx} {G : Gx} (hA : wa G) (C : CX K G cX2_weighSpans 5 RX2 wsX2_weighSpans (rmd 3) none) (σ : Sg) (p n : Nat) (hp : p < 8) (hs : σ 14 (p + 1) 2 = nI n) (hn : n ≤ 14) (wd : Nat) (h2 : 2 ≤ wd) (hw : wd < n) (kx : ∀ τ, WSi σ τ p n (wd + 1) 0 → WW K G 5 (QV K G (fun σ2 => WSA σ σ2 p n)) τ [(3, .int (nI wd)), (2, .int (nI n)), (0, .ref (gA G 4 (0))), (1, .ref (gA G 17 (p)))] 80 []) : ∀ (f i : Nat) (τ : Sg), n - i < f → i ≤ n → WSi σ τ p n wd i → WW K G 5 (QV K G (fun σ2 => WSA σ σ2 p n)) τ [(4, .int (nI i)), (3, .int (nI wd)), (2, .int (nI n)), (0, .ref (gA G 4 (0))), (1, .ref (gA G 17 (p)))] 55 [] := by
  intro f
  induction f with
  | zero => intro i τ h; exact absurd h (Nat.not_lt_zero _)
  | succ f ih =>
    intro i τ hf hi hk
    have hst : τ 14 (p + 1) 2 = nI n := by rw [hk.1 14 (by decide)]; exact hs
    refine ww_iload C dX2_weighSpans_55 0 rfl ?_
    refine ww_iload_n C dX2_weighSpans_57 rfl 1 rfl ?_
    refine ww_iadd C dX2_weighSpans_58 ?_
    refine ww_iload_n C dX2_weighSpans_59 rfl 2 rfl ?_
    refine ww_icmp_ge 80 C dX2_weighSpans_60 (by decide) (fun h60 => ?_) (fun h60 => ?_)
    · have g60 : n ≤ i + wd := (cv_le (a := n) (b := i + wd) rfl (nI_add (i) (wd)) (by omega) (by omega)).mp h60
      exact ww_sub [1, 2, 3, 4] rfl (kx _ (ws_n (by omega) hk))
    · have g60 : ¬ n ≤ i + wd := fun q => h60 ((cv_le (a := n) (b := i + wd) rfl (nI_add (i) (wd)) (by omega) (by omega)).mpr q)
      refine ww_aload_n C dX2_weighSpans_63 rfl 3 rfl ?_
      refine ww_aload_n C dX2_weighSpans_64 rfl 4 rfl ?_
      refine ww_iload C dX2_weighSpans_65 0 rfl ?_
      refine ww_iload C dX2_weighSpans_67 0 rfl ?_
      refine ww_iload_n C dX2_weighSpans_69 rfl 1 rfl ?_
      refine ww_iadd C dX2_weighSpans_70 ?_
      rw [show (nI i) + (nI wd) = nI (i + wd) from nI_add (i) (wd)]
      refine ww_callvF (cx_V (n := 3) (As := [.ref (gA G 17 (p)), .int (nI i), .int (nI (i + wd))]) C  (c_X2_weighSpan (kL K) G hA τ p n hp hst hn i (i + wd) (by omega) (by omega)) gX2_weighSpans_X2_weighSpan rfl ⟨rfl, rfl⟩ (by decide +kernel) (by decide) rfl (by decide) rfl rfl rfl (Nat.le_of_ble_eq_true rfl) dX2_weighSpans_71) ?_
      obtain ⟨σ1, hσ1⟩ : ∃ z : Sg, z = (sp3 τ i (i + wd) (spF (τ 9) (τ 10) (τ 19 (14 * p + i) (i + wd)) (sq9 (τ 15 (p + 1)) (τ 16 (p + 1)) i (i + wd)) i (i + wd))) := ⟨_, rfl⟩
      rw [← hσ1]
      refine ww_iinc (q := 0) (fun y2 => [(4, .int (y2)), (3, .int (nI wd)), (2, .int (nI n)), (0, .ref (gA G 4 (0))), (1, .ref (gA G 17 (p)))]) C dX2_weighSpans_74 rfl (by decide) (fun _ => rfl) (fun y2 ey2 => ?_)
      obtain rfl : y2 = nI (i + 1) := ninc rfl ey2
      refine ww_goto 55 C dX2_weighSpans_77 (by decide) ?_
      exact ww_sub [0, 1, 2, 3, 4] rfl (ih (i + 1) _ (by omega) (by omega) (ws_s h2 (by omega) hk hσ1))
set_option maxHeartbeats 4000000 in
set_option maxRecDepth 100000 in
theorem lp_X2_weighSpans_w {K : Kx} {G : Gx} (hA : wa G) (C : CX K G cX2_weighSpans 5 RX2 wsX2_weighSpans (rmd 3) none) (σ : Sg) (p n : Nat) (hp : p < 8) (hs : σ 14 (p + 1) 2 = nI n) (hn : n ≤ 14) : ∀ (f wd : Nat) (τ : Sg), n - wd < f → 2 ≤ wd → wd ≤ n + 2 → WSi σ τ p n wd 0 → WW K G 5 (QV K G (fun σ2 => WSA σ σ2 p n)) τ [(3, .int (nI wd)), (2, .int (nI n)), (0, .ref (gA G 4 (0))), (1, .ref (gA G 17 (p)))] 47 [] := by
  intro f
  induction f with
  | zero => intro wd τ h; exact absurd h (Nat.not_lt_zero _)
  | succ f ih =>
    intro wd τ hf h2 hw hk
    refine ww_iload_n C dX2_weighSpans_47 rfl 0 rfl ?_
    refine ww_iload_n C dX2_weighSpans_48 rfl 1 rfl ?_
    refine ww_icmp_ge 86 C dX2_weighSpans_49 (by decide) (fun h49 => ?_) (fun h49 => ?_)
    · have g49 : n ≤ wd := (cv_le (a := n) (b := wd) rfl rfl (by omega) (by omega)).mp h49
      refine ww_vret C dX2_weighSpans_86 ?_
      exact ⟨hk.1, hk.2.1, fun i j h1 h2 => hk.2.2 i j h1 h2 (by omega)⟩
    · have g49 : ¬ n ≤ wd := fun q => h49 ((cv_le (a := n) (b := wd) rfl rfl (by omega) (by omega)).mpr q)
      refine ww_iconst (v := 0) C dX2_weighSpans_52 rfl ?_
      refine ww_istore (fun y1 => [(4, .int (y1)), (3, .int (nI wd)), (2, .int (nI n)), (0, .ref (gA G 4 (0))), (1, .ref (gA G 17 (p)))]) C dX2_weighSpans_53 (by decide) (fun _ => rfl) (fun y1 ey1 => ?_)
      obtain rfl : y1 = nI 0 := (ey1.trans (by decide))
      refine ww_sub [0, 1, 2, 3, 4] rfl (lp_X2_weighSpans_i hA C σ p n hp hs hn wd h2 (by omega) (fun τ2 hk2 => ?_) (n + 1) 0 τ (by omega) (by omega) hk)
      refine ww_iinc (q := 0) (fun y2 => [(3, .int (y2)), (2, .int (nI n)), (0, .ref (gA G 4 (0))), (1, .ref (gA G 17 (p)))]) C dX2_weighSpans_80 rfl (by decide) (fun _ => rfl) (fun y2 ey2 => ?_)
      obtain rfl : y2 = nI (wd + 1) := ninc rfl ey2
      refine ww_goto 47 C dX2_weighSpans_83 (by decide) ?_
      exact ww_sub [0, 1, 2, 3] rfl (ih (wd + 1) _ (by omega) (by omega) (by omega) hk2)
set_option maxHeartbeats 4000000 in
set_option maxRecDepth 100000 in
theorem lp_X2_weighSpans_0 {K : Kx} {G : Gx} (hA : wa G) (C : CX K G cX2_weighSpans 5 RX2 wsX2_weighSpans (rmd 3) none) (σ : Sg) (p n : Nat) (hp : p < 8) (hs : σ 14 (p + 1) 2 = nI n) (hn : n ≤ 14) : ∀ (f i : Nat) (τ : Sg), n - i < f → i ≤ n → WS0 σ τ i → WW K G 5 (QV K G (fun σ2 => WSA σ σ2 p n)) τ [(3, .int (nI i)), (2, .int (nI n)), (0, .ref (gA G 4 (0))), (1, .ref (gA G 17 (p)))] 10 [] := by
  intro f
  induction f with
  | zero => intro i τ h; exact absurd h (Nat.not_lt_zero _)
  | succ f ih =>
    intro i τ hf hi hk
    refine ww_iload_n C dX2_weighSpans_10 rfl 0 rfl ?_
    refine ww_iconst (v := 1) C dX2_weighSpans_11 rfl ?_
    refine ww_iadd C dX2_weighSpans_12 ?_
    refine ww_iload_n C dX2_weighSpans_13 rfl 1 rfl ?_
    refine ww_icmp_ge 45 C dX2_weighSpans_14 (by decide) (fun h14 => ?_) (fun h14 => ?_)
    · have g14 : n ≤ i + 1 := (cv_le (a := n) (b := i + 1) rfl (nI_add (i) (1)) (by omega) (by omega)).mp h14
      refine ww_iconst (v := 2) C dX2_weighSpans_45 rfl ?_
      refine ww_istore_n (fun y1 => [(3, .int (y1)), (2, .int (nI n)), (0, .ref (gA G 4 (0))), (1, .ref (gA G 17 (p)))]) C dX2_weighSpans_46 rfl (by decide) (fun _ => rfl) (fun y1 ey1 => ?_)
      obtain rfl : y1 = nI 2 := (ey1.trans (by decide))
      exact ww_sub [0, 1, 2, 3] rfl (lp_X2_weighSpans_w hA C σ p n hp hs hn (n + 3) 2 τ (by omega) (by omega) (by omega) ⟨hk.1, fun j hj => hk.2 j (by omega), fun a b h1 h2 h3 => absurd h3 (by omega)⟩)
    · have g14 : ¬ n ≤ i + 1 := fun q => h14 ((cv_le (a := n) (b := i + 1) rfl (nI_add (i) (1)) (by omega) (by omega)).mpr q)
      refine ww_aload_n C dX2_weighSpans_17 rfl 2 rfl ?_
      refine ww_gr (j := 0) (k := 4) (f := 0) C rfl rfl (by decide) rfl in_X2_weighSpans_X2 (by decide) lk_X2_weighSpans_11 dX2_weighSpans_18 rfl ?_
      refine ww_iload_n C dX2_weighSpans_21 rfl 0 rfl ?_
      refine ww_aald (k := 5) (j := i) (j' := i) C rfl (by decide) (by decide) (by decide) dX2_weighSpans_22 rfl (by omega) rfl ?_
      refine ww_iload_n C dX2_weighSpans_23 rfl 0 rfl ?_
      refine ww_iconst (v := 1) C dX2_weighSpans_24 rfl ?_
      refine ww_iadd C dX2_weighSpans_25 ?_
      refine ww_iconst (v := 1) C dX2_weighSpans_26 rfl ?_
      refine ww_iast (k := 9) (j := i + 1) C rfl (show i < 14 from (by omega)) (by decide) dX2_weighSpans_27 (nI_add (i) (1)) (by omega) ?_
      obtain ⟨σ2, hσ2⟩ : ∃ z : Sg, z = (sgu τ 9 (i) (i + 1) (1)) := ⟨_, rfl⟩
      rw [← hσ2]
      refine ww_aload_n C dX2_weighSpans_28 rfl 2 rfl ?_
      refine ww_gr (j := 0) (k := 4) (f := 1) C rfl rfl (by decide) rfl in_X2_weighSpans_X2 (by decide) lk_X2_weighSpans_16 dX2_weighSpans_29 rfl ?_
      refine ww_iload_n C dX2_weighSpans_32 rfl 0 rfl ?_
      refine ww_aald (k := 6) (j := i) (j' := i) C rfl (by decide) (by decide) (by decide) dX2_weighSpans_33 rfl (by omega) rfl ?_
      refine ww_iload_n C dX2_weighSpans_34 rfl 0 rfl ?_
      refine ww_iconst (v := 1) C dX2_weighSpans_35 rfl ?_
      refine ww_iadd C dX2_weighSpans_36 ?_
      refine ww_iconst (v := 0) C dX2_weighSpans_37 rfl ?_
      refine ww_iast (k := 10) (j := i + 1) C rfl (show i < 14 from (by omega)) (by decide) dX2_weighSpans_38 (nI_add (i) (1)) (by omega) ?_
      obtain ⟨σ3, hσ3⟩ : ∃ z : Sg, z = (sgu σ2 10 (i) (i + 1) (0)) := ⟨_, rfl⟩
      rw [← hσ3]
      refine ww_iinc (q := 0) (fun y4 => [(3, .int (y4)), (2, .int (nI n)), (0, .ref (gA G 4 (0))), (1, .ref (gA G 17 (p)))]) C dX2_weighSpans_39 rfl (by decide) (fun _ => rfl) (fun y4 ey4 => ?_)
      obtain rfl : y4 = nI (i + 1) := ninc rfl ey4
      refine ww_goto 10 C dX2_weighSpans_42 (by decide) ?_
      exact ww_sub [0, 1, 2, 3] rfl (ih (i + 1) _ (by omega) (by omega) (ws0_s hk hσ2 hσ3))
set_option maxHeartbeats 4000000 in
set_option maxRecDepth 100000 in
theorem c_X2_weighSpans (l : Launch) (G : Gx) (hA : wa G) (σ : Sg) (p n : Nat) (hp : p < 8) (hs : σ 14 (p + 1) 2 = nI n) (hn : n ≤ 14) : CtV l yX2_weighSpans wsX2_weighSpans (rmd 3) G [.ref (gA G 4 (0)), .ref (gA G 17 (p))] σ (fun σ2 => WSA σ σ2 p n) := by
  refine ct_v (maxL := 5) (ret := none) (by decide) rfl (Nat.le_of_ble_eq_true rfl) hA (fun K hl C => ?_)
  subst hl
  change WW K G _ _ σ [(0, .ref (gA G 4 (0))), (1, .ref (gA G 17 (p)))] 0 []
  refine ww_aload_n C dX2_weighSpans_0 rfl 1 rfl ?_
  refine ww_gr (j := p + 1) (k := 17) (f := 0) C rfl rfl hp rfl in_X2_weighSpans_X3 (by decide) lk_X2_weighSpans_25 dX2_weighSpans_1 rfl ?_
  refine ww_gi (k := 14) (f := 2) C rfl rfl (Nat.add_lt_add_right hp 1) rfl in_X2_weighSpans_X1 (by decide) lk_X2_weighSpans_31 dX2_weighSpans_4 ?_
  refine ww_istore_n (fun y1 => [(2, .int (y1)), (0, .ref (gA G 4 (0))), (1, .ref (gA G 17 (p)))]) C dX2_weighSpans_7 rfl (by decide) (fun _ => rfl) (fun y1 ey1 => ?_)
  obtain rfl : y1 = nI n := (ey1.trans hs)
  refine ww_iconst (v := 0) C dX2_weighSpans_8 rfl ?_
  refine ww_istore_n (fun y2 => [(3, .int (y2)), (2, .int (nI n)), (0, .ref (gA G 4 (0))), (1, .ref (gA G 17 (p)))]) C dX2_weighSpans_9 rfl (by decide) (fun _ => rfl) (fun y2 ey2 => ?_)
  obtain rfl : y2 = nI 0 := (ey2.trans (by decide))
  exact ww_sub [0, 1, 2, 3] rfl (lp_X2_weighSpans_0 hA C σ p n hp hs hn (n + 1) 0 σ (by omega) (by omega) ⟨fun _ _ => rfl, fun _ h => absurd h (Nat.not_lt_zero _)⟩)
end
section
theorem in_X2_join_X2 : ∀ w ∈ wsX20, w ∈ wsX2_join := by decide +kernel
theorem lk_X2_join_22 : Cond.fieldLink RX2 22 "PolyCuts$Cutter" "joined" "[[I" ∈ wsX2_join := by decide +kernel
theorem in_X2_nameSpan_X3 : ∀ w ∈ wsX30, w ∈ wsX2_nameSpan := by decide +kernel
theorem lk_X2_nameSpan_67 : Cond.fieldLink RX2 67 "PolyCuts$Shape" "triangleFrom" "[I" ∈ wsX2_nameSpan := by decide +kernel
theorem lk_X2_nameSpan_71 : Cond.fieldLink RX2 71 "PolyCuts$Shape" "triangleTo" "[I" ∈ wsX2_nameSpan := by decide +kernel
theorem in_X2_joinedBefore_X1 : ∀ w ∈ wsX10, w ∈ wsX2_joinedBefore := by decide +kernel
theorem lk_X2_joinedBefore_31 : Cond.fieldLink RX2 31 "PolyCuts$Corners" "size" "I" ∈ wsX2_joinedBefore := by decide +kernel
theorem in_X2_joinedBefore_X2 : ∀ w ∈ wsX20, w ∈ wsX2_joinedBefore := by decide +kernel
theorem lk_X2_joinedBefore_22 : Cond.fieldLink RX2 22 "PolyCuts$Cutter" "joined" "[[I" ∈ wsX2_joinedBefore := by decide +kernel
theorem in_X2_joinedAfter_X1 : ∀ w ∈ wsX10, w ∈ wsX2_joinedAfter := by decide +kernel
theorem lk_X2_joinedAfter_31 : Cond.fieldLink RX2 31 "PolyCuts$Corners" "size" "I" ∈ wsX2_joinedAfter := by decide +kernel
theorem in_X2_joinedAfter_X2 : ∀ w ∈ wsX20, w ∈ wsX2_joinedAfter := by decide +kernel
theorem lk_X2_joinedAfter_22 : Cond.fieldLink RX2 22 "PolyCuts$Cutter" "joined" "[[I" ∈ wsX2_joinedAfter := by decide +kernel
theorem in_X2_isConvexWithout_X3 : ∀ w ∈ wsX30, w ∈ wsX2_isConvexWithout := by decide +kernel
theorem lk_X2_isConvexWithout_25 : Cond.fieldLink RX2 25 "PolyCuts$Shape" "corners" "LPolyCuts$Corners;" ∈ wsX2_isConvexWithout := by decide +kernel
def jn2 (σ : Sg) (i j : Nat) (v : Int32) : Sg := sgu (sgu σ 12 i j v) 12 j i v
def jbF (J : Nat → Int32) (f : Nat → Nat) : Nat → Nat → Nat
  | 0, i => i
  | d + 1, i => if J i = 0 then jbF J f d (f i) else i
theorem jb_0 {J : Nat → Int32} {f : Nat → Nat} {i : Nat} : ∀ {d}, d = 0 → jbF J f d i = i := fun h => by rw [h]; rfl
theorem jb_s {J : Nat → Int32} {f : Nat → Nat} {n t i : Nat} (ht : t < n) (h : J i = 0) : jbF J f (n - t) i = jbF J f (n - (t + 1)) (f i) := by
  rw [show n - t = (n - (t + 1)) + 1 by omega, jbF, if_pos h]
theorem jb_e {J : Nat → Int32} {f : Nat → Nat} {n t i : Nat} (h : ¬ J i = 0) : jbF J f (n - t) i = i := by
  cases n - t with
  | zero => rfl
  | succ d => rw [jbF, if_neg h]
theorem jb_lt {J : Nat → Int32} {f : Nat → Nat} {n : Nat} (hf : ∀ i, i < n → f i < n) : ∀ (d i : Nat), i < n → jbF J f d i < n
  | 0, i, h => h
  | d + 1, i, h => by
    rw [jbF]
    split
    · exact jb_lt hf d _ (hf i h)
    · exact h
def cvx (J : Nat → Nat → Int32) (n : Nat) (x y : Nat → Int32) (a : Int32) (c e : Nat) : Bool := decide (0 ≤ tn x y c (jbF (J c) (bf n) n (bf n e)) (jbF (J c) (af n) n (af n e)) * hnd a)
set_option maxHeartbeats 4000000 in
set_option maxRecDepth 100000 in
theorem c_X2_join (l : Launch) (G : Gx) (hA : wa G) (σ : Sg) (i j : Nat) (hi : i < 14) (hj : j < 14) (v : Int32) : CtV l yX2_join wsX2_join (rmd 1) G [.ref (gA G 4 (0)), .int (nI i), .int (nI j), .int (v)] σ (fun σ2 => σ2 = jn2 σ i j v) := by
  refine ct_v (maxL := 4) (ret := none) (by decide) rfl (Nat.le_of_ble_eq_true rfl) hA (fun K hl C => ?_)
  subst hl
  change WW K G _ _ σ [(0, .ref (gA G 4 (0))), (1, .int (nI i)), (2, .int (nI j)), (3, .int (v))] 0 []
  refine ww_aload_n C dX2_join_0 rfl 0 rfl ?_
  refine ww_gr (j := 0) (k := 4) (f := 3) C rfl rfl (by decide) rfl in_X2_join_X2 (by decide) lk_X2_join_22 dX2_join_1 rfl ?_
  refine ww_iload_n C dX2_join_4 rfl 1 rfl ?_
  refine ww_aald (k := 8) (j := i) (j' := i) C rfl (by decide) (by decide) (by decide) dX2_join_5 rfl hi rfl ?_
  refine ww_iload_n C dX2_join_6 rfl 2 rfl ?_
  refine ww_iload_n C dX2_join_7 rfl 3 rfl ?_
  refine ww_iast (k := 12) (j := j) C rfl (show i < 14 from hi) (by decide) dX2_join_8 rfl hj ?_
  refine ww_aload_n C dX2_join_9 rfl 0 rfl ?_
  refine ww_gr (j := 0) (k := 4) (f := 3) C rfl rfl (by decide) rfl in_X2_join_X2 (by decide) lk_X2_join_22 dX2_join_10 rfl ?_
  refine ww_iload_n C dX2_join_13 rfl 2 rfl ?_
  refine ww_aald (k := 8) (j := j) (j' := j) C rfl (by decide) (by decide) (by decide) dX2_join_14 rfl hj rfl ?_
  refine ww_iload_n C dX2_join_15 rfl 1 rfl ?_
  refine ww_iload_n C dX2_join_16 rfl 3 rfl ?_
  refine ww_iast (k := 12) (j := i) C rfl (show j < 14 from hj) (by decide) dX2_join_17 rfl hi ?_
  refine ww_vret C dX2_join_18 ?_
  rfl
set_option maxHeartbeats 4000000 in
set_option maxRecDepth 100000 in
theorem c_X2_nameSpan (l : Launch) (G : Gx) (hA : wa G) (σ : Sg) (p : Nat) (hp : p < 8) (t a b : Nat) (ht : t < 14) : CtV l yX2_nameSpan wsX2_nameSpan (rmd 1) G [.ref (gA G 17 (p)), .int (nI t), .int (nI a), .int (nI b)] σ (fun σ2 => σ2 = sgu (sgu σ 20 p t (nI a)) 22 p t (nI b)) := by
  refine ct_v (maxL := 4) (ret := none) (by decide) rfl (Nat.le_of_ble_eq_true rfl) hA (fun K hl C => ?_)
  subst hl
  change WW K G _ _ σ [(0, .ref (gA G 17 (p))), (1, .int (nI t)), (2, .int (nI a)), (3, .int (nI b))] 0 []
  refine ww_aload_n C dX2_nameSpan_0 rfl 0 rfl ?_
  refine ww_gr (j := p) (k := 17) (f := 6) C rfl rfl hp rfl in_X2_nameSpan_X3 (by decide) lk_X2_nameSpan_67 dX2_nameSpan_1 rfl ?_
  refine ww_iload_n C dX2_nameSpan_4 rfl 1 rfl ?_
  refine ww_iload_n C dX2_nameSpan_5 rfl 2 rfl ?_
  refine ww_iast (k := 20) (j := t) C rfl hp (by decide) dX2_nameSpan_6 rfl ht ?_
  refine ww_aload_n C dX2_nameSpan_7 rfl 0 rfl ?_
  refine ww_gr (j := p) (k := 17) (f := 8) C rfl rfl hp rfl in_X2_nameSpan_X3 (by decide) lk_X2_nameSpan_71 dX2_nameSpan_8 rfl ?_
  refine ww_iload_n C dX2_nameSpan_11 rfl 1 rfl ?_
  refine ww_iload_n C dX2_nameSpan_12 rfl 3 rfl ?_
  refine ww_iast (k := 22) (j := t) C rfl hp (by decide) dX2_nameSpan_13 rfl ht ?_
  refine ww_vret C dX2_nameSpan_14 ?_
  rfl
set_option maxHeartbeats 4000000 in
set_option maxRecDepth 100000 in
theorem lp_X2_joinedBefore {K : Kx} {G : Gx} (hA : wa G) (C : CX K G cX2_joinedBefore 6 RX2 wsX2_joinedBefore (rmd 2) (some .int)) (σ : Sg) (p n : Nat) (hp : p < 8) (hs : σ 14 (p + 1) 2 = nI n) (hn : n ≤ 14) (c e : Nat) (hc : c < n) (he : e < n) : ∀ (f t : Nat) (i : Nat), n - t < f → t ≤ n → i < n → jbF (σ 12 c) (bf n) (n - t) i = jbF (σ 12 c) (bf n) n (bf n e) → WW K G 6 (QI K G (fun r σ2 => r = nI (jbF (σ 12 c) (bf n) n (bf n e)) ∧ σ2 = σ)) σ [(5, .int (nI t)), (4, .int (nI i)), (0, .ref (gA G 4 (0))), (1, .ref (gA G 14 (p + 1))), (2, .int (nI c)), (3, .int (nI e))] 10 [] := by
  intro f
  induction f with
  | zero => intro t i h; exact absurd h (Nat.not_lt_zero _)
  | succ f ih =>
    intro t i hf ht hz hv
    refine ww_iload C dX2_joinedBefore_10 0 rfl ?_
    refine ww_aload_n C dX2_joinedBefore_12 rfl 3 rfl ?_
    refine ww_gi (k := 14) (f := 2) C rfl rfl (Nat.add_lt_add_right hp 1) rfl in_X2_joinedBefore_X1 (by decide) lk_X2_joinedBefore_31 dX2_joinedBefore_13 ?_
    refine ww_icmp_ge 45 C dX2_joinedBefore_16 (by decide) (fun h16 => ?_) (fun h16 => ?_)
    · have g16 : n ≤ t := (cv_le (a := n) (b := t) hs rfl (by omega) (by omega)).mp h16
      refine ww_iload C dX2_joinedBefore_45 1 rfl ?_
      refine ww_iret C dX2_joinedBefore_47 ?_
      exact ⟨by rw [← hv, jb_0 (by omega)], rfl⟩
    · have g16 : ¬ n ≤ t := fun q => h16 ((cv_le (a := n) (b := t) hs rfl (by omega) (by omega)).mpr q)
      refine ww_aload_n C dX2_joinedBefore_19 rfl 2 rfl ?_
      refine ww_gr (j := 0) (k := 4) (f := 3) C rfl rfl (by decide) rfl in_X2_joinedBefore_X2 (by decide) lk_X2_joinedBefore_22 dX2_joinedBefore_20 rfl ?_
      refine ww_iload_n C dX2_joinedBefore_23 rfl 4 rfl ?_
      refine ww_aald (k := 8) (j := c) (j' := c) C rfl (by decide) (by decide) (by decide) dX2_joinedBefore_24 rfl (by omega) rfl ?_
      refine ww_iload C dX2_joinedBefore_25 1 rfl ?_
      refine ww_iald (k := 12) (j := i) C rfl (show c < 14 from (by omega)) (by decide) dX2_joinedBefore_27 rfl (by omega) ?_
      refine ww_if_ne 45 C dX2_joinedBefore_28 (by decide) (fun h28 => ?_) (fun h28 => ?_)
      · refine ww_iload C dX2_joinedBefore_45 1 rfl ?_
        refine ww_iret C dX2_joinedBefore_47 ?_
        exact ⟨by rw [← hv, jb_e h28], rfl⟩
      · refine ww_aload_n C dX2_joinedBefore_31 rfl 3 rfl ?_
        refine ww_iload C dX2_joinedBefore_32 1 rfl ?_
        refine ww_calliF (cx_V (n := 1) (As := [.int (nI i)]) C  (c_X1_before (kL K) G hA _ (p + 1) n (Nat.add_lt_add_right hp 1) hs hn i (by omega) (by omega)) gX2_joinedBefore_X1_before rfl ⟨rfl, rfl⟩ (by decide +kernel) (by decide) rfl (Nat.add_lt_add_right hp 1) rfl rfl rfl (Nat.le_of_ble_eq_true rfl) dX2_joinedBefore_34) ?_
        refine ww_istore (fun y1 => [(4, .int (y1)), (5, .int (nI t)), (0, .ref (gA G 4 (0))), (1, .ref (gA G 14 (p + 1))), (2, .int (nI c)), (3, .int (nI e))]) C dX2_joinedBefore_37 (by decide) (fun _ => rfl) (fun y1 ey1 => ?_)
        obtain rfl : y1 = nI (bf n i) := ey1
        refine ww_iinc (q := 1) (fun y2 => [(5, .int (y2)), (4, .int (nI (bf n i))), (0, .ref (gA G 4 (0))), (1, .ref (gA G 14 (p + 1))), (2, .int (nI c)), (3, .int (nI e))]) C dX2_joinedBefore_39 rfl (by decide) (fun _ => rfl) (fun y2 ey2 => ?_)
        obtain rfl : y2 = nI (t + 1) := ninc rfl ey2
        refine ww_goto 10 C dX2_joinedBefore_42 (by decide) ?_
        exact ww_sub [0, 1, 2, 3, 4, 5] rfl (ih (t + 1) (bf n i) (by omega) (by omega) (bf_lt hz) (by rw [← hv, jb_s (by omega) h28]))
set_option maxHeartbeats 4000000 in
set_option maxRecDepth 100000 in
theorem c_X2_joinedBefore (l : Launch) (G : Gx) (hA : wa G) (σ : Sg) (p n : Nat) (hp : p < 8) (hs : σ 14 (p + 1) 2 = nI n) (hn : n ≤ 14) (c e : Nat) (hc : c < n) (he : e < n) : CtI l yX2_joinedBefore wsX2_joinedBefore (rmd 2) G [.ref (gA G 4 (0)), .ref (gA G 14 (p + 1)), .int (nI c), .int (nI e)] σ (fun r σ2 => r = nI (jbF (σ 12 c) (bf n) n (bf n e)) ∧ σ2 = σ) := by
  refine ct_i (maxL := 6) (ret := (some .int)) (by decide) rfl (Nat.le_of_ble_eq_true rfl) hA (fun K hl C => ?_)
  subst hl
  change WW K G _ _ σ [(0, .ref (gA G 4 (0))), (1, .ref (gA G 14 (p + 1))), (2, .int (nI c)), (3, .int (nI e))] 0 []
  refine ww_aload_n C dX2_joinedBefore_0 rfl 1 rfl ?_
  refine ww_iload_n C dX2_joinedBefore_1 rfl 3 rfl ?_
  refine ww_calliF (cx_V (n := 1) (As := [.int (nI e)]) C  (c_X1_before (kL K) G hA _ (p + 1) n (Nat.add_lt_add_right hp 1) hs hn e (by omega) (by omega)) gX2_joinedBefore_X1_before rfl ⟨rfl, rfl⟩ (by decide +kernel) (by decide) rfl (Nat.add_lt_add_right hp 1) rfl rfl rfl (Nat.le_of_ble_eq_true rfl) dX2_joinedBefore_2) ?_
  refine ww_istore (fun y1 => [(4, .int (y1)), (0, .ref (gA G 4 (0))), (1, .ref (gA G 14 (p + 1))), (2, .int (nI c)), (3, .int (nI e))]) C dX2_joinedBefore_5 (by decide) (fun _ => rfl) (fun y1 ey1 => ?_)
  obtain rfl : y1 = nI (bf n e) := ey1
  refine ww_iconst (v := 0) C dX2_joinedBefore_7 rfl ?_
  refine ww_istore (fun y2 => [(5, .int (y2)), (4, .int (nI (bf n e))), (0, .ref (gA G 4 (0))), (1, .ref (gA G 14 (p + 1))), (2, .int (nI c)), (3, .int (nI e))]) C dX2_joinedBefore_8 (by decide) (fun _ => rfl) (fun y2 ey2 => ?_)
  obtain rfl : y2 = nI 0 := (ey2.trans (by decide))
  exact ww_sub [0, 1, 2, 3, 4, 5] rfl (lp_X2_joinedBefore hA C σ p n hp hs hn c e hc he (n + 1) 0 (bf n e) (by omega) (by omega) (bf_lt he) rfl)
set_option maxHeartbeats 4000000 in
set_option maxRecDepth 100000 in
theorem lp_X2_joinedAfter {K : Kx} {G : Gx} (hA : wa G) (C : CX K G cX2_joinedAfter 6 RX2 wsX2_joinedAfter (rmd 2) (some .int)) (σ : Sg) (p n : Nat) (hp : p < 8) (hs : σ 14 (p + 1) 2 = nI n) (hn : n ≤ 14) (c e : Nat) (hc : c < n) (he : e < n) : ∀ (f t : Nat) (i : Nat), n - t < f → t ≤ n → i < n → jbF (σ 12 c) (af n) (n - t) i = jbF (σ 12 c) (af n) n (af n e) → WW K G 6 (QI K G (fun r σ2 => r = nI (jbF (σ 12 c) (af n) n (af n e)) ∧ σ2 = σ)) σ [(5, .int (nI t)), (4, .int (nI i)), (0, .ref (gA G 4 (0))), (1, .ref (gA G 14 (p + 1))), (2, .int (nI c)), (3, .int (nI e))] 10 [] := by
  intro f
  induction f with
  | zero => intro t i h; exact absurd h (Nat.not_lt_zero _)
  | succ f ih =>
    intro t i hf ht hz hv
    refine ww_iload C dX2_joinedAfter_10 0 rfl ?_
    refine ww_aload_n C dX2_joinedAfter_12 rfl 3 rfl ?_
    refine ww_gi (k := 14) (f := 2) C rfl rfl (Nat.add_lt_add_right hp 1) rfl in_X2_joinedAfter_X1 (by decide) lk_X2_joinedAfter_31 dX2_joinedAfter_13 ?_
    refine ww_icmp_ge 45 C dX2_joinedAfter_16 (by decide) (fun h16 => ?_) (fun h16 => ?_)
    · have g16 : n ≤ t := (cv_le (a := n) (b := t) hs rfl (by omega) (by omega)).mp h16
      refine ww_iload C dX2_joinedAfter_45 1 rfl ?_
      refine ww_iret C dX2_joinedAfter_47 ?_
      exact ⟨by rw [← hv, jb_0 (by omega)], rfl⟩
    · have g16 : ¬ n ≤ t := fun q => h16 ((cv_le (a := n) (b := t) hs rfl (by omega) (by omega)).mpr q)
      refine ww_aload_n C dX2_joinedAfter_19 rfl 2 rfl ?_
      refine ww_gr (j := 0) (k := 4) (f := 3) C rfl rfl (by decide) rfl in_X2_joinedAfter_X2 (by decide) lk_X2_joinedAfter_22 dX2_joinedAfter_20 rfl ?_
      refine ww_iload_n C dX2_joinedAfter_23 rfl 4 rfl ?_
      refine ww_aald (k := 8) (j := c) (j' := c) C rfl (by decide) (by decide) (by decide) dX2_joinedAfter_24 rfl (by omega) rfl ?_
      refine ww_iload C dX2_joinedAfter_25 1 rfl ?_
      refine ww_iald (k := 12) (j := i) C rfl (show c < 14 from (by omega)) (by decide) dX2_joinedAfter_27 rfl (by omega) ?_
      refine ww_if_ne 45 C dX2_joinedAfter_28 (by decide) (fun h28 => ?_) (fun h28 => ?_)
      · refine ww_iload C dX2_joinedAfter_45 1 rfl ?_
        refine ww_iret C dX2_joinedAfter_47 ?_
        exact ⟨by rw [← hv, jb_e h28], rfl⟩
      · refine ww_aload_n C dX2_joinedAfter_31 rfl 3 rfl ?_
        refine ww_iload C dX2_joinedAfter_32 1 rfl ?_
        refine ww_calliF (cx_V (n := 1) (As := [.int (nI i)]) C  (c_X1_after (kL K) G hA _ (p + 1) n (Nat.add_lt_add_right hp 1) hs hn i (by omega)) gX2_joinedAfter_X1_after rfl ⟨rfl, rfl⟩ (by decide +kernel) (by decide) rfl (Nat.add_lt_add_right hp 1) rfl rfl rfl (Nat.le_of_ble_eq_true rfl) dX2_joinedAfter_34) ?_
        refine ww_istore (fun y1 => [(4, .int (y1)), (5, .int (nI t)), (0, .ref (gA G 4 (0))), (1, .ref (gA G 14 (p + 1))), (2, .int (nI c)), (3, .int (nI e))]) C dX2_joinedAfter_37 (by decide) (fun _ => rfl) (fun y1 ey1 => ?_)
        obtain rfl : y1 = nI (af n i) := ey1
        refine ww_iinc (q := 1) (fun y2 => [(5, .int (y2)), (4, .int (nI (af n i))), (0, .ref (gA G 4 (0))), (1, .ref (gA G 14 (p + 1))), (2, .int (nI c)), (3, .int (nI e))]) C dX2_joinedAfter_39 rfl (by decide) (fun _ => rfl) (fun y2 ey2 => ?_)
        obtain rfl : y2 = nI (t + 1) := ninc rfl ey2
        refine ww_goto 10 C dX2_joinedAfter_42 (by decide) ?_
        exact ww_sub [0, 1, 2, 3, 4, 5] rfl (ih (t + 1) (af n i) (by omega) (by omega) (af_lt (by omega)) (by rw [← hv, jb_s (by omega) h28]))
set_option maxHeartbeats 4000000 in
set_option maxRecDepth 100000 in
theorem c_X2_joinedAfter (l : Launch) (G : Gx) (hA : wa G) (σ : Sg) (p n : Nat) (hp : p < 8) (hs : σ 14 (p + 1) 2 = nI n) (hn : n ≤ 14) (c e : Nat) (hc : c < n) (he : e < n) : CtI l yX2_joinedAfter wsX2_joinedAfter (rmd 2) G [.ref (gA G 4 (0)), .ref (gA G 14 (p + 1)), .int (nI c), .int (nI e)] σ (fun r σ2 => r = nI (jbF (σ 12 c) (af n) n (af n e)) ∧ σ2 = σ) := by
  refine ct_i (maxL := 6) (ret := (some .int)) (by decide) rfl (Nat.le_of_ble_eq_true rfl) hA (fun K hl C => ?_)
  subst hl
  change WW K G _ _ σ [(0, .ref (gA G 4 (0))), (1, .ref (gA G 14 (p + 1))), (2, .int (nI c)), (3, .int (nI e))] 0 []
  refine ww_aload_n C dX2_joinedAfter_0 rfl 1 rfl ?_
  refine ww_iload_n C dX2_joinedAfter_1 rfl 3 rfl ?_
  refine ww_calliF (cx_V (n := 1) (As := [.int (nI e)]) C  (c_X1_after (kL K) G hA _ (p + 1) n (Nat.add_lt_add_right hp 1) hs hn e (by omega)) gX2_joinedAfter_X1_after rfl ⟨rfl, rfl⟩ (by decide +kernel) (by decide) rfl (Nat.add_lt_add_right hp 1) rfl rfl rfl (Nat.le_of_ble_eq_true rfl) dX2_joinedAfter_2) ?_
  refine ww_istore (fun y1 => [(4, .int (y1)), (0, .ref (gA G 4 (0))), (1, .ref (gA G 14 (p + 1))), (2, .int (nI c)), (3, .int (nI e))]) C dX2_joinedAfter_5 (by decide) (fun _ => rfl) (fun y1 ey1 => ?_)
  obtain rfl : y1 = nI (af n e) := ey1
  refine ww_iconst (v := 0) C dX2_joinedAfter_7 rfl ?_
  refine ww_istore (fun y2 => [(5, .int (y2)), (4, .int (nI (af n e))), (0, .ref (gA G 4 (0))), (1, .ref (gA G 14 (p + 1))), (2, .int (nI c)), (3, .int (nI e))]) C dX2_joinedAfter_8 (by decide) (fun _ => rfl) (fun y2 ey2 => ?_)
  obtain rfl : y2 = nI 0 := (ey2.trans (by decide))
  exact ww_sub [0, 1, 2, 3, 4, 5] rfl (lp_X2_joinedAfter hA C σ p n hp hs hn c e hc he (n + 1) 0 (af n e) (by omega) (by omega) (af_lt (by omega)) rfl)
set_option maxHeartbeats 4000000 in
set_option maxRecDepth 100000 in
theorem c_X2_isConvexWithout (l : Launch) (G : Gx) (hA : wa G) (σ : Sg) (p n : Nat) (hp : p < 8) (hs : σ 14 (p + 1) 2 = nI n) (hn : n ≤ 14) (c e : Nat) (hc : c < n) (he : e < n) : CtI l yX2_isConvexWithout wsX2_isConvexWithout (rmd 3) G [.ref (gA G 4 (0)), .ref (gA G 17 (p)), .int (nI c), .int (nI e)] σ (fun r σ2 => r = bI (cvx (σ 12) n (σ 15 (p + 1)) (σ 16 (p + 1)) (σ 17 p 2) c e) ∧ σ2 = σ) := by
  refine ct_i (maxL := 6) (ret := (some .boolean)) (by decide) rfl (Nat.le_of_ble_eq_true rfl) hA (fun K hl C => ?_)
  subst hl
  change WW K G _ _ σ [(0, .ref (gA G 4 (0))), (1, .ref (gA G 17 (p))), (2, .int (nI c)), (3, .int (nI e))] 0 []
  refine ww_aload_n C dX2_isConvexWithout_0 rfl 0 rfl ?_
  refine ww_aload_n C dX2_isConvexWithout_1 rfl 1 rfl ?_
  refine ww_gr (j := p + 1) (k := 17) (f := 0) C rfl rfl hp rfl in_X2_isConvexWithout_X3 (by decide) lk_X2_isConvexWithout_25 dX2_isConvexWithout_2 rfl ?_
  refine ww_iload_n C dX2_isConvexWithout_5 rfl 2 rfl ?_
  refine ww_iload_n C dX2_isConvexWithout_6 rfl 3 rfl ?_
  refine ww_calliF (cx_V (n := 3) (As := [.ref (gA G 14 (p + 1)), .int (nI c), .int (nI e)]) C  (c_X2_joinedBefore (kL K) G hA _ p n hp hs hn c e (by omega) (by omega)) gX2_isConvexWithout_X2_joinedBefore rfl ⟨rfl, rfl⟩ (by decide +kernel) (by decide) rfl (by decide) rfl rfl rfl (Nat.le_of_ble_eq_true rfl) dX2_isConvexWithout_7) ?_
  refine ww_istore (fun y1 => [(4, .int (y1)), (0, .ref (gA G 4 (0))), (1, .ref (gA G 17 (p))), (2, .int (nI c)), (3, .int (nI e))]) C dX2_isConvexWithout_10 (by decide) (fun _ => rfl) (fun y1 ey1 => ?_)
  obtain rfl : y1 = nI (jbF (σ 12 c) (bf n) n (bf n e)) := ey1
  refine ww_aload_n C dX2_isConvexWithout_12 rfl 1 rfl ?_
  refine ww_aload_n C dX2_isConvexWithout_13 rfl 2 rfl ?_
  refine ww_gr (j := p + 1) (k := 17) (f := 0) C rfl rfl hp rfl in_X2_isConvexWithout_X3 (by decide) lk_X2_isConvexWithout_25 dX2_isConvexWithout_14 rfl ?_
  refine ww_iload_n C dX2_isConvexWithout_17 rfl 3 rfl ?_
  refine ww_iload_n C dX2_isConvexWithout_18 rfl 4 rfl ?_
  refine ww_calliF (cx_V (n := 3) (As := [.ref (gA G 14 (p + 1)), .int (nI c), .int (nI e)]) C  (c_X2_joinedAfter (kL K) G hA _ p n hp hs hn c e (by omega) (by omega)) gX2_isConvexWithout_X2_joinedAfter rfl ⟨rfl, rfl⟩ (by decide +kernel) (by decide) rfl (by decide) rfl rfl rfl (Nat.le_of_ble_eq_true rfl) dX2_isConvexWithout_19) ?_
  refine ww_istore (fun y2 => [(5, .int (y2)), (4, .int (nI (jbF (σ 12 c) (bf n) n (bf n e)))), (0, .ref (gA G 4 (0))), (1, .ref (gA G 17 (p))), (2, .int (nI c)), (3, .int (nI e))]) C dX2_isConvexWithout_22 (by decide) (fun _ => rfl) (fun y2 ey2 => ?_)
  obtain rfl : y2 = nI (jbF (σ 12 c) (af n) n (af n e)) := ey2
  refine ww_aload_n C dX2_isConvexWithout_24 rfl 3 rfl ?_
  refine ww_gr (j := p + 1) (k := 17) (f := 0) C rfl rfl hp rfl in_X2_isConvexWithout_X3 (by decide) lk_X2_isConvexWithout_25 dX2_isConvexWithout_25 rfl ?_
  refine ww_iload_n C dX2_isConvexWithout_28 rfl 4 rfl ?_
  refine ww_iload C dX2_isConvexWithout_29 1 rfl ?_
  refine ww_iload C dX2_isConvexWithout_31 0 rfl ?_
  refine ww_calliF (cx_V (n := 3) (As := [.int (nI c), .int (nI (jbF (σ 12 c) (bf n) n (bf n e))), .int (nI (jbF (σ 12 c) (af n) n (af n e)))]) C  (c_X1_turn (kL K) G hA _ (p + 1) (Nat.add_lt_add_right hp 1) c (jbF (σ 12 c) (bf n) n (bf n e)) (jbF (σ 12 c) (af n) n (af n e)) (by omega) (nlt14 (jb_lt (fun i hi => bf_lt hi) n (bf n e) (bf_lt (by omega))) hn) (nlt14 (jb_lt (fun i hi => af_lt (by omega)) n (af n e) (af_lt (by omega))) hn)) gX2_isConvexWithout_X1_turn rfl ⟨rfl, rfl⟩ (by decide +kernel) (by decide) rfl (Nat.add_lt_add_right hp 1) rfl rfl rfl (Nat.le_of_ble_eq_true rfl) dX2_isConvexWithout_33) ?_
  refine ww_aload_n C dX2_isConvexWithout_36 rfl 3 rfl ?_
  refine ww_calliF (cx_V (n := 0) (As := []) C  (c_X3_hand (kL K) G hA _ p hp) gX2_isConvexWithout_X3_hand rfl ⟨rfl, rfl⟩ (by decide +kernel) (by decide) rfl hp rfl rfl rfl (Nat.le_of_ble_eq_true rfl) dX2_isConvexWithout_37) ?_
  refine ww_imul C dX2_isConvexWithout_40 ?_
  refine ww_b_lt C dX2_isConvexWithout_41 dX2_isConvexWithout_44 dX2_isConvexWithout_45 dX2_isConvexWithout_48 ?_
  refine ww_zret C dX2_isConvexWithout_49 (by first | rfl | exact bI_n) ?_
  exact ⟨rfl, rfl⟩
end
section

/-- triangles of the corners from i to j, numbered as the document has it -/
def trl (T : Nat → Nat → Nat) : Nat → Nat → Nat → List (Nat × Nat × Nat)
  | 0, _, _ => []
  | d + 1, i, j => if j ≤ i + 1 then [] else (i, T i j, j) :: (trl T d i (T i j) ++ trl T d (T i j) j)
def okT (T : Nat → Nat → Nat) (n : Nat) : Prop := ∀ i j, i + 2 ≤ j → j < n → i < T i j ∧ T i j < j
theorem trl_f {T : Nat → Nat → Nat} {n : Nat} (hT : okT T n) : ∀ (d d' i j : Nat), j < n → j - i ≤ d → j - i ≤ d' → trl T d i j = trl T d' i j
  | 0, 0, i, j, _, _, _ => rfl
  | 0, d' + 1, i, j, _, h, _ => by rw [trl, trl, if_pos (by omega)]
  | d + 1, 0, i, j, _, _, h => by rw [trl, trl, if_pos (by omega)]
  | d + 1, d' + 1, i, j, hj, h, h' => by
    rw [trl, trl]
    by_cases q : j ≤ i + 1
    · rw [if_pos q, if_pos q]
    · obtain ⟨h1, h2⟩ := hT i j (by omega) hj
      rw [if_neg q, if_neg q, trl_f hT d d' i (T i j) (by omega) (by omega) (by omega), trl_f hT d d' (T i j) j hj (by omega) (by omega)]
theorem trl_len {T : Nat → Nat → Nat} {n : Nat} (hT : okT T n) : ∀ (d i j : Nat), j < n → j - i ≤ d → (trl T d i j).length = j - i - 1
  | 0, i, j, _, h => by rw [trl]; simp; omega
  | d + 1, i, j, hj, h => by
    rw [trl]
    by_cases q : j ≤ i + 1
    · rw [if_pos q]; simp; omega
    · obtain ⟨h1, h2⟩ := hT i j (by omega) hj
      rw [if_neg q, List.length_cons, List.length_append, trl_len hT d i _ (by omega) (by omega), trl_len hT d _ j hj (by omega)]
      omega
theorem trl_s {T : Nat → Nat → Nat} {n : Nat} (hT : okT T n) {i j : Nat} (hij : i + 2 ≤ j) (hj : j < n) : trl T n i j = (i, T i j, j) :: (trl T n i (T i j) ++ trl T n (T i j) j) := by
  obtain ⟨h1, h2⟩ := hT i j hij hj
  obtain ⟨d, rfl⟩ : ∃ d, n = d + 1 := ⟨n - 1, by omega⟩
  rw [trl, if_neg (by omega), trl_f hT d (d + 1) i _ (by omega) (by omega) (by omega), trl_f hT d (d + 1) _ j hj (by omega) (by omega)]
theorem trl_e {T : Nat → Nat → Nat} {d i j : Nat} (h : j ≤ i + 1) : trl T d i j = [] := by
  cases d with
  | zero => rfl
  | succ d => rw [trl, if_pos h]
def nmS (σ : Sg) (p t a b : Nat) : Sg := sgu (sgu σ 20 p t (nI a)) 22 p t (nI b)
def okp (τ : Sg) (p : Nat) : Nat → List (Nat × Nat) → Prop
  | _, [] => True
  | t, s :: r => τ 20 p t = nI s.1 ∧ τ 22 p t = nI s.2 ∧ okp τ p (t + (s.2 - s.1 - 1)) r
theorem okp_f {τ τ' : Sg} {p : Nat} : ∀ (r : List (Nat × Nat)) (t : Nat), (∀ t', t ≤ t' → τ' 20 p t' = τ 20 p t' ∧ τ' 22 p t' = τ 22 p t') → okp τ p t r → okp τ' p t r
  | [], _, _, _ => trivial
  | s :: r, t, h, hk => ⟨(h t (Nat.le_refl t)).1.trans hk.1, (h t (Nat.le_refl t)).2.trans hk.2.1, okp_f r _ (fun t' ht => h t' (by omega)) hk.2.2⟩
def spl (T : Nat → Nat → Nat) (n : Nat) (s : Nat × Nat) : List (Nat × Nat × Nat) := trl T n s.1 s.2
def tri9 (τ : Sg) (p t : Nat) (q : Nat × Nat × Nat) : Prop := τ 20 p t = nI q.1 ∧ τ 21 p t = nI q.2.1 ∧ τ 22 p t = nI q.2.2
def NT (σ τ : Sg) (p n : Nat) (T : Nat → Nat → Nat) (t : Nat) (ps : List (Nat × Nat)) : Prop := (∀ k, k ≠ 20 ∧ k ≠ 21 ∧ k ≠ 22 → τ k = σ k) ∧ (∀ k i, i ≠ p → τ k i = σ k i) ∧ (∀ t' q, t' < t → (trl T n 0 (n - 1))[t']? = some q → tri9 τ p t' q) ∧ (trl T n 0 (n - 1)).drop t = ps.flatMap (spl T n) ∧ okp τ p t ps ∧ ∀ s ∈ ps, s.1 + 2 ≤ s.2 ∧ s.2 < n
theorem nmS_k {σ : Sg} {p t a b k : Nat} (h : k ≠ 20 ∧ k ≠ 22) : nmS σ p t a b k = σ k := by rw [nmS, sgu_kk h.2, sgu_kk h.1]
theorem nmS_i {σ : Sg} {p t a b k i : Nat} (h : i ≠ p) : nmS σ p t a b k i = σ k i := by funext f; rw [nmS, sgu_i h, sgu_i h]
theorem nmS_f {σ : Sg} {p t a b k f : Nat} (h : f ≠ t) : nmS σ p t a b k p f = σ k p f := by rw [nmS, sgu_f h, sgu_f h]
theorem nmS_20 {σ : Sg} {p t a b : Nat} : nmS σ p t a b 20 p t = nI a := by rw [nmS, sgu_k (by decide), sgu_self]
theorem nmS_22 {σ : Sg} {p t a b : Nat} : nmS σ p t a b 22 p t = nI b := by rw [nmS, sgu_self]
theorem nt_s {σ τ σ1 σ2 σ3 : Sg} {p n : Nat} {T : Nat → Nat → Nat} {t i j : Nat} {r : List (Nat × Nat)} (hT : okT T n) (h : NT σ τ p n T t ((i, j) :: r)) (e1 : σ1 = sgu τ 21 p t (nI (T i j))) (e2 : (1 < T i j - i ∧ σ2 = nmS σ1 p (t + 1) i (T i j)) ∨ (¬ 1 < T i j - i ∧ σ2 = σ1)) (e3 : (1 < j - T i j ∧ σ3 = nmS σ2 p (t + T i j - i) (T i j) j) ∨ (¬ 1 < j - T i j ∧ σ3 = σ2)) : ∃ ps, NT σ σ3 p n T (t + 1) ps := by
  obtain ⟨h1, h2, h3, h4, ⟨h5, h6, h7⟩, h8⟩ := h
  obtain ⟨hij, hjn⟩ := h8 (i, j) List.mem_cons_self
  obtain ⟨hk1, hk2⟩ := hT i j hij hjn
  have hk1 : i < T i j := hk1
  generalize hk : T i j = k at *
  -- what changed
  have f20 : ∀ t', t' ≤ t ∨ t + (j - i - 1) ≤ t' → σ3 20 p t' = τ 20 p t' ∧ σ3 22 p t' = τ 22 p t' := fun t' ht => by
    have a1 : σ1 20 = τ 20 ∧ σ1 22 = τ 22 := ⟨by rw [e1, sgu_kk (by decide)], by rw [e1, sgu_kk (by decide)]⟩
    have a2 : σ2 20 p t' = τ 20 p t' ∧ σ2 22 p t' = τ 22 p t' := by
      rcases e2 with ⟨c, e⟩ | ⟨c, e⟩
      · rw [e, nmS_f (by omega), nmS_f (by omega), a1.1, a1.2]; exact ⟨rfl, rfl⟩
      · rw [e, a1.1, a1.2]; exact ⟨rfl, rfl⟩
    rcases e3 with ⟨c, e⟩ | ⟨c, e⟩
    · rw [e, nmS_f (by omega), nmS_f (by omega)]; exact a2
    · rw [e]; exact a2
  have f21 : σ3 21 = σ1 21 := by
    rcases e3 with ⟨c, e⟩ | ⟨c, e⟩
    · rw [e, nmS_k (by decide)]
      rcases e2 with ⟨c2, q⟩ | ⟨c2, q⟩
      · rw [q, nmS_k (by decide)]
      · rw [q]
    · rw [e]
      rcases e2 with ⟨c2, q⟩ | ⟨c2, q⟩
      · rw [q, nmS_k (by decide)]
      · rw [q]
  have hlt : (trl T n 0 (n - 1)).drop t = (i, k, j) :: ((trl T n i k ++ trl T n k j) ++ r.flatMap (spl T n)) := by
    rw [h4, List.flatMap_cons, spl, trl_s hT hij hjn, hk]
    rfl
  refine ⟨(if 1 < k - i then [(i, k)] else []) ++ ((if 1 < j - k then [(k, j)] else []) ++ r), fun x hx => ?_, fun x y hy => ?_, fun t' q ht hq => ?_, ?_, ?_, ?_⟩
  · have b1 : σ1 x = σ x := by rw [e1, sgu_kk hx.2.1, h1 x hx]
    have b2 : σ2 x = σ x := by
      rcases e2 with ⟨c, e⟩ | ⟨c, e⟩
      · rw [e, nmS_k ⟨hx.1, hx.2.2⟩, b1]
      · rw [e, b1]
    rcases e3 with ⟨c, e⟩ | ⟨c, e⟩
    · rw [e, nmS_k ⟨hx.1, hx.2.2⟩, b2]
    · rw [e, b2]
  · have b1 : σ1 x y = σ x y := by rw [e1, ← h2 x y hy]; funext f; exact sgu_i hy
    have b2 : σ2 x y = σ x y := by
      rcases e2 with ⟨c, e⟩ | ⟨c, e⟩
      · rw [e, nmS_i hy, b1]
      · rw [e, b1]
    rcases e3 with ⟨c, e⟩ | ⟨c, e⟩
    · rw [e, nmS_i hy, b2]
    · rw [e, b2]
  · obtain ⟨c1, c2⟩ := f20 t' (by omega)
    unfold tri9
    rw [c1, c2, f21, e1]
    by_cases q2 : t' = t
    · subst q2
      have e9 : (trl T n 0 (n - 1))[t']? = some (i, k, j) := by
        have := congrArg (fun l => l[0]?) hlt
        simpa using this
      rw [e9] at hq
      cases hq
      exact ⟨h5, sgu_self, h6⟩
    · rw [sgu_f q2]
      exact h3 t' q (by omega) hq
  · rw [← List.drop_drop, hlt, List.drop_succ_cons, List.drop_zero, List.flatMap_append, List.flatMap_append, List.append_assoc]
    congr 1
    · by_cases c : 1 < k - i
      · rw [if_pos c, List.flatMap_cons, List.flatMap_nil, List.append_nil]; rfl
      · rw [if_neg c, trl_e (by omega)]; rfl
    · congr 1
      by_cases c : 1 < j - k
      · rw [if_pos c, List.flatMap_cons, List.flatMap_nil, List.append_nil]; rfl
      · rw [if_neg c, trl_e (by omega)]; rfl
  · have hr : okp σ3 p (t + (j - i - 1)) r := okp_f r _ (fun t' ht => f20 t' (Or.inr ht)) h7
    by_cases c1 : 1 < k - i <;> by_cases c2 : 1 < j - k
    · obtain ⟨-, q2⟩ := e2.resolve_right (fun q => q.1 c1)
      obtain ⟨-, q3⟩ := e3.resolve_right (fun q => q.1 c2)
      rw [if_pos c1, if_pos c2]
      refine ⟨?_, ?_, ?_, ?_, ?_⟩
      · show σ3 20 p (t + 1) = _
        rw [q3, nmS_f (by omega), q2, nmS_20]
      · show σ3 22 p (t + 1) = _
        rw [q3, nmS_f (by omega), q2, nmS_22]
      · show σ3 20 p (t + 1 + (k - i - 1)) = _
        rw [show t + 1 + (k - i - 1) = t + k - i by omega, q3, nmS_20]
      · show σ3 22 p (t + 1 + (k - i - 1)) = _
        rw [show t + 1 + (k - i - 1) = t + k - i by omega, q3, nmS_22]
      · show okp σ3 p (t + 1 + (k - i - 1) + (j - k - 1)) r
        rw [show t + 1 + (k - i - 1) + (j - k - 1) = t + (j - i - 1) by omega]
        exact hr
    · obtain ⟨-, q2⟩ := e2.resolve_right (fun q => q.1 c1)
      obtain ⟨-, q3⟩ := e3.resolve_left (fun q => c2 q.1)
      rw [if_pos c1, if_neg c2]
      refine ⟨?_, ?_, ?_⟩
      · show σ3 20 p (t + 1) = _
        rw [q3, q2, nmS_20]
      · show σ3 22 p (t + 1) = _
        rw [q3, q2, nmS_22]
      · show okp σ3 p (t + 1 + (k - i - 1)) r
        rw [show t + 1 + (k - i - 1) = t + (j - i - 1) by omega]
        exact hr
    · obtain ⟨-, q2⟩ := e2.resolve_left (fun q => c1 q.1)
      obtain ⟨-, q3⟩ := e3.resolve_right (fun q => q.1 c2)
      rw [if_neg c1, if_pos c2]
      refine ⟨?_, ?_, ?_⟩
      · show σ3 20 p (t + 1) = _
        rw [show t + 1 = t + k - i by omega, q3, nmS_20]
      · show σ3 22 p (t + 1) = _
        rw [show t + 1 = t + k - i by omega, q3, nmS_22]
      · show okp σ3 p (t + 1 + (j - k - 1)) r
        rw [show t + 1 + (j - k - 1) = t + (j - i - 1) by omega]
        exact hr
    · rw [if_neg c1, if_neg c2]
      show okp σ3 p (t + 1) r
      rw [show t + 1 = t + (j - i - 1) by omega]
      exact hr
  · intro s hs
    rcases List.mem_append.mp hs with q | q
    · by_cases c : 1 < k - i
      · rw [if_pos c] at q
        rw [List.mem_singleton.mp q]
        exact ⟨by show i + 2 ≤ k; omega, by show k < n; omega⟩
      · rw [if_neg c] at q
        cases q
    · rcases List.mem_append.mp q with q | q
      · by_cases c : 1 < j - k
        · rw [if_pos c] at q
          rw [List.mem_singleton.mp q]
          exact ⟨by show k + 2 ≤ j; omega, hjn⟩
        · rw [if_neg c] at q
          cases q
      · exact h8 s (List.mem_cons_of_mem _ q)
end
section
theorem in_X2_nameTriangles_X3 : ∀ w ∈ wsX30, w ∈ wsX2_nameTriangles := by decide +kernel
theorem lk_X2_nameTriangles_67 : Cond.fieldLink RX2 67 "PolyCuts$Shape" "triangleFrom" "[I" ∈ wsX2_nameTriangles := by decide +kernel
theorem lk_X2_nameTriangles_71 : Cond.fieldLink RX2 71 "PolyCuts$Shape" "triangleTo" "[I" ∈ wsX2_nameTriangles := by decide +kernel
theorem in_X2_nameTriangles_X2 : ∀ w ∈ wsX20, w ∈ wsX2_nameTriangles := by decide +kernel
theorem lk_X2_nameTriangles_19 : Cond.fieldLink RX2 19 "PolyCuts$Cutter" "third" "[[I" ∈ wsX2_nameTriangles := by decide +kernel
theorem lk_X2_nameTriangles_78 : Cond.fieldLink RX2 78 "PolyCuts$Shape" "triangleThird" "[I" ∈ wsX2_nameTriangles := by decide +kernel
theorem lk_X2_nameTriangles_25 : Cond.fieldLink RX2 25 "PolyCuts$Shape" "corners" "LPolyCuts$Corners;" ∈ wsX2_nameTriangles := by decide +kernel
theorem in_X2_nameTriangles_X1 : ∀ w ∈ wsX10, w ∈ wsX2_nameTriangles := by decide +kernel
theorem lk_X2_nameTriangles_31 : Cond.fieldLink RX2 31 "PolyCuts$Corners" "size" "I" ∈ wsX2_nameTriangles := by decide +kernel
theorem c_nmS (l : Launch) (G : Gx) (hA : wa G) (σ : Sg) (p : Nat) (hp : p < 8) (t a b : Nat) (ht : t < 14) : CtV l yX2_nameSpan wsX2_nameSpan (rmd 1) G [.ref (gA G 17 p), .int (nI t), .int (nI a), .int (nI b)] σ (fun σ2 => σ2 = nmS σ p t a b) := c_X2_nameSpan l G hA σ p hp t a b ht
theorem nt_ne {σ τ : Sg} {p n : Nat} {T : Nat → Nat → Nat} {t : Nat} {ps : List (Nat × Nat)} (hT : okT T n) (h3 : 3 ≤ n) (ht : t < n - 2) (h : NT σ τ p n T t ps) : ∃ i j r, ps = (i, j) :: r := by
  cases ps with
  | nil =>
    exfalso
    have e := congrArg List.length h.2.2.2.1
    rw [List.length_drop, trl_len hT n 0 (n - 1) (by omega) (by omega)] at e
    simp at e
    omega
  | cons s r => exact ⟨s.1, s.2, r, rfl⟩
theorem nt_b {σ τ : Sg} {p n : Nat} {T : Nat → Nat → Nat} {t i j : Nat} {r : List (Nat × Nat)} (hT : okT T n) (h3 : 3 ≤ n) (h : NT σ τ p n T t ((i, j) :: r)) : j - i - 1 ≤ n - 2 - t := by
  have e := congrArg List.length h.2.2.2.1
  obtain ⟨q1, q2⟩ := h.2.2.2.2.2 (i, j) List.mem_cons_self
  have q2 : j < n := q2
  rw [List.length_drop, trl_len hT n 0 (n - 1) (by omega) (by omega), List.flatMap_cons, List.length_append, spl, trl_len hT n i j q2 (by omega)] at e
  omega
theorem nt_0 {σ τ : Sg} {p n : Nat} {T : Nat → Nat → Nat} (h3 : 3 ≤ n) (e : τ = nmS σ p 0 0 (n - 1)) : ∃ ps, NT σ τ p n T 0 ps := by
  refine ⟨[(0, n - 1)], fun k hk => by rw [e, nmS_k ⟨hk.1, hk.2.2⟩], fun k i hi => by rw [e, nmS_i hi], fun t' q ht => absurd ht (Nat.not_lt_zero _), ?_, ⟨?_, ?_, trivial⟩, fun s hs => ?_⟩
  · rw [List.drop_zero, List.flatMap_cons, List.flatMap_nil, List.append_nil]; rfl
  · rw [e, nmS_20]
  · rw [e, nmS_22]
  · rw [List.mem_singleton.mp hs]
    exact ⟨by show 0 + 2 ≤ n - 1; omega, by show n - 1 < n; omega⟩
/-- the triangles are named -/
def NTe (σ τ : Sg) (p n : Nat) (T : Nat → Nat → Nat) : Prop := (∀ k, k ≠ 20 ∧ k ≠ 21 ∧ k ≠ 22 → τ k = σ k) ∧ (∀ k i, i ≠ p → τ k i = σ k i) ∧ ∀ t q, (trl T n 0 (n - 1))[t]? = some q → tri9 τ p t q
theorem nt_e {σ τ : Sg} {p n : Nat} {T : Nat → Nat → Nat} {t : Nat} (hT : okT T n) (h3 : 3 ≤ n) (ht : n - 2 ≤ t) (h : ∃ ps, NT σ τ p n T t ps) : NTe σ τ p n T := by
  obtain ⟨ps, h1, h2, h4, -⟩ := h
  refine ⟨h1, h2, fun t' q hq => h4 t' q ?_ hq⟩
  have := (List.getElem?_eq_some_iff.mp hq).1
  rw [trl_len hT n 0 (n - 1) (by omega) (by omega)] at this
  omega
set_option maxHeartbeats 4000000 in
set_option maxRecDepth 100000 in
theorem lp_X2_nameTriangles {K : Kx} {G : Gx} (hA : wa G) (C : CX K G cX2_nameTriangles 6 RX2 wsX2_nameTriangles (rmd 2) none) (σ : Sg) (p n : Nat) (hp : p < 8) (hs : σ 14 (p + 1) 2 = nI n) (hn : n ≤ 14) (h3 : 3 ≤ n) (T : Nat → Nat → Nat) (hT : okT T n) (hTm : ∀ i j, i + 2 ≤ j → j < n → σ 11 i j = nI (T i j)) : ∀ (f t : Nat) (τ : Sg), (n - 2) - t < f → (t ≤ n - 2) → (∃ ps, NT σ τ p n T t ps) → WW K G 6 (QV K G (fun σ2 => NTe σ σ2 p n T)) τ [(2, .int (nI t)), (0, .ref (gA G 4 (0))), (1, .ref (gA G 17 (p)))] 24 [] := by
  intro f
  induction f with
  | zero => intro t τ h; exact absurd h (Nat.not_lt_zero _)
  | succ f ih =>
    intro t τ hf ht hk
    obtain ⟨ps, hN⟩ := id hk
    have hst : τ 14 (p + 1) 2 = nI n := by rw [hN.1 14 (by decide)]; exact hs
    refine ww_iload_n C dX2_nameTriangles_24 rfl 0 rfl ?_
    refine ww_aload_n C dX2_nameTriangles_25 rfl 2 rfl ?_
    refine ww_calliF (cx_V (n := 0) (As := []) C  (c_X3_triangleCount (kL K) G hA _ p n hp hst hn) gX2_nameTriangles_X3_triangleCount rfl ⟨rfl, rfl⟩ (by decide +kernel) (by decide) rfl hp rfl rfl rfl (Nat.le_of_ble_eq_true rfl) dX2_nameTriangles_26) ?_
    refine ww_icmp_ge 113 C dX2_nameTriangles_29 (by decide) (fun h29 => ?_) (fun h29 => ?_)
    · have g29 : n - 2 ≤ t := (cv_le (a := n - 2) (b := t) (pk_sub (a := n) (b := 2) (by omega)) rfl (by omega) (by omega)).mp h29
      refine ww_vret C dX2_nameTriangles_113 ?_
      exact nt_e hT h3 (by omega) hk
    · have g29 : ¬ n - 2 ≤ t := fun q => h29 ((cv_le (a := n - 2) (b := t) (pk_sub (a := n) (b := 2) (by omega)) rfl (by omega) (by omega)).mpr q)
      obtain ⟨i, j, r, rfl⟩ := nt_ne hT h3 (by omega) hN
      obtain ⟨hfr, hto, -⟩ := hN.2.2.2.2.1
      obtain ⟨hij, hjn⟩ := hN.2.2.2.2.2 (i, j) List.mem_cons_self
      have hij : i + 2 ≤ j := hij
      have hjn : j < n := hjn
      have hfr : τ 20 p t = nI i := hfr
      have hto : τ 22 p t = nI j := hto
      obtain ⟨hk1, hk2⟩ := hT i j hij hjn
      have hbb := nt_b hT h3 hN
      have hth : τ 11 i j = nI (T i j) := by rw [hN.1 11 (by decide)]; exact hTm i j hij hjn
      refine ww_aload_n C dX2_nameTriangles_32 rfl 2 rfl ?_
      refine ww_gr (j := p) (k := 17) (f := 6) C rfl rfl hp rfl in_X2_nameTriangles_X3 (by decide) lk_X2_nameTriangles_67 dX2_nameTriangles_33 rfl ?_
      refine ww_iload_n C dX2_nameTriangles_36 rfl 0 rfl ?_
      refine ww_iald (k := 20) (j := t) C rfl hp (by decide) dX2_nameTriangles_37 rfl (by omega) ?_
      refine ww_istore_n (fun y1 => [(3, .int (y1)), (2, .int (nI t)), (0, .ref (gA G 4 (0))), (1, .ref (gA G 17 (p)))]) C dX2_nameTriangles_38 rfl (by decide) (fun _ => rfl) (fun y1 ey1 => ?_)
      obtain rfl : y1 = nI i := (ey1.trans hfr)
      refine ww_aload_n C dX2_nameTriangles_39 rfl 3 rfl ?_
      refine ww_gr (j := p) (k := 17) (f := 8) C rfl rfl hp rfl in_X2_nameTriangles_X3 (by decide) lk_X2_nameTriangles_71 dX2_nameTriangles_40 rfl ?_
      refine ww_iload_n C dX2_nameTriangles_43 rfl 1 rfl ?_
      refine ww_iald (k := 22) (j := t) C rfl hp (by decide) dX2_nameTriangles_44 rfl (by omega) ?_
      refine ww_istore (fun y2 => [(4, .int (y2)), (3, .int (nI i)), (2, .int (nI t)), (0, .ref (gA G 4 (0))), (1, .ref (gA G 17 (p)))]) C dX2_nameTriangles_45 (by decide) (fun _ => rfl) (fun y2 ey2 => ?_)
      obtain rfl : y2 = nI j := (ey2.trans hto)
      refine ww_aload_n C dX2_nameTriangles_47 rfl 3 rfl ?_
      refine ww_gr (j := 0) (k := 4) (f := 2) C rfl rfl (by decide) rfl in_X2_nameTriangles_X2 (by decide) lk_X2_nameTriangles_19 dX2_nameTriangles_48 rfl ?_
      refine ww_iload_n C dX2_nameTriangles_51 rfl 1 rfl ?_
      refine ww_aald (k := 7) (j := i) (j' := i) C rfl (by decide) (by decide) (by decide) dX2_nameTriangles_52 rfl (by omega) rfl ?_
      refine ww_iload C dX2_nameTriangles_53 0 rfl ?_
      refine ww_iald (k := 11) (j := j) C rfl (show i < 14 from (by omega)) (by decide) dX2_nameTriangles_55 rfl (by omega) ?_
      refine ww_istore (fun y3 => [(5, .int (y3)), (4, .int (nI j)), (3, .int (nI i)), (2, .int (nI t)), (0, .ref (gA G 4 (0))), (1, .ref (gA G 17 (p)))]) C dX2_nameTriangles_56 (by decide) (fun _ => rfl) (fun y3 ey3 => ?_)
      obtain rfl : y3 = nI (T i j) := (ey3.trans hth)
      refine ww_aload_n C dX2_nameTriangles_58 rfl 5 rfl ?_
      refine ww_gr (j := p) (k := 17) (f := 7) C rfl rfl hp rfl in_X2_nameTriangles_X3 (by decide) lk_X2_nameTriangles_78 dX2_nameTriangles_59 rfl ?_
      refine ww_iload_n C dX2_nameTriangles_62 rfl 3 rfl ?_
      refine ww_iload C dX2_nameTriangles_63 0 rfl ?_
      refine ww_iast (k := 21) (j := t) C rfl hp (by decide) dX2_nameTriangles_65 rfl (by omega) ?_
      obtain ⟨σ4, hσ4⟩ : ∃ z : Sg, z = (sgu τ 21 (p) (t) (nI (T i j))) := ⟨_, rfl⟩
      rw [← hσ4]
      refine ww_iload C dX2_nameTriangles_66 0 rfl ?_
      refine ww_iload_n C dX2_nameTriangles_68 rfl 2 rfl ?_
      refine ww_isub C dX2_nameTriangles_69 ?_
      rw [show (nI (T i j)) - (nI i) = nI (T i j - i) from pk_sub (by omega)]
      refine ww_iconst (v := 1) C dX2_nameTriangles_70 rfl ?_
      refine ww_icmp_le 84 C dX2_nameTriangles_71 (by decide) (fun h71 => ?_) (fun h71 => ?_)
      · have g71 : T i j - i ≤ 1 := (cv_le (a := T i j - i) (b := 1) rfl (by decide) (by omega) (by omega)).mp h71
        refine ww_iload C dX2_nameTriangles_84 1 rfl ?_
        refine ww_iload C dX2_nameTriangles_86 0 rfl ?_
        refine ww_isub C dX2_nameTriangles_88 ?_
        rw [show (nI j) - (nI (T i j)) = nI (j - T i j) from pk_sub (by omega)]
        refine ww_iconst (v := 1) C dX2_nameTriangles_89 rfl ?_
        refine ww_icmp_le 107 C dX2_nameTriangles_90 (by decide) (fun h90 => ?_) (fun h90 => ?_)
        · have g90 : j - T i j ≤ 1 := (cv_le (a := j - T i j) (b := 1) rfl (by decide) (by omega) (by omega)).mp h90
          refine ww_iinc (q := 3) (fun y5 => [(2, .int (y5)), (5, .int (nI (T i j))), (4, .int (nI j)), (3, .int (nI i)), (0, .ref (gA G 4 (0))), (1, .ref (gA G 17 (p)))]) C dX2_nameTriangles_107 rfl (by decide) (fun _ => rfl) (fun y5 ey5 => ?_)
          obtain rfl : y5 = nI (t + 1) := ninc rfl ey5
          refine ww_goto 24 C dX2_nameTriangles_110 (by decide) ?_
          exact ww_sub [0, 4, 5] rfl (ih (t + 1) _ (by omega) (by omega) (nt_s hT hN hσ4 (Or.inr ⟨by omega, rfl⟩) (Or.inr ⟨by omega, rfl⟩)))
        · have g90 : ¬ j - T i j ≤ 1 := fun q => h90 ((cv_le (a := j - T i j) (b := 1) rfl (by decide) (by omega) (by omega)).mpr q)
          refine ww_aload_n C dX2_nameTriangles_93 rfl 5 rfl ?_
          refine ww_iload_n C dX2_nameTriangles_94 rfl 3 rfl ?_
          refine ww_iload C dX2_nameTriangles_95 0 rfl ?_
          refine ww_iadd C dX2_nameTriangles_97 ?_
          rw [show (nI t) + (nI (T i j)) = nI (t + T i j) from nI_add (t) (T i j)]
          refine ww_iload_n C dX2_nameTriangles_98 rfl 2 rfl ?_
          refine ww_isub C dX2_nameTriangles_99 ?_
          rw [show (nI (t + T i j)) - (nI i) = nI (t + T i j - i) from pk_sub (by omega)]
          refine ww_iload C dX2_nameTriangles_100 0 rfl ?_
          refine ww_iload C dX2_nameTriangles_102 1 rfl ?_
          refine ww_callvF (cx_S (n := 4) (As := [.ref (gA G 17 (p)), .int (nI (t + T i j - i)), .int (nI (T i j)), .int (nI j)]) C  (c_nmS (kL K) G hA _ p hp (t + T i j - i) (T i j) j (by omega)) gX2_nameTriangles_X2_nameSpan rfl ⟨rfl, rfl⟩ (by decide +kernel) (by decide) rfl rfl (Nat.le_of_ble_eq_true rfl) dX2_nameTriangles_104) ?_
          obtain ⟨σ6, hσ6⟩ : ∃ z : Sg, z = (nmS σ4 p (t + T i j - i) (T i j) j) := ⟨_, rfl⟩
          rw [← hσ6]
          refine ww_iinc (q := 3) (fun y7 => [(2, .int (y7)), (5, .int (nI (T i j))), (4, .int (nI j)), (3, .int (nI i)), (0, .ref (gA G 4 (0))), (1, .ref (gA G 17 (p)))]) C dX2_nameTriangles_107 rfl (by decide) (fun _ => rfl) (fun y7 ey7 => ?_)
          obtain rfl : y7 = nI (t + 1) := ninc rfl ey7
          refine ww_goto 24 C dX2_nameTriangles_110 (by decide) ?_
          exact ww_sub [0, 4, 5] rfl (ih (t + 1) _ (by omega) (by omega) (nt_s hT hN hσ4 (Or.inr ⟨by omega, rfl⟩) (Or.inl ⟨by omega, hσ6⟩)))
      · have g71 : ¬ T i j - i ≤ 1 := fun q => h71 ((cv_le (a := T i j - i) (b := 1) rfl (by decide) (by omega) (by omega)).mpr q)
        refine ww_aload_n C dX2_nameTriangles_74 rfl 5 rfl ?_
        refine ww_iload_n C dX2_nameTriangles_75 rfl 3 rfl ?_
        refine ww_iconst (v := 1) C dX2_nameTriangles_76 rfl ?_
        refine ww_iadd C dX2_nameTriangles_77 ?_
        rw [show (nI t) + (1) = nI (t + 1) from nI_add (t) (1)]
        refine ww_iload_n C dX2_nameTriangles_78 rfl 2 rfl ?_
        refine ww_iload C dX2_nameTriangles_79 0 rfl ?_
        refine ww_callvF (cx_S (n := 4) (As := [.ref (gA G 17 (p)), .int (nI (t + 1)), .int (nI i), .int (nI (T i j))]) C  (c_nmS (kL K) G hA _ p hp (t + 1) i (T i j) (by omega)) gX2_nameTriangles_X2_nameSpan rfl ⟨rfl, rfl⟩ (by decide +kernel) (by decide) rfl rfl (Nat.le_of_ble_eq_true rfl) dX2_nameTriangles_81) ?_
        obtain ⟨σ8, hσ8⟩ : ∃ z : Sg, z = (nmS σ4 p (t + 1) i (T i j)) := ⟨_, rfl⟩
        rw [← hσ8]
        refine ww_iload C dX2_nameTriangles_84 1 rfl ?_
        refine ww_iload C dX2_nameTriangles_86 0 rfl ?_
        refine ww_isub C dX2_nameTriangles_88 ?_
        rw [show (nI j) - (nI (T i j)) = nI (j - T i j) from pk_sub (by omega)]
        refine ww_iconst (v := 1) C dX2_nameTriangles_89 rfl ?_
        refine ww_icmp_le 107 C dX2_nameTriangles_90 (by decide) (fun h90 => ?_) (fun h90 => ?_)
        · have g90 : j - T i j ≤ 1 := (cv_le (a := j - T i j) (b := 1) rfl (by decide) (by omega) (by omega)).mp h90
          refine ww_iinc (q := 3) (fun y9 => [(2, .int (y9)), (5, .int (nI (T i j))), (4, .int (nI j)), (3, .int (nI i)), (0, .ref (gA G 4 (0))), (1, .ref (gA G 17 (p)))]) C dX2_nameTriangles_107 rfl (by decide) (fun _ => rfl) (fun y9 ey9 => ?_)
          obtain rfl : y9 = nI (t + 1) := ninc rfl ey9
          refine ww_goto 24 C dX2_nameTriangles_110 (by decide) ?_
          exact ww_sub [0, 4, 5] rfl (ih (t + 1) _ (by omega) (by omega) (nt_s hT hN hσ4 (Or.inl ⟨by omega, hσ8⟩) (Or.inr ⟨by omega, rfl⟩)))
        · have g90 : ¬ j - T i j ≤ 1 := fun q => h90 ((cv_le (a := j - T i j) (b := 1) rfl (by decide) (by omega) (by omega)).mpr q)
          refine ww_aload_n C dX2_nameTriangles_93 rfl 5 rfl ?_
          refine ww_iload_n C dX2_nameTriangles_94 rfl 3 rfl ?_
          refine ww_iload C dX2_nameTriangles_95 0 rfl ?_
          refine ww_iadd C dX2_nameTriangles_97 ?_
          rw [show (nI t) + (nI (T i j)) = nI (t + T i j) from nI_add (t) (T i j)]
          refine ww_iload_n C dX2_nameTriangles_98 rfl 2 rfl ?_
          refine ww_isub C dX2_nameTriangles_99 ?_
          rw [show (nI (t + T i j)) - (nI i) = nI (t + T i j - i) from pk_sub (by omega)]
          refine ww_iload C dX2_nameTriangles_100 0 rfl ?_
          refine ww_iload C dX2_nameTriangles_102 1 rfl ?_
          refine ww_callvF (cx_S (n := 4) (As := [.ref (gA G 17 (p)), .int (nI (t + T i j - i)), .int (nI (T i j)), .int (nI j)]) C  (c_nmS (kL K) G hA _ p hp (t + T i j - i) (T i j) j (by omega)) gX2_nameTriangles_X2_nameSpan rfl ⟨rfl, rfl⟩ (by decide +kernel) (by decide) rfl rfl (Nat.le_of_ble_eq_true rfl) dX2_nameTriangles_104) ?_
          obtain ⟨σ10, hσ10⟩ : ∃ z : Sg, z = (nmS σ8 p (t + T i j - i) (T i j) j) := ⟨_, rfl⟩
          rw [← hσ10]
          refine ww_iinc (q := 3) (fun y11 => [(2, .int (y11)), (5, .int (nI (T i j))), (4, .int (nI j)), (3, .int (nI i)), (0, .ref (gA G 4 (0))), (1, .ref (gA G 17 (p)))]) C dX2_nameTriangles_107 rfl (by decide) (fun _ => rfl) (fun y11 ey11 => ?_)
          obtain rfl : y11 = nI (t + 1) := ninc rfl ey11
          refine ww_goto 24 C dX2_nameTriangles_110 (by decide) ?_
          exact ww_sub [0, 4, 5] rfl (ih (t + 1) _ (by omega) (by omega) (nt_s hT hN hσ4 (Or.inl ⟨by omega, hσ8⟩) (Or.inl ⟨by omega, hσ10⟩)))
set_option maxHeartbeats 4000000 in
set_option maxRecDepth 100000 in
theorem c_X2_nameTriangles (l : Launch) (G : Gx) (hA : wa G) (σ : Sg) (p n : Nat) (hp : p < 8) (hs : σ 14 (p + 1) 2 = nI n) (hn : n ≤ 14) (h3 : 3 ≤ n) (T : Nat → Nat → Nat) (hT : okT T n) (hTm : ∀ i j, i + 2 ≤ j → j < n → σ 11 i j = nI (T i j)) : CtV l yX2_nameTriangles wsX2_nameTriangles (rmd 2) G [.ref (gA G 4 (0)), .ref (gA G 17 (p))] σ (fun σ2 => NTe σ σ2 p n T) := by
  refine ct_v (maxL := 6) (ret := none) (by decide) rfl (Nat.le_of_ble_eq_true rfl) hA (fun K hl C => ?_)
  subst hl
  change WW K G _ _ σ [(0, .ref (gA G 4 (0))), (1, .ref (gA G 17 (p)))] 0 []
  refine ww_aload_n C dX2_nameTriangles_0 rfl 1 rfl ?_
  refine ww_gr (j := p) (k := 17) (f := 6) C rfl rfl hp rfl in_X2_nameTriangles_X3 (by decide) lk_X2_nameTriangles_67 dX2_nameTriangles_1 rfl ?_
  refine ww_iconst (v := 0) C dX2_nameTriangles_4 rfl ?_
  refine ww_iconst (v := 0) C dX2_nameTriangles_5 rfl ?_
  refine ww_iast (k := 20) (j := 0) C rfl hp (by decide) dX2_nameTriangles_6 (by decide) (by decide) ?_
  obtain ⟨σ1, hσ1⟩ : ∃ z : Sg, z = (sgu σ 20 (p) (0) (0)) := ⟨_, rfl⟩
  rw [← hσ1]
  refine ww_aload_n C dX2_nameTriangles_7 rfl 1 rfl ?_
  refine ww_gr (j := p) (k := 17) (f := 8) C rfl rfl hp rfl in_X2_nameTriangles_X3 (by decide) lk_X2_nameTriangles_71 dX2_nameTriangles_8 rfl ?_
  refine ww_iconst (v := 0) C dX2_nameTriangles_11 rfl ?_
  refine ww_aload_n C dX2_nameTriangles_12 rfl 1 rfl ?_
  refine ww_gr (j := p + 1) (k := 17) (f := 0) C rfl rfl hp rfl in_X2_nameTriangles_X3 (by decide) lk_X2_nameTriangles_25 dX2_nameTriangles_13 rfl ?_
  refine ww_gi (k := 14) (f := 2) C rfl rfl (Nat.add_lt_add_right hp 1) rfl in_X2_nameTriangles_X1 (by decide) lk_X2_nameTriangles_31 dX2_nameTriangles_16 ?_
  refine ww_iconst (v := 1) C dX2_nameTriangles_19 rfl ?_
  refine ww_isub C dX2_nameTriangles_20 ?_
  refine ww_iast (k := 22) (j := 0) C rfl hp (by decide) dX2_nameTriangles_21 (by decide) (by decide) ?_
  obtain ⟨σ2, hσ2⟩ : ∃ z : Sg, z = (sgu σ1 22 (p) (0) ((σ1 14 (p + 1) 2) - (1))) := ⟨_, rfl⟩
  rw [← hσ2]
  refine ww_iconst (v := 0) C dX2_nameTriangles_22 rfl ?_
  refine ww_istore_n (fun y3 => [(2, .int (y3)), (0, .ref (gA G 4 (0))), (1, .ref (gA G 17 (p)))]) C dX2_nameTriangles_23 rfl (by decide) (fun _ => rfl) (fun y3 ey3 => ?_)
  obtain rfl : y3 = nI 0 := (ey3.trans (by decide))
  exact ww_sub [0, 1, 2] rfl (lp_X2_nameTriangles hA C σ p n hp hs hn h3 T hT hTm (n + 1) 0 _ (by omega) (by omega) (nt_0 h3 (by rw [hσ2, hσ1, sgu_kk (by decide), hs, show nI n - 1 = nI (n - 1) from pk_sub (a := n) (b := 1) (by omega)]; rfl)))
end
