section
-- ===== PART A: goes FIRST, ahead of the names: the tables' words, and 'selects' of the private methods out of them =====
/-- a private method of a class that the tables say can be made, by its rows of tables_1 -/
def lw_okq (q : MethodName × Nat) : Prop := (q.1.cls ≠ "java/lang/invoke/MethodHandle" ∧ q.1.cls ≠ "java/lang/invoke/VarHandle") ∧ Cond.instantiable q.1.cls q.2 ∈ tables_1 ∧ Cond.privateMethod q.1 ∈ tables_1 ∧ Cond.instanceMethod q.1 ∈ tables_1
theorem lw_p0 : lw_okq (⟨"WedgePlanes$Rock", "addFace", "(I)V"⟩, 17) := ⟨⟨by decide +kernel, by decide +kernel⟩, List.mem_of_getElem? (i := 69) (by decide +kernel), List.mem_of_getElem? (i := 151) (by decide +kernel), List.mem_of_getElem? (i := 152) (by decide +kernel)⟩
theorem lw_p1 : lw_okq (⟨"WedgePlanes$Rock", "meet", "(LWedgePlanes$Plane;LWedgePlanes$Plane;LWedgePlanes$Plane;)V"⟩, 17) := ⟨⟨by decide +kernel, by decide +kernel⟩, List.mem_of_getElem? (i := 69) (by decide +kernel), List.mem_of_getElem? (i := 166) (by decide +kernel), List.mem_of_getElem? (i := 167) (by decide +kernel)⟩
theorem lw_p2 : lw_okq (⟨"WedgePlanes$Rock", "addPoint", "(IIII)V"⟩, 17) := ⟨⟨by decide +kernel, by decide +kernel⟩, List.mem_of_getElem? (i := 69) (by decide +kernel), List.mem_of_getElem? (i := 179) (by decide +kernel), List.mem_of_getElem? (i := 180) (by decide +kernel)⟩
theorem lw_p3 : lw_okq (⟨"WedgePlanes$Rock", "isInBox", "(IIII)Z"⟩, 17) := ⟨⟨by decide +kernel, by decide +kernel⟩, List.mem_of_getElem? (i := 69) (by decide +kernel), List.mem_of_getElem? (i := 183) (by decide +kernel), List.mem_of_getElem? (i := 184) (by decide +kernel)⟩
theorem lw_p4 : lw_okq (⟨"WedgePlanes$Rock", "findBlocks", "()V"⟩, 17) := ⟨⟨by decide +kernel, by decide +kernel⟩, List.mem_of_getElem? (i := 69) (by decide +kernel), List.mem_of_getElem? (i := 198) (by decide +kernel), List.mem_of_getElem? (i := 199) (by decide +kernel)⟩
theorem lw_p5 : lw_okq (⟨"WedgePlanes$Rock", "findBlock", "(I)V"⟩, 17) := ⟨⟨by decide +kernel, by decide +kernel⟩, List.mem_of_getElem? (i := 69) (by decide +kernel), List.mem_of_getElem? (i := 202) (by decide +kernel), List.mem_of_getElem? (i := 203) (by decide +kernel)⟩
theorem lw_p6 : lw_okq (⟨"WedgePlanes$Rock", "addBlock", "(III)V"⟩, 17) := ⟨⟨by decide +kernel, by decide +kernel⟩, List.mem_of_getElem? (i := 69) (by decide +kernel), List.mem_of_getElem? (i := 210) (by decide +kernel), List.mem_of_getElem? (i := 211) (by decide +kernel)⟩
theorem lw_p7 : lw_okq (⟨"WedgePlanes", "putAllBack", "()V"⟩, 10) := ⟨⟨by decide +kernel, by decide +kernel⟩, List.mem_of_getElem? (i := 17) (by decide +kernel), List.mem_of_getElem? (i := 310) (by decide +kernel), List.mem_of_getElem? (i := 311) (by decide +kernel)⟩
theorem lw_p8 : lw_okq (⟨"WedgePlanes", "takeLeast", "()Z"⟩, 10) := ⟨⟨by decide +kernel, by decide +kernel⟩, List.mem_of_getElem? (i := 17) (by decide +kernel), List.mem_of_getElem? (i := 334) (by decide +kernel), List.mem_of_getElem? (i := 335) (by decide +kernel)⟩
theorem lw_p9 : lw_okq (⟨"WedgePlanes", "leastDirection", "(I)I"⟩, 10) := ⟨⟨by decide +kernel, by decide +kernel⟩, List.mem_of_getElem? (i := 17) (by decide +kernel), List.mem_of_getElem? (i := 338) (by decide +kernel), List.mem_of_getElem? (i := 339) (by decide +kernel)⟩
theorem lw_p10 : lw_okq (⟨"WedgePlanes", "lookAtHold", "(I)V"⟩, 10) := ⟨⟨by decide +kernel, by decide +kernel⟩, List.mem_of_getElem? (i := 17) (by decide +kernel), List.mem_of_getElem? (i := 342) (by decide +kernel), List.mem_of_getElem? (i := 343) (by decide +kernel)⟩
theorem lw_p11 : lw_okq (⟨"WedgePlanes", "isFree", "(II)Z"⟩, 10) := ⟨⟨by decide +kernel, by decide +kernel⟩, List.mem_of_getElem? (i := 17) (by decide +kernel), List.mem_of_getElem? (i := 351) (by decide +kernel), List.mem_of_getElem? (i := 352) (by decide +kernel)⟩
theorem lw_p12 : lw_okq (⟨"WedgePlanes", "putAway", "(II)V"⟩, 10) := ⟨⟨by decide +kernel, by decide +kernel⟩, List.mem_of_getElem? (i := 17) (by decide +kernel), List.mem_of_getElem? (i := 377) (by decide +kernel), List.mem_of_getElem? (i := 378) (by decide +kernel)⟩
theorem lw_p13 : lw_okq (⟨"WedgePlanes", "isJoint", "(IIII)Z"⟩, 10) := ⟨⟨by decide +kernel, by decide +kernel⟩, List.mem_of_getElem? (i := 17) (by decide +kernel), List.mem_of_getElem? (i := 397) (by decide +kernel), List.mem_of_getElem? (i := 398) (by decide +kernel)⟩
theorem lw_p14 : lw_okq (⟨"java/lang/Throwable", "fillInStackTrace", "(I)Ljava/lang/Throwable;"⟩, 6) := ⟨⟨by decide +kernel, by decide +kernel⟩, List.mem_of_getElem? (i := 456) (by decide +kernel), List.mem_of_getElem? (i := 454) (by decide +kernel), List.mem_of_getElem? (i := 455) (by decide +kernel)⟩
theorem lw_p15 : lw_okq (⟨"WedgePlanes", "needBlock", "(I)V"⟩, 10) := ⟨⟨by decide +kernel, by decide +kernel⟩, List.mem_of_getElem? (i := 17) (by decide +kernel), List.mem_of_getElem? (i := 557) (by decide +kernel), List.mem_of_getElem? (i := 558) (by decide +kernel)⟩
def lw_privs_1 : List (MethodName × Nat) := [(⟨"WedgePlanes$Rock", "addFace", "(I)V"⟩, 17), (⟨"WedgePlanes$Rock", "meet", "(LWedgePlanes$Plane;LWedgePlanes$Plane;LWedgePlanes$Plane;)V"⟩, 17), (⟨"WedgePlanes$Rock", "addPoint", "(IIII)V"⟩, 17), (⟨"WedgePlanes$Rock", "isInBox", "(IIII)Z"⟩, 17), (⟨"WedgePlanes$Rock", "findBlocks", "()V"⟩, 17), (⟨"WedgePlanes$Rock", "findBlock", "(I)V"⟩, 17), (⟨"WedgePlanes$Rock", "addBlock", "(III)V"⟩, 17), (⟨"WedgePlanes", "putAllBack", "()V"⟩, 10), (⟨"WedgePlanes", "takeLeast", "()Z"⟩, 10), (⟨"WedgePlanes", "leastDirection", "(I)I"⟩, 10), (⟨"WedgePlanes", "lookAtHold", "(I)V"⟩, 10), (⟨"WedgePlanes", "isFree", "(II)Z"⟩, 10), (⟨"WedgePlanes", "putAway", "(II)V"⟩, 10), (⟨"WedgePlanes", "isJoint", "(IIII)Z"⟩, 10), (⟨"java/lang/Throwable", "fillInStackTrace", "(I)Ljava/lang/Throwable;"⟩, 6), (⟨"WedgePlanes", "needBlock", "(I)V"⟩, 10)]
theorem lw_r1 : ∀ q ∈ lw_privs_1, lw_okq q := List.forall_mem_cons.mpr ⟨lw_p0, List.forall_mem_cons.mpr ⟨lw_p1, List.forall_mem_cons.mpr ⟨lw_p2, List.forall_mem_cons.mpr ⟨lw_p3, List.forall_mem_cons.mpr ⟨lw_p4, List.forall_mem_cons.mpr ⟨lw_p5, List.forall_mem_cons.mpr ⟨lw_p6, List.forall_mem_cons.mpr ⟨lw_p7, List.forall_mem_cons.mpr ⟨lw_p8, List.forall_mem_cons.mpr ⟨lw_p9, List.forall_mem_cons.mpr ⟨lw_p10, List.forall_mem_cons.mpr ⟨lw_p11, List.forall_mem_cons.mpr ⟨lw_p12, List.forall_mem_cons.mpr ⟨lw_p13, List.forall_mem_cons.mpr ⟨lw_p14, List.forall_mem_cons.mpr ⟨lw_p15, fun _ h => absurd h List.not_mem_nil⟩⟩⟩⟩⟩⟩⟩⟩⟩⟩⟩⟩⟩⟩⟩⟩
theorem lw_p16 : lw_okq (⟨"WedgePlanes$Rock", "isOnSides", "(IIII)Z"⟩, 17) := ⟨⟨by decide +kernel, by decide +kernel⟩, List.mem_of_getElem? (i := 69) (by decide +kernel), List.mem_of_getElem? (i := 566) (by decide +kernel), List.mem_of_getElem? (i := 567) (by decide +kernel)⟩
theorem lw_p17 : lw_okq (⟨"WedgePlanes$Rock", "sortIn", "(II)V"⟩, 17) := ⟨⟨by decide +kernel, by decide +kernel⟩, List.mem_of_getElem? (i := 69) (by decide +kernel), List.mem_of_getElem? (i := 584) (by decide +kernel), List.mem_of_getElem? (i := 585) (by decide +kernel)⟩
theorem lw_p18 : lw_okq (⟨"WedgePlanes$Hold", "slideOnOne", "(LWedgePlanes$Arrow;)I"⟩, 4) := ⟨⟨by decide +kernel, by decide +kernel⟩, List.mem_of_getElem? (i := 25) (by decide +kernel), List.mem_of_getElem? (i := 645) (by decide +kernel), List.mem_of_getElem? (i := 646) (by decide +kernel)⟩
theorem lw_p19 : lw_okq (⟨"WedgePlanes$Hold", "slideOnTwo", "(LWedgePlanes$Arrow;)I"⟩, 4) := ⟨⟨by decide +kernel, by decide +kernel⟩, List.mem_of_getElem? (i := 25) (by decide +kernel), List.mem_of_getElem? (i := 649) (by decide +kernel), List.mem_of_getElem? (i := 650) (by decide +kernel)⟩
theorem lw_p20 : lw_okq (⟨"WedgePlanes$Hold", "slidesAlong", "(IILWedgePlanes$Arrow;)Z"⟩, 4) := ⟨⟨by decide +kernel, by decide +kernel⟩, List.mem_of_getElem? (i := 25) (by decide +kernel), List.mem_of_getElem? (i := 653) (by decide +kernel), List.mem_of_getElem? (i := 654) (by decide +kernel)⟩
theorem lw_p21 : lw_okq (⟨"WedgePlanesModel", "cut", "()V"⟩, 25) := ⟨⟨by decide +kernel, by decide +kernel⟩, List.mem_of_getElem? (i := 665) (by decide +kernel), List.mem_of_getElem? (i := 674) (by decide +kernel), List.mem_of_getElem? (i := 675) (by decide +kernel)⟩
theorem lw_p22 : lw_okq (⟨"WedgePlanesModel", "isThere", "(I)Z"⟩, 25) := ⟨⟨by decide +kernel, by decide +kernel⟩, List.mem_of_getElem? (i := 665) (by decide +kernel), List.mem_of_getElem? (i := 678) (by decide +kernel), List.mem_of_getElem? (i := 679) (by decide +kernel)⟩
theorem lw_p23 : lw_okq (⟨"WedgePlanesModel", "make", "(III)V"⟩, 25) := ⟨⟨by decide +kernel, by decide +kernel⟩, List.mem_of_getElem? (i := 665) (by decide +kernel), List.mem_of_getElem? (i := 682) (by decide +kernel), List.mem_of_getElem? (i := 683) (by decide +kernel)⟩
theorem lw_p24 : lw_okq (⟨"WedgePlanesModel", "determinant", "(IIII)I"⟩, 25) := ⟨⟨by decide +kernel, by decide +kernel⟩, List.mem_of_getElem? (i := 665) (by decide +kernel), List.mem_of_getElem? (i := 686) (by decide +kernel), List.mem_of_getElem? (i := 687) (by decide +kernel)⟩
theorem lw_p25 : lw_okq (⟨"WedgePlanesModel", "part", "(III)I"⟩, 25) := ⟨⟨by decide +kernel, by decide +kernel⟩, List.mem_of_getElem? (i := 665) (by decide +kernel), List.mem_of_getElem? (i := 690) (by decide +kernel), List.mem_of_getElem? (i := 691) (by decide +kernel)⟩
theorem lw_p26 : lw_okq (⟨"WedgePlanesModel", "order", "(I)I"⟩, 25) := ⟨⟨by decide +kernel, by decide +kernel⟩, List.mem_of_getElem? (i := 665) (by decide +kernel), List.mem_of_getElem? (i := 697) (by decide +kernel), List.mem_of_getElem? (i := 698) (by decide +kernel)⟩
theorem lw_p27 : lw_okq (⟨"WedgePlanesModel", "more", "(II)I"⟩, 25) := ⟨⟨by decide +kernel, by decide +kernel⟩, List.mem_of_getElem? (i := 665) (by decide +kernel), List.mem_of_getElem? (i := 701) (by decide +kernel), List.mem_of_getElem? (i := 702) (by decide +kernel)⟩
theorem lw_p28 : lw_okq (⟨"WedgePlanesModel", "freeOf", "(II)I"⟩, 25) := ⟨⟨by decide +kernel, by decide +kernel⟩, List.mem_of_getElem? (i := 665) (by decide +kernel), List.mem_of_getElem? (i := 705) (by decide +kernel), List.mem_of_getElem? (i := 706) (by decide +kernel)⟩
theorem lw_p29 : lw_okq (⟨"WedgePlanesModel", "isOf", "(II)Z"⟩, 25) := ⟨⟨by decide +kernel, by decide +kernel⟩, List.mem_of_getElem? (i := 665) (by decide +kernel), List.mem_of_getElem? (i := 709) (by decide +kernel), List.mem_of_getElem? (i := 710) (by decide +kernel)⟩
theorem lw_p30 : lw_okq (⟨"WedgePlanesModel", "all", "()I"⟩, 25) := ⟨⟨by decide +kernel, by decide +kernel⟩, List.mem_of_getElem? (i := 665) (by decide +kernel), List.mem_of_getElem? (i := 713) (by decide +kernel), List.mem_of_getElem? (i := 714) (by decide +kernel)⟩
theorem lw_p31 : lw_okq (⟨"WedgePlanesModel", "findFaces", "(I)I"⟩, 25) := ⟨⟨by decide +kernel, by decide +kernel⟩, List.mem_of_getElem? (i := 665) (by decide +kernel), List.mem_of_getElem? (i := 717) (by decide +kernel), List.mem_of_getElem? (i := 718) (by decide +kernel)⟩
def lw_privs_2 : List (MethodName × Nat) := [(⟨"WedgePlanes$Rock", "isOnSides", "(IIII)Z"⟩, 17), (⟨"WedgePlanes$Rock", "sortIn", "(II)V"⟩, 17), (⟨"WedgePlanes$Hold", "slideOnOne", "(LWedgePlanes$Arrow;)I"⟩, 4), (⟨"WedgePlanes$Hold", "slideOnTwo", "(LWedgePlanes$Arrow;)I"⟩, 4), (⟨"WedgePlanes$Hold", "slidesAlong", "(IILWedgePlanes$Arrow;)Z"⟩, 4), (⟨"WedgePlanesModel", "cut", "()V"⟩, 25), (⟨"WedgePlanesModel", "isThere", "(I)Z"⟩, 25), (⟨"WedgePlanesModel", "make", "(III)V"⟩, 25), (⟨"WedgePlanesModel", "determinant", "(IIII)I"⟩, 25), (⟨"WedgePlanesModel", "part", "(III)I"⟩, 25), (⟨"WedgePlanesModel", "order", "(I)I"⟩, 25), (⟨"WedgePlanesModel", "more", "(II)I"⟩, 25), (⟨"WedgePlanesModel", "freeOf", "(II)I"⟩, 25), (⟨"WedgePlanesModel", "isOf", "(II)Z"⟩, 25), (⟨"WedgePlanesModel", "all", "()I"⟩, 25), (⟨"WedgePlanesModel", "findFaces", "(I)I"⟩, 25)]
theorem lw_r2 : ∀ q ∈ lw_privs_2, lw_okq q := List.forall_mem_cons.mpr ⟨lw_p16, List.forall_mem_cons.mpr ⟨lw_p17, List.forall_mem_cons.mpr ⟨lw_p18, List.forall_mem_cons.mpr ⟨lw_p19, List.forall_mem_cons.mpr ⟨lw_p20, List.forall_mem_cons.mpr ⟨lw_p21, List.forall_mem_cons.mpr ⟨lw_p22, List.forall_mem_cons.mpr ⟨lw_p23, List.forall_mem_cons.mpr ⟨lw_p24, List.forall_mem_cons.mpr ⟨lw_p25, List.forall_mem_cons.mpr ⟨lw_p26, List.forall_mem_cons.mpr ⟨lw_p27, List.forall_mem_cons.mpr ⟨lw_p28, List.forall_mem_cons.mpr ⟨lw_p29, List.forall_mem_cons.mpr ⟨lw_p30, List.forall_mem_cons.mpr ⟨lw_p31, fun _ h => absurd h List.not_mem_nil⟩⟩⟩⟩⟩⟩⟩⟩⟩⟩⟩⟩⟩⟩⟩⟩
theorem lw_p32 : lw_okq (⟨"WedgePlanesModel", "isRight", "(IIII)Z"⟩, 25) := ⟨⟨by decide +kernel, by decide +kernel⟩, List.mem_of_getElem? (i := 665) (by decide +kernel), List.mem_of_getElem? (i := 805) (by decide +kernel), List.mem_of_getElem? (i := 806) (by decide +kernel)⟩
theorem lw_p33 : lw_okq (⟨"WedgePlanesModel", "isSame", "(IIIII)Z"⟩, 25) := ⟨⟨by decide +kernel, by decide +kernel⟩, List.mem_of_getElem? (i := 665) (by decide +kernel), List.mem_of_getElem? (i := 812) (by decide +kernel), List.mem_of_getElem? (i := 813) (by decide +kernel)⟩
theorem lw_p34 : lw_okq (⟨"WedgePlanesModel", "isBlock", "(I)Z"⟩, 25) := ⟨⟨by decide +kernel, by decide +kernel⟩, List.mem_of_getElem? (i := 665) (by decide +kernel), List.mem_of_getElem? (i := 843) (by decide +kernel), List.mem_of_getElem? (i := 844) (by decide +kernel)⟩
theorem lw_p35 : lw_okq (⟨"WedgePlanesModel", "cornersOf", "(I)I"⟩, 25) := ⟨⟨by decide +kernel, by decide +kernel⟩, List.mem_of_getElem? (i := 665) (by decide +kernel), List.mem_of_getElem? (i := 847) (by decide +kernel), List.mem_of_getElem? (i := 848) (by decide +kernel)⟩
theorem lw_p36 : lw_okq (⟨"WedgePlanesModel", "insideOf", "(I)I"⟩, 25) := ⟨⟨by decide +kernel, by decide +kernel⟩, List.mem_of_getElem? (i := 665) (by decide +kernel), List.mem_of_getElem? (i := 851) (by decide +kernel), List.mem_of_getElem? (i := 852) (by decide +kernel)⟩
theorem lw_p37 : lw_okq (⟨"WedgePlanesModel", "isInside", "(IIII)Z"⟩, 25) := ⟨⟨by decide +kernel, by decide +kernel⟩, List.mem_of_getElem? (i := 665) (by decide +kernel), List.mem_of_getElem? (i := 855) (by decide +kernel), List.mem_of_getElem? (i := 856) (by decide +kernel)⟩
theorem lw_p38 : lw_okq (⟨"WedgePlanesModel", "isFace", "(II)Z"⟩, 25) := ⟨⟨by decide +kernel, by decide +kernel⟩, List.mem_of_getElem? (i := 665) (by decide +kernel), List.mem_of_getElem? (i := 871) (by decide +kernel), List.mem_of_getElem? (i := 872) (by decide +kernel)⟩
theorem lw_p39 : lw_okq (⟨"WedgePlanesModel", "canGoBy", "(II)Z"⟩, 25) := ⟨⟨by decide +kernel, by decide +kernel⟩, List.mem_of_getElem? (i := 665) (by decide +kernel), List.mem_of_getElem? (i := 880) (by decide +kernel), List.mem_of_getElem? (i := 881) (by decide +kernel)⟩
theorem lw_p40 : lw_okq (⟨"WedgePlanesModel", "canGo", "(I)Z"⟩, 25) := ⟨⟨by decide +kernel, by decide +kernel⟩, List.mem_of_getElem? (i := 665) (by decide +kernel), List.mem_of_getElem? (i := 884) (by decide +kernel), List.mem_of_getElem? (i := 885) (by decide +kernel)⟩
theorem lw_p41 : lw_okq (⟨"WedgePlanesModel", "holds", "(II)Z"⟩, 25) := ⟨⟨by decide +kernel, by decide +kernel⟩, List.mem_of_getElem? (i := 665) (by decide +kernel), List.mem_of_getElem? (i := 888) (by decide +kernel), List.mem_of_getElem? (i := 889) (by decide +kernel)⟩
theorem lw_p42 : lw_okq (⟨"WedgePlanesModel", "inward", "(II[I)V"⟩, 25) := ⟨⟨by decide +kernel, by decide +kernel⟩, List.mem_of_getElem? (i := 665) (by decide +kernel), List.mem_of_getElem? (i := 892) (by decide +kernel), List.mem_of_getElem? (i := 893) (by decide +kernel)⟩
theorem lw_p43 : lw_okq (⟨"WedgePlanesModel", "taking", "(I)I"⟩, 25) := ⟨⟨by decide +kernel, by decide +kernel⟩, List.mem_of_getElem? (i := 665) (by decide +kernel), List.mem_of_getElem? (i := 903) (by decide +kernel), List.mem_of_getElem? (i := 904) (by decide +kernel)⟩
theorem lw_p44 : lw_okq (⟨"WedgePlanesModel", "slidesOn", "(II)Z"⟩, 25) := ⟨⟨by decide +kernel, by decide +kernel⟩, List.mem_of_getElem? (i := 665) (by decide +kernel), List.mem_of_getElem? (i := 923) (by decide +kernel), List.mem_of_getElem? (i := 924) (by decide +kernel)⟩
theorem lw_p45 : lw_okq (⟨"WedgePlanesModel", "slide", "([I[I)V"⟩, 25) := ⟨⟨by decide +kernel, by decide +kernel⟩, List.mem_of_getElem? (i := 665) (by decide +kernel), List.mem_of_getElem? (i := 927) (by decide +kernel), List.mem_of_getElem? (i := 928) (by decide +kernel)⟩
theorem lw_p46 : lw_okq (⟨"WedgePlanesModel", "slidesAlong", "(III)Z"⟩, 25) := ⟨⟨by decide +kernel, by decide +kernel⟩, List.mem_of_getElem? (i := 665) (by decide +kernel), List.mem_of_getElem? (i := 931) (by decide +kernel), List.mem_of_getElem? (i := 932) (by decide +kernel)⟩
def lw_privs_3 : List (MethodName × Nat) := [(⟨"WedgePlanesModel", "isRight", "(IIII)Z"⟩, 25), (⟨"WedgePlanesModel", "isSame", "(IIIII)Z"⟩, 25), (⟨"WedgePlanesModel", "isBlock", "(I)Z"⟩, 25), (⟨"WedgePlanesModel", "cornersOf", "(I)I"⟩, 25), (⟨"WedgePlanesModel", "insideOf", "(I)I"⟩, 25), (⟨"WedgePlanesModel", "isInside", "(IIII)Z"⟩, 25), (⟨"WedgePlanesModel", "isFace", "(II)Z"⟩, 25), (⟨"WedgePlanesModel", "canGoBy", "(II)Z"⟩, 25), (⟨"WedgePlanesModel", "canGo", "(I)Z"⟩, 25), (⟨"WedgePlanesModel", "holds", "(II)Z"⟩, 25), (⟨"WedgePlanesModel", "inward", "(II[I)V"⟩, 25), (⟨"WedgePlanesModel", "taking", "(I)I"⟩, 25), (⟨"WedgePlanesModel", "slidesOn", "(II)Z"⟩, 25), (⟨"WedgePlanesModel", "slide", "([I[I)V"⟩, 25), (⟨"WedgePlanesModel", "slidesAlong", "(III)Z"⟩, 25)]
theorem lw_r3 : ∀ q ∈ lw_privs_3, lw_okq q := List.forall_mem_cons.mpr ⟨lw_p32, List.forall_mem_cons.mpr ⟨lw_p33, List.forall_mem_cons.mpr ⟨lw_p34, List.forall_mem_cons.mpr ⟨lw_p35, List.forall_mem_cons.mpr ⟨lw_p36, List.forall_mem_cons.mpr ⟨lw_p37, List.forall_mem_cons.mpr ⟨lw_p38, List.forall_mem_cons.mpr ⟨lw_p39, List.forall_mem_cons.mpr ⟨lw_p40, List.forall_mem_cons.mpr ⟨lw_p41, List.forall_mem_cons.mpr ⟨lw_p42, List.forall_mem_cons.mpr ⟨lw_p43, List.forall_mem_cons.mpr ⟨lw_p44, List.forall_mem_cons.mpr ⟨lw_p45, List.forall_mem_cons.mpr ⟨lw_p46, fun _ h => absurd h List.not_mem_nil⟩⟩⟩⟩⟩⟩⟩⟩⟩⟩⟩⟩⟩⟩⟩
def lw_privs : List (MethodName × Nat) := lw_privs_1 ++ (lw_privs_2 ++ (lw_privs_3))
def lw_tbl : List Cond := k2_sels lw_privs ++ tables_1
theorem lw_privs_ok : ∀ q ∈ lw_privs, lw_okq q := by
  show ∀ q ∈ lw_privs_1 ++ (lw_privs_2 ++ (lw_privs_3)), lw_okq q
  exact List.forall_mem_append.mpr ⟨lw_r1, List.forall_mem_append.mpr ⟨lw_r2, lw_r3⟩⟩

/-- the words that stay -/
def zT : List Cond := lw_tbl.filter goodWord
def zisN : Cond → Bool
  | .methodLinkNest .. => true
  | .declares _ => true
  | .castable .. => true
  | _ => false
/-- words that stay by rows of their own -/
def zNw : List Cond := lw_tbl.filter zisN
def zSt : List (Nat × String) := [(73, "no plane that cuts the box, or a joint already"), (83, "there are 6 joints"), (98, "no face of the box"), (109, "parts are -9 to 9, not all 0"), (111, "there are 8 directions"), (113, "parts are -9 to 9"), (215, "no such block"), (134, "what is 0 to 4"), (136, "no such corner"), (160, "what is 0 to 3"), (165, "no such joint"), (170, "no such direction"), (190, "not so many blocks are taken"), (192, "what is 0 or 1")]
def T_Arrow : u_T := fun k => match k with
  | 0 => ("WedgePlanes$Arrow", "x", "I", false)
  | 1 => ("WedgePlanes$Arrow", "y", "I", false)
  | _ => ("WedgePlanes$Arrow", "z", "I", false)
def t_Arrow : Nat → FieldType := fun k => match k with
  | 0 => .int
  | 1 => .int
  | _ => .int
theorem n_Arrow : ∀ a, a < 3 → ∀ b, b < 3 → a ≠ b → (T_Arrow a).2.1 ≠ (T_Arrow b).2.1 := by decide +kernel
theorem t_Arrow_ok : ∀ k, k < 3 → parseFieldDescriptor (T_Arrow k).2.2.1 = some (t_Arrow k) := by decide +kernel
set_option maxRecDepth 20000 in
theorem i_Arrow : ∀ w ∈ u_ws "WedgePlanes$Arrow" T_Arrow 3, w ∈ zT := by decide +kernel
def T_Hold : u_T := fun k => match k with
  | 0 => ("WedgePlanes$Hold", "inward", "[LWedgePlanes$Arrow;", true)
  | 1 => ("WedgePlanes$Hold", "slide", "[LWedgePlanes$Arrow;", true)
  | 2 => ("WedgePlanes$Hold", "line", "LWedgePlanes$Arrow;", true)
  | _ => ("WedgePlanes$Hold", "faces", "I", false)
def t_Hold : Nat → FieldType := fun k => match k with
  | 0 => .array (.object "WedgePlanes$Arrow")
  | 1 => .array (.object "WedgePlanes$Arrow")
  | 2 => .object "WedgePlanes$Arrow"
  | _ => .int
theorem n_Hold : ∀ a, a < 4 → ∀ b, b < 4 → a ≠ b → (T_Hold a).2.1 ≠ (T_Hold b).2.1 := by decide +kernel
theorem t_Hold_ok : ∀ k, k < 4 → parseFieldDescriptor (T_Hold k).2.2.1 = some (t_Hold k) := by decide +kernel
set_option maxRecDepth 20000 in
theorem i_Hold : ∀ w ∈ u_ws "WedgePlanes$Hold" T_Hold 4, w ∈ zT := by decide +kernel
def T_Plane : u_T := fun k => match k with
  | 0 => ("WedgePlanes$Plane", "normal", "LWedgePlanes$Arrow;", true)
  | _ => ("WedgePlanes$Plane", "d", "I", false)
def t_Plane : Nat → FieldType := fun k => match k with
  | 0 => .object "WedgePlanes$Arrow"
  | _ => .int
theorem n_Plane : ∀ a, a < 2 → ∀ b, b < 2 → a ≠ b → (T_Plane a).2.1 ≠ (T_Plane b).2.1 := by decide +kernel
theorem t_Plane_ok : ∀ k, k < 2 → parseFieldDescriptor (T_Plane k).2.2.1 = some (t_Plane k) := by decide +kernel
set_option maxRecDepth 20000 in
theorem i_Plane : ∀ w ∈ u_ws "WedgePlanes$Plane" T_Plane 2, w ∈ zT := by decide +kernel
def T_Points : u_T := fun k => match k with
  | 0 => ("WedgePlanes$Points", "x", "[I", true)
  | 1 => ("WedgePlanes$Points", "y", "[I", true)
  | 2 => ("WedgePlanes$Points", "z", "[I", true)
  | 3 => ("WedgePlanes$Points", "q", "[I", true)
  | 4 => ("WedgePlanes$Points", "above", "[I", true)
  | 5 => ("WedgePlanes$Points", "below", "[I", true)
  | _ => ("WedgePlanes$Points", "count", "I", false)
def t_Points : Nat → FieldType := fun k => match k with
  | 0 => .array .int
  | 1 => .array .int
  | 2 => .array .int
  | 3 => .array .int
  | 4 => .array .int
  | 5 => .array .int
  | _ => .int
theorem n_Points : ∀ a, a < 7 → ∀ b, b < 7 → a ≠ b → (T_Points a).2.1 ≠ (T_Points b).2.1 := by decide +kernel
theorem t_Points_ok : ∀ k, k < 7 → parseFieldDescriptor (T_Points k).2.2.1 = some (t_Points k) := by decide +kernel
set_option maxRecDepth 20000 in
theorem i_Points : ∀ w ∈ u_ws "WedgePlanes$Points" T_Points 7, w ∈ zT := by decide +kernel
def T_Rock : u_T := fun k => match k with
  | 0 => ("WedgePlanes$Rock", "planes", "[LWedgePlanes$Plane;", true)
  | 1 => ("WedgePlanes$Rock", "points", "LWedgePlanes$Points;", true)
  | 2 => ("WedgePlanes$Rock", "sides", "[I", true)
  | 3 => ("WedgePlanes$Rock", "faces", "[I", true)
  | 4 => ("WedgePlanes$Rock", "cornerCounts", "[I", true)
  | 5 => ("WedgePlanes$Rock", "numbers", "[I", true)
  | 6 => ("WedgePlanes$Rock", "jointCount", "I", false)
  | 7 => ("WedgePlanes$Rock", "blockCount", "I", false)
  | 8 => ("WedgePlanes$Rock", "sizeX", "I", true)
  | 9 => ("WedgePlanes$Rock", "sizeY", "I", true)
  | 10 => ("WedgePlanes$Rock", "sizeZ", "I", true)
  | 11 => ("WedgePlanes$Rock", "pointsBefore", "[I", true)
  | 12 => ("WedgePlanes$Rock", "sorted", "[I", true)
  | 13 => ("WedgePlanes$Rock", "crossA", "LWedgePlanes$Arrow;", true)
  | 14 => ("WedgePlanes$Rock", "crossB", "LWedgePlanes$Arrow;", true)
  | 15 => ("WedgePlanes$Rock", "crossC", "LWedgePlanes$Arrow;", true)
  | _ => ("WedgePlanes$Rock", "known", "I", false)
def t_Rock : Nat → FieldType := fun k => match k with
  | 0 => .array (.object "WedgePlanes$Plane")
  | 1 => .object "WedgePlanes$Points"
  | 2 => .array .int
  | 3 => .array .int
  | 4 => .array .int
  | 5 => .array .int
  | 6 => .int
  | 7 => .int
  | 8 => .int
  | 9 => .int
  | 10 => .int
  | 11 => .array .int
  | 12 => .array .int
  | 13 => .object "WedgePlanes$Arrow"
  | 14 => .object "WedgePlanes$Arrow"
  | 15 => .object "WedgePlanes$Arrow"
  | _ => .int
theorem n_Rock : ∀ a, a < 17 → ∀ b, b < 17 → a ≠ b → (T_Rock a).2.1 ≠ (T_Rock b).2.1 := by decide +kernel
theorem t_Rock_ok : ∀ k, k < 17 → parseFieldDescriptor (T_Rock k).2.2.1 = some (t_Rock k) := by decide +kernel
set_option maxRecDepth 20000 in
theorem i_Rock : ∀ w ∈ u_ws "WedgePlanes$Rock" T_Rock 17, w ∈ zT := by decide +kernel
def T_WP : u_T := fun k => match k with
  | 0 => ("WedgePlanes", "rock", "LWedgePlanes$Rock;", true)
  | 1 => ("WedgePlanes", "hold", "LWedgePlanes$Hold;", true)
  | 2 => ("WedgePlanes", "directions", "[LWedgePlanes$Arrow;", true)
  | 3 => ("WedgePlanes", "pulling", "LWedgePlanes$Arrow;", true)
  | 4 => ("WedgePlanes", "isTaken", "[Z", true)
  | 5 => ("WedgePlanes", "takenBlocks", "[I", true)
  | 6 => ("WedgePlanes", "takenBy", "[I", true)
  | 7 => ("WedgePlanes", "takenCount", "I", false)
  | 8 => ("WedgePlanes", "directionCount", "I", false)
  | _ => ("WedgePlanes", "openFaces", "I", false)
def t_WP : Nat → FieldType := fun k => match k with
  | 0 => .object "WedgePlanes$Rock"
  | 1 => .object "WedgePlanes$Hold"
  | 2 => .array (.object "WedgePlanes$Arrow")
  | 3 => .object "WedgePlanes$Arrow"
  | 4 => .array .boolean
  | 5 => .array .int
  | 6 => .array .int
  | 7 => .int
  | 8 => .int
  | _ => .int
theorem n_WP : ∀ a, a < 10 → ∀ b, b < 10 → a ≠ b → (T_WP a).2.1 ≠ (T_WP b).2.1 := by decide +kernel
theorem t_WP_ok : ∀ k, k < 10 → parseFieldDescriptor (T_WP k).2.2.1 = some (t_WP k) := by decide +kernel
set_option maxRecDepth 20000 in
theorem i_WP : ∀ w ∈ u_ws "WedgePlanes" T_WP 10, w ∈ zT := by decide +kernel
def T_Md : u_T := fun k => match k with
  | 0 => ("WedgePlanesModel", "thrown", "I", false)
  | 1 => ("WedgePlanesModel", "sizes", "[I", true)
  | 2 => ("WedgePlanesModel", "joints", "I", false)
  | 3 => ("WedgePlanesModel", "planes", "[I", true)
  | 4 => ("WedgePlanesModel", "open", "[Z", true)
  | 5 => ("WedgePlanesModel", "directions", "I", false)
  | 6 => ("WedgePlanesModel", "told", "[I", true)
  | 7 => ("WedgePlanesModel", "pulls", "[I", true)
  | 8 => ("WedgePlanesModel", "points", "I", false)
  | 9 => ("WedgePlanesModel", "point", "[I", true)
  | 10 => ("WedgePlanesModel", "on", "[I", true)
  | 11 => ("WedgePlanesModel", "above", "[I", true)
  | 12 => ("WedgePlanesModel", "below", "[I", true)
  | 13 => ("WedgePlanesModel", "made", "[I", true)
  | 14 => ("WedgePlanesModel", "blocks", "I", false)
  | 15 => ("WedgePlanesModel", "sides", "[I", true)
  | 16 => ("WedgePlanesModel", "faces", "[I", true)
  | 17 => ("WedgePlanesModel", "isTaken", "[Z", true)
  | 18 => ("WedgePlanesModel", "taken", "I", false)
  | 19 => ("WedgePlanesModel", "takenBlock", "[I", true)
  | 20 => ("WedgePlanesModel", "takenBy", "[I", true)
  | 21 => ("WedgePlanesModel", "first", "[I", true)
  | 22 => ("WedgePlanesModel", "second", "[I", true)
  | 23 => ("WedgePlanesModel", "way", "[I", true)
  | _ => ("WedgePlanesModel", "other", "[I", true)
def t_Md : Nat → FieldType := fun k => match k with
  | 0 => .int
  | 1 => .array .int
  | 2 => .int
  | 3 => .array .int
  | 4 => .array .boolean
  | 5 => .int
  | 6 => .array .int
  | 7 => .array .int
  | 8 => .int
  | 9 => .array .int
  | 10 => .array .int
  | 11 => .array .int
  | 12 => .array .int
  | 13 => .array .int
  | 14 => .int
  | 15 => .array .int
  | 16 => .array .int
  | 17 => .array .boolean
  | 18 => .int
  | 19 => .array .int
  | 20 => .array .int
  | 21 => .array .int
  | 22 => .array .int
  | 23 => .array .int
  | _ => .array .int
theorem n_Md : ∀ a, a < 25 → ∀ b, b < 25 → a ≠ b → (T_Md a).2.1 ≠ (T_Md b).2.1 := by decide +kernel
theorem t_Md_ok : ∀ k, k < 25 → parseFieldDescriptor (T_Md k).2.2.1 = some (t_Md k) := by decide +kernel
set_option maxRecDepth 20000 in
theorem i_Md : ∀ w ∈ u_ws "WedgePlanesModel" T_Md 25, w ∈ zT := by decide +kernel
def T_0 : u_T := fun _ => ("", "", "", false)
abbrev zCl : List vw_C := [("WedgePlanes$Arrow", T_Arrow, 3), ("WedgePlanes$Hold", T_Hold, 4), ("WedgePlanes$Plane", T_Plane, 2), ("WedgePlanes$Points", T_Points, 7), ("WedgePlanes$Rock", T_Rock, 17), ("WedgePlanes", T_WP, 10), ("WedgePlanesModel", T_Md, 25), ("java/lang/IllegalArgumentException", T_0, 0), ("java/lang/IllegalStateException", T_0, 0), ("java/lang/IndexOutOfBoundsException", T_0, 0)]
abbrev zTys : List FieldType := [.int, .boolean, .long, .object "WedgePlanes$Arrow", .object "WedgePlanes$Plane"]
abbrev M_WP_init : MethodName × ByteArray × Nat × Option FieldType × List (Nat × Nat × Nat × Nat) := (⟨"WedgePlanes", "<init>", "(III)V"⟩, prog_1_method_1_code, 5, none, [])
abbrev M_Hold_init : MethodName × ByteArray × Nat × Option FieldType × List (Nat × Nat × Nat × Nat) := (⟨"WedgePlanes$Hold", "<init>", "()V"⟩, prog_3_method_1_code, 2, none, [])
abbrev M_Arrow_init : MethodName × ByteArray × Nat × Option FieldType × List (Nat × Nat × Nat × Nat) := (⟨"WedgePlanes$Arrow", "<init>", "()V"⟩, prog_2_method_1_code, 1, none, [])
abbrev M_WP_sizeFor : MethodName × ByteArray × Nat × Option FieldType × List (Nat × Nat × Nat × Nat) := (⟨"WedgePlanes", "sizeFor", "(I)I"⟩, prog_1_method_19_code, 1, some .int, [])
abbrev M_Math_min : MethodName × ByteArray × Nat × Option FieldType × List (Nat × Nat × Nat × Nat) := (⟨"java/lang/Math", "min", "(II)I"⟩, prog_14_method_69_code, 2, some .int, [])
abbrev M_Math_max : MethodName × ByteArray × Nat × Option FieldType × List (Nat × Nat × Nat × Nat) := (⟨"java/lang/Math", "max", "(II)I"⟩, prog_14_method_65_code, 2, some .int, [])
abbrev M_Rock_init : MethodName × ByteArray × Nat × Option FieldType × List (Nat × Nat × Nat × Nat) := (⟨"WedgePlanes$Rock", "<init>", "(III)V"⟩, prog_6_method_1_code, 5, none, [])
abbrev M_Points_init : MethodName × ByteArray × Nat × Option FieldType × List (Nat × Nat × Nat × Nat) := (⟨"WedgePlanes$Points", "<init>", "()V"⟩, prog_5_method_1_code, 1, none, [])
abbrev M_Plane_init : MethodName × ByteArray × Nat × Option FieldType × List (Nat × Nat × Nat × Nat) := (⟨"WedgePlanes$Plane", "<init>", "()V"⟩, prog_4_method_1_code, 1, none, [])
abbrev M_Plane_set : MethodName × ByteArray × Nat × Option FieldType × List (Nat × Nat × Nat × Nat) := (⟨"WedgePlanes$Plane", "set", "(IIII)V"⟩, prog_4_method_2_code, 5, none, [])
abbrev M_Arrow_set : MethodName × ByteArray × Nat × Option FieldType × List (Nat × Nat × Nat × Nat) := (⟨"WedgePlanes$Arrow", "set", "(III)V"⟩, prog_2_method_2_code, 4, none, [])
abbrev M_Rock_addFace : MethodName × ByteArray × Nat × Option FieldType × List (Nat × Nat × Nat × Nat) := (⟨"WedgePlanes$Rock", "addFace", "(I)V"⟩, prog_6_method_11_code, 5, none, [])
abbrev M_Points_tellSide : MethodName × ByteArray × Nat × Option FieldType × List (Nat × Nat × Nat × Nat) := (⟨"WedgePlanes$Points", "tellSide", "(IILWedgePlanes$Plane;)V"⟩, prog_5_method_4_code, 5, none, [])
abbrev M_Plane_heightOf : MethodName × ByteArray × Nat × Option FieldType × List (Nat × Nat × Nat × Nat) := (⟨"WedgePlanes$Plane", "heightOf", "(IIII)I"⟩, prog_4_method_3_code, 5, some .int, [])
abbrev M_WP_hasBit : MethodName × ByteArray × Nat × Option FieldType × List (Nat × Nat × Nat × Nat) := (⟨"WedgePlanes", "hasBit", "(II)Z"⟩, prog_1_method_20_code, 2, some .boolean, [])
abbrev M_Rock_meet : MethodName × ByteArray × Nat × Option FieldType × List (Nat × Nat × Nat × Nat) := (⟨"WedgePlanes$Rock", "meet", "(LWedgePlanes$Plane;LWedgePlanes$Plane;LWedgePlanes$Plane;)V"⟩, prog_6_method_12_code, 9, none, [])
abbrev M_Arrow_setCross : MethodName × ByteArray × Nat × Option FieldType × List (Nat × Nat × Nat × Nat) := (⟨"WedgePlanes$Arrow", "setCross", "(LWedgePlanes$Arrow;LWedgePlanes$Arrow;)V"⟩, prog_2_method_4_code, 3, none, [])
abbrev M_Arrow_times : MethodName × ByteArray × Nat × Option FieldType × List (Nat × Nat × Nat × Nat) := (⟨"WedgePlanes$Arrow", "times", "(LWedgePlanes$Arrow;)I"⟩, prog_2_method_6_code, 2, some .int, [])
abbrev M_Rock_addPoint : MethodName × ByteArray × Nat × Option FieldType × List (Nat × Nat × Nat × Nat) := (⟨"WedgePlanes$Rock", "addPoint", "(IIII)V"⟩, prog_6_method_13_code, 7, none, [])
abbrev M_Rock_isInBox : MethodName × ByteArray × Nat × Option FieldType × List (Nat × Nat × Nat × Nat) := (⟨"WedgePlanes$Rock", "isInBox", "(IIII)Z"⟩, prog_6_method_14_code, 5, some .boolean, [])
abbrev M_Rock_commonDivisor : MethodName × ByteArray × Nat × Option FieldType × List (Nat × Nat × Nat × Nat) := (⟨"WedgePlanes$Rock", "commonDivisor", "(II)I"⟩, prog_6_method_15_code, 6, some .int, [])
abbrev M_Points_has : MethodName × ByteArray × Nat × Option FieldType × List (Nat × Nat × Nat × Nat) := (⟨"WedgePlanes$Points", "has", "(IIII)Z"⟩, prog_5_method_2_code, 6, some .boolean, [])
abbrev M_Points_add : MethodName × ByteArray × Nat × Option FieldType × List (Nat × Nat × Nat × Nat) := (⟨"WedgePlanes$Points", "add", "(IIII)V"⟩, prog_5_method_3_code, 5, none, [])
abbrev M_Rock_findBlocks : MethodName × ByteArray × Nat × Option FieldType × List (Nat × Nat × Nat × Nat) := (⟨"WedgePlanes$Rock", "findBlocks", "()V"⟩, prog_6_method_16_code, 2, none, [])
abbrev M_Rock_findBlock : MethodName × ByteArray × Nat × Option FieldType × List (Nat × Nat × Nat × Nat) := (⟨"WedgePlanes$Rock", "findBlock", "(I)V"⟩, prog_6_method_17_code, 10, none, [])
abbrev M_Points_touches : MethodName × ByteArray × Nat × Option FieldType × List (Nat × Nat × Nat × Nat) := (⟨"WedgePlanes$Points", "touches", "(II)Z"⟩, prog_5_method_6_code, 3, some .boolean, [])
abbrev M_Rock_addBlock : MethodName × ByteArray × Nat × Option FieldType × List (Nat × Nat × Nat × Nat) := (⟨"WedgePlanes$Rock", "addBlock", "(III)V"⟩, prog_6_method_18_code, 4, none, [])
abbrev M_WP_unjoint : MethodName × ByteArray × Nat × Option FieldType × List (Nat × Nat × Nat × Nat) := (⟨"WedgePlanes", "unjoint", "()I"⟩, prog_1_method_3_code, 1, some .int, [])
abbrev M_WP_putAllBack : MethodName × ByteArray × Nat × Option FieldType × List (Nat × Nat × Nat × Nat) := (⟨"WedgePlanes", "putAllBack", "()V"⟩, prog_1_method_25_code, 2, none, [])
abbrev M_Rock_dropJoint : MethodName × ByteArray × Nat × Option FieldType × List (Nat × Nat × Nat × Nat) := (⟨"WedgePlanes$Rock", "dropJoint", "()V"⟩, prog_6_method_5_code, 1, none, [])
abbrev M_Points_dropFace : MethodName × ByteArray × Nat × Option FieldType × List (Nat × Nat × Nat × Nat) := (⟨"WedgePlanes$Points", "dropFace", "(II)V"⟩, prog_5_method_5_code, 4, none, [])
abbrev M_WP_blocks : MethodName × ByteArray × Nat × Option FieldType × List (Nat × Nat × Nat × Nat) := (⟨"WedgePlanes", "blocks", "()I"⟩, prog_1_method_7_code, 1, some .int, [])
abbrev M_WP_find : MethodName × ByteArray × Nat × Option FieldType × List (Nat × Nat × Nat × Nat) := (⟨"WedgePlanes", "find", "(I)I"⟩, prog_1_method_10_code, 2, some .int, [])
abbrev M_WP_order : MethodName × ByteArray × Nat × Option FieldType × List (Nat × Nat × Nat × Nat) := (⟨"WedgePlanes", "order", "()I"⟩, prog_1_method_14_code, 2, some .int, [])
abbrev M_WP_takeLeast : MethodName × ByteArray × Nat × Option FieldType × List (Nat × Nat × Nat × Nat) := (⟨"WedgePlanes", "takeLeast", "()Z"⟩, prog_1_method_27_code, 3, some .boolean, [])
abbrev M_WP_leastDirection : MethodName × ByteArray × Nat × Option FieldType × List (Nat × Nat × Nat × Nat) := (⟨"WedgePlanes", "leastDirection", "(I)I"⟩, prog_1_method_28_code, 3, some .int, [])
abbrev M_WP_lookAtHold : MethodName × ByteArray × Nat × Option FieldType × List (Nat × Nat × Nat × Nat) := (⟨"WedgePlanes", "lookAtHold", "(I)V"⟩, prog_1_method_29_code, 4, none, [])
abbrev M_Hold_clear : MethodName × ByteArray × Nat × Option FieldType × List (Nat × Nat × Nat × Nat) := (⟨"WedgePlanes$Hold", "clear", "()V"⟩, prog_3_method_2_code, 1, none, [])
abbrev M_WP_isFree : MethodName × ByteArray × Nat × Option FieldType × List (Nat × Nat × Nat × Nat) := (⟨"WedgePlanes", "isFree", "(II)Z"⟩, prog_1_method_30_code, 4, some .boolean, [])
abbrev M_Rock_neighbour : MethodName × ByteArray × Nat × Option FieldType × List (Nat × Nat × Nat × Nat) := (⟨"WedgePlanes$Rock", "neighbour", "(II)I"⟩, prog_6_method_6_code, 3, some .int, [])
abbrev M_Hold_add : MethodName × ByteArray × Nat × Option FieldType × List (Nat × Nat × Nat × Nat) := (⟨"WedgePlanes$Hold", "add", "(ILWedgePlanes$Arrow;Z)V"⟩, prog_3_method_3_code, 4, none, [])
abbrev M_Arrow_setScaled : MethodName × ByteArray × Nat × Option FieldType × List (Nat × Nat × Nat × Nat) := (⟨"WedgePlanes$Arrow", "setScaled", "(LWedgePlanes$Arrow;I)V"⟩, prog_2_method_3_code, 3, none, [])
abbrev M_Hold_lets : MethodName × ByteArray × Nat × Option FieldType × List (Nat × Nat × Nat × Nat) := (⟨"WedgePlanes$Hold", "lets", "(LWedgePlanes$Arrow;)Z"⟩, prog_3_method_4_code, 3, some .boolean, [])
abbrev M_Arrow_isZero : MethodName × ByteArray × Nat × Option FieldType × List (Nat × Nat × Nat × Nat) := (⟨"WedgePlanes$Arrow", "isZero", "()Z"⟩, prog_2_method_7_code, 1, some .boolean, [])
abbrev M_WP_putAway : MethodName × ByteArray × Nat × Option FieldType × List (Nat × Nat × Nat × Nat) := (⟨"WedgePlanes", "putAway", "(II)V"⟩, prog_1_method_26_code, 3, none, [])
abbrev M_WP_back : MethodName × ByteArray × Nat × Option FieldType × List (Nat × Nat × Nat × Nat) := (⟨"WedgePlanes", "back", "()I"⟩, prog_1_method_16_code, 2, some .int, [])
abbrev M_Law_cell : MethodName × ByteArray × Nat × Option FieldType × List (Nat × Nat × Nat × Nat) := (⟨"WedgePlanesLaw", "cell", "([II)I"⟩, method_2_code, 2, some .int, [])
abbrev M_Law_joint : MethodName × ByteArray × Nat × Option FieldType × List (Nat × Nat × Nat × Nat) := (⟨"WedgePlanesLaw", "joint", "(LWedgePlanes;IIII[J)I"⟩, method_3_code, 7, some .int, [((0), (14), (17), (13)), ((0), (14), (21), (15))])
abbrev M_WP_joint : MethodName × ByteArray × Nat × Option FieldType × List (Nat × Nat × Nat × Nat) := (⟨"WedgePlanes", "joint", "(IIII)I"⟩, prog_1_method_2_code, 5, some .int, [])
abbrev M_WP_isJoint : MethodName × ByteArray × Nat × Option FieldType × List (Nat × Nat × Nat × Nat) := (⟨"WedgePlanes", "isJoint", "(IIII)Z"⟩, prog_1_method_23_code, 5, some .boolean, [])
abbrev M_WP_isWithin : MethodName × ByteArray × Nat × Option FieldType × List (Nat × Nat × Nat × Nat) := (⟨"WedgePlanes", "isWithin", "(II)Z"⟩, prog_1_method_21_code, 2, some .boolean, [])
abbrev M_Rock_isCutBy : MethodName × ByteArray × Nat × Option FieldType × List (Nat × Nat × Nat × Nat) := (⟨"WedgePlanes$Rock", "isCutBy", "(IIII)Z"⟩, prog_6_method_2_code, 7, some .boolean, [])
abbrev M_Rock_hasJoint : MethodName × ByteArray × Nat × Option FieldType × List (Nat × Nat × Nat × Nat) := (⟨"WedgePlanes$Rock", "hasJoint", "(IIII)Z"⟩, prog_6_method_3_code, 6, some .boolean, [])
abbrev M_Plane_isSame : MethodName × ByteArray × Nat × Option FieldType × List (Nat × Nat × Nat × Nat) := (⟨"WedgePlanes$Plane", "isSame", "(IIII)Z"⟩, prog_4_method_4_code, 5, some .boolean, [])
abbrev M_Rock_addJoint : MethodName × ByteArray × Nat × Option FieldType × List (Nat × Nat × Nat × Nat) := (⟨"WedgePlanes$Rock", "addJoint", "(IIII)V"⟩, prog_6_method_4_code, 5, none, [])
abbrev M_Law_open : MethodName × ByteArray × Nat × Option FieldType × List (Nat × Nat × Nat × Nat) := (⟨"WedgePlanesLaw", "open", "(LWedgePlanes;IZ[J)I"⟩, method_4_code, 5, some .int, [((0), (17), (20), (21))])
abbrev M_WP_open : MethodName × ByteArray × Nat × Option FieldType × List (Nat × Nat × Nat × Nat) := (⟨"WedgePlanes", "open", "(IZ)Z"⟩, prog_1_method_4_code, 4, some .boolean, [])
abbrev M_Law_direction : MethodName × ByteArray × Nat × Option FieldType × List (Nat × Nat × Nat × Nat) := (⟨"WedgePlanesLaw", "direction", "(LWedgePlanes;III[J)I"⟩, method_5_code, 6, some .int, [((0), (12), (15), (13)), ((0), (12), (19), (15))])
abbrev M_WP_direction : MethodName × ByteArray × Nat × Option FieldType × List (Nat × Nat × Nat × Nat) := (⟨"WedgePlanes", "direction", "(III)I"⟩, prog_1_method_5_code, 4, some .int, [])
abbrev M_WP_isStep : MethodName × ByteArray × Nat × Option FieldType × List (Nat × Nat × Nat × Nat) := (⟨"WedgePlanes", "isStep", "(III)Z"⟩, prog_1_method_22_code, 3, some .boolean, [])
abbrev M_Law_pull : MethodName × ByteArray × Nat × Option FieldType × List (Nat × Nat × Nat × Nat) := (⟨"WedgePlanesLaw", "pull", "(LWedgePlanes;III)I"⟩, method_6_code, 5, some .int, [((0), (7), (10), (13))])
abbrev M_WP_pull : MethodName × ByteArray × Nat × Option FieldType × List (Nat × Nat × Nat × Nat) := (⟨"WedgePlanes", "pull", "(III)V"⟩, prog_1_method_6_code, 4, none, [])
abbrev M_Law_block : MethodName × ByteArray × Nat × Option FieldType × List (Nat × Nat × Nat × Nat) := (⟨"WedgePlanesLaw", "block", "(LWedgePlanes;II[J)I"⟩, method_7_code, 5, some .int, [((0), (10), (13), (21))])
abbrev M_WP_block : MethodName × ByteArray × Nat × Option FieldType × List (Nat × Nat × Nat × Nat) := (⟨"WedgePlanes", "block", "(II)I"⟩, prog_1_method_8_code, 3, some .int, [])
abbrev M_WP_needBlock : MethodName × ByteArray × Nat × Option FieldType × List (Nat × Nat × Nat × Nat) := (⟨"WedgePlanes", "needBlock", "(I)V"⟩, prog_1_method_24_code, 2, none, [])
abbrev M_Rock_countWholePoints : MethodName × ByteArray × Nat × Option FieldType × List (Nat × Nat × Nat × Nat) := (⟨"WedgePlanes$Rock", "countWholePoints", "(I)I"⟩, prog_6_method_8_code, 6, some .int, [])
abbrev M_Rock_isOnSides : MethodName × ByteArray × Nat × Option FieldType × List (Nat × Nat × Nat × Nat) := (⟨"WedgePlanes$Rock", "isOnSides", "(IIII)Z"⟩, prog_6_method_9_code, 7, some .boolean, [])
abbrev M_Law_corner : MethodName × ByteArray × Nat × Option FieldType × List (Nat × Nat × Nat × Nat) := (⟨"WedgePlanesLaw", "corner", "(LWedgePlanes;III[J)I"⟩, method_8_code, 6, some .int, [((0), (12), (15), (21))])
abbrev M_WP_corner : MethodName × ByteArray × Nat × Option FieldType × List (Nat × Nat × Nat × Nat) := (⟨"WedgePlanes", "corner", "(III)I"⟩, prog_1_method_9_code, 5, some .int, [])
abbrev M_Rock_cornerPoint : MethodName × ByteArray × Nat × Option FieldType × List (Nat × Nat × Nat × Nat) := (⟨"WedgePlanes$Rock", "cornerPoint", "(II)I"⟩, prog_6_method_7_code, 6, some .int, [])
abbrev M_Rock_sortIn : MethodName × ByteArray × Nat × Option FieldType × List (Nat × Nat × Nat × Nat) := (⟨"WedgePlanes$Rock", "sortIn", "(II)V"⟩, prog_6_method_10_code, 4, none, [])
abbrev M_Points_isBefore : MethodName × ByteArray × Nat × Option FieldType × List (Nat × Nat × Nat × Nat) := (⟨"WedgePlanes$Points", "isBefore", "(II)Z"⟩, prog_5_method_7_code, 6, some .boolean, [])
abbrev M_Integer_compare : MethodName × ByteArray × Nat × Option FieldType × List (Nat × Nat × Nat × Nat) := (⟨"java/lang/Integer", "compare", "(II)I"⟩, prog_13_method_40_code, 2, some .int, [])
abbrev M_Law_beside : MethodName × ByteArray × Nat × Option FieldType × List (Nat × Nat × Nat × Nat) := (⟨"WedgePlanesLaw", "beside", "(LWedgePlanes;II[J)I"⟩, method_9_code, 5, some .int, [((0), (10), (13), (21))])
abbrev M_WP_beside : MethodName × ByteArray × Nat × Option FieldType × List (Nat × Nat × Nat × Nat) := (⟨"WedgePlanes", "beside", "(II)I"⟩, prog_1_method_11_code, 3, some .int, [])
abbrev M_Law_goes : MethodName × ByteArray × Nat × Option FieldType × List (Nat × Nat × Nat × Nat) := (⟨"WedgePlanesLaw", "goes", "(LWedgePlanes;II[J)I"⟩, method_10_code, 5, some .int, [((0), (17), (20), (21))])
abbrev M_WP_goes : MethodName × ByteArray × Nat × Option FieldType × List (Nat × Nat × Nat × Nat) := (⟨"WedgePlanes", "goes", "(II)Z"⟩, prog_1_method_12_code, 3, some .boolean, [])
abbrev M_Law_take : MethodName × ByteArray × Nat × Option FieldType × List (Nat × Nat × Nat × Nat) := (⟨"WedgePlanesLaw", "take", "(LWedgePlanes;I[J)I"⟩, method_11_code, 4, some .int, [((0), (9), (12), (21))])
abbrev M_WP_take : MethodName × ByteArray × Nat × Option FieldType × List (Nat × Nat × Nat × Nat) := (⟨"WedgePlanes", "take", "(I)I"⟩, prog_1_method_13_code, 3, some .int, [])
abbrev M_Law_taken : MethodName × ByteArray × Nat × Option FieldType × List (Nat × Nat × Nat × Nat) := (⟨"WedgePlanesLaw", "taken", "(LWedgePlanes;II[J)I"⟩, method_12_code, 5, some .int, [((0), (10), (13), (21))])
abbrev M_WP_taken : MethodName × ByteArray × Nat × Option FieldType × List (Nat × Nat × Nat × Nat) := (⟨"WedgePlanes", "taken", "(II)I"⟩, prog_1_method_15_code, 3, some .int, [])
abbrev M_Law_mode : MethodName × ByteArray × Nat × Option FieldType × List (Nat × Nat × Nat × Nat) := (⟨"WedgePlanesLaw", "mode", "(LWedgePlanes;I[J)I"⟩, method_13_code, 4, some .int, [((0), (9), (12), (21))])
abbrev M_WP_mode : MethodName × ByteArray × Nat × Option FieldType × List (Nat × Nat × Nat × Nat) := (⟨"WedgePlanes", "mode", "(I)I"⟩, prog_1_method_17_code, 2, some .int, [])
abbrev M_Hold_answerTo : MethodName × ByteArray × Nat × Option FieldType × List (Nat × Nat × Nat × Nat) := (⟨"WedgePlanes$Hold", "answerTo", "(LWedgePlanes$Arrow;)I"⟩, prog_3_method_5_code, 3, some .int, [])
abbrev M_Arrow_setSlide : MethodName × ByteArray × Nat × Option FieldType × List (Nat × Nat × Nat × Nat) := (⟨"WedgePlanes$Arrow", "setSlide", "(LWedgePlanes$Arrow;LWedgePlanes$Arrow;)V"⟩, prog_2_method_5_code, 5, none, [])
abbrev M_Hold_slideOnOne : MethodName × ByteArray × Nat × Option FieldType × List (Nat × Nat × Nat × Nat) := (⟨"WedgePlanes$Hold", "slideOnOne", "(LWedgePlanes$Arrow;)I"⟩, prog_3_method_6_code, 3, some .int, [])
abbrev M_Hold_slideOnTwo : MethodName × ByteArray × Nat × Option FieldType × List (Nat × Nat × Nat × Nat) := (⟨"WedgePlanes$Hold", "slideOnTwo", "(LWedgePlanes$Arrow;)I"⟩, prog_3_method_7_code, 4, some .int, [])
abbrev M_Hold_slidesAlong : MethodName × ByteArray × Nat × Option FieldType × List (Nat × Nat × Nat × Nat) := (⟨"WedgePlanes$Hold", "slidesAlong", "(IILWedgePlanes$Arrow;)Z"⟩, prog_3_method_8_code, 4, some .boolean, [])
abbrev M_Law_told : MethodName × ByteArray × Nat × Option FieldType × List (Nat × Nat × Nat × Nat) := (⟨"WedgePlanesLaw", "told", "(LWedgePlanes;I[J)I"⟩, method_14_code, 4, some .int, [((0), (9), (12), (21))])
abbrev M_WP_told : MethodName × ByteArray × Nat × Option FieldType × List (Nat × Nat × Nat × Nat) := (⟨"WedgePlanes", "told", "(I)I"⟩, prog_1_method_18_code, 2, some .int, [])
abbrev M_Md_init : MethodName × ByteArray × Nat × Option FieldType × List (Nat × Nat × Nat × Nat) := (⟨"WedgePlanesModel", "<init>", "(III)V"⟩, prog_8_method_1_code, 5, none, [])
abbrev M_Md_within : MethodName × ByteArray × Nat × Option FieldType × List (Nat × Nat × Nat × Nat) := (⟨"WedgePlanesModel", "within", "(I)I"⟩, prog_8_method_3_code, 1, some .int, [])
abbrev M_Md_cut : MethodName × ByteArray × Nat × Option FieldType × List (Nat × Nat × Nat × Nat) := (⟨"WedgePlanesModel", "cut", "()V"⟩, prog_8_method_12_code, 4, none, [])
abbrev M_Md_isThere : MethodName × ByteArray × Nat × Option FieldType × List (Nat × Nat × Nat × Nat) := (⟨"WedgePlanesModel", "isThere", "(I)Z"⟩, prog_8_method_8_code, 2, some .boolean, [])
abbrev M_Md_make : MethodName × ByteArray × Nat × Option FieldType × List (Nat × Nat × Nat × Nat) := (⟨"WedgePlanesModel", "make", "(III)V"⟩, prog_8_method_11_code, 9, none, [])
abbrev M_Md_determinant : MethodName × ByteArray × Nat × Option FieldType × List (Nat × Nat × Nat × Nat) := (⟨"WedgePlanesModel", "determinant", "(IIII)I"⟩, prog_8_method_7_code, 8, some .int, [])
abbrev M_Md_part : MethodName × ByteArray × Nat × Option FieldType × List (Nat × Nat × Nat × Nat) := (⟨"WedgePlanesModel", "part", "(III)I"⟩, prog_8_method_6_code, 4, some .int, [])
abbrev M_Md_common : MethodName × ByteArray × Nat × Option FieldType × List (Nat × Nat × Nat × Nat) := (⟨"WedgePlanesModel", "common", "(II)I"⟩, prog_8_method_5_code, 5, some .int, [])
abbrev M_Md_orderP : MethodName × ByteArray × Nat × Option FieldType × List (Nat × Nat × Nat × Nat) := (⟨"WedgePlanesModel", "order", "(I)I"⟩, prog_8_method_10_code, 4, some .int, [])
abbrev M_Md_more : MethodName × ByteArray × Nat × Option FieldType × List (Nat × Nat × Nat × Nat) := (⟨"WedgePlanesModel", "more", "(II)I"⟩, prog_8_method_9_code, 3, some .int, [])
abbrev M_Md_freeOf : MethodName × ByteArray × Nat × Option FieldType × List (Nat × Nat × Nat × Nat) := (⟨"WedgePlanesModel", "freeOf", "(II)I"⟩, prog_8_method_15_code, 5, some .int, [])
abbrev M_Md_isOf : MethodName × ByteArray × Nat × Option FieldType × List (Nat × Nat × Nat × Nat) := (⟨"WedgePlanesModel", "isOf", "(II)Z"⟩, prog_8_method_14_code, 3, some .boolean, [])
abbrev M_Md_all : MethodName × ByteArray × Nat × Option FieldType × List (Nat × Nat × Nat × Nat) := (⟨"WedgePlanesModel", "all", "()I"⟩, prog_8_method_13_code, 1, some .int, [])
abbrev M_Md_findFaces : MethodName × ByteArray × Nat × Option FieldType × List (Nat × Nat × Nat × Nat) := (⟨"WedgePlanesModel", "findFaces", "(I)I"⟩, prog_8_method_16_code, 4, some .int, [])
abbrev M_Md_thrown : MethodName × ByteArray × Nat × Option FieldType × List (Nat × Nat × Nat × Nat) := (⟨"WedgePlanesModel", "thrown", "()I"⟩, prog_8_method_2_code, 1, some .int, [])
abbrev M_Md_joint : MethodName × ByteArray × Nat × Option FieldType × List (Nat × Nat × Nat × Nat) := (⟨"WedgePlanesModel", "joint", "(IIII)I"⟩, prog_8_method_19_code, 5, some .int, [])
abbrev M_Md_isRight : MethodName × ByteArray × Nat × Option FieldType × List (Nat × Nat × Nat × Nat) := (⟨"WedgePlanesModel", "isRight", "(IIII)Z"⟩, prog_8_method_18_code, 10, some .boolean, [])
abbrev M_Md_in : MethodName × ByteArray × Nat × Option FieldType × List (Nat × Nat × Nat × Nat) := (⟨"WedgePlanesModel", "in", "(III)Z"⟩, prog_8_method_4_code, 3, some .boolean, [])
abbrev M_Md_isSame : MethodName × ByteArray × Nat × Option FieldType × List (Nat × Nat × Nat × Nat) := (⟨"WedgePlanesModel", "isSame", "(IIIII)Z"⟩, prog_8_method_17_code, 10, some .boolean, [])
abbrev M_Md_unjoint : MethodName × ByteArray × Nat × Option FieldType × List (Nat × Nat × Nat × Nat) := (⟨"WedgePlanesModel", "unjoint", "()I"⟩, prog_8_method_20_code, 1, some .int, [])
abbrev M_Md_open : MethodName × ByteArray × Nat × Option FieldType × List (Nat × Nat × Nat × Nat) := (⟨"WedgePlanesModel", "open", "(IZ)Z"⟩, prog_8_method_21_code, 4, some .boolean, [])
abbrev M_Md_direction : MethodName × ByteArray × Nat × Option FieldType × List (Nat × Nat × Nat × Nat) := (⟨"WedgePlanesModel", "direction", "(III)I"⟩, prog_8_method_23_code, 4, some .int, [])
abbrev M_Md_isVector : MethodName × ByteArray × Nat × Option FieldType × List (Nat × Nat × Nat × Nat) := (⟨"WedgePlanesModel", "isVector", "(III)Z"⟩, prog_8_method_22_code, 3, some .boolean, [])
abbrev M_Md_pull : MethodName × ByteArray × Nat × Option FieldType × List (Nat × Nat × Nat × Nat) := (⟨"WedgePlanesModel", "pull", "(III)V"⟩, prog_8_method_24_code, 4, none, [])
abbrev M_Md_blocks : MethodName × ByteArray × Nat × Option FieldType × List (Nat × Nat × Nat × Nat) := (⟨"WedgePlanesModel", "blocks", "()I"⟩, prog_8_method_25_code, 1, some .int, [])
abbrev M_Md_block : MethodName × ByteArray × Nat × Option FieldType × List (Nat × Nat × Nat × Nat) := (⟨"WedgePlanesModel", "block", "(II)I"⟩, prog_8_method_30_code, 3, some .int, [])
abbrev M_Md_isBlock : MethodName × ByteArray × Nat × Option FieldType × List (Nat × Nat × Nat × Nat) := (⟨"WedgePlanesModel", "isBlock", "(I)Z"⟩, prog_8_method_26_code, 2, some .boolean, [])
abbrev M_Md_cornersOf : MethodName × ByteArray × Nat × Option FieldType × List (Nat × Nat × Nat × Nat) := (⟨"WedgePlanesModel", "cornersOf", "(I)I"⟩, prog_8_method_27_code, 4, some .int, [])
abbrev M_Md_insideOf : MethodName × ByteArray × Nat × Option FieldType × List (Nat × Nat × Nat × Nat) := (⟨"WedgePlanesModel", "insideOf", "(I)I"⟩, prog_8_method_29_code, 6, some .int, [])
abbrev M_Md_isInside : MethodName × ByteArray × Nat × Option FieldType × List (Nat × Nat × Nat × Nat) := (⟨"WedgePlanesModel", "isInside", "(IIII)Z"⟩, prog_8_method_28_code, 8, some .boolean, [])
abbrev M_Md_corner : MethodName × ByteArray × Nat × Option FieldType × List (Nat × Nat × Nat × Nat) := (⟨"WedgePlanesModel", "corner", "(III)I"⟩, prog_8_method_31_code, 7, some .int, [])
abbrev M_Md_find : MethodName × ByteArray × Nat × Option FieldType × List (Nat × Nat × Nat × Nat) := (⟨"WedgePlanesModel", "find", "(I)I"⟩, prog_8_method_32_code, 3, some .int, [])
abbrev M_Md_beside : MethodName × ByteArray × Nat × Option FieldType × List (Nat × Nat × Nat × Nat) := (⟨"WedgePlanesModel", "beside", "(II)I"⟩, prog_8_method_34_code, 3, some .int, [])
abbrev M_Md_isFace : MethodName × ByteArray × Nat × Option FieldType × List (Nat × Nat × Nat × Nat) := (⟨"WedgePlanesModel", "isFace", "(II)Z"⟩, prog_8_method_33_code, 3, some .boolean, [])
abbrev M_Md_goes : MethodName × ByteArray × Nat × Option FieldType × List (Nat × Nat × Nat × Nat) := (⟨"WedgePlanesModel", "goes", "(II)Z"⟩, prog_8_method_40_code, 3, some .boolean, [])
abbrev M_Md_canGoBy : MethodName × ByteArray × Nat × Option FieldType × List (Nat × Nat × Nat × Nat) := (⟨"WedgePlanesModel", "canGoBy", "(II)Z"⟩, prog_8_method_39_code, 4, some .boolean, [])
abbrev M_Md_canGo : MethodName × ByteArray × Nat × Option FieldType × List (Nat × Nat × Nat × Nat) := (⟨"WedgePlanesModel", "canGo", "(I)Z"⟩, prog_8_method_38_code, 4, some .boolean, [])
abbrev M_Md_holds : MethodName × ByteArray × Nat × Option FieldType × List (Nat × Nat × Nat × Nat) := (⟨"WedgePlanesModel", "holds", "(II)Z"⟩, prog_8_method_35_code, 3, some .boolean, [])
abbrev M_Md_inward : MethodName × ByteArray × Nat × Option FieldType × List (Nat × Nat × Nat × Nat) := (⟨"WedgePlanesModel", "inward", "(II[I)V"⟩, prog_8_method_36_code, 6, none, [])
abbrev M_Md_times : MethodName × ByteArray × Nat × Option FieldType × List (Nat × Nat × Nat × Nat) := (⟨"WedgePlanesModel", "times", "([I[I)I"⟩, prog_8_method_37_code, 2, some .int, [])
abbrev M_Md_take : MethodName × ByteArray × Nat × Option FieldType × List (Nat × Nat × Nat × Nat) := (⟨"WedgePlanesModel", "take", "(I)I"⟩, prog_8_method_42_code, 2, some .int, [])
abbrev M_Md_taking : MethodName × ByteArray × Nat × Option FieldType × List (Nat × Nat × Nat × Nat) := (⟨"WedgePlanesModel", "taking", "(I)I"⟩, prog_8_method_41_code, 3, some .int, [])
abbrev M_Md_order : MethodName × ByteArray × Nat × Option FieldType × List (Nat × Nat × Nat × Nat) := (⟨"WedgePlanesModel", "order", "()I"⟩, prog_8_method_43_code, 3, some .int, [])
abbrev M_Md_taken : MethodName × ByteArray × Nat × Option FieldType × List (Nat × Nat × Nat × Nat) := (⟨"WedgePlanesModel", "taken", "(II)I"⟩, prog_8_method_44_code, 3, some .int, [])
abbrev M_Md_back : MethodName × ByteArray × Nat × Option FieldType × List (Nat × Nat × Nat × Nat) := (⟨"WedgePlanesModel", "back", "()I"⟩, prog_8_method_45_code, 3, some .int, [])
abbrev M_Md_mode : MethodName × ByteArray × Nat × Option FieldType × List (Nat × Nat × Nat × Nat) := (⟨"WedgePlanesModel", "mode", "(I)I"⟩, prog_8_method_49_code, 4, some .int, [])
abbrev M_Md_slidesOn : MethodName × ByteArray × Nat × Option FieldType × List (Nat × Nat × Nat × Nat) := (⟨"WedgePlanesModel", "slidesOn", "(II)Z"⟩, prog_8_method_47_code, 3, some .boolean, [])
abbrev M_Md_slide : MethodName × ByteArray × Nat × Option FieldType × List (Nat × Nat × Nat × Nat) := (⟨"WedgePlanesModel", "slide", "([I[I)V"⟩, prog_8_method_46_code, 6, none, [])
abbrev M_Md_slidesAlong : MethodName × ByteArray × Nat × Option FieldType × List (Nat × Nat × Nat × Nat) := (⟨"WedgePlanesModel", "slidesAlong", "(III)Z"⟩, prog_8_method_48_code, 7, some .boolean, [])
abbrev M_Md_told : MethodName × ByteArray × Nat × Option FieldType × List (Nat × Nat × Nat × Nat) := (⟨"WedgePlanesModel", "told", "(I)I"⟩, prog_8_method_50_code, 2, some .int, [])
abbrev M_Law_law : MethodName × ByteArray × Nat × Option FieldType × List (Nat × Nat × Nat × Nat) := (⟨"WedgePlanesLaw", "law", "([I)Z"⟩, code, 7, some .boolean, [])
end
section
-- the abstract world: cells by their places (0, 1, ..), references are places
abbrev zE : Type := (Nat × vp_A) ⊕ (Nat × List Value)
abbrev zH : Type := List zE
/-- an outcome: returned (with a value), or threw: the class's number in zCl, the exception's place -/
abbrev zO : Type := Option Value ⊕ (Nat × Nat)
/-- launch; classes' numbers and slots; array classes; the heap's size at the law's entry -/
abbrev zG : Type := Launch × va_G × List (ClassId × FieldType) × Nat
abbrev zG.l (G : zG) : Launch := G.1
abbrev zG.D (G : zG) : va_G := G.2.1
abbrev zG.tys (G : zG) : List (ClassId × FieldType) := G.2.2.1
abbrev zG.n0 (G : zG) : Nat := G.2.2.2
abbrev zG.A (G : zG) : Nat → Prop := fun q => G.2.2.2 ≤ q
/-- a method: name, code, locals, what it returns -/
abbrev zM : Type := MethodName × ByteArray × Nat × Option FieldType × List (Nat × Nat × Nat × Nat)
abbrev zM.nm (M : zM) : MethodName := M.1
abbrev zM.code (M : zM) : ByteArray := M.2.1
abbrev zM.maxL (M : zM) : Nat := M.2.2.1
abbrev zM.ret (M : zM) : Option FieldType := M.2.2.2.1
abbrev zM.hs (M : zM) : List (Nat × Nat × Nat × Nat) := M.2.2.2.2
def zv (ad : Nat → Nat) (v : Value) : Value := match v with
  | .ref k => .ref (ad k)
  | w => w
def zk (ad : Nat → Nat) (a : vp_A) : vp_A := (a.1, match a.2 with
  | .inr (.inr (.inr (.inr f))) => .inr (.inr (.inr (.inr (fun j => (f j).map ad))))
  | x => x)
def zc (ad : Nat → Nat) (tys : List (ClassId × FieldType)) (c : zE) : va_E := match c with
  | .inl q => .inl ((tys.getD q.1 (0, .int)).1, zk ad q.2)
  | .inr q => .inr (q.1, q.2.map (zv ad))
def zw (ad : Nat → Nat) (tys : List (ClassId × FieldType)) (h : zH) : va_W := h.mapIdx (fun k c => (ad k, zc ad tys c))
/-- references are to places below n -/
def zov (n : Nat) (v : Value) : Prop := match v with
  | .ref k => k < n
  | _ => True
def zok (n : Nat) (a : vp_A) : Prop := match a.2 with
  | .inr (.inr (.inr (.inr f))) => ∀ j k, f j = some k → k < n
  | _ => True
def zoc (n : Nat) (c : zE) : Prop := match c with
  | .inl q => zok n q.2
  | .inr q => ∀ v ∈ q.2, zov n v
def zoh (h : zH) : Prop := ∀ (k : Nat) (c : zE), h[k]? = some c → zoc h.length c
def zos (n : Nat) (st : List Value) : Prop := ∀ v ∈ st, zov n v
def zol (n : Nat) (pl : List (Option Value)) : Prop := ∀ (i : Nat) (v : Value), pl[i]? = some (some v) → zov n v ∧ v.category = 1
def zhas (ad : Nat → Nat) (pl : List (Option Value)) (nL : Nat) (ls : Array Slot) : Prop := ls.size = nL ∧ lv_wf ls ∧ ∀ (i : Nat) (v : Value), pl[i]? = some (some v) → ls[i]? = some (.val (zv ad v))
theorem zov_mono {n n' : Nat} (h : n ≤ n') {v : Value} (hv : zov n v) : zov n' v := by
  cases v with
  | ref k => exact Nat.lt_of_lt_of_le hv h
  | _ => trivial
theorem zok_mono {n n' : Nat} (h : n ≤ n') {a : vp_A} (ha : zok n a) : zok n' a := by
  obtain ⟨k, f⟩ := a
  rcases f with f | f | f | f | f <;> simp only [zok] at *
  exact fun j k hk => Nat.lt_of_lt_of_le (ha j k hk) h
theorem zoc_mono {n n' : Nat} (h : n ≤ n') {c : zE} (hc : zoc n c) : zoc n' c := by
  cases c with
  | inl q => exact zok_mono h hc
  | inr q => exact fun v hv => zov_mono h (hc v hv)
theorem zv_cong {n : Nat} {ad ad' : Nat → Nat} (h : ∀ k, k < n → ad' k = ad k) {v : Value} (hv : zov n v) : zv ad' v = zv ad v := by
  cases v <;> simp only [zv]
  simp only [zov] at hv
  rw [h _ hv]
theorem zk_cong {n : Nat} {ad ad' : Nat → Nat} (h : ∀ k, k < n → ad' k = ad k) {a : vp_A} (ha : zok n a) : zk ad' a = zk ad a := by
  obtain ⟨k, f⟩ := a
  rcases f with f | f | f | f | f <;> simp only [zk]
  simp only [zok] at ha
  have e : (fun j => (f j).map ad') = (fun j => (f j).map ad) := by
    funext j
    cases hj : f j with
    | none => rfl
    | some q => simp only [Option.map_some, h q (ha j q hj)]
  rw [e]
theorem zc_cong {n : Nat} {ad ad' : Nat → Nat} {tys : List (ClassId × FieldType)} (h : ∀ k, k < n → ad' k = ad k) {c : zE} (hc : zoc n c) : zc ad' tys c = zc ad tys c := by
  cases c with
  | inl q => simp only [zc]; rw [zk_cong h hc]
  | inr q =>
    simp only [zc]
    have e : q.2.map (zv ad') = q.2.map (zv ad) := List.map_congr_left fun v hv => zv_cong h (hc v hv)
    rw [e]
theorem zst_cong {n : Nat} {ad ad' : Nat → Nat} (h : ∀ k, k < n → ad' k = ad k) {st : List Value} (hs : zos n st) : st.map (zv ad') = st.map (zv ad) := List.map_congr_left fun v hv => zv_cong h (hs v hv)
theorem zhas_cong {n nL : Nat} {ad ad' : Nat → Nat} (h : ∀ k, k < n → ad' k = ad k) {pl : List (Option Value)} {ls : Array Slot} (hp : zol n pl) (hl : zhas ad pl nL ls) : zhas ad' pl nL ls :=
  ⟨hl.1, hl.2.1, fun i v hi => by rw [zv_cong h (hp i v hi).1]; exact hl.2.2 i v hi⟩
theorem zw_len (ad : Nat → Nat) (tys : List (ClassId × FieldType)) (h : zH) : (zw ad tys h).length = h.length := by simp [zw]
theorem zw_get {ad : Nat → Nat} {tys : List (ClassId × FieldType)} {h : zH} {k : Nat} {c : zE} (hk : h[k]? = some c) : (zw ad tys h)[k]? = some (ad k, zc ad tys c) := by
  simp [zw, hk]
theorem zw_at {ad : Nat → Nat} {tys : List (ClassId × FieldType)} {h : zH} {k : Nat} {q : Nat × va_E} (hk : (zw ad tys h)[k]? = some q) : ∃ c, h[k]? = some c ∧ q = (ad k, zc ad tys c) := by
  simp only [zw, List.getElem?_mapIdx, Option.map_eq_some_iff] at hk
  obtain ⟨c, h1, h2⟩ := hk
  exact ⟨c, h1, h2.symm⟩
theorem zw_set {ad : Nat → Nat} {tys : List (ClassId × FieldType)} {h : zH} {k : Nat} {c : zE} : zw ad tys (h.set k c) = (zw ad tys h).set k (ad k, zc ad tys c) := by
  apply List.ext_getElem?
  intro i
  simp only [zw, List.getElem?_mapIdx, List.getElem?_set, List.length_mapIdx]
  by_cases hi : k = i
  · subst hi
    by_cases hl : k < h.length <;> simp [hl]
  · simp [hi]
theorem zw_push {ad ad' : Nat → Nat} {tys : List (ClassId × FieldType)} {h : zH} {c : zE} (ho : zoh h) (hc : ∀ k, k < h.length → ad' k = ad k) : zw ad' tys (h ++ [c]) = zw ad tys h ++ [(ad' h.length, zc ad' tys c)] := by
  simp only [zw, List.mapIdx_concat]
  congr 1
  apply List.ext_getElem?
  intro i
  simp only [List.getElem?_mapIdx]
  cases hi : h[i]? with
  | none => rfl
  | some x =>
    have hl : i < h.length := (List.getElem?_eq_some_iff.mp hi).1
    simp only [Option.map_some, hc i hl, zc_cong hc (ho i x hi)]
theorem zw_cong {ad ad' : Nat → Nat} {tys : List (ClassId × FieldType)} {h : zH} (ho : zoh h) (hc : ∀ k, k < h.length → ad' k = ad k) : zw ad' tys h = zw ad tys h := by
  apply List.ext_getElem?
  intro i
  simp only [zw, List.getElem?_mapIdx]
  cases hi : h[i]? with
  | none => rfl
  | some x =>
    have hl : i < h.length := (List.getElem?_eq_some_iff.mp hi).1
    simp only [Option.map_some, hc i hl, zc_cong hc (ho i x hi)]
theorem zoh_set {h : zH} {k : Nat} {c : zE} (ho : zoh h) (hc : zoc h.length c) : zoh (h.set k c) := by
  intro i x hx
  rw [List.length_set]
  rw [List.getElem?_set] at hx
  by_cases hi : k = i
  · subst hi
    by_cases hl : k < h.length
    · simp [hl] at hx; exact hx ▸ hc
    · simp [hl] at hx
  · simp [hi] at hx; exact ho i x hx
theorem zoh_push {h : zH} {c : zE} (ho : zoh h) (hc : zoc (h.length + 1) c) : zoh (h ++ [c]) := by
  intro i x hx
  rw [List.length_append, List.length_singleton]
  by_cases hi : i < h.length
  · rw [List.getElem?_append_left hi] at hx
    exact zoc_mono (Nat.le_succ _) (ho i x hx)
  · rw [List.getElem?_append_right (Nat.le_of_not_lt hi)] at hx
    have : x ∈ [c] := List.mem_of_getElem? hx
    rw [List.mem_singleton] at this
    subst this
    exact hc
end
section
def zroom (d mc ms : Nat) : Room := { frames := d, cells := mc, slots := ms, locals := 32 * d }
/-- a static of Throwable's that holds a reference or null -/
def zSV (G : zG) (nm ds : String) (U : State) : Prop := ∃ (c i a : Nat) (k : Class) (f : Field) (cell : Cell) (v : Value), U.vm.findClass "java/lang/Throwable" = some c ∧ U.fieldFound? "java/lang/Throwable" nm ds = some (c, k, i, f) ∧ f.isStatic = true ∧ k.statics = some a ∧ U.heap[a]? = some cell ∧ cell.vm.isStatics = true ∧ cell.cls = c ∧ f.slot < cell.slots.size ∧ k.staticTypes[f.slot]? = some f.type ∧ cell.slots[f.slot]? = some v ∧ v.isRef = true ∧ ¬ G.A a
def zZ (G : zG) (s : State) : Prop := G.tys.map Prod.snd = zTys ∧ G.l.flags = flags0 ∧ zSV G "UNASSIGNED_STACK" "[Ljava/lang/StackTraceElement;" s ∧ zSV G "SUPPRESSED_SENTINEL" "Ljava/util/List;" s ∧ (∀ w ∈ zNw, va_Nw w s) ∧ va_AO "WedgePlanes$Arrow" s ∧ va_AO "WedgePlanes$Plane" s ∧ (∀ q ∈ zSt, ∃ a, vk_R "WedgePlanes" q.1 q.2 a s) ∧ va_Nc "java/lang/IllegalStateException" "java/lang/IllegalArgumentException" s
def zR (G : zG) (ad : Nat → Nat) (h : zH) (H : Heap) : Prop := va_P G.D zCl (zw ad G.tys h) H ∧ va_D G.A (zw ad G.tys h) ∧ zoh h
def zo (ad : Nat → Nat) (r : zO) : Outcome := match r with
  | .inl v => .returned (v.map (zv ad))
  | .inr q => .threw (ad q.2)
def zor (n : Nat) (r : zO) : Prop := match r with
  | .inl v => ∀ w, v = some w → zov n w
  | .inr q => q.2 < n
def zQ (G : zG) (ad0 : Nat → Nat) (n : Nat) (Q : zO → zH → Prop) (o : Outcome) (H : Heap) : Prop := ∃ (r : zO) (h : zH) (ad : Nat → Nat), Q r h ∧ (∀ k, k < n → ad k = ad0 k) ∧ n ≤ h.length ∧ zR G ad h H ∧ zor h.length r ∧ o = zo ad r
def zF (G : zG) (P : Bool) : Nat → Prop := fun q => P = false ∧ G.A q
theorem zS0 {G : zG} {P : Bool} (hP : P = false) {H0 H : Heap} {locs : List Loc} (h : va_S (zF G P) H0 H locs) : va_S G.A H0 H locs := ⟨h.1, fun q h1 h2 => h.2.1 q h1 (fun z => h2 z.2), fun q hq => (h.2.2 q hq).2⟩
theorem zS1 {G : zG} {P : Bool} (hP : P = false) {H0 H : Heap} {locs : List Loc} (h : va_S G.A H0 H locs) : va_S (zF G P) H0 H locs := ⟨h.1, fun q h1 h2 => h.2.1 q h1 (fun z => h2 ⟨hP, z⟩), fun q hq => ⟨hP, h.2.2 q hq⟩⟩
theorem zS2 {G : zG} {P : Bool} {H0 H : Heap} {locs : List Loc} (h : va_S (zF G P) H0 H locs) : va_S G.A H0 H locs := ⟨h.1, fun q h1 h2 => h.2.1 q h1 (fun z => h2 z.2), fun q hq => (h.2.2 q hq).2⟩
def zEnd (G : zG) (P : Bool) (below : List Frame) (s : State) (mc ms : Nat) (K : Outcome → Heap → Prop) : State → Prop := fun t => ∃ o, t.status = .running ∧ Ended t below o ∧ K o t.heap ∧ va_F (zF G P) s t ∧ s.WarmedH t.vm ∧ ∃ L, s.sameButNew ({ t with vm := s.vm } : State) L mc ms ∧ ∀ q ∈ L, zF G P q.base
/-- what holds all through a method -/
def zX (G : zG) (M : zM) (p : Program) (e : Env) (s : State) (m : MethodId) (args : Array Value) (meth : Method) (c : Code) : Prop :=
  p.tables.exec = Jvm.exec ∧ c.code = M.code ∧ meth.sig.returnType = M.ret ∧ c.maxLocals = M.maxL ∧ s.vm.findClass M.nm.cls = some m.cls ∧ (∀ w ∈ zT, w.before args s = true) ∧ meth.locks = false ∧ va_K G.D zCl G.tys s ∧ G.n0 ≤ s.heap.size ∧ meth.name = M.nm.name ∧ c.exceptionTable.toList.map (fun h => (h.startPc, h.endPc, h.handlerPc, h.catchType)) = M.hs ∧ zZ G s
/-- what holds at a point of it -/
def zI (G : zG) (M : zM) (P : Bool) (s : State) (ad0 : Nat → Nat) (n : Nat) (ad : Nat → Nat) (H : Heap) (locs : List Loc) (ls : Array Slot) (pl : List (Option Value)) (st : List Value) (h : zH) : Prop :=
  (∀ k, k < n → ad k = ad0 k) ∧ n ≤ h.length ∧ zR G ad h H ∧ va_S (zF G P) s.heap H locs ∧ zol h.length pl ∧ zos h.length st ∧ zhas ad pl M.maxL ls
def PW (G : zG) (M : zM) (R : Room) (P : Bool) (Q : zO → zH → Prop) (pc : Nat) (pl : List (Option Value)) (st : List Value) (h : zH) (nc ns : Nat) : Prop :=
  ∀ (p : Program) (e : Env) (s : State) (m : MethodId) (args : Array Value) (below : List Frame) (meth : Method) (c : Code) (ad0 : Nat → Nat) (n : Nat), zX G M p e s m args meth c →
    ∀ (ad : Nat → Nat) (H : Heap) (locs : List Loc) (ls : Array Slot), zI G M P s ad0 n ad H locs ls pl st h →
      W p G.l e R s m args below meth c H locs nc ns (zEnd G P below s R.cells R.slots (zQ G ad0 n Q)) (F0 m pc ls (st.map (zv ad)))
theorem zos_nil {n : Nat} : zos n [] := fun v h => by cases h
theorem zos_c {n : Nat} {v : Value} {st : List Value} (h1 : zov n v) (h2 : zos n st) : zos n (v :: st) := by
  intro w hw
  rcases List.mem_cons.mp hw with rfl | h
  · exact h1
  · exact h2 w h
theorem zos_t {n : Nat} {v : Value} {st : List Value} (h : zos n (v :: st)) : zos n st := fun w hw => h w (List.mem_cons_of_mem _ hw)
theorem zos_h {n : Nat} {v : Value} {st : List Value} (h : zos n (v :: st)) : zov n v := h v List.mem_cons_self
theorem zI.st {G : zG} {M : zM} {P : Bool} {s : State} {ad0 : Nat → Nat} {n : Nat} {ad : Nat → Nat} {H : Heap} {locs : List Loc} {ls : Array Slot} {pl : List (Option Value)} {st st' : List Value} {h : zH} (hI : zI G M P s ad0 n ad H locs ls pl st h) (hs : zos h.length st') : zI G M P s ad0 n ad H locs ls pl st' h :=
  ⟨hI.1, hI.2.1, hI.2.2.1, hI.2.2.2.1, hI.2.2.2.2.1, hs, hI.2.2.2.2.2.2⟩
theorem zI.s0 {G : zG} {M : zM} {P : Bool} {s : State} {ad0 : Nat → Nat} {n : Nat} {ad : Nat → Nat} {H : Heap} {locs : List Loc} {ls : Array Slot} {pl : List (Option Value)} {st : List Value} {h : zH} (hI : zI G M P s ad0 n ad H locs ls pl st h) : zos h.length st := hI.2.2.2.2.2.1
theorem zcat (ad : Nat → Nat) (v : Value) : (zv ad v).category = v.category := by cases v <;> rfl
def zent (ad : Nat → Nat) (pl : List (Option Value)) : List (Nat × Value) := pl.zipIdx.filterMap (fun q => q.1.map (fun v => (q.2, zv ad v)))
theorem zent_mem {ad : Nat → Nat} {pl : List (Option Value)} {i : Nat} {w : Value} : (i, w) ∈ zent ad pl ↔ ∃ v, pl[i]? = some (some v) ∧ w = zv ad v := by
  simp only [zent, List.mem_filterMap, Option.map_eq_some_iff, Prod.mk.injEq]
  constructor
  · rintro ⟨⟨o, j⟩, hm, v, ho, rfl, rfl⟩
    have := List.mem_zipIdx_iff_getElem?.mp hm
    simp only at ho this
    subst ho
    exact ⟨v, this, rfl⟩
  · rintro ⟨v, hv, rfl⟩
    exact ⟨(some v, i), List.mem_zipIdx_iff_getElem?.mpr hv, v, rfl, rfl, rfl⟩
theorem zhas.lv {ad : Nat → Nat} {pl : List (Option Value)} {nL : Nat} {ls : Array Slot} (h : zhas ad pl nL ls) : lv_has ls nL (zent ad pl) :=
  ⟨h.1, h.2.1, fun q hq => by obtain ⟨v, h1, h2⟩ := zent_mem.mp (show (q.1, q.2) ∈ _ from hq); rw [h2]; exact h.2.2 _ _ h1⟩
theorem zhas.put {ad : Nat → Nat} {pl : List (Option Value)} {nL n : Nat} {ls' : Array Slot} {i : Nat} {v : Value} (hp : zol n pl) (h : lv_has ls' nL ((i, zv ad v) :: (zent ad pl).filter (fun q => !(q.1 == i) && !(q.1 + 1 == i && q.2.category == 2)))) : zhas ad (pl.set i (some v)) nL ls' := by
  refine ⟨h.1, h.2.1, fun j w hw => ?_⟩
  rw [List.getElem?_set] at hw
  by_cases hi : i = j
  · subst hi
    by_cases hl : i < pl.length
    · simp [hl] at hw
      subst hw
      exact h.2.2 _ List.mem_cons_self
    · simp [hl] at hw
  · simp [hi] at hw
    refine h.2.2 (j, zv ad w) (List.mem_cons_of_mem _ (List.mem_filter.mpr ⟨zent_mem.mpr ⟨w, hw, rfl⟩, ?_⟩))
    have hc : (zv ad w).category = 1 := by rw [zcat]; exact (hp j w hw).2
    simp [hc, Ne.symm hi]
theorem zol_set {n i : Nat} {pl : List (Option Value)} {v : Value} (h : zol n pl) (hv : zov n v) (hc : v.category = 1) : zol n (pl.set i (some v)) := by
  intro j w hw
  rw [List.getElem?_set] at hw
  by_cases hi : i = j
  · subst hi
    by_cases hl : i < pl.length
    · simp [hl] at hw; subst hw; exact ⟨hv, hc⟩
    · simp [hl] at hw
  · simp [hi] at hw; exact h j w hw
theorem zI.put {G : zG} {M : zM} {P : Bool} {s : State} {ad0 : Nat → Nat} {n : Nat} {ad : Nat → Nat} {H : Heap} {locs : List Loc} {ls ls' : Array Slot} {pl : List (Option Value)} {st st' : List Value} {h : zH} {i : Nat} {v : Value} (hI : zI G M P s ad0 n ad H locs ls pl st h) (hs : zos h.length st') (hv : zov h.length v) (hc : v.category = 1)
    (h' : lv_has ls' M.maxL ((i, zv ad v) :: (zent ad pl).filter (fun q => !(q.1 == i) && !(q.1 + 1 == i && q.2.category == 2)))) : zI G M P s ad0 n ad H locs ls' (pl.set i (some v)) st' h :=
  ⟨hI.1, hI.2.1, hI.2.2.1, hI.2.2.2.1, zol_set hI.2.2.2.2.1 hv hc, hs, zhas.put hI.2.2.2.2.1 h'⟩
theorem zI.l {G : zG} {M : zM} {P : Bool} {s : State} {ad0 : Nat → Nat} {n : Nat} {ad : Nat → Nat} {H : Heap} {locs : List Loc} {ls : Array Slot} {pl : List (Option Value)} {st : List Value} {h : zH} (hI : zI G M P s ad0 n ad H locs ls pl st h) {i : Nat} {v : Value} (hi : pl[i]? = some (some v)) : ls[i]? = some (.val (zv ad v)) := hI.2.2.2.2.2.2.2.2 i v hi
section PWrows
variable {G : zG} {M : zM} {R : Room} {P : Bool} {Q : zO → zH → Prop} {pc : Nat} {pl : List (Option Value)} {st : List Value} {h : zH} {nc ns : Nat}

theorem pw_iconst {k : Int} {x : Int32} (hd : decode M.code pc = .ok (.iconst k, 1)) (hx : Int32.ofInt k = x) (kk : PW G M R P Q (pc + 1) pl (.int x :: st) h nc ns) : PW G M R P Q pc pl st h nc ns := by
  intro p e s m args below meth c ad0 n C ad H locs ls hI
  exact lv_iconst C.1 C.2.1 hd hx (kk p e s m args below meth c ad0 n C ad H locs ls (hI.st (zos_c trivial hI.s0)))
theorem pw_bipush {k : Int} {x : Int32} (hd : decode M.code pc = .ok (.bipush k, 2)) (hx : (Int8.ofInt k).toInt32 = x) (kk : PW G M R P Q (pc + 2) pl (.int x :: st) h nc ns) : PW G M R P Q pc pl st h nc ns := by
  intro p e s m args below meth c ad0 n C ad H locs ls hI
  exact lv_bipush C.1 C.2.1 hd hx (kk p e s m args below meth c ad0 n C ad H locs ls (hI.st (zos_c trivial hI.s0)))
theorem pw_sipush {k : Int} {x : Int32} (hd : decode M.code pc = .ok (.sipush k, 3)) (hx : (Int16.ofInt k).toInt32 = x) (kk : PW G M R P Q (pc + 3) pl (.int x :: st) h nc ns) : PW G M R P Q pc pl st h nc ns := by
  intro p e s m args below meth c ad0 n C ad H locs ls hI
  exact lv_sipush C.1 C.2.1 hd hx (kk p e s m args below meth c ad0 n C ad H locs ls (hI.st (zos_c trivial hI.s0)))
theorem pw_lconst {k : Fin 2} {x : Int64} (hd : decode M.code pc = .ok (.lconst k, 1)) (hx : Int64.ofNat (k : Nat) = x) (kk : PW G M R P Q (pc + 1) pl (.long x :: st) h nc ns) : PW G M R P Q pc pl st h nc ns := by
  intro p e s m args below meth c ad0 n C ad H locs ls hI
  exact lv_lconst C.1 C.2.1 hd hx (kk p e s m args below meth c ad0 n C ad H locs ls (hI.st (zos_c trivial hI.s0)))
theorem pw_anull  (hd : decode M.code pc = .ok (.aconst_null, 1)) (kk : PW G M R P Q (pc + 1) pl (.null :: st) h nc ns) : PW G M R P Q pc pl st h nc ns := by
  intro p e s m args below meth c ad0 n C ad H locs ls hI
  exact lv_null C.1 C.2.1 hd (kk p e s m args below meth c ad0 n C ad H locs ls (hI.st (zos_c trivial hI.s0)))
theorem pw_iload_n {k : Fin 4} {i : Nat} {x : Int32} (hd : decode M.code pc = .ok (.iload_n k, 1)) (hk : (k : Nat) = i) (hx : pl[i]? = some (some (.int x))) (kk : PW G M R P Q (pc + 1) pl (.int x :: st) h nc ns) : PW G M R P Q pc pl st h nc ns := by
  intro p e s m args below meth c ad0 n C ad H locs ls hI
  exact lv_iload_n C.1 C.2.1 hd hk (hI.l hx) (kk p e s m args below meth c ad0 n C ad H locs ls (hI.st (zos_c trivial hI.s0)))
theorem pw_iload {i : Nat} {x : Int32} (hd : decode M.code pc = .ok (.iload i, 2)) (hx : pl[i]? = some (some (.int x))) (kk : PW G M R P Q (pc + 2) pl (.int x :: st) h nc ns) : PW G M R P Q pc pl st h nc ns := by
  intro p e s m args below meth c ad0 n C ad H locs ls hI
  exact lv_iload C.1 C.2.1 hd (hI.l hx) (kk p e s m args below meth c ad0 n C ad H locs ls (hI.st (zos_c trivial hI.s0)))
theorem pw_aload_n {k : Fin 4} {i x : Nat} (hd : decode M.code pc = .ok (.aload_n k, 1)) (hk : (k : Nat) = i) (hx : pl[i]? = some (some (.ref x))) (kk : PW G M R P Q (pc + 1) pl (.ref x :: st) h nc ns) : PW G M R P Q pc pl st h nc ns := by
  intro p e s m args below meth c ad0 n C ad H locs ls hI
  exact lv_aload_n C.1 C.2.1 hd hk (hI.l hx) (kk p e s m args below meth c ad0 n C ad H locs ls (hI.st (zos_c (hI.2.2.2.2.1 _ _ hx).1 hI.s0)))
theorem pw_aload {i x : Nat} (hd : decode M.code pc = .ok (.aload i, 2)) (hx : pl[i]? = some (some (.ref x))) (kk : PW G M R P Q (pc + 2) pl (.ref x :: st) h nc ns) : PW G M R P Q pc pl st h nc ns := by
  intro p e s m args below meth c ad0 n C ad H locs ls hI
  exact lv_aload C.1 C.2.1 hd (hI.l hx) (kk p e s m args below meth c ad0 n C ad H locs ls (hI.st (zos_c (hI.2.2.2.2.1 _ _ hx).1 hI.s0)))
theorem pw_istore_n {k : Fin 4} {i : Nat} {x : Int32} (hd : decode M.code pc = .ok (.istore_n k, 1)) (hk : (k : Nat) = i) (hi : i < M.maxL) (kk : PW G M R P Q (pc + 1) (pl.set i (some (.int x))) st h nc ns) : PW G M R P Q pc pl (.int x :: st) h nc ns := by
  intro p e s m args below meth c ad0 n C ad H locs ls hI
  exact lv_istore_n C.1 C.2.1 hd hk hI.2.2.2.2.2.2.lv hi rfl (fun ls' h' => kk p e s m args below meth c ad0 n C ad H locs ls' (hI.put (v := .int x) (zos_t hI.s0) (zos_h hI.s0) rfl h'))
theorem pw_istore {i : Nat} {x : Int32} (hd : decode M.code pc = .ok (.istore i, 2)) (hi : i < M.maxL) (kk : PW G M R P Q (pc + 2) (pl.set i (some (.int x))) st h nc ns) : PW G M R P Q pc pl (.int x :: st) h nc ns := by
  intro p e s m args below meth c ad0 n C ad H locs ls hI
  exact lv_istore C.1 C.2.1 hd hI.2.2.2.2.2.2.lv hi rfl (fun ls' h' => kk p e s m args below meth c ad0 n C ad H locs ls' (hI.put (v := .int x) (zos_t hI.s0) (zos_h hI.s0) rfl h'))
theorem pw_astore_n {k : Fin 4} {i x : Nat} (hd : decode M.code pc = .ok (.astore_n k, 1)) (hk : (k : Nat) = i) (hi : i < M.maxL) (kk : PW G M R P Q (pc + 1) (pl.set i (some (.ref x))) st h nc ns) : PW G M R P Q pc pl (.ref x :: st) h nc ns := by
  intro p e s m args below meth c ad0 n C ad H locs ls hI
  exact lv_astore_n C.1 C.2.1 hd hk hI.2.2.2.2.2.2.lv hi rfl (fun ls' h' => kk p e s m args below meth c ad0 n C ad H locs ls' (hI.put (v := .ref x) (zos_t hI.s0) (zos_h hI.s0) rfl h'))
theorem pw_astore {i x : Nat} (hd : decode M.code pc = .ok (.astore i, 2)) (hi : i < M.maxL) (kk : PW G M R P Q (pc + 2) (pl.set i (some (.ref x))) st h nc ns) : PW G M R P Q pc pl (.ref x :: st) h nc ns := by
  intro p e s m args below meth c ad0 n C ad H locs ls hI
  exact lv_astore C.1 C.2.1 hd hI.2.2.2.2.2.2.lv hi rfl (fun ls' h' => kk p e s m args below meth c ad0 n C ad H locs ls' (hI.put (v := .ref x) (zos_t hI.s0) (zos_h hI.s0) rfl h'))
theorem pw_iinc {i : Nat} {k : Int} {x y : Int32} (hd : decode M.code pc = .ok (.iinc i k, 3)) (hx : pl[i]? = some (some (.int x))) (hy : x + Int32.ofInt k = y) (hi : i < M.maxL) (kk : PW G M R P Q (pc + 3) (pl.set i (some (.int y))) st h nc ns) : PW G M R P Q pc pl st h nc ns := by
  intro p e s m args below meth c ad0 n C ad H locs ls hI
  obtain ⟨j, hj⟩ := List.getElem?_of_mem (zent_mem.mpr ⟨_, hx, rfl⟩ : (i, zv ad (.int x)) ∈ zent ad pl)
  exact lv_iinc C.1 C.2.1 hd hI.2.2.2.2.2.2.lv hj hy hi rfl (fun ls' h' => kk p e s m args below meth c ad0 n C ad H locs ls' (hI.put (v := .int y) hI.s0 trivial rfl h'))
theorem pw_iadd {x y : Int32} (hd : decode M.code pc = .ok (.iadd, 1)) (kk : PW G M R P Q (pc + 1) pl (.int (x + y) :: st) h nc ns) : PW G M R P Q pc pl (.int y :: .int x :: st) h nc ns := by
  intro p e s m args below meth c ad0 n C ad H locs ls hI
  exact lv_iadd C.1 C.2.1 hd (kk p e s m args below meth c ad0 n C ad H locs ls (hI.st (zos_c trivial (zos_t (zos_t hI.s0)))))
theorem pw_isub {x y : Int32} (hd : decode M.code pc = .ok (.isub, 1)) (kk : PW G M R P Q (pc + 1) pl (.int (x - y) :: st) h nc ns) : PW G M R P Q pc pl (.int y :: .int x :: st) h nc ns := by
  intro p e s m args below meth c ad0 n C ad H locs ls hI
  exact lv_isub C.1 C.2.1 hd (kk p e s m args below meth c ad0 n C ad H locs ls (hI.st (zos_c trivial (zos_t (zos_t hI.s0)))))
theorem pw_imul {x y : Int32} (hd : decode M.code pc = .ok (.imul, 1)) (kk : PW G M R P Q (pc + 1) pl (.int (x * y) :: st) h nc ns) : PW G M R P Q pc pl (.int y :: .int x :: st) h nc ns := by
  intro p e s m args below meth c ad0 n C ad H locs ls hI
  exact lv_imul C.1 C.2.1 hd (kk p e s m args below meth c ad0 n C ad H locs ls (hI.st (zos_c trivial (zos_t (zos_t hI.s0)))))
theorem pw_iand {x y : Int32} (hd : decode M.code pc = .ok (.iand, 1)) (kk : PW G M R P Q (pc + 1) pl (.int (x &&& y) :: st) h nc ns) : PW G M R P Q pc pl (.int y :: .int x :: st) h nc ns := by
  intro p e s m args below meth c ad0 n C ad H locs ls hI
  exact lv_iand C.1 C.2.1 hd (kk p e s m args below meth c ad0 n C ad H locs ls (hI.st (zos_c trivial (zos_t (zos_t hI.s0)))))
theorem pw_ior {x y : Int32} (hd : decode M.code pc = .ok (.ior, 1)) (kk : PW G M R P Q (pc + 1) pl (.int (x ||| y) :: st) h nc ns) : PW G M R P Q pc pl (.int y :: .int x :: st) h nc ns := by
  intro p e s m args below meth c ad0 n C ad H locs ls hI
  exact lv_ior C.1 C.2.1 hd (kk p e s m args below meth c ad0 n C ad H locs ls (hI.st (zos_c trivial (zos_t (zos_t hI.s0)))))
theorem pw_ixor {x y : Int32} (hd : decode M.code pc = .ok (.ixor, 1)) (kk : PW G M R P Q (pc + 1) pl (.int (x ^^^ y) :: st) h nc ns) : PW G M R P Q pc pl (.int y :: .int x :: st) h nc ns := by
  intro p e s m args below meth c ad0 n C ad H locs ls hI
  exact lv_ixor C.1 C.2.1 hd (kk p e s m args below meth c ad0 n C ad H locs ls (hI.st (zos_c trivial (zos_t (zos_t hI.s0)))))
theorem pw_ishl {x y : Int32} (hd : decode M.code pc = .ok (.ishl, 1)) (kk : PW G M R P Q (pc + 1) pl (.int (x <<< (y &&& 31)) :: st) h nc ns) : PW G M R P Q pc pl (.int y :: .int x :: st) h nc ns := by
  intro p e s m args below meth c ad0 n C ad H locs ls hI
  exact lv_ishl C.1 C.2.1 hd (kk p e s m args below meth c ad0 n C ad H locs ls (hI.st (zos_c trivial (zos_t (zos_t hI.s0)))))
theorem pw_ishr {x y : Int32} (hd : decode M.code pc = .ok (.ishr, 1)) (kk : PW G M R P Q (pc + 1) pl (.int (x >>> (y &&& 31)) :: st) h nc ns) : PW G M R P Q pc pl (.int y :: .int x :: st) h nc ns := by
  intro p e s m args below meth c ad0 n C ad H locs ls hI
  exact lv_ishr C.1 C.2.1 hd (kk p e s m args below meth c ad0 n C ad H locs ls (hI.st (zos_c trivial (zos_t (zos_t hI.s0)))))
theorem pw_idiv {x y : Int32} (hd : decode M.code pc = .ok (.idiv, 1)) (hne : ¬ y = 0) (kk : PW G M R P Q (pc + 1) pl (.int (x / y) :: st) h nc ns) : PW G M R P Q pc pl (.int y :: .int x :: st) h nc ns := by
  intro p e s m args below meth c ad0 n C ad H locs ls hI
  exact lv_idiv C.1 C.2.1 hd hne (kk p e s m args below meth c ad0 n C ad H locs ls (hI.st (zos_c trivial (zos_t (zos_t hI.s0)))))
theorem pw_irem {x y : Int32} (hd : decode M.code pc = .ok (.irem, 1)) (hne : ¬ y = 0) (kk : PW G M R P Q (pc + 1) pl (.int (x - x / y * y) :: st) h nc ns) : PW G M R P Q pc pl (.int y :: .int x :: st) h nc ns := by
  intro p e s m args below meth c ad0 n C ad H locs ls hI
  exact lv_irem C.1 C.2.1 hd hne (kk p e s m args below meth c ad0 n C ad H locs ls (hI.st (zos_c trivial (zos_t (zos_t hI.s0)))))
theorem pw_ineg {x : Int32} (hd : decode M.code pc = .ok (.ineg, 1)) (kk : PW G M R P Q (pc + 1) pl (.int (-x) :: st) h nc ns) : PW G M R P Q pc pl (.int x :: st) h nc ns := by
  intro p e s m args below meth c ad0 n C ad H locs ls hI
  exact lv_ineg C.1 C.2.1 hd (kk p e s m args below meth c ad0 n C ad H locs ls (hI.st (zos_c trivial (zos_t hI.s0))))
theorem pw_i2l {x : Int32} (hd : decode M.code pc = .ok (.i2l, 1)) (kk : PW G M R P Q (pc + 1) pl (.long x.toInt64 :: st) h nc ns) : PW G M R P Q pc pl (.int x :: st) h nc ns := by
  intro p e s m args below meth c ad0 n C ad H locs ls hI
  exact lv_i2l C.1 C.2.1 hd rfl (kk p e s m args below meth c ad0 n C ad H locs ls (hI.st (zos_c trivial (zos_t hI.s0))))
theorem pw_ladd {x y : Int64} (hd : decode M.code pc = .ok (.ladd, 1)) (kk : PW G M R P Q (pc + 1) pl (.long (x + y) :: st) h nc ns) : PW G M R P Q pc pl (.long y :: .long x :: st) h nc ns := by
  intro p e s m args below meth c ad0 n C ad H locs ls hI
  exact lv_ladd C.1 C.2.1 hd (kk p e s m args below meth c ad0 n C ad H locs ls (hI.st (zos_c trivial (zos_t (zos_t hI.s0)))))
theorem pw_lsub {x y : Int64} (hd : decode M.code pc = .ok (.lsub, 1)) (kk : PW G M R P Q (pc + 1) pl (.long (x - y) :: st) h nc ns) : PW G M R P Q pc pl (.long y :: .long x :: st) h nc ns := by
  intro p e s m args below meth c ad0 n C ad H locs ls hI
  exact lv_lsub C.1 C.2.1 hd (kk p e s m args below meth c ad0 n C ad H locs ls (hI.st (zos_c trivial (zos_t (zos_t hI.s0)))))
theorem pw_lmul {x y : Int64} (hd : decode M.code pc = .ok (.lmul, 1)) (kk : PW G M R P Q (pc + 1) pl (.long (x * y) :: st) h nc ns) : PW G M R P Q pc pl (.long y :: .long x :: st) h nc ns := by
  intro p e s m args below meth c ad0 n C ad H locs ls hI
  exact lv_lmul C.1 C.2.1 hd (kk p e s m args below meth c ad0 n C ad H locs ls (hI.st (zos_c trivial (zos_t (zos_t hI.s0)))))
theorem pw_ldiv {x y : Int64} (hd : decode M.code pc = .ok (.ldiv, 1)) (hne : ¬ y = 0) (kk : PW G M R P Q (pc + 1) pl (.long (x / y) :: st) h nc ns) : PW G M R P Q pc pl (.long y :: .long x :: st) h nc ns := by
  intro p e s m args below meth c ad0 n C ad H locs ls hI
  exact lv_ldiv C.1 C.2.1 hd hne (kk p e s m args below meth c ad0 n C ad H locs ls (hI.st (zos_c trivial (zos_t (zos_t hI.s0)))))
theorem pw_lrem {x y : Int64} (hd : decode M.code pc = .ok (.lrem, 1)) (hne : ¬ y = 0) (kk : PW G M R P Q (pc + 1) pl (.long (x - x / y * y) :: st) h nc ns) : PW G M R P Q pc pl (.long y :: .long x :: st) h nc ns := by
  intro p e s m args below meth c ad0 n C ad H locs ls hI
  exact lv_lrem C.1 C.2.1 hd hne (kk p e s m args below meth c ad0 n C ad H locs ls (hI.st (zos_c trivial (zos_t (zos_t hI.s0)))))
theorem pw_lneg {x : Int64} (hd : decode M.code pc = .ok (.lneg, 1)) (kk : PW G M R P Q (pc + 1) pl (.long (-x) :: st) h nc ns) : PW G M R P Q pc pl (.long x :: st) h nc ns := by
  intro p e s m args below meth c ad0 n C ad H locs ls hI
  exact lv_lneg C.1 C.2.1 hd (kk p e s m args below meth c ad0 n C ad H locs ls (hI.st (zos_c trivial (zos_t hI.s0))))
theorem pw_l2i {x : Int64} (hd : decode M.code pc = .ok (.l2i, 1)) (kk : PW G M R P Q (pc + 1) pl (.int x.toInt32 :: st) h nc ns) : PW G M R P Q pc pl (.long x :: st) h nc ns := by
  intro p e s m args below meth c ad0 n C ad H locs ls hI
  exact lv_l2i C.1 C.2.1 hd rfl (kk p e s m args below meth c ad0 n C ad H locs ls (hI.st (zos_c trivial (zos_t hI.s0))))
theorem pw_lcmp {x y : Int64} (hd : decode M.code pc = .ok (.lcmp, 1)) (kk : PW G M R P Q (pc + 1) pl (.int (lg_cmp x y) :: st) h nc ns) : PW G M R P Q pc pl (.long y :: .long x :: st) h nc ns := by
  intro p e s m args below meth c ad0 n C ad H locs ls hI
  exact W.lcmp C.1 C.2.1 hd (kk p e s m args below meth c ad0 n C ad H locs ls (hI.st (zos_c trivial (zos_t (zos_t hI.s0)))))
theorem pw_dup {v : Value} (hd : decode M.code pc = .ok (.dup, 1)) (hv : v.category = 1) (kk : PW G M R P Q (pc + 1) pl (v :: v :: st) h nc ns) : PW G M R P Q pc pl (v :: st) h nc ns := by
  intro p e s m args below meth c ad0 n C ad H locs ls hI
  exact lv_dup C.1 C.2.1 hd (by rw [zcat]; exact hv) (kk p e s m args below meth c ad0 n C ad H locs ls (hI.st (zos_c (zos_h hI.s0) hI.s0)))
theorem pw_pop {v : Value} (hd : decode M.code pc = .ok (.pop, 1)) (hv : v.category = 1) (kk : PW G M R P Q (pc + 1) pl st h nc ns) : PW G M R P Q pc pl (v :: st) h nc ns := by
  intro p e s m args below meth c ad0 n C ad H locs ls hI
  exact lv_pop C.1 C.2.1 hd (va := zv ad v) (by rw [zcat]; exact hv) (kk p e s m args below meth c ad0 n C ad H locs ls (hI.st (zos_t hI.s0)))
theorem pw_dup_x1 {v w : Value} (hd : decode M.code pc = .ok (.dup_x1, 1)) (hv : v.category = 1) (hw : w.category = 1) (kk : PW G M R P Q (pc + 1) pl (v :: w :: v :: st) h nc ns) : PW G M R P Q pc pl (v :: w :: st) h nc ns := by
  intro p e s m args below meth c ad0 n C ad H locs ls hI
  exact lv_dup_x1 C.1 C.2.1 hd (by rw [zcat]; exact hv) (by rw [zcat]; exact hw) (kk p e s m args below meth c ad0 n C ad H locs ls (hI.st (zos_c (zos_h hI.s0) (zos_c (zos_h (zos_t hI.s0)) (zos_c (zos_h hI.s0) (zos_t (zos_t hI.s0)))))))
theorem pw_dup_x2 {v w z : Value} (hd : decode M.code pc = .ok (.dup_x2, 1)) (hv : v.category = 1) (hw : w.category = 1) (hz : z.category = 1) (kk : PW G M R P Q (pc + 1) pl (v :: w :: z :: v :: st) h nc ns) : PW G M R P Q pc pl (v :: w :: z :: st) h nc ns := by
  intro p e s m args below meth c ad0 n C ad H locs ls hI
  exact lv_dup_x2 C.1 C.2.1 hd (by rw [zcat]; exact hv) (by rw [zcat]; exact hw) (by rw [zcat]; exact hz) (kk p e s m args below meth c ad0 n C ad H locs ls (hI.st (zos_c (zos_h hI.s0) (zos_c (zos_h (zos_t hI.s0)) (zos_c (zos_h (zos_t (zos_t hI.s0))) (zos_c (zos_h hI.s0) (zos_t (zos_t (zos_t hI.s0)))))))))
theorem pw_dup2 {v w : Value} (hd : decode M.code pc = .ok (.dup2, 1)) (hv : v.category = 1) (hw : w.category = 1) (kk : PW G M R P Q (pc + 1) pl (v :: w :: v :: w :: st) h nc ns) : PW G M R P Q pc pl (v :: w :: st) h nc ns := by
  intro p e s m args below meth c ad0 n C ad H locs ls hI
  exact lv_dup2_11 C.1 C.2.1 hd (by rw [zcat]; exact hv) (by rw [zcat]; exact hw) (kk p e s m args below meth c ad0 n C ad H locs ls (hI.st (zos_c (zos_h hI.s0) (zos_c (zos_h (zos_t hI.s0)) hI.s0))))
theorem pw_if_eq {x : Int32} {off : Int} (tgt : Nat) (hd : decode M.code pc = .ok (.ifCond .eq off, 3)) (ht : (pc : Int) + off = (tgt : Int)) (kt : x = 0 → PW G M R P Q tgt pl st h nc ns) (kf : ¬ (x = 0) → PW G M R P Q (pc + 3) pl st h nc ns) : PW G M R P Q pc pl (.int x :: st) h nc ns := by
  intro p e s m args below meth c ad0 n C ad H locs ls hI
  exact lv_if_eq C.1 C.2.1 hd ht (fun q => kt q p e s m args below meth c ad0 n C ad H locs ls (hI.st (zos_t hI.s0))) (fun q => kf q p e s m args below meth c ad0 n C ad H locs ls (hI.st (zos_t hI.s0)))
theorem pw_if_ne {x : Int32} {off : Int} (tgt : Nat) (hd : decode M.code pc = .ok (.ifCond .ne off, 3)) (ht : (pc : Int) + off = (tgt : Int)) (kt : ¬ x = 0 → PW G M R P Q tgt pl st h nc ns) (kf : x = 0 → PW G M R P Q (pc + 3) pl st h nc ns) : PW G M R P Q pc pl (.int x :: st) h nc ns := by
  intro p e s m args below meth c ad0 n C ad H locs ls hI
  exact lv_if_ne C.1 C.2.1 hd ht (fun q => kt q p e s m args below meth c ad0 n C ad H locs ls (hI.st (zos_t hI.s0))) (fun q => kf q p e s m args below meth c ad0 n C ad H locs ls (hI.st (zos_t hI.s0)))
theorem pw_if_lt {x : Int32} {off : Int} (tgt : Nat) (hd : decode M.code pc = .ok (.ifCond .lt off, 3)) (ht : (pc : Int) + off = (tgt : Int)) (kt : x < 0 → PW G M R P Q tgt pl st h nc ns) (kf : ¬ (x < 0) → PW G M R P Q (pc + 3) pl st h nc ns) : PW G M R P Q pc pl (.int x :: st) h nc ns := by
  intro p e s m args below meth c ad0 n C ad H locs ls hI
  exact lv_if_lt C.1 C.2.1 hd ht (fun q => kt q p e s m args below meth c ad0 n C ad H locs ls (hI.st (zos_t hI.s0))) (fun q => kf q p e s m args below meth c ad0 n C ad H locs ls (hI.st (zos_t hI.s0)))
theorem pw_if_ge {x : Int32} {off : Int} (tgt : Nat) (hd : decode M.code pc = .ok (.ifCond .ge off, 3)) (ht : (pc : Int) + off = (tgt : Int)) (kt : 0 ≤ x → PW G M R P Q tgt pl st h nc ns) (kf : ¬ (0 ≤ x) → PW G M R P Q (pc + 3) pl st h nc ns) : PW G M R P Q pc pl (.int x :: st) h nc ns := by
  intro p e s m args below meth c ad0 n C ad H locs ls hI
  exact lv_if_ge C.1 C.2.1 hd ht (fun q => kt q p e s m args below meth c ad0 n C ad H locs ls (hI.st (zos_t hI.s0))) (fun q => kf q p e s m args below meth c ad0 n C ad H locs ls (hI.st (zos_t hI.s0)))
theorem pw_if_gt {x : Int32} {off : Int} (tgt : Nat) (hd : decode M.code pc = .ok (.ifCond .gt off, 3)) (ht : (pc : Int) + off = (tgt : Int)) (kt : 0 < x → PW G M R P Q tgt pl st h nc ns) (kf : ¬ (0 < x) → PW G M R P Q (pc + 3) pl st h nc ns) : PW G M R P Q pc pl (.int x :: st) h nc ns := by
  intro p e s m args below meth c ad0 n C ad H locs ls hI
  exact lv_if_gt C.1 C.2.1 hd ht (fun q => kt q p e s m args below meth c ad0 n C ad H locs ls (hI.st (zos_t hI.s0))) (fun q => kf q p e s m args below meth c ad0 n C ad H locs ls (hI.st (zos_t hI.s0)))
theorem pw_if_le {x : Int32} {off : Int} (tgt : Nat) (hd : decode M.code pc = .ok (.ifCond .le off, 3)) (ht : (pc : Int) + off = (tgt : Int)) (kt : x ≤ 0 → PW G M R P Q tgt pl st h nc ns) (kf : ¬ (x ≤ 0) → PW G M R P Q (pc + 3) pl st h nc ns) : PW G M R P Q pc pl (.int x :: st) h nc ns := by
  intro p e s m args below meth c ad0 n C ad H locs ls hI
  exact lv_if_le C.1 C.2.1 hd ht (fun q => kt q p e s m args below meth c ad0 n C ad H locs ls (hI.st (zos_t hI.s0))) (fun q => kf q p e s m args below meth c ad0 n C ad H locs ls (hI.st (zos_t hI.s0)))
theorem pw_icmp_eq {x y : Int32} {off : Int} (tgt : Nat) (hd : decode M.code pc = .ok (.if_icmp .eq off, 3)) (ht : (pc : Int) + off = (tgt : Int)) (kt : x = y → PW G M R P Q tgt pl st h nc ns) (kf : ¬ (x = y) → PW G M R P Q (pc + 3) pl st h nc ns) : PW G M R P Q pc pl (.int y :: .int x :: st) h nc ns := by
  intro p e s m args below meth c ad0 n C ad H locs ls hI
  exact lv_icmp_eq C.1 C.2.1 hd ht (fun q => kt q p e s m args below meth c ad0 n C ad H locs ls (hI.st (zos_t (zos_t hI.s0)))) (fun q => kf q p e s m args below meth c ad0 n C ad H locs ls (hI.st (zos_t (zos_t hI.s0))))
theorem pw_icmp_ne {x y : Int32} {off : Int} (tgt : Nat) (hd : decode M.code pc = .ok (.if_icmp .ne off, 3)) (ht : (pc : Int) + off = (tgt : Int)) (kt : ¬ x = y → PW G M R P Q tgt pl st h nc ns) (kf : x = y → PW G M R P Q (pc + 3) pl st h nc ns) : PW G M R P Q pc pl (.int y :: .int x :: st) h nc ns := by
  intro p e s m args below meth c ad0 n C ad H locs ls hI
  exact lv_icmp_ne C.1 C.2.1 hd ht (fun q => kt q p e s m args below meth c ad0 n C ad H locs ls (hI.st (zos_t (zos_t hI.s0)))) (fun q => kf q p e s m args below meth c ad0 n C ad H locs ls (hI.st (zos_t (zos_t hI.s0))))
theorem pw_icmp_lt {x y : Int32} {off : Int} (tgt : Nat) (hd : decode M.code pc = .ok (.if_icmp .lt off, 3)) (ht : (pc : Int) + off = (tgt : Int)) (kt : x < y → PW G M R P Q tgt pl st h nc ns) (kf : ¬ (x < y) → PW G M R P Q (pc + 3) pl st h nc ns) : PW G M R P Q pc pl (.int y :: .int x :: st) h nc ns := by
  intro p e s m args below meth c ad0 n C ad H locs ls hI
  exact lv_icmp_lt C.1 C.2.1 hd ht (fun q => kt q p e s m args below meth c ad0 n C ad H locs ls (hI.st (zos_t (zos_t hI.s0)))) (fun q => kf q p e s m args below meth c ad0 n C ad H locs ls (hI.st (zos_t (zos_t hI.s0))))
theorem pw_icmp_ge {x y : Int32} {off : Int} (tgt : Nat) (hd : decode M.code pc = .ok (.if_icmp .ge off, 3)) (ht : (pc : Int) + off = (tgt : Int)) (kt : y ≤ x → PW G M R P Q tgt pl st h nc ns) (kf : ¬ (y ≤ x) → PW G M R P Q (pc + 3) pl st h nc ns) : PW G M R P Q pc pl (.int y :: .int x :: st) h nc ns := by
  intro p e s m args below meth c ad0 n C ad H locs ls hI
  exact lv_icmp_ge C.1 C.2.1 hd ht (fun q => kt q p e s m args below meth c ad0 n C ad H locs ls (hI.st (zos_t (zos_t hI.s0)))) (fun q => kf q p e s m args below meth c ad0 n C ad H locs ls (hI.st (zos_t (zos_t hI.s0))))
theorem pw_icmp_gt {x y : Int32} {off : Int} (tgt : Nat) (hd : decode M.code pc = .ok (.if_icmp .gt off, 3)) (ht : (pc : Int) + off = (tgt : Int)) (kt : y < x → PW G M R P Q tgt pl st h nc ns) (kf : ¬ (y < x) → PW G M R P Q (pc + 3) pl st h nc ns) : PW G M R P Q pc pl (.int y :: .int x :: st) h nc ns := by
  intro p e s m args below meth c ad0 n C ad H locs ls hI
  exact lv_icmp_gt C.1 C.2.1 hd ht (fun q => kt q p e s m args below meth c ad0 n C ad H locs ls (hI.st (zos_t (zos_t hI.s0)))) (fun q => kf q p e s m args below meth c ad0 n C ad H locs ls (hI.st (zos_t (zos_t hI.s0))))
theorem pw_icmp_le {x y : Int32} {off : Int} (tgt : Nat) (hd : decode M.code pc = .ok (.if_icmp .le off, 3)) (ht : (pc : Int) + off = (tgt : Int)) (kt : x ≤ y → PW G M R P Q tgt pl st h nc ns) (kf : ¬ (x ≤ y) → PW G M R P Q (pc + 3) pl st h nc ns) : PW G M R P Q pc pl (.int y :: .int x :: st) h nc ns := by
  intro p e s m args below meth c ad0 n C ad H locs ls hI
  exact lv_icmp_le C.1 C.2.1 hd ht (fun q => kt q p e s m args below meth c ad0 n C ad H locs ls (hI.st (zos_t (zos_t hI.s0)))) (fun q => kf q p e s m args below meth c ad0 n C ad H locs ls (hI.st (zos_t (zos_t hI.s0))))
theorem pw_goto {off : Int} (tgt : Nat) (hd : decode M.code pc = .ok (.goto off, 3)) (ht : (pc : Int) + off = (tgt : Int)) (kk : PW G M R P Q tgt pl st h nc ns) : PW G M R P Q pc pl st h nc ns := by
  intro p e s m args below meth c ad0 n C ad H locs ls hI
  exact lv_goto C.1 C.2.1 hd ht (kk p e s m args below meth c ad0 n C ad H locs ls hI)
end PWrows
end
section
/-- a field, as the method's class links it: class number ci, place j -/
def zFL (own : String) (idx ci j : Nat) : Prop := ∃ (C : String) (T : u_T) (N : Nat), zCl[ci]? = some (C, T, N) ∧ (∀ w ∈ u_ws C T N, w ∈ zT) ∧ j < N ∧ Cond.fieldLink own idx (T j).1 (T j).2.1 (T j).2.2.1 ∈ zT
/-- the same for writing: its type; final fields only in the constructor of their class -/
def zFP (nm : MethodName) (idx ci j : Nat) (ty : FieldType) : Prop := ∃ (C : String) (T : u_T) (N : Nat) (ty0 : Nat → FieldType), zCl[ci]? = some (C, T, N) ∧ (∀ w ∈ u_ws C T N, w ∈ zT) ∧ j < N ∧ (∀ k, k < N → parseFieldDescriptor (T k).2.2.1 = some (ty0 k)) ∧ (∀ a, a < N → ∀ b, b < N → a ≠ b → (T a).2.1 ≠ (T b).2.1) ∧ parseFieldDescriptor (T j).2.2.1 = some ty ∧
  Cond.fieldLink nm.cls idx (T j).1 (T j).2.1 (T j).2.2.1 ∈ zT ∧ ((T j).2.2.2 = false ∨ ((T j).2.2.2 = true ∧ nm.name = "<init>" ∧ (T j).1 = nm.cls))
theorem zX.exec {G : zG} {M : zM} {p : Program} {e : Env} {s : State} {m : MethodId} {args : Array Value} {meth : Method} {c : Code} (C : zX G M p e s m args meth c) : p.tables.exec = Jvm.exec := C.1
theorem zX.bytes {G : zG} {M : zM} {p : Program} {e : Env} {s : State} {m : MethodId} {args : Array Value} {meth : Method} {c : Code} (C : zX G M p e s m args meth c) : c.code = M.code := C.2.1
theorem zX.ret {G : zG} {M : zM} {p : Program} {e : Env} {s : State} {m : MethodId} {args : Array Value} {meth : Method} {c : Code} (C : zX G M p e s m args meth c) : meth.sig.returnType = M.ret := C.2.2.1
theorem zX.maxL {G : zG} {M : zM} {p : Program} {e : Env} {s : State} {m : MethodId} {args : Array Value} {meth : Method} {c : Code} (C : zX G M p e s m args meth c) : c.maxLocals = M.maxL := C.2.2.2.1
theorem zX.own {G : zG} {M : zM} {p : Program} {e : Env} {s : State} {m : MethodId} {args : Array Value} {meth : Method} {c : Code} (C : zX G M p e s m args meth c) : s.vm.findClass M.nm.cls = some m.cls := C.2.2.2.2.1
theorem zX.ts {G : zG} {M : zM} {p : Program} {e : Env} {s : State} {m : MethodId} {args : Array Value} {meth : Method} {c : Code} (C : zX G M p e s m args meth c) : ∀ w ∈ zT, w.before args s = true := C.2.2.2.2.2.1
theorem zX.locks {G : zG} {M : zM} {p : Program} {e : Env} {s : State} {m : MethodId} {args : Array Value} {meth : Method} {c : Code} (C : zX G M p e s m args meth c) : meth.locks = false := C.2.2.2.2.2.2.1
theorem zX.K {G : zG} {M : zM} {p : Program} {e : Env} {s : State} {m : MethodId} {args : Array Value} {meth : Method} {c : Code} (C : zX G M p e s m args meth c) : va_K G.D zCl G.tys s := C.2.2.2.2.2.2.2.1
theorem zX.n0 {G : zG} {M : zM} {p : Program} {e : Env} {s : State} {m : MethodId} {args : Array Value} {meth : Method} {c : Code} (C : zX G M p e s m args meth c) : G.n0 ≤ s.heap.size := C.2.2.2.2.2.2.2.2.1
theorem zX.name {G : zG} {M : zM} {p : Program} {e : Env} {s : State} {m : MethodId} {args : Array Value} {meth : Method} {c : Code} (C : zX G M p e s m args meth c) : meth.name = M.nm.name := C.2.2.2.2.2.2.2.2.2.1
theorem zX.tys {G : zG} {M : zM} {p : Program} {e : Env} {s : State} {m : MethodId} {args : Array Value} {meth : Method} {c : Code} (C : zX G M p e s m args meth c) : G.tys.map Prod.snd = zTys := C.2.2.2.2.2.2.2.2.2.2.2.1
theorem zX.Z {G : zG} {M : zM} {p : Program} {e : Env} {s : State} {m : MethodId} {args : Array Value} {meth : Method} {c : Code} (C : zX G M p e s m args meth c) : zZ G s := C.2.2.2.2.2.2.2.2.2.2.2
theorem zX.tab {G : zG} {M : zM} {p : Program} {e : Env} {s : State} {m : MethodId} {args : Array Value} {meth : Method} {c : Code} (C : zX G M p e s m args meth c) : c.exceptionTable.toList.map (fun h => (h.startPc, h.endPc, h.handlerPc, h.catchType)) = M.hs := C.2.2.2.2.2.2.2.2.2.2.1
theorem zTy {tys : List (ClassId × FieldType)} (h : tys.map Prod.snd = zTys) {t : Nat} {ty : FieldType} (ht : zTys[t]? = some ty) : tys[t]? = some ((tys.getD t (0, .int)).1, ty) := by
  rw [← h, List.getElem?_map, Option.map_eq_some_iff] at ht
  obtain ⟨q, h1, h2⟩ := ht
  rw [List.getD_eq_getElem?_getD, h1]
  simp only [Option.getD_some, ← h2]
theorem zI.set {G : zG} {M : zM} {P : Bool} {s : State} {ad0 : Nat → Nat} {n : Nat} {ad : Nat → Nat} {H H1 : Heap} {locs locs1 : List Loc} {ls : Array Slot} {pl : List (Option Value)} {st st' : List Value} {h : zH} (hI : zI G M P s ad0 n ad H locs ls pl st h) (k : Nat) (x : zE) (hx : zoc h.length x) (hs : zos h.length st')
    (hP : va_P G.D zCl ((zw ad G.tys h).set k (ad k, zc ad G.tys x)) H1) (hD : va_D G.A ((zw ad G.tys h).set k (ad k, zc ad G.tys x))) (hS : va_S (zF G P) s.heap H1 locs1) : zI G M P s ad0 n ad H1 locs1 ls pl st' (h.set k x) := by
  refine ⟨hI.1, by rw [List.length_set]; exact hI.2.1, ⟨by rw [zw_set]; exact hP, by rw [zw_set]; exact hD, zoh_set hI.2.2.1.2.2 hx⟩, hS, ?_, ?_, hI.2.2.2.2.2.2⟩
  · rw [List.length_set]; exact hI.2.2.2.2.1
  · rw [List.length_set]; exact hs
section PWheap
variable {G : zG} {M : zM} {R : Room} {P : Bool} {Q : zO → zH → Prop} {pc : Nat} {pl : List (Option Value)} {st : List Value} {h : zH} {nc ns : Nat}
theorem pw_get {k j ci idx : Nat} {fs : List Value} {v : Value} (hd : decode M.code pc = .ok (.getfield idx, 3)) (hf : zFL M.nm.cls idx ci j) (hh : h[k]? = some (.inr (ci, fs))) (hv : fs[j]? = some v) (kk : PW G M R P Q (pc + 3) pl (v :: st) h nc ns) : PW G M R P Q pc pl (.ref k :: st) h nc ns := by
  intro p e s m args below meth c ad0 n C ad H locs ls hI
  obtain ⟨Cn, T, N, hc, hin, hj, hl⟩ := hf
  have hv' : (fs.map (zv ad))[j]? = some (zv ad v) := by simp [hv]
  have hov : zov h.length v := (hI.2.2.1.2.2 _ _ hh : zoc _ _) v (List.mem_of_getElem? hv)
  have kk' := kk p e s m args below meth c ad0 n C ad H locs ls (hI.st (zos_c hov (zos_t hI.s0)))
  exact va_get C.exec C.bytes C.ts hin C.own C.K hI.2.2.1.1 k (zw_get hh) hc j hj (C.ts _ hl) (fun _ q => q) hv' hd kk'
theorem pw_put {k j ci idx : Nat} {fs : List Value} {v : Value} {ty : FieldType} (hP : P = false) (hd : decode M.code pc = .ok (.putfield idx, 3)) (hf : zFP M.nm idx ci j ty) (hh : h[k]? = some (.inr (ci, fs))) (hj : j < fs.length) (hv : ∀ ad, narrow ty (zv ad v) = zv ad v ∧ fits ty (zv ad v) = true) (kk : PW G M R P Q (pc + 3) pl st (h.set k (.inr (ci, fs.set j v))) nc ns) : PW G M R P Q pc pl (v :: .ref k :: st) h nc ns := by
  intro p e s m args below meth c ad0 n C ad H locs ls hI
  obtain ⟨Cn, T, N, ty0, hc, hin, hjN, hty, hnm, hty1, hl⟩ := hf
  have hlen : j < (fs.map (zv ad)).length := by simpa using hj
  have hx : zoc h.length (.inr (ci, fs.set j v)) := fun w hw => by
    rcases List.mem_or_eq_of_mem_set hw with h1 | h1
    · exact (hI.2.2.1.2.2 _ _ hh : zoc _ _) w h1
    · rw [h1]; exact zos_h hI.s0
  have kk' : ∀ (H1 : Heap) (locs1 : List Loc), va_P G.D zCl ((zw ad G.tys h).set k (ad k, .inr (ci, (fs.map (zv ad)).set j (zv ad v)))) H1 → va_D G.A ((zw ad G.tys h).set k (ad k, .inr (ci, (fs.map (zv ad)).set j (zv ad v)))) → va_S G.A s.heap H1 locs1 → W p G.l e R s m args below meth c H1 locs1 nc ns (zEnd G P below s R.cells R.slots (zQ G ad0 n Q)) (F0 m (pc + 3) ls (st.map (zv ad))) := by
    intro H1 locs1 hP' hD hS
    refine kk p e s m args below meth c ad0 n C ad H1 locs1 ls (hI.set k (.inr (ci, fs.set j v)) hx (zos_t (zos_t hI.s0)) ?_ ?_ (zS1 hP hS))
    · simp only [zc, List.map_set]; exact hP'
    · simp only [zc, List.map_set]; exact hD
  obtain ⟨hl, hf0 | ⟨hf1, hf2, hf3⟩⟩ := hl
  · exact va_put C.exec C.bytes C.ts hin ty0 hty hnm C.own C.K hI.2.2.1.1 hI.2.2.1.2.1 (zS0 hP hI.2.2.2.1) k (zw_get hh) hc j hjN (C.ts _ hl) (fun _ q => q) hf0 hty1 (hv ad).1 (hv ad).2 hlen hd kk'
  · exact va_putF C.exec C.bytes C.ts hin ty0 hty hnm C.own C.K hI.2.2.1.1 hI.2.2.1.2.1 (zS0 hP hI.2.2.2.1) k (zw_get hh) hc j hjN (C.ts _ hl) (fun _ q => q) hf1 (C.name.trans hf2) hf3 hty1 (hv ad).1 (hv ad).2 hlen hd kk'

theorem pw_iaload {k t len : Nat} {f : Nat → Int32} {i : Int32} (hd : decode M.code pc = .ok (.iaload, 1)) (hh : h[k]? = some (.inl (t, len, .inl f))) (ht : zTys[t]? = some .int) (hi : vp_in i len) (kk : PW G M R P Q (pc + 1) pl (.int (f i.toNatClampNeg) :: st) h nc ns) : PW G M R P Q pc pl (.int i :: .ref k :: st) h nc ns := by
  intro p e s m args below meth c ad0 n C ad H locs ls hI
  exact va_iald C.exec C.bytes C.K hI.2.2.1.1 k t (zw_get hh) (zTy C.tys ht) hi hd (kk p e s m args below meth c ad0 n C ad H locs ls (hI.st (zos_c trivial (zos_t (zos_t hI.s0)))))
theorem pw_zaload {k t len : Nat} {f : Nat → Int32} {i : Int32} (hd : decode M.code pc = .ok (.baload, 1)) (hh : h[k]? = some (.inl (t, len, .inl f))) (ht : zTys[t]? = some .boolean) (hi : vp_in i len) (kk : PW G M R P Q (pc + 1) pl (.int (f i.toNatClampNeg) :: st) h nc ns) : PW G M R P Q pc pl (.int i :: .ref k :: st) h nc ns := by
  intro p e s m args below meth c ad0 n C ad H locs ls hI
  exact va_zald C.exec C.bytes C.K hI.2.2.1.1 k t (zw_get hh) (zTy C.tys ht) hi hd (kk p e s m args below meth c ad0 n C ad H locs ls (hI.st (zos_c trivial (zos_t (zos_t hI.s0)))))
theorem pw_laload {k t len : Nat} {f : Nat → Int64} {i : Int32} (hd : decode M.code pc = .ok (.laload, 1)) (hh : h[k]? = some (.inl (t, len, .inr (.inl f)))) (ht : zTys[t]? = some .long) (hi : vp_in i len) (kk : PW G M R P Q (pc + 1) pl (.long (f i.toNatClampNeg) :: st) h nc ns) : PW G M R P Q pc pl (.int i :: .ref k :: st) h nc ns := by
  intro p e s m args below meth c ad0 n C ad H locs ls hI
  exact va_lald C.exec C.bytes C.K hI.2.2.1.1 k t (zw_get hh) (zTy C.tys ht) hi hd (kk p e s m args below meth c ad0 n C ad H locs ls (hI.st (zos_c trivial (zos_t (zos_t hI.s0)))))
theorem pw_aaload {k t len y : Nat} {Cn : String} {f : Nat → Option Nat} {i : Int32} (hd : decode M.code pc = .ok (.aaload, 1)) (hh : h[k]? = some (.inl (t, len, .inr (.inr (.inr (.inr f)))))) (ht : zTys[t]? = some (.object Cn)) (hi : vp_in i len) (hy : f i.toNatClampNeg = some y) (kk : PW G M R P Q (pc + 1) pl (.ref y :: st) h nc ns) : PW G M R P Q pc pl (.int i :: .ref k :: st) h nc ns := by
  intro p e s m args below meth c ad0 n C ad H locs ls hI
  have ho : y < h.length := (hI.2.2.1.2.2 _ _ hh : zoc _ _) _ _ hy
  have kk' := kk p e s m args below meth c ad0 n C ad H locs ls (hI.st (zos_c (show zov _ (.ref y) from ho) (zos_t (zos_t hI.s0))))
  refine va_aldq C.exec C.bytes C.K hI.2.2.1.1 k t (zw_get hh) (zTy C.tys ht) hi hd ?_
  show W _ _ _ _ _ _ _ _ _ _ _ _ _ _ _ (F0 m (pc + 1) ls (va_rf ((f i.toNatClampNeg).map ad) :: st.map (zv ad)))
  rw [hy]
  exact kk' 
theorem pw_iastore {k t len : Nat} {f : Nat → Int32} {i : Int32} {x : Int32} (hP : P = false) (hd : decode M.code pc = .ok (.iastore, 1)) (hh : h[k]? = some (.inl (t, len, .inl f))) (ht : zTys[t]? = some .int) (hi : vp_in i len) (kk : PW G M R P Q (pc + 1) pl st (h.set k (.inl (t, len, .inl (upd f i.toNatClampNeg x)))) nc ns) : PW G M R P Q pc pl (.int x :: .int i :: .ref k :: st) h nc ns := by
  intro p e s m args below meth c ad0 n C ad H locs ls hI
  exact va_iast C.exec C.bytes C.K hI.2.2.1.1 hI.2.2.1.2.1 (zS0 hP hI.2.2.2.1) k t (zw_get hh) (zTy C.tys ht) hi hd (fun H1 locs1 hP' hD hS => kk p e s m args below meth c ad0 n C ad H1 locs1 ls (hI.set k (.inl (t, len, .inl (upd f i.toNatClampNeg x))) trivial (zos_t (zos_t (zos_t hI.s0))) hP' hD (zS1 hP hS)))
theorem pw_lastore {k t len : Nat} {f : Nat → Int64} {i : Int32} {x : Int64} (hP : P = false) (hd : decode M.code pc = .ok (.lastore, 1)) (hh : h[k]? = some (.inl (t, len, .inr (.inl f)))) (ht : zTys[t]? = some .long) (hi : vp_in i len) (kk : PW G M R P Q (pc + 1) pl st (h.set k (.inl (t, len, .inr (.inl (vp_updL f i.toNatClampNeg x))))) nc ns) : PW G M R P Q pc pl (.long x :: .int i :: .ref k :: st) h nc ns := by
  intro p e s m args below meth c ad0 n C ad H locs ls hI
  exact va_last C.exec C.bytes C.K hI.2.2.1.1 hI.2.2.1.2.1 (zS0 hP hI.2.2.2.1) k t (zw_get hh) (zTy C.tys ht) hi hd (fun H1 locs1 hP' hD hS => kk p e s m args below meth c ad0 n C ad H1 locs1 ls (hI.set k (.inl (t, len, .inr (.inl (vp_updL f i.toNatClampNeg x)))) trivial (zos_t (zos_t (zos_t hI.s0))) hP' hD (zS1 hP hS)))
theorem pw_zastore {k t len : Nat} {f : Nat → Int32} {i : Int32} {x : Int32} (hP : P = false) (hd : decode M.code pc = .ok (.bastore, 1)) (hh : h[k]? = some (.inl (t, len, .inl f))) (ht : zTys[t]? = some .boolean) (hi : vp_in i len) (kk : PW G M R P Q (pc + 1) pl st (h.set k (.inl (t, len, .inl (upd f i.toNatClampNeg (vp_nar .boolean x))))) nc ns) : PW G M R P Q pc pl (.int x :: .int i :: .ref k :: st) h nc ns := by
  intro p e s m args below meth c ad0 n C ad H locs ls hI
  exact va_zast C.exec C.bytes C.K hI.2.2.1.1 hI.2.2.1.2.1 (zS0 hP hI.2.2.2.1) k t (zw_get hh) (zTy C.tys ht) hi hd (fun H1 locs1 hP' hD hS => kk p e s m args below meth c ad0 n C ad H1 locs1 ls (hI.set k (.inl (t, len, .inl (upd f i.toNatClampNeg (vp_nar .boolean x)))) trivial (zos_t (zos_t (zos_t hI.s0))) hP' hD (zS1 hP hS)))
theorem pw_aastore {k t len y ci : Nat} {r : vw_C} {vs : List Value} {f : Nat → Option Nat} {i : Int32} (hP : P = false) (hd : decode M.code pc = .ok (.aastore, 1)) (hh : h[k]? = some (.inl (t, len, .inr (.inr (.inr (.inr f)))))) (hy : h[y]? = some (.inr (ci, vs))) (hc : zCl[ci]? = some r) (ht : zTys[t]? = some (.object r.1)) (hi : vp_in i len) (kk : PW G M R P Q (pc + 1) pl st (h.set k (.inl (t, len, .inr (.inr (.inr (.inr (va_up f i.toNatClampNeg (some y)))))))) nc ns) : PW G M R P Q pc pl (.ref y :: .int i :: .ref k :: st) h nc ns := by
  intro p e s m args below meth c ad0 n C ad H locs ls hI
  have ho : zoc h.length (.inl (t, len, .inr (.inr (.inr (.inr (va_up f i.toNatClampNeg (some y))))))) := by
    intro j q hq
    unfold va_up at hq
    by_cases hj : j = i.toNatClampNeg
    · rw [if_pos hj] at hq; cases hq; exact zos_h hI.s0
    · rw [if_neg hj] at hq; exact (hI.2.2.1.2.2 _ _ hh : zoc _ _) _ _ hq
  have e1 : zc ad G.tys (.inl (t, len, .inr (.inr (.inr (.inr (va_up f i.toNatClampNeg (some y))))))) = .inl ((G.tys.getD t (0, .int)).1, len, .inr (.inr (.inr (.inr (va_up (fun j => (f j).map ad) i.toNatClampNeg (some (ad y))))))) := by
    simp only [zc, zk]
    congr 7
    funext j
    unfold va_up
    by_cases hj : j = i.toNatClampNeg <;> simp [hj]
  refine va_astq C.exec C.bytes C.K hI.2.2.1.1 hI.2.2.1.2.1 (zS0 hP hI.2.2.2.1) k t y ci (zw_get hh) (zTy C.tys ht) (zw_get hy) hc hi hd (fun H1 locs1 hP' hD hS => kk p e s m args below meth c ad0 n C ad H1 locs1 ls (hI.set k _ ho (zos_t (zos_t (zos_t hI.s0))) ?_ ?_ (zS1 hP hS)))
  · rw [e1]; exact hP'
  · rw [e1]; exact hD
theorem pw_alen {k t : Nat} {a : vp_A} {ty : FieldType} (hd : decode M.code pc = .ok (.arraylength, 1)) (hh : h[k]? = some (.inl (t, a))) (ht : zTys[t]? = some ty) (kk : PW G M R P Q (pc + 1) pl (.int (Int32.ofNat a.1) :: st) h nc ns) : PW G M R P Q pc pl (.ref k :: st) h nc ns := by
  intro p e s m args below meth c ad0 n C ad H locs ls hI
  exact va_alen C.exec C.bytes C.K hI.2.2.1.1 k t (zw_get hh) (zTy C.tys ht) rfl hd (kk p e s m args below meth c ad0 n C ad H locs ls (hI.st (zos_c trivial (zos_t hI.s0))))
/-- the end of a method that returns -/
theorem zend_ret {G : zG} {P : Bool} {below : List Frame} {s : State} {args : Array Value} {mc ms : Nat} {K : Outcome → Heap → Prop} {t : State} (h : MQ below (fun _ s o t => K o t.heap ∧ va_F (zF G P) s t) args s mc ms (zF G P) t) : zEnd G P below s mc ms K t := by
  obtain ⟨o, h1, h2, ⟨h3, h4⟩, L, ⟨h5, h6, h7⟩, h8⟩ := h
  exact ⟨o, h1, h2, h3, h4, h6, L, h7, h8⟩
theorem zW_mono {p : Program} {l : Launch} {e : Env} {R : Room} {s : State} {m : MethodId} {args : Array Value} {below : List Frame} {meth : Method} {c : Code} {H : Heap} {locs : List Loc} {cells slots : Nat} {Q Q' : State → Prop} {g : JFrame} (h : ∀ t, Q t → Q' t) (w : W p l e R s m args below meth c H locs cells slots Q g) : W p l e R s m args below meth c H locs cells slots Q' g := fun T hT X => by
  obtain ⟨t, a, b⟩ := w T hT X
  exact ⟨t, a, h t b⟩
theorem zI.q {G : zG} {M : zM} {P : Bool} {s : State} {ad0 : Nat → Nat} {n : Nat} {ad : Nat → Nat} {H : Heap} {locs : List Loc} {ls : Array Slot} {pl : List (Option Value)} {st : List Value} {h : zH} {Q : zO → zH → Prop} (hI : zI G M P s ad0 n ad H locs ls pl st h) {r : zO} (hr : zor h.length r) (hq : Q r h) {t : State} (ht : t.heap = H) : zQ G ad0 n Q (zo ad r) t.heap ∧ va_F (zF G P) s t :=
  ⟨⟨r, h, ad, hq, hI.1, hI.2.1, by rw [ht]; exact hI.2.2.1, hr, rfl⟩, hI.2.2.2.1.F ht⟩
theorem pw_ireturn {x : Int32} (hd : decode M.code pc = .ok (.ireturn, 1)) (hr : M.ret = some .int) (hc : nc ≤ R.cells) (hs : ns ≤ R.slots) (hq : Q (.inl (some (.int x))) h) : PW G M R P Q pc pl [.int x] h nc ns := by
  intro p e s m args below meth c ad0 n C ad H locs ls hI
  refine W.widen hc hs (zW_mono (fun t => zend_ret (args := args)) ?_)
  exact W.iret C.exec C.bytes (by rw [C.ret]; exact hr) (fun t ht hW => hI.q (r := .inl (some (.int x))) (by rintro w ⟨⟩; trivial) hq ht) hI.2.2.2.1.2.2 hd C.locks
theorem pw_zreturn {x : Int32} (hd : decode M.code pc = .ok (.ireturn, 1)) (hr : M.ret = some .boolean) (hx : x = 0 ∨ x = 1) (hc : nc ≤ R.cells) (hs : ns ≤ R.slots) (hq : Q (.inl (some (.int x))) h) : PW G M R P Q pc pl [.int x] h nc ns := by
  intro p e s m args below meth c ad0 n C ad H locs ls hI
  refine W.widen hc hs (zW_mono (fun t => zend_ret (args := args)) ?_)
  exact W.zret C.exec C.bytes (by rw [C.ret]; exact hr) (by rcases hx with rfl | rfl <;> rfl) (fun t ht hW => hI.q (r := .inl (some (.int x))) (by rintro w ⟨⟩; trivial) hq ht) hI.2.2.2.1.2.2 hd C.locks
theorem pw_return  (hd : decode M.code pc = .ok (.return_, 1)) (hr : M.ret = none) (hc : nc ≤ R.cells) (hs : ns ≤ R.slots) (hq : Q (.inl none) h) : PW G M R P Q pc pl [] h nc ns := by
  intro p e s m args below meth c ad0 n C ad H locs ls hI
  refine W.widen hc hs (zW_mono (fun t => zend_ret (args := args)) ?_)
  exact W.vret C.exec C.bytes (by rw [C.ret]; exact hr) (fun t ht hW => hI.q (r := .inl none) (by rintro w ⟨⟩) hq ht) hI.2.2.2.1.2.2 hd C.locks
end PWheap
end
section
def zNW (own : String) (idx ci N : Nat) (fs : List Value) : Prop := ∃ (Cn : String) (T : u_T) (ty : Nat → FieldType), zCl[ci]? = some (Cn, T, N) ∧ (∀ w ∈ u_ws Cn T N, w ∈ zT) ∧ (∀ k, k < N → parseFieldDescriptor (T k).2.2.1 = some (ty k)) ∧ Cond.classLink own idx Cn ∈ zT ∧ Cond.instantiable Cn N ∈ zT ∧ Cond.initialized Cn ∈ zT ∧ (∀ j, j < N → defaultValue (ty j) = vp_V fs j) ∧ ∀ v ∈ fs, ∀ n, zov n v ∧ ∀ ad, zv ad v = v
theorem zI.new {G : zG} {M : zM} {P : Bool} {s : State} {ad0 : Nat → Nat} {n : Nat} {ad : Nat → Nat} {H H1 : Heap} {locs locs1 : List Loc} {ls : Array Slot} {pl : List (Option Value)} {st : List Value} {h : zH} (hI : zI G M P s ad0 n ad H locs ls pl st h) (x : zE) (q : Nat) (y : va_E) (hx : zoc h.length x) (hy : ∀ ad', zc ad' G.tys x = y)
    (hP : va_P G.D zCl (zw ad G.tys h ++ [(q, y)]) H1) (hD : va_D G.A (zw ad G.tys h ++ [(q, y)])) (hS : va_S (zF G P) s.heap H1 locs1) :
    zI G M P s ad0 n (va_up ad h.length q) H1 locs1 ls pl (.ref h.length :: st) (h ++ [x]) ∧ (Value.ref h.length :: st).map (zv (va_up ad h.length q)) = .ref q :: st.map (zv ad) := by
  have hup : ∀ k, k < h.length → va_up ad h.length q k = ad k := fun k hk => by unfold va_up; rw [if_neg (Nat.ne_of_lt hk)]
  have hself : va_up ad h.length q h.length = q := by unfold va_up; rw [if_pos rfl]
  have hlen : (h ++ [x]).length = h.length + 1 := by simp
  refine ⟨⟨fun k hk => (hup k (Nat.lt_of_lt_of_le hk hI.2.1)).trans (hI.1 k hk), by rw [hlen]; exact Nat.le_succ_of_le hI.2.1, ⟨?_, ?_, zoh_push hI.2.2.1.2.2 (zoc_mono (Nat.le_succ _) hx)⟩, hS, ?_, ?_, ?_⟩, ?_⟩
  · rw [zw_push hI.2.2.1.2.2 hup, hself, hy]; exact hP
  · rw [zw_push hI.2.2.1.2.2 hup, hself, hy]; exact hD
  · rw [hlen]; exact fun i v hi => ⟨zov_mono (Nat.le_succ _) (hI.2.2.2.2.1 i v hi).1, (hI.2.2.2.2.1 i v hi).2⟩
  · rw [hlen]; exact zos_c (Nat.lt_succ_self _) (fun v hv => zov_mono (Nat.le_succ _) (hI.s0 v hv))
  · exact zhas_cong hup hI.2.2.2.2.1 hI.2.2.2.2.2.2
  · rw [List.map_cons, zst_cong hup hI.s0]; simp only [zv, hself]
section PWnew
variable {G : zG} {M : zM} {R : Room} {P : Bool} {Q : zO → zH → Prop} {pc : Nat} {pl : List (Option Value)} {st : List Value} {h : zH} {nc ns : Nat}
theorem zX.A {G : zG} {M : zM} {p : Program} {e : Env} {s : State} {m : MethodId} {args : Array Value} {meth : Method} {c : Code} (C : zX G M p e s m args meth c) : ∀ q, s.heap.size ≤ q → G.A q := fun _ hq => Nat.le_trans C.n0 hq
theorem pw_new {idx ci N : Nat} {fs : List Value} (hP : P = false) (hd : decode M.code pc = .ok (.new idx, 3)) (hn : zNW M.nm.cls idx ci N fs) (hc : nc + 1 ≤ R.cells) (hs : ns + N ≤ R.slots) (kk : PW G M R P Q (pc + 3) pl (.ref h.length :: st) (h ++ [.inr (ci, fs)]) (nc + 1) (ns + N)) : PW G M R P Q pc pl st h nc ns := by
  intro p e s m args below meth c ad0 n C ad H locs ls hI
  obtain ⟨Cn, T, ty, h1, h2, h3, h4, h5, h6, h7, h8⟩ := hn
  refine va_new C.exec C.bytes C.ts h2 ty h3 C.own (C.ts _ h4) (C.ts _ h5) (C.ts _ h6) C.K hI.2.2.1.1 hI.2.2.1.2.1 (zS0 hP hI.2.2.2.1) C.A h1 h7 hc hs hd (fun q H1 hP' hD hS => ?_)
  obtain ⟨hI', e1⟩ := hI.new (.inr (ci, fs)) q (.inr (ci, fs)) (fun v hv => (h8 v hv _).1) (fun ad' => by
    simp only [zc]
    rw [show fs.map (zv ad') = fs from (List.map_congr_left (g := id) fun v hv => (h8 v hv 0).2 ad').trans (List.map_id fs)]) hP' hD (zS1 hP hS)
  have := kk p e s m args below meth c ad0 n C _ H1 locs ls hI'
  rw [e1] at this
  exact this
theorem zprim {G : zG} {s : State} (hT : G.tys.map Prod.snd = zTys) (hK : va_K G.D zCl G.tys s) {t : Nat} {ty : FieldType} (ht : zTys[t]? = some ty) (hp : ∀ cA, va_RA s cA ty → s.vm.findClass ("[" ++ ty.toString) = some cA) {cA : ClassId} (hK' : va_K G.D zCl (G.tys ++ [(cA, ty)]) s) : cA = (G.tys.getD t (0, .int)).1 := by
  have h1 := hp _ (hK.2 t _ (zTy hT ht)).2
  have h2 := hp _ (hK'.2 G.tys.length (cA, ty) (by simp)).2
  exact Option.some.inj (h2.symm.trans h1)
theorem pw_newarray {atype : ArrayType} {ty : FieldType} {t N : Nat} {ct : (Nat → Int32) ⊕ (Nat → Int64) ⊕ (Nat → UInt32) ⊕ (Nat → UInt64) ⊕ (Nat → Option Nat)} {x : Int32} (hP : P = false) (hd : decode M.code pc = .ok (.newarray atype, 2)) (hty : newarray.typeOf atype = ty) (ht : zTys[t]? = some ty) (hw : Cond.arrayClass ty ∈ zT) (hp : ∀ (s : State) cA, va_RA s cA ty → s.vm.findClass ("[" ++ ty.toString) = some cA) (hx : ¬ x < 0) (hN : x.toNatClampNeg = N) (hb : N * componentBytes ty ≤ 536870912) (ha : ∀ cA : ClassId, vp_cell cA (N, ct) = arrV cA N (fun _ => defaultValue ty)) (hk : ∀ n, zok n (N, ct)) (hk2 : ∀ ad, zk ad (N, ct) = (N, ct)) (hc : nc + 1 ≤ R.cells) (hs : ns + N ≤ R.slots)
    (kk : PW G M R P Q (pc + 2) pl (.ref h.length :: st) (h ++ [.inl (t, N, ct)]) (nc + 1) (ns + N)) : PW G M R P Q pc pl (.int x :: st) h nc ns := by
  intro p e s m args below meth c ad0 n C ad H locs ls hI
  refine va_newa C.exec C.bytes (atype := atype) (by rw [hty]; exact C.ts _ hw) hty C.K hI.2.2.1.1 hI.2.2.1.2.1 (zS0 hP hI.2.2.2.1) C.A ha hx hN hb hc hs hd (fun q cA H1 hK' hP' hD hS => ?_)
  have e0 : cA = (G.tys.getD t (0, .int)).1 := zprim C.tys C.K ht (hp s) hK'
  obtain ⟨hI', e1⟩ := (hI.st (zos_t hI.s0)).new (.inl (t, N, ct)) q (.inl (cA, N, ct)) (hk _) (fun ad' => by simp only [zc]; rw [hk2, ← e0]) hP' hD (zS1 hP hS)
  have := kk p e s m args below meth c ad0 n C _ H1 locs ls hI'
  rw [e1] at this
  exact this
theorem pw_anewarray {idx t N : Nat} {Cn : String} {x : Int32} (hP : P = false) (hd : decode M.code pc = .ok (.anewarray idx, 3)) (ht : zTys[t]? = some (.object Cn)) (hl : Cond.classLink M.nm.cls idx Cn ∈ zT) (hw : ∀ s, zZ G s → va_AO Cn s) (hx : ¬ x < 0) (hN : x.toNatClampNeg = N) (hb : N * 4 ≤ 536870912) (hc : nc + 1 ≤ R.cells) (hs : ns + N ≤ R.slots)
    (kk : PW G M R P Q (pc + 3) pl (.ref h.length :: st) (h ++ [.inl (t, N, .inr (.inr (.inr (.inr (fun _ => none)))))]) (nc + 1) (ns + N)) : PW G M R P Q pc pl (.int x :: st) h nc ns := by
  intro p e s m args below meth c ad0 n C ad H locs ls hI
  refine va_newq C.exec C.bytes C.own (C.ts _ hl) (hw s C.Z) C.K hI.2.2.1.1 hI.2.2.1.2.1 (zS0 hP hI.2.2.2.1) C.A hx hN hb hc hs hd (fun q cA H1 hK' hP' hD hS => ?_)
  have e0 : cA = (G.tys.getD t (0, .int)).1 := zprim C.tys C.K ht (fun cA h => h.choose_spec.choose_spec.2.2.2) hK'
  obtain ⟨hI', e1⟩ := (hI.st (zos_t hI.s0)).new (.inl (t, N, .inr (.inr (.inr (.inr (fun _ => none)))))) q (.inl (cA, N, .inr (.inr (.inr (.inr (fun _ => none)))))) (fun j k h => by cases h) (fun ad' => by simp only [zc, zk, Option.map_none]; rw [← e0]) hP' hD (zS1 hP hS)
  have := kk p e s m args below meth c ad0 n C _ H1 locs ls hI'
  rw [e1] at this
  exact this
end PWnew
end
section
theorem zT_good : ∀ w ∈ zT, w ∈ zT ∧ ((w.onTables && w.keeps) = true ∨ ∃ ty, w = .arrayClass ty) := fun w hw => ⟨hw, good_of_word (List.mem_filter.mp hw).2⟩
theorem zNw_warm {s U : State} (hW : s.WarmedH U.vm) (h : ∀ w ∈ zNw, va_Nw w s) : ∀ w ∈ zNw, va_Nw w U := by
  intro w hw
  have h1 := h w hw
  have h2 := (List.mem_filter.mp hw).2
  cases w <;> first | exact va_Nw.warmM hW h1 | exact va_Nw.warmD hW h1 | exact va_Nw.warmC hW h1 | (simp [zisN] at h2)
theorem zSV.moved {G : zG} {nm ds : String} {u U : State} (hvm : u.vm.Alike U.vm) (hq : ∀ a : Nat, a < u.heap.size → ¬ G.A a → U.heap[a]? = u.heap[a]?) (h : zSV G nm ds u) : zSV G nm ds U := by
  obtain ⟨c, i, a, k, f, cell, v, h1, h2, h3, h4, h5, h6, h7, h8, h9, h10, h11, h12⟩ := h
  obtain ⟨k', hi', he⟩ := State.fieldFound?_setVm hvm h2
  exact ⟨c, i, a, k', f, cell, v, by rw [hvm.findClass]; exact h1, hi', h3, by rw [he]; exact h4, by rw [hq a (Array.getElem?_eq_some_iff.mp h5).1 h12]; exact h5, h6, h7, h8, by rw [he]; exact h9, h10, h11, h12⟩
theorem zZ.warm {G : zG} {s U : State} (hW : s.WarmedH U.vm) (hq : ∀ a : Nat, a < s.heap.size → ¬ G.A a → U.heap[a]? = s.heap[a]?) (h : zZ G s) : zZ G U :=
  ⟨h.1, h.2.1, h.2.2.1.moved hW.alike hq, h.2.2.2.1.moved hW.alike hq, zNw_warm hW h.2.2.2.2.1, h.2.2.2.2.2.1.moved hW.alike, h.2.2.2.2.2.2.1.moved hW.alike, fun q hq => by obtain ⟨a, ha⟩ := h.2.2.2.2.2.2.2.1 q hq; exact ⟨a, ha.warm hW⟩, h.2.2.2.2.2.2.2.2.moved hW.alike⟩
/-- a method's start -/
def zPc (G : zG) (ad : Nat → Nat) (h : zH) (A : List Value) : Array Value → State → Prop := va_Pc (A.map (zv ad)) (fun U => zR G ad h U.heap ∧ va_K G.D zCl G.tys U ∧ G.n0 ≤ U.heap.size ∧ zZ G U)
def zQc (G : zG) (P : Bool) (ad : Nat → Nat) (h : zH) (Q : zO → zH → Prop) : Array Value → State → Outcome → State → Prop := fun _ st o t => zQ G ad h.length Q o t.heap ∧ va_F (zF G P) st t
def zentry (n : Nat) (A : List Value) : List (Option Value) := A.map some ++ List.replicate (n - A.length) none
theorem zargs {vs : List Value} (hc : ∀ v ∈ vs, v.category = 1) (j i : Nat) (v : Value) (hv : vs[i]? = some v) : (j + i, v) ∈ lv_args j vs := by
  induction vs generalizing i j with
  | nil => simp at hv
  | cons w t ih =>
    have h1 : w.category = 1 := hc w List.mem_cons_self
    simp only [lv_args, h1]
    cases i with
    | zero => simp at hv; subst hv; simp
    | succ i =>
      refine List.mem_cons_of_mem _ ?_
      have := ih (fun v h => hc v (List.mem_cons_of_mem _ h)) (j + 1) i (by simpa using hv)
      simpa [Nat.add_assoc, Nat.add_comm 1 i] using this
theorem zsl {vs : List Value} (hc : ∀ v ∈ vs, v.category = 1) : (lg_sl vs).length = vs.length := by
  induction vs with
  | nil => rfl
  | cons w t ih =>
    have h1 : w.category = 1 := hc w List.mem_cons_self
    have h2 := ih (fun v h => hc v (List.mem_cons_of_mem _ h))
    simp only [lg_sl, List.flatMap_cons, h1] at h2 ⊢
    simp [h2]
theorem zentry_get {n i : Nat} {A : List Value} {v : Value} (h : (zentry n A)[i]? = some (some v)) : A[i]? = some v := by
  unfold zentry at h
  by_cases hi : i < A.length
  · rw [List.getElem?_append_left (by simpa using hi)] at h
    simpa using h
  · rw [List.getElem?_append_right (by simpa using Nat.le_of_not_lt hi)] at h
    have := List.mem_of_getElem? h
    simp at this
theorem zentry_has {ad : Nat → Nat} {A : List Value} {n : Nat} (hc : ∀ v ∈ A, v.category = 1) (hn : A.length ≤ n) : zhas ad (zentry n A) n ((lg_sl (A.map (zv ad)) ++ List.replicate (n - (lg_sl (A.map (zv ad))).length) Slot.unset).toArray) := by
  have hc' : ∀ v ∈ A.map (zv ad), v.category = 1 := fun v hv => by
    obtain ⟨w, hw, rfl⟩ := List.mem_map.mp hv
    rw [zcat]; exact hc w hw
  have hl := lv_entry (A.map (zv ad)) (n := n) (by rw [zsl hc']; simpa using hn)
  refine ⟨hl.1, hl.2.1, fun i v hi => ?_⟩
  have hA := zentry_get hi
  have := zargs hc' 0 i (zv ad v) (by simp [hA])
  rw [Nat.zero_add] at this
  exact hl.2.2 _ this
/-- the contract, as the kit has it, of a method that returns -/
theorem zmet {G : zG} {M : zM} {R : Room} {P : Bool} {Q : zO → zH → Prop} {A : List Value} {h : zH} (hhs : M.hs = []) (hpl : plainName M.nm.cls = true) (hc : ∀ v ∈ A, v.category = 1) (hn : A.length ≤ M.maxL) (hP : PW G M R P Q 0 (zentry M.maxL A) [] h 0 0) (hret : ∀ r h', Q r h' → ∃ v, r = .inl v) (ad : Nat → Nat) (ho : zos h.length A) :
    Met G.l M.nm (Cond.code M.nm M.code M.maxL M.ret :: zT) R (zPc G ad h A) (zQc G P ad h Q) R.cells R.slots (zF G P) := by
  refine Met.ofW (cc := M.code) (maxL := M.maxL) (ret := M.ret) hpl rfl ?_
  intro p e s m args below meth c s₁ B hml hv
  obtain ⟨rfl, hR, hK, hn0, hZ⟩ := hv
  have hts := atoms_spec (ws := Cond.code M.nm M.code M.maxL M.ret :: zT) B.pre
  have htab : c.exceptionTable.toList.map (fun h => (h.startPc, h.endPc, h.handlerPc, h.catchType)) = M.hs := by
    obtain ⟨meth', c', q1, q2, -, -, -, -, q7, -⟩ := Cond.code_spec B.named (hts _ List.mem_cons_self)
    cases B.method.symm.trans q1
    have hc : meth.code = some c := (Stand.of_body B).code
    cases hc.symm.trans q2
    rw [hhs, Array.isEmpty_iff.mp q7]; rfl
  have C : zX G M p e s m (A.map (zv ad)).toArray meth c := ⟨B.exec, B.bytes, B.returns, hml, findClass_of_methodNamed B.named, fun w hw => hts w (List.mem_cons_of_mem _ hw), B.notSynchronized, hK, hn0, (name_of_methodNamed B.named B.method).1, htab, hZ⟩
  rw [lg_entry_eq]
  refine zW_mono (fun t ht => ?_) (hP p e s m _ below meth c ad h.length C ad s.heap [] _ ⟨fun _ _ => rfl, Nat.le_refl _, hR, va_S.rf, fun i v hi => ⟨ho v (List.mem_of_getElem? (zentry_get hi)), hc v (List.mem_of_getElem? (zentry_get hi))⟩, zos_nil, zentry_has hc hn⟩)
  obtain ⟨o, h1, h2, h3, h4, h5, L, h6, h7⟩ := ht
  refine ⟨o, h1, h2, ⟨h3, h4⟩, L, ⟨?_, h5, h6⟩, h7⟩
  obtain ⟨r, h', ad', hq, -, -, -, -, rfl⟩ := h3
  obtain ⟨v, rfl⟩ := hret r h' hq
  exact ⟨_, rfl⟩
theorem zPc_blind {G : zG} {ad : Nat → Nat} {h : zH} {A : List Value} : FrameBlind (zPc G ad h A) := by
  intro a U g mk q
  obtain ⟨q0, q1, q2, q3, q4⟩ := q
  exact ⟨q0, q1, va_K.moved (u := U) (U := U.calling g mk a) (Vm.Alike.refl U.vm) q2, q3, q4.1, q4.2.1, q4.2.2.1.moved (U := U.calling g mk a) (Vm.Alike.refl U.vm) (fun _ _ _ => rfl), q4.2.2.2.1.moved (U := U.calling g mk a) (Vm.Alike.refl U.vm) (fun _ _ _ => rfl), fun w hw => va_Nw.same (u := U) (U := U.calling g mk a) (by
    have h2 := (List.mem_filter.mp hw).2
    cases w <;> first | rfl | (simp [zisN] at h2)) rfl (q4.2.2.2.2.1 w hw), q4.2.2.2.2.2.1.moved (Vm.Alike.refl U.vm), q4.2.2.2.2.2.2.1.moved (Vm.Alike.refl U.vm), fun q hq => by obtain ⟨x, hx⟩ := q4.2.2.2.2.2.2.2.1 q hq; exact ⟨x, hx.same rfl⟩, q4.2.2.2.2.2.2.2.2.moved (U := U.calling g mk a) (Vm.Alike.refl U.vm)⟩
/-- the start holds at a call -/
theorem zPc_at {G : zG} {M : zM} {p : Program} {e : Env} {s : State} {m : MethodId} {args : Array Value} {meth : Method} {c : Code} {P : Bool} {ad0 : Nat → Nat} {n : Nat} {ad : Nat → Nat} {H : Heap} {locs : List Loc} {ls : Array Slot} {pl : List (Option Value)} {st : List Value} {h : zH} (C : zX G M p e s m args meth c) (hI : zI G M P s ad0 n ad H locs ls pl st h) {A : List Value} {U : State} (hU : U.heap = H) (hW : s.WarmedH U.vm) : zPc G ad h A (A.map (zv ad)).toArray U :=
  ⟨rfl, by rw [hU]; exact hI.2.2.1, va_K.moved hW.alike C.K, by rw [hU]; exact Nat.le_trans C.n0 hI.2.2.2.1.1, C.Z.warm hW (fun a h1 h2 => by rw [hU]; exact (zS2 hI.2.2.2.1).2.1 a h1 h2)⟩
/-- behind a call that returned -/
theorem zback {G : zG} {M : zM} {R : Room} {P P' : Bool} {Q Q' : zO → zH → Prop} {pc : Nat} {pl : List (Option Value)} {stk st : List Value} {h : zH} {nc ns mc ms : Nat} {p : Program} {e : Env} {s : State} {m : MethodId} {args : Array Value} {below : List Frame} {meth : Method} {c : Code} {ad0 : Nat → Nat} {n : Nat} {ad : Nat → Nat} {H : Heap} {locs : List Loc} {ls : Array Slot} (hPP : P = true → P' = true) (C : zX G M p e s m args meth c) (hI : zI G M P s ad0 n ad H locs ls pl stk h) (hst : zos h.length st) {st0 : List Value} {a : Array Value}
    (hr : va_Run p G.l e R s m args below meth c H locs nc ns mc ms (F0 m pc ls st0) (st.map (zv ad)) (zQc G P' ad h Q' a) (zF G P')) (kk : ∀ v h', Q' (.inl v) h' → PW G M R P Q (pc + 3) pl (v.toList ++ st) h' (nc + mc) (ns + ms)) : W p G.l e R s m args below meth c H locs nc ns (zEnd G P below s R.cells R.slots (zQ G ad0 n Q)) (F0 m pc ls st0) := by
  intro T hT X
  obtain ⟨v, st₀, t, T', L, h0, X', hL, e1, e2, ⟨⟨r, h', ad', hq, ha, hlen, hR', hor, hv⟩, hz, hk⟩, go⟩ := hr T hT X
  cases r with
  | inr q => cases hv
  | inl v' =>
    cases hv
    rw [h0] at hz hk
    have hPF : ∀ q, zF G P' q → zF G P q := fun q z => ⟨by cases hb : P with | false => rfl | true => exact absurd (hPP hb) (by rw [z.1]; decide), z.2⟩
    have hS : va_S (zF G P) s.heap T'.heap (locs ++ L) := ⟨Nat.le_trans hI.2.2.2.1.1 (by rw [e1]; exact hz), fun q h1 h2 => by rw [e1, hk q (Nat.lt_of_lt_of_le h1 hI.2.2.2.1.1) (fun z => h2 (hPF q z))]; exact hI.2.2.2.1.2.1 q h1 h2, fun q hq => by
      rcases List.mem_append.mp hq with h | h
      · exact hI.2.2.2.1.2.2 q h
      · exact hPF _ (hL q h)⟩
    have hI' : zI G M P s ad0 n ad' T'.heap (locs ++ L) ls pl (v'.toList ++ st) h' := by
      refine ⟨fun k hk => (ha k (Nat.lt_of_lt_of_le hk hI.2.1)).trans (hI.1 k hk), Nat.le_trans hI.2.1 hlen, by rw [e1]; exact hR', hS, fun i w hi => ⟨zov_mono hlen (hI.2.2.2.2.1 i w hi).1, (hI.2.2.2.2.1 i w hi).2⟩, ?_, zhas_cong ha hI.2.2.2.2.1 hI.2.2.2.2.2.2⟩
      intro w hw
      rcases List.mem_append.mp hw with h1 | h1
      · cases v' with
        | none => cases h1
        | some x =>
          simp at h1
          subst h1
          exact hor _ rfl
      · exact zov_mono hlen (hst w h1)
    obtain ⟨t2, a1, b1⟩ := kk v' h' hq p e s m args below meth c ad0 n C ad' T'.heap (locs ++ L) ls hI' T' rfl X'
    refine ⟨t2, go t2 ?_, b1⟩
    have e3 : (v'.toList ++ st).map (zv ad') = (v'.map (zv ad')).toList ++ st.map (zv ad) := by
      rw [List.map_append, zst_cong ha hst]
      cases v' <;> rfl
    rw [e3] at a1
    exact a1
end
section
/-- a callee: its words -/
def zL0 (M' : zM) (n : Nat) : Prop := Cond.code M'.nm M'.code M'.maxL M'.ret ∈ zT ∧ Cond.initialized M'.nm.cls ∈ zT ∧ (M'.nm.cls ≠ "java/lang/invoke/MethodHandle" ∧ M'.nm.cls ≠ "java/lang/invoke/VarHandle") ∧ (parseMethodDescriptor M'.nm.desc).map (fun d => d.parameters.length) = some n ∧ plainName M'.nm.cls = true ∧ M'.hs = []
def zLV (own : String) (idx : Nat) (M' : zM) (n : Nat) : Prop := zL0 M' n ∧ Cond.methodLink own idx M'.nm ∈ zT ∧ Cond.instanceMethod M'.nm ∈ zT ∧ Cond.selects M'.nm.cls M'.nm M'.nm ∈ zT
def zLS (own : String) (idx : Nat) (M' : zM) (n : Nat) : Prop := zL0 M' n ∧ (Cond.methodLink own idx M'.nm ∈ zT ∨ ∃ host, Cond.methodLinkNest own idx M'.nm host ∈ zNw) ∧ Cond.static M'.nm ∈ zT
def zLI (own : String) (idx : Nat) (M' : zM) (n : Nat) : Prop := zL0 M' n ∧ (Cond.methodLink own idx M'.nm ∈ zT ∨ ∃ host, Cond.methodLinkNest own idx M'.nm host ∈ zNw) ∧ M'.nm.name = "<init>" ∧ Cond.instanceMethod M'.nm ∈ zT ∧ M'.ret = none
/-- the callee's room in the caller's -/
def zfit (M' : zM) (R' R : Room) (nc ns : Nat) : Prop := R'.frames + 1 ≤ R.frames ∧ 8 + (M'.maxL + 11) + R'.locals ≤ R.locals ∧ nc + R'.cells ≤ R.cells ∧ ns + R'.slots ≤ R.slots
theorem zwords {G : zG} {M M' : zM} {p : Program} {e : Env} {s : State} {m : MethodId} {args : Array Value} {meth : Method} {c : Code} (C : zX G M p e s m args meth c) (hc : Cond.code M'.nm M'.code M'.maxL M'.ret ∈ zT) : ∀ w ∈ (Cond.code M'.nm M'.code M'.maxL M'.ret :: zT), ∀ (a' : Array Value) (U : State), s.WarmedH U.vm → w.before a' U = true :=
  pay_in (big := zT) C.ts (fun w hw => by
    rcases List.mem_cons.mp hw with rfl | h
    · exact zT_good _ hc
    · exact zT_good _ h)
theorem zsig {M' : zM} {n : Nat} (h : (parseMethodDescriptor M'.nm.desc).map (fun d => d.parameters.length) = some n) : ∀ sig, parseMethodDescriptor M'.nm.desc = some sig → n = sig.parameters.length := fun sig hs => by
  rw [hs] at h
  exact (Option.some.inj h).symm
theorem zargsok {n : Nat} {A : List Value} {st : List Value} (h : zos n (A.reverse ++ st)) : zos n A := fun v hv => h v (List.mem_append_left _ (List.mem_reverse.mpr hv))
theorem zrestok {n : Nat} {A : List Value} {st : List Value} (h : zos n (A.reverse ++ st)) : zos n st := fun v hv => h v (List.mem_append_right _ hv)
theorem zcatsum (ad : Nat → Nat) (st : List Value) : ((st.map (zv ad)).map fun v => v.category).sum = (st.map fun v => v.category).sum := by
  rw [List.map_map]
  congr 1
  exact List.map_congr_left fun v _ => zcat ad v
section PWcall
variable {G : zG} {M M' : zM} {R R' : Room} {P P' : Bool} {Q Q' : zO → zH → Prop} {pc : Nat} {pl : List (Option Value)} {st : List Value} {h : zH} {nc ns : Nat}
theorem pw_callV (A : List Value) {idx k ci : Nat} {fs : List Value} {stk : List Value} (hPP : P = true → P' = true) (hd : decode M.code pc = .ok (.invokevirtual idx, 3)) (hl : zLV M.nm.cls idx M' A.length) (hh : h[k]? = some (.inr (ci, fs))) (hc : (zCl[ci]?).map Prod.fst = some M'.nm.cls) (hst : stk = A.reverse ++ .ref k :: st) (hA : ∀ v ∈ A, v.category = 1) (hmax : A.length + 1 ≤ M'.maxL) (hf : zfit M' R' R nc ns) (hw : (st.map fun v => v.category).sum ≤ 8)
    (hb : PW G M' R' P' Q' 0 (zentry M'.maxL (.ref k :: A)) [] h 0 0) (hret : ∀ r h', Q' r h' → ∃ v, r = .inl v) (kk : ∀ v h', Q' (.inl v) h' → PW G M R P Q (pc + 3) pl (v.toList ++ st) h' (nc + R'.cells) (ns + R'.slots)) : PW G M R P Q pc pl stk h nc ns := by
  subst hst
  intro p e s m args below meth c ad0 n C ad H locs ls hI
  obtain ⟨⟨c1, c2, c3, c4, c5, c6⟩, l1, l2, l3⟩ := hl
  have ho : zos h.length (.ref k :: A) := zos_c (zos_h (zrestok hI.s0)) (zargsok hI.s0)
  have hM := zmet (G := G) (M := M') (R := R') c6 c5 (A := .ref k :: A) (fun v hv => by rcases List.mem_cons.mp hv with rfl | h; exact rfl; exact hA v h) hmax hb hret ad ho
  obtain ⟨q, hq1, hq2⟩ := Option.map_eq_some_iff.mp hc
  have hrec := va_recv C.K hI.2.2.1.1 hq1 (zw_get hh)
  rw [hq2] at hrec
  refine zback (st := st) (st0 := (A.reverse ++ .ref k :: st).map (zv ad)) hPP C hI (zos_t (zrestok hI.s0)) (va_runV (C := M'.nm.cls) (As := A.map (zv ad)) (b := ad k) (rest := st.map (zv ad)) ⟨C.exec, C.bytes, C.maxL, C.own, C.ts⟩ hM ⟨⟨rfl, rfl, hf.1, hf.2.1, zwords C c1, List.mem_cons_self, C.ts _ c1, C.ts _ c2, c3, zsig c4, C.ts _ l1⟩, C.ts _ l2, C.ts _ l3⟩ ⟨zPc_blind, hrec, fun U hU hW => zPc_at C hI hU hW⟩ rfl (by simp) hI.2.2.2.2.2.2.1 (by simp [zv]) (lv_room (by rw [zcatsum]; exact hw)) hd ⟨hf.2.2.1, hf.2.2.2⟩) kk
theorem pw_callS (A : List Value) {idx : Nat} {stk : List Value} (hPP : P = true → P' = true) (hd : decode M.code pc = .ok (.invokestatic idx, 3)) (hl : zLS M.nm.cls idx M' A.length) (hst : stk = A.reverse ++ st) (hA : ∀ v ∈ A, v.category = 1) (hmax : A.length ≤ M'.maxL) (hf : zfit M' R' R nc ns) (hw : (st.map fun v => v.category).sum ≤ 8)
    (hb : PW G M' R' P' Q' 0 (zentry M'.maxL A) [] h 0 0) (hret : ∀ r h', Q' r h' → ∃ v, r = .inl v) (kk : ∀ v h', Q' (.inl v) h' → PW G M R P Q (pc + 3) pl (v.toList ++ st) h' (nc + R'.cells) (ns + R'.slots)) : PW G M R P Q pc pl stk h nc ns := by
  subst hst
  intro p e s m args below meth c ad0 n C ad H locs ls hI
  obtain ⟨⟨c1, c2, c3, c4, c5, c6⟩, l1, l2⟩ := hl
  have hM := zmet (G := G) (M := M') (R := R') c6 c5 (A := A) hA hmax hb hret ad (zargsok hI.s0)
  rcases l1 with l1 | ⟨host, l1⟩
  · exact zback (st := st) (st0 := (A.reverse ++ st).map (zv ad)) hPP C hI (zrestok hI.s0) (va_runS (As := A.map (zv ad)) (rest := st.map (zv ad)) ⟨C.exec, C.bytes, C.maxL, C.own, C.ts⟩ hM ⟨⟨rfl, rfl, hf.1, hf.2.1, zwords C c1, List.mem_cons_self, C.ts _ c1, C.ts _ c2, c3, zsig c4, C.ts _ l1⟩, C.ts _ l2⟩ ⟨zPc_blind, fun U hU hW => zPc_at C hI hU hW⟩ rfl (by simp) hI.2.2.2.2.2.2.1 (by simp) (lv_room (by rw [zcatsum]; exact hw)) hd ⟨hf.2.2.1, hf.2.2.2⟩) kk
  · exact zback (st := st) (st0 := (A.reverse ++ st).map (zv ad)) hPP C hI (zrestok hI.s0) (va_runSN (As := A.map (zv ad)) (rest := st.map (zv ad)) ⟨C.exec, C.bytes, C.maxL, C.own, C.ts⟩ hM ⟨⟨⟨rfl, rfl, hf.1, hf.2.1, zwords C c1, List.mem_cons_self⟩, C.ts _ c1, C.ts _ c2, c3, zsig c4, va_Nw.use rfl (C.Z.2.2.2.2.1 _ l1)⟩, C.ts _ l2, trivial⟩ ⟨zPc_blind, fun U hU hW => zPc_at C hI hU hW⟩ rfl (by simp) hI.2.2.2.2.2.2.1 (by simp) (lv_room (by rw [zcatsum]; exact hw)) hd ⟨hf.2.2.1, hf.2.2.2⟩) kk
theorem pw_callI (A : List Value) {idx k : Nat} {stk : List Value} (hPP : P = true → P' = true) (hd : decode M.code pc = .ok (.invokespecial idx, 3)) (hl : zLI M.nm.cls idx M' A.length) (hst : stk = A.reverse ++ .ref k :: st) (hA : ∀ v ∈ A, v.category = 1) (hmax : A.length + 1 ≤ M'.maxL) (hf : zfit M' R' R nc ns) (hw : (st.map fun v => v.category).sum ≤ 8)
    (hb : PW G M' R' P' Q' 0 (zentry M'.maxL (.ref k :: A)) [] h 0 0) (hret : ∀ r h', Q' r h' → ∃ v, r = .inl v) (kk : ∀ v h', Q' (.inl v) h' → PW G M R P Q (pc + 3) pl (v.toList ++ st) h' (nc + R'.cells) (ns + R'.slots)) : PW G M R P Q pc pl stk h nc ns := by
  subst hst
  intro p e s m args below meth c ad0 n C ad H locs ls hI
  obtain ⟨⟨c1, c2, c3, c4, c5, c6⟩, l1, l2, l3, l4⟩ := hl
  have ho : zos h.length (.ref k :: A) := zos_c (zos_h (zrestok hI.s0)) (zargsok hI.s0)
  have hM := zmet (G := G) (M := M') (R := R') c6 c5 (A := .ref k :: A) (fun v hv => by rcases List.mem_cons.mp hv with rfl | h; exact rfl; exact hA v h) hmax hb hret ad ho
  rw [l4] at hM c1
  have hw0 := zwords (M' := (M'.1, M'.2.1, M'.2.2.1, none, [])) C c1
  rcases l1 with l1 | ⟨host, l1⟩
  · exact zback (st := st) (st0 := (A.reverse ++ .ref k :: st).map (zv ad)) hPP C hI (zos_t (zrestok hI.s0)) (va_runI (As := A.map (zv ad)) (b := ad k) (rest := st.map (zv ad)) ⟨C.exec, C.bytes, C.maxL, C.own, C.ts⟩ hM ⟨⟨rfl, rfl, hf.1, hf.2.1, hw0, List.mem_cons_self, C.ts _ c1, C.ts _ c2, c3, zsig c4, C.ts _ l1⟩, l2, C.ts _ l3⟩ ⟨zPc_blind, fun U hU hW => zPc_at C hI hU hW⟩ rfl (by simp) hI.2.2.2.2.2.2.1 (by simp [zv]) (lv_room (by rw [zcatsum]; exact hw)) hd ⟨hf.2.2.1, hf.2.2.2⟩) kk
  · exact zback (st := st) (st0 := (A.reverse ++ .ref k :: st).map (zv ad)) hPP C hI (zos_t (zrestok hI.s0)) (va_runIN (As := A.map (zv ad)) (b := ad k) (rest := st.map (zv ad)) ⟨C.exec, C.bytes, C.maxL, C.own, C.ts⟩ hM ⟨⟨⟨rfl, rfl, hf.1, hf.2.1, hw0, List.mem_cons_self⟩, C.ts _ c1, C.ts _ c2, c3, zsig c4, va_Nw.use rfl (C.Z.2.2.2.2.1 _ l1)⟩, l2, C.ts _ l3⟩ ⟨zPc_blind, fun U hU hW => zPc_at C hI hU hW⟩ rfl (by simp) hI.2.2.2.2.2.2.1 (by simp [zv]) (lv_room (by rw [zcatsum]; exact hw)) hd ⟨hf.2.2.1, hf.2.2.2⟩) kk
def zLO (own : String) (idx : Nat) : Prop := Cond.methodLink own idx Lib.objectInit ∈ zT
theorem zobj1 : Cond.instanceMethod Lib.objectInit ∈ zT := by decide +kernel
theorem zobj2 : Cond.code Lib.objectInit ⟨#[0xb1]⟩ 1 none ∈ zT := by decide +kernel
theorem pw_objInit {idx k : Nat} (hd : decode M.code pc = .ok (.invokespecial idx, 3)) (hl : zLO M.nm.cls idx) (hf : 1 ≤ R.frames) (hw : (st.map fun v => v.category).sum + 12 ≤ R.locals) (kk : PW G M R P Q (pc + 3) pl st h nc ns) : PW G M R P Q pc pl (.ref k :: st) h nc ns := by
  intro p e s m args below meth c ad0 n C ad H locs ls hI
  exact W.objInit C.exec C.bytes C.own (C.ts _ hl) (C.ts _ zobj1) (C.ts _ zobj2) rfl (hI.2.2.2.2.2.2.1.trans C.maxL.symm) rfl hd hf (by show 2 * 0 + ((st.map (zv ad)).map fun v => v.category).sum + 12 ≤ R.locals; rw [zcatsum]; omega) (kk p e s m args below meth c ad0 n C ad H locs ls (hI.st (zos_t hI.s0)))
end PWcall
end
section
/-- the words of a throw, as the state gives them -/
def zat (a : Cond) : Bool := decide (a ∈ zT) || decide (a ∈ zNw) || decide (a = Cond.laysStatic "java/lang/Throwable" "UNASSIGNED_STACK" "[Ljava/lang/StackTraceElement;") || decide (a = Cond.laysStatic "java/lang/Throwable" "SUPPRESSED_SENTINEL" "Ljava/util/List;") || decide (a = Cond.isRef (.static "java/lang/Throwable" "UNASSIGNED_STACK" "[Ljava/lang/StackTraceElement;")) || decide (a = Cond.isRef (.static "java/lang/Throwable" "SUPPRESSED_SENTINEL" "Ljava/util/List;"))
theorem zSV.lays {G : zG} {nm ds : String} {s : State} {args : Array Value} (h : zSV G nm ds s) : (Cond.laysStatic "java/lang/Throwable" nm ds).before args s = true := by
  obtain ⟨c, i, a, k, f, cell, v, h1, h2, h3, h4, h5, h6, h7, h8, h9, h10, h11, h12⟩ := h
  exact Cond.laysStatic_of h1 h2 h3 h4 h5 h6 h7 h8 h9
theorem zSV.ref {G : zG} {nm ds : String} {s : State} {args : Array Value} (h : zSV G nm ds s) : (Cond.isRef (.static "java/lang/Throwable" nm ds)).before args s = true := by
  obtain ⟨c, i, a, k, f, cell, v, h1, h2, h3, h4, h5, h6, h7, h8, h9, h10, h11, h12⟩ := h
  have hv : (Term.static "java/lang/Throwable" nm ds).eval args s none [] s = some v := by
    simp [Term.eval, State.fieldNamed?, h2, h3, h4, h5, h6, h10]
  simp only [Cond.before, Cond.holds, Cond.value, hv]
  cases v <;> first | rfl | (simp [Value.isRef] at h11)
theorem zat_ok {G : zG} {M : zM} {p : Program} {e : Env} {s : State} {m : MethodId} {args : Array Value} {meth : Method} {c : Code} (C : zX G M p e s m args meth c) {a : Cond} (h : zat a = true) : a.before args s = true := by
  simp only [zat, Bool.or_eq_true, decide_eq_true_eq] at h
  rcases h with ((((h | h) | h) | h) | h) | h
  · exact C.ts a h
  · exact va_Nw.use (by
      have h2 := (List.mem_filter.mp h).2
      cases a <;> first | rfl | (simp [zisN] at h2)) (C.Z.2.2.2.2.1 a h)
  · subst h; exact C.Z.2.2.1.lays
  · subst h; exact C.Z.2.2.2.1.lays
  · subst h; exact C.Z.2.2.1.ref
  · subst h; exact C.Z.2.2.2.1.ref
theorem zsame_eq {s t : State} {k n : Nat} (h : s.sameButNew t [] k n) : s.heap.size ≤ t.heap.size ∧ ∀ q : Nat, q < s.heap.size → t.heap[q]? = s.heap[q]? := by
  refine ⟨h.2.1, fun q hq => ?_⟩
  have hc : s.heap[q]? = some s.heap[q] := Array.getElem?_eq_getElem hq
  obtain ⟨c', h1, h2, h3, h4⟩ := h.2.2.2.2.2 q _ hc
  have h5 : c'.slots = (s.heap[q]).slots := Array.ext_getElem? fun i => h4 i (by simp)
  rw [h1, hc, h2, h5]
/-- a class of exceptions: its number, what lies between it and Throwable -/
def zXc (ci : Nat) (cls : String) (names : List String) : Prop := zCl[ci]? = some (cls, T_0, 0) ∧ Cond.instantiable cls 6 ∈ zT ∧ Cond.initialized cls ∈ zT ∧ Jvm.Bundle.fit cls = true ∧ (∀ n ∈ names, Jvm.Bundle.fit n = true) ∧ names.length = 2
section PWthrow
variable {G : zG} {M : zM} {R : Room} {P : Bool} {Q : zO → zH → Prop} {pc : Nat} {pl : List (Option Value)} {st : List Value} {h : zH} {ns : Nat}
set_option maxHeartbeats 1000000 in
theorem pw_throw {ci i0 i4 i6 : Nat} {cls tx : String} {names : List String} (hP : P = true) (hd0 : decode M.code pc = .ok (.new i0, 3)) (hd3 : decode M.code (pc + 3) = .ok (.dup, 1)) (hd4 : decode M.code (pc + 3 + 1) = .ok (.ldc i4, 2)) (hd6 : decode M.code (pc + 3 + 1 + 2) = .ok (.invokespecial i6, 3)) (hd9 : decode M.code (pc + 3 + 1 + 2 + 3) = .ok (.athrow, 1))
    (hx : zXc ci cls names) (hl : Cond.classLink M.nm.cls i0 cls ∈ zT) (hw : M.nm.cls = "WedgePlanes") (hs : (i4, tx) ∈ zSt) (ha : (Jvm.Bundle.ownAtoms M.nm.cls i6 cls names).all zat = true) (hhs : M.hs = []) (hc : 1 ≤ R.cells) (hsl : ns + 6 ≤ R.slots) (hf : 5 < R.frames) (hlo : (st.map fun v => v.category).sum + 82 ≤ R.locals)
    (hq : Q (.inr (ci, h.length)) (h ++ [.inr (ci, [])])) : PW G M R P Q pc pl st h 0 ns := by
  intro p e s m args below meth c ad0 n C ad H locs ls hI T0 hT0 X0
  have hsz : H.size ≤ s.heap.size := by have := X0.heapSize; rw [hT0] at this; simpa using this
  have hlocs : locs = [] := List.eq_nil_iff_forall_not_mem.mpr fun q hq => by have := (hI.2.2.2.1.2.2 q hq).1; rw [hP] at this; cases this
  subst hlocs
  obtain ⟨hx1, hx2, hx3, hx4, hx5, hx6⟩ := hx
  obtain ⟨qs, hqs⟩ := C.Z.2.2.2.2.2.2.2.1 _ hs
  rw [← hw] at hqs
  revert T0
  refine (fun w T0 hT0 X0 => w T0 hT0 X0 : W p G.l e R s m args below meth c H [] 0 ns _ _ → _) ?_
  refine W.newc C.exec C.bytes C.own (C.ts _ hl) (C.ts _ hx2) (C.ts _ hx3) rfl hd0 (by simpa using hc) hsl (fun cX kX f1 f2 f3 f4 => ?_)
  refine lv_dup C.exec C.bytes hd3 rfl ?_
  refine va_ldcS C.exec C.bytes C.own hqs hd4 ?_
  intro T hT X
  have htr : e.platform.stackTraces = false := by
    have h1 := X.admits.2.2.2.2.1
    rw [h1]
    show G.l.stackTraces = false
    unfold Launch.stackTraces
    rw [C.Z.2.1]
    decide +kernel
  obtain ⟨U, hst, hrun, hend, hWU, hsame, ce, hce, hOwn⟩ := X.ctorThrowS C.exec htr (own := M.nm.cls) (cls := cls) (names := names) (ic := i6) C.own hx4 hx5 (fun a hm => zat_ok C (List.all_eq_true.mp ha a hm)) (fun x hx => by cases hx) f1 f2 (a := H.size) (by rw [hT, Array.getElem?_push_size]) hI.2.2.2.1.1 (msg := .ref qs) rfl (g := F0 m (pc + 3 + 1 + 2) ls (.ref qs :: .ref H.size :: .ref H.size :: st.map (zv ad))) rfl (hI.2.2.2.2.2.2.1.trans C.maxL.symm) rfl rfl (rest := st.map (zv ad)) rfl (by rw [C.bytes]; exact hd6) (by rw [C.bytes]; exact hd9) (fun x hx => by
      have := C.tab
      rw [hhs] at this
      rw [List.map_eq_nil_iff.mp this] at hx
      cases hx) (by rw [hx6]; omega) (by
      show 2 * 0 + (1 + ((st.map (zv ad)).map fun v => v.category).sum) + (13 * (names.length + 1) + 42) ≤ R.locals
      rw [zcatsum, hx6]; omega) C.locks
  obtain ⟨hz1, hz2⟩ := zsame_eq hsame
  have hold : ∀ q : Nat, q < H.size → U.heap[q]? = H[q]? := fun q hq => by
    have h1 : U.heap[q]? = s.heap[q]? := hz2 q (Nat.lt_of_lt_of_le hq hsz)
    rw [h1, hI.2.2.2.1.2.1 q (Nat.lt_of_lt_of_le hq hsz) (fun z => by rw [hP] at z; cases z.1)]
  have hcls : ce.cls = G.D.1 ci := Option.some.inj (hOwn.cls.symm.trans (C.K.1 ci _ hx1).2.1)
  have hup : ∀ k, k < h.length → va_up ad h.length H.size k = ad k := fun k hk => by unfold va_up; rw [if_neg (Nat.ne_of_lt hk)]
  have hself : va_up ad h.length H.size h.length = H.size := by unfold va_up; rw [if_pos rfl]
  refine ⟨U, hst, .threw H.size, hrun, hend, ⟨.inr (ci, h.length), h ++ [.inr (ci, [])], va_up ad h.length H.size, hq, fun k hk => (hup k (Nat.lt_of_lt_of_le hk hI.2.1)).trans (hI.1 k hk), by rw [List.length_append]; exact Nat.le_trans hI.2.1 (Nat.le_add_right _ _), ⟨?_, ?_, zoh_push (c := .inr (ci, [])) hI.2.2.1.2.2 (show zoc _ (.inr (ci, [])) from fun v hv => by cases hv)⟩, by simp [zor], by simp only [zo, hself]⟩, ⟨hz1, fun q h1 _ => hz2 q h1⟩, hWU, [], hsame.mono (by simpa using hc) hsl, fun q hq => by cases hq⟩
  · rw [zw_push hI.2.2.1.2.2 hup, hself]
    refine va_P.app (hI.2.2.1.1.kept (fun k q hq => hold _ (hI.2.2.1.1 k q hq).lt)) (fun k q hq => ?_)
    have : q ∈ [(H.size, zc (va_up ad h.length H.size) G.tys (.inr (ci, [])))] := List.mem_of_getElem? hq
    rw [List.mem_singleton] at this
    subst this
    exact ⟨_, hx1, ce, hce, hcls, hOwn.vm, fun k hk => absurd hk (Nat.not_lt_zero k)⟩
  · rw [zw_push hI.2.2.1.2.2 hup, hself]
    exact hI.2.2.1.2.1.push hI.2.2.1.1 rfl (C.A _ hI.2.2.2.1.1)
end PWthrow
end
section
/-- the contract of a method that returns or throws -/
theorem zmetT {G : zG} {M : zM} {R : Room} {P : Bool} {Q : zO → zH → Prop} {A : List Value} {h : zH} (hhs : M.hs = []) (hpl : plainName M.nm.cls = true) (hc : ∀ v ∈ A, v.category = 1) (hn : A.length ≤ M.maxL) (hP : PW G M R P Q 0 (zentry M.maxL A) [] h 0 0) (ad : Nat → Nat) (ho : zos h.length A) :
    MetFree G.l M.nm (headSpec (Cond.code M.nm M.code M.maxL M.ret :: zT) R) (zPc G ad h A) (fun _ _ _ _ _ => True) (fun a st o t => zQc G P ad h Q a st o t ∧ st.WarmedH t.vm ∧ ∃ L, st.sameButNew ({ t with vm := st.vm } : State) L R.cells R.slots ∧ ∀ q ∈ L, zF G P q.base) := by
  refine MetFree.of_bodyS (code := M.code) (maxLocals := M.maxL) (ret := M.ret) hpl ?_ ?_
  · intro args s m h hn
    obtain ⟨meth, c, h1, h2, h3, h4, h5, h6, -, -⟩ := Cond.code_spec hn (atoms_spec (ws := Cond.code M.nm M.code M.maxL M.ret :: zT) h _ List.mem_cons_self)
    exact ⟨meth, c, h1, h2, h3, h4, h5, h6⟩
  · intro p e s m args below meth c s₁ B hml hv _
    obtain ⟨rfl, hR, hK, hn0, hZ⟩ := hv
    have hh0 : s₁.heap = s.heap := by rw [B.state]; rfl
    have hts := atoms_spec (ws := Cond.code M.nm M.code M.maxL M.ret :: zT) B.pre
    have htab : c.exceptionTable.toList.map (fun h => (h.startPc, h.endPc, h.handlerPc, h.catchType)) = M.hs := by
      obtain ⟨meth', c', q1, q2, -, -, -, -, q7, -⟩ := Cond.code_spec B.named (hts _ List.mem_cons_self)
      cases B.method.symm.trans q1
      have hc : meth.code = some c := (Stand.of_body B).code
      cases hc.symm.trans q2
      rw [hhs, Array.isEmpty_iff.mp q7]; rfl
    have C : zX G M p e s m (A.map (zv ad)).toArray meth c := ⟨B.exec, B.bytes, B.returns, hml, findClass_of_methodNamed B.named, fun w hw => hts w (List.mem_cons_of_mem _ hw), B.notSynchronized, hK, hn0, (name_of_methodNamed B.named B.method).1, htab, hZ⟩
    rw [lg_entry_eq]
    obtain ⟨t, a1, o, h1, h2, h3, h4, h5, L, h6, h7⟩ := hP p e s m _ below meth c ad h.length C ad s.heap [] _ ⟨fun _ _ => rfl, Nat.le_refl _, hR, va_S.rf, fun i v hi => ⟨ho v (List.mem_of_getElem? (zentry_get hi)), hc v (List.mem_of_getElem? (zentry_get hi))⟩, zos_nil, zentry_has hc hn⟩ s₁ hh0 (Stand.of_body B)
    exact ⟨t, o, a1, h1, h2, ⟨h3, h4⟩, h5, L, h6, h7⟩
set_option maxHeartbeats 1000000 in
/-- a call that throws: where the machine stands then -/
theorem zthrow {G : zG} {M M' : zM} {R R' : Room} {P P' : Bool} {Q' : zO → zH → Prop} {pc : Nat} {pl : List (Option Value)} {st A : List Value} {h : zH} {nc ns idx k ci : Nat} {fs : List Value} {p : Program} {e : Env} {s : State} {m : MethodId} {args : Array Value} {below : List Frame} {meth : Method} {c : Code} {ad0 : Nat → Nat} {n : Nat} {ad : Nat → Nat} {H : Heap} {locs : List Loc} {ls : Array Slot} {T : State}
    (hPP : P = true → P' = true) (C : zX G M p e s m args meth c) (hI : zI G M P s ad0 n ad H locs ls pl (A.reverse ++ .ref k :: st) h) (hT : T.heap = H) (X : Stand p G.l e R s m args below meth c T locs nc ns) (hd : decode M.code pc = .ok (.invokevirtual idx, 3)) (hl : zLV M.nm.cls idx M' A.length) (hh : h[k]? = some (.inr (ci, fs))) (hc : (zCl[ci]?).map Prod.fst = some M'.nm.cls) (hA : ∀ v ∈ A, v.category = 1) (hmax : A.length + 1 ≤ M'.maxL) (hf : zfit M' R' R nc ns) (hw : (st.map fun v => v.category).sum ≤ 8)
    (hb : PW G M' R' P' Q' 0 (zentry M'.maxL (.ref k :: A)) [] h 0 0) (hthr : ∀ r h', Q' r h' → ∃ q, r = .inr q) :
    ∃ (q : Nat × Nat) (h' : zH) (ad' : Nat → Nat) (B : State) (L : List Loc), Q' (.inr q) h' ∧ zI G M P s ad0 n ad' B.heap (locs ++ L) ls pl [.ref q.2] h' ∧ Stand p G.l e R s m args below meth c B (locs ++ L) (nc + R'.cells) (ns + R'.slots) ∧
      ∀ target, Steps p.tables e below ((B.setTop (F0 m pc ls (st.map (zv ad)))).pushFrame (.throwing (ad' q.2))) target → Steps p.tables e below (T.setTop (F0 m pc ls ((A.reverse ++ .ref k :: st).map (zv ad)))) target := by
  obtain ⟨⟨c1, c2, c3, c4, c5, c6⟩, l1, l2, l3⟩ := hl
  have ho : zos h.length (.ref k :: A) := zos_c (zos_h (zrestok hI.s0)) (zargsok hI.s0)
  have hM := zmetT (G := G) (M := M') (R := R') c6 c5 (A := .ref k :: A) (fun v hv => by rcases List.mem_cons.mp hv with rfl | h; exact rfl; exact hA v h) hmax hb ad ho
  obtain ⟨q0, hq1, hq2⟩ := Option.map_eq_some_iff.mp hc
  obtain ⟨cellB, hcB, hoB, hclB⟩ := va_recv C.K hI.2.2.1.1 hq1 (zw_get hh)
  rw [hq2] at hclB
  obtain ⟨mk, methM, hnamed, hmethM, hstM, habM⟩ := Cond.instanceMethod_spec (C.ts _ l2)
  obtain ⟨methM', cM, hmethM', hcM, -, hlM, -, -, -, hsigM⟩ := Cond.code_spec hnamed (C.ts _ c1)
  cases hmethM.symm.trans hmethM'
  obtain ⟨cc2, r2, m2, q1, q2, q3, q4, kP, hkP, hkPi⟩ := Cond.selects_spec (C.ts _ l3)
  cases hclB.symm.trans q1
  cases (State.methodFound?_of_named hnamed c3).symm.trans q2
  cases hnamed.symm.trans q3
  have hselP : selectMethod e.platform s.vm cellB.cls mk = .method mk := by rw [Launch.admits_selectMethod X.admits]; exact q4
  have hlen : (A.map (zv ad)).length = methM.sig.parameters.length := by rw [List.length_map]; exact zsig c4 _ hsigM
  obtain ⟨vm₁, X₁, hstep₁⟩ := X.invokevirtual C.exec C.own (C.ts _ l1) hnamed hmethM hstM hkP hkPi c3 (a := ad k) (cell := cellB) (by rw [hT]; exact hcB)
    (fun z h => by rw [h] at hoB; cases hoB) hselP hmethM habM hkP hkPi (g := F0 m pc ls ((A.reverse ++ .ref k :: st).map (zv ad))) rfl (argsL := A.map (zv ad)) (rest := st.map (zv ad)) hlen (by simp [zv]) (by rw [C.bytes]; exact hd)
  generalize hU : T.setVm vm₁ = U at X₁ hstep₁
  have hUh : U.heap = H := by rw [← hU]; exact hT
  have hUn : U.methodNamed? M'.nm = some mk := X₁.named hnamed
  have hbefore : ∀ w ∈ (Cond.code M'.nm M'.code M'.maxL M'.ret :: zT), ∀ a' : Array Value, w.before a' U = true := fun w hw a' => zwords C c1 w hw a' U X₁.warmed
  obtain ⟨methY, cY, hmY, hcY, -, hlY, -, -, -, -⟩ := Cond.code_spec hUn (hbefore _ List.mem_cons_self #[])
  obtain ⟨kY, hkY, -⟩ := className_of_methodNamed hUn
  have hinitY : kY.init = .initialized := Cond.initialized_spec (findClass_of_methodNamed hUn) hkY (hbefore _ (List.mem_cons_of_mem _ c2) #[])
  have hg' : (F0 m pc ls (st.map (zv ad))).locals.size = c.maxLocals := hI.2.2.2.2.2.2.1.trans C.maxL.symm
  have happ : (headSpec (Cond.code M'.nm M'.code M'.maxL M'.ret :: zT) R').appliesLoose M'.nm e.platform (U.calling (F0 m pc ls (st.map (zv ad))) mk ((Value.ref (ad k) :: A.map (zv ad)).toArray)) = true :=
    Spec.appliesLoose_calling (g := F0 m pc ls (st.map (zv ad))) X₁.here (by rw [C.bytes]; exact hd) hUn hkY hinitY
      (X₁.room_calling (g := F0 m pc ls (st.map (zv ad))) (R' := R') hg' hmY hcY hf.1 (by
        rw [hlY]
        show 2 * 0 + ((st.map (zv ad)).map fun v => v.category).sum + (M'.maxL + 11) + R'.locals ≤ R.locals
        rw [zcatsum]; have := hf.2.1; omega) hf.2.2.1 hf.2.2.2) (atoms_intro fun w hw => hbefore w hw _)
  obtain ⟨mid, hmid⟩ := X₁.here.above
  have hfr : (U.setTop (F0 m pc ls (st.map (zv ad)))).frames = (.java (F0 m pc ls (st.map (zv ad))) :: mid) ++ below := by rw [State.frames_setTop' _ X₁.here.top, hmid]; rfl
  obtain ⟨o, s₂, hsteps, -, hend, ⟨⟨r, h', ad', hq, ha, hlen', hR', hor, rfl⟩, hz, hk⟩, hW₂, L, ⟨e2, w2, w3, w4, w5, w6⟩, hL⟩ := Steps.callFree hM p X₁.admits X₁.cas X₁.clock (acts := []) (args := (Value.ref (ad k) :: A.map (zv ad)).toArray) (m := mk) hfr happ (zPc_blind _ U (F0 m pc ls (st.map (zv ad))) mk (zPc_at C hI (A := .ref k :: A) hUh X₁.warmed)) trivial
  obtain ⟨q, rfl⟩ := hthr _ _ hq
  rw [State.frames_setTop' _ X₁.here.top] at hend
  have hf₂ : s₂.frames = .throwing (ad' q.2) :: .java (F0 m pc ls (st.map (zv ad))) :: U.frames.tail := hend
  have hW' : U.WarmedH s₂.vm := hW₂
  obtain ⟨g₀, hg0⟩ := Option.isSome_iff_exists.mp X₁.here.top
  obtain ⟨fr, hfr0⟩ := State.topJava?_eq_some.mp hg0
  have e3 : s₂ = ({ (U.calling (F0 m pc ls (st.map (zv ad))) mk ((Value.ref (ad k) :: A.map (zv ad)).toArray)).setFrames s₂.frames with heap := s₂.heap, slotsUsed := s₂.slotsUsed } : State).setVm s₂.vm := by
    have : s₂ = ({ s₂ with vm := (U.calling (F0 m pc ls (st.map (zv ad))) mk ((Value.ref (ad k) :: A.map (zv ad)).toArray)).vm } : State).setVm s₂.vm := rfl
    exact this.trans (by rw [show ({ s₂ with vm := (U.calling (F0 m pc ls (st.map (zv ad))) mk ((Value.ref (ad k) :: A.map (zv ad)).toArray)).vm } : State) = _ from e2]; rfl)
  have hsame : U.sameButNew ({ U with heap := s₂.heap, slotsUsed := s₂.slotsUsed } : State) L R'.cells R'.slots := by
    refine ⟨?_, w2, w3, w4, w5, w6⟩
    obtain ⟨t, ht, -⟩ := State.frames_cons hfr0
    show ({ U with heap := s₂.heap, slotsUsed := s₂.slotsUsed } : State) = { U.setFrames U.frames with heap := s₂.heap, slotsUsed := s₂.slotsUsed }
    rw [State.setFrames_self ht]
  generalize hB : (({ U with heap := s₂.heap, slotsUsed := s₂.slotsUsed } : State).setVm s₂.vm) = B
  have hBh : B.heap = s₂.heap := by rw [← hB]; rfl
  have hs₂ : s₂ = (B.setTop (F0 m pc ls (st.map (zv ad)))).pushFrame (.throwing (ad' q.2)) := by
    have hr' : B.frames = .java g₀ :: fr := by rw [← hB]; exact hfr0
    refine e3.trans ?_
    rw [hf₂, State.calling_eq X₁.here.top, State.setFrames_setFrames, State.pushFrame, State.frames_setTop _ hr', State.setTop_of_frames _ hr', State.setFrames_setFrames, hfr0, ← hB]
    rfl
  have hz' : H.size ≤ s₂.heap.size := by rw [← hUh]; exact hz
  have hk' : ∀ x : Nat, x < H.size → ¬ zF G P' x → s₂.heap[x]? = H[x]? := fun x h1 h2 => by rw [← hUh] at h1 ⊢; exact hk x h1 h2
  have hPF : ∀ x, zF G P' x → zF G P x := fun x z => ⟨by cases hb : P with | false => rfl | true => exact absurd (hPP hb) (by rw [z.1]; decide), z.2⟩
  have hS : va_S (zF G P) s.heap B.heap (locs ++ L) := ⟨Nat.le_trans hI.2.2.2.1.1 (by rw [hBh]; exact hz'), fun x h1 h2 => by rw [hBh, hk' x (Nat.lt_of_lt_of_le h1 hI.2.2.2.1.1) (fun z => h2 (hPF x z))]; exact hI.2.2.2.1.2.1 x h1 h2, fun x hx => by
      rcases List.mem_append.mp hx with h | h
      · exact hI.2.2.2.1.2.2 x h
      · exact hPF _ (hL x h)⟩
  refine ⟨q, h', ad', B, L, hq, ⟨fun j hj => (ha j (Nat.lt_of_lt_of_le hj hI.2.1)).trans (hI.1 j hj), Nat.le_trans hI.2.1 hlen', by rw [hBh]; exact hR', hS, fun i w hi => ⟨zov_mono hlen' (hI.2.2.2.2.1 i w hi).1, (hI.2.2.2.2.1 i w hi).2⟩, zos_c hor zos_nil, zhas_cong ha hI.2.2.2.2.1 hI.2.2.2.2.2.2⟩, ?_, fun target ht => ?_⟩
  · rw [← hB]
    exact ⟨X.admits, X.cas, X.clock, X.frames, X.room, X.hears, X.method, X.code, (X₁.here.setHeapUsed s₂.heap s₂.slotsUsed).setVm hW'.alike, X₁.tail, State.WarmedH.trans X₁.warmed hW', X₁.limits, X₁.bytes, X₁.same.trans (hsame.setVm s.vm)⟩
  · refine hstep₁ _ fun acts => ?_
    rw [doInvoke_state]
    rw [← hs₂] at ht
    exact hsteps.trans ht
/-- a call that throws, in a method without handlers: it throws too -/
theorem pw_callVT {G : zG} {M M' : zM} {R R' : Room} {P P' : Bool} {Q Q' : zO → zH → Prop} {pc : Nat} {pl : List (Option Value)} {st : List Value} {h : zH} {nc ns : Nat} (A : List Value) {idx k ci : Nat} {fs : List Value} {stk : List Value} (hPP : P = true → P' = true) (hd : decode M.code pc = .ok (.invokevirtual idx, 3)) (hl : zLV M.nm.cls idx M' A.length) (hh : h[k]? = some (.inr (ci, fs))) (hc : (zCl[ci]?).map Prod.fst = some M'.nm.cls) (hst : stk = A.reverse ++ .ref k :: st) (hA : ∀ v ∈ A, v.category = 1) (hmax : A.length + 1 ≤ M'.maxL) (hf : zfit M' R' R nc ns) (hw : (st.map fun v => v.category).sum ≤ 8) (hhs : M.hs = [])
    (hb : PW G M' R' P' Q' 0 (zentry M'.maxL (.ref k :: A)) [] h 0 0) (hthr : ∀ r h', Q' r h' → ∃ q, r = .inr q) (hq : ∀ r h', Q' r h' → Q r h') : PW G M R P Q pc pl stk h nc ns := by
  subst hst
  intro p e s m args below meth c ad0 n C ad H locs ls hI T hT X
  obtain ⟨q, h', ad', B, L, h1, hI', X', hgo⟩ := zthrow hPP C hI hT X hd hl hh hc hA hmax hf hw hb hthr
  obtain ⟨hst, hrun, hend, hWU, hsame⟩ := X'.leaveThrown (ad' q.2) (g := F0 m pc ls (st.map (zv ad))) rfl rfl rfl (fun x hx => by
      have := C.tab
      rw [hhs] at this
      rw [List.map_eq_nil_iff.mp this] at hx
      cases hx) C.locks
  exact ⟨_, hgo _ hst, .threw (ad' q.2), hrun, hend, ⟨.inr q, h', ad', hq _ _ h1, hI'.1, hI'.2.1, hI'.2.2.1, zos_h hI'.s0, rfl⟩, hI'.2.2.2.1.F rfl, hWU, locs ++ L, hsame.mono hf.2.2.1 hf.2.2.2, hI'.2.2.2.1.2.2⟩
end
section
/-- the search for a handler: one entry of the table that covers the place, its class cold or warm -/
theorem zgo_link {Q : Handler → Pre} {E : CtlPost} {e : Env} {d : Bool} {acts : List Action} {s : State} {f : JFrame} {a : Addr} {x : ExceptionTableEntry} {t : List ExceptionTableEntry} {c : ClassId} {cell : Cell} (hx : covers x f.pc = true) (h0 : x.catchType ≠ 0)
    (hl : s.vm.ClassLinks e.platform f.method.cls x.catchType c) (hcell : s.heap[a]? = some cell) (hobj : ∀ k, cell.vm ≠ .statics k) (hk : ∃ k, s.vm.classes[cell.cls]? = some k) (hc : ∃ k, s.vm.classes[c]? = some k) :
    wp (findHandler.go f a (x :: t)) Q E e d acts s ↔ if s.vm.assignable cell.cls c = true then Q (.found x.handlerPc) d acts (s.setVm (s.vm.noted f.method.cls x.catchType (.cls c))) else wp (findHandler.go f a t) Q E e d acts (s.setVm (s.vm.noted f.method.cls x.catchType (.cls c))) := by
  simp only [covers] at hx
  obtain ⟨ha, ht⟩ := (resolveClass_links e.toSetting hl).op (op := VmOp.resolveClass f.method.cls x.catchType) rfl
  have hal : s.vm.Alike (s.vm.noted f.method.cls x.catchType (.cls c)) := (Vm.Alike.refl s.vm).noted _ _ _
  obtain ⟨k1, hk1⟩ := hk
  obtain ⟨k2, hk2⟩ := hc
  obtain ⟨k1', hk1', -⟩ := hal.2.2 _ _ hk1
  obtain ⟨k2', hk2', -⟩ := hal.2.2 _ _ hk2
  have hfit' : (s.vm.noted f.method.cls x.catchType (.cls c)).assignable cell.cls c = s.vm.assignable cell.cls c := hal.assignable _ _
  cases hfit : s.vm.assignable cell.cls c <;> rw [hfit] at hfit' <;> simp [findHandler.go, hx, h0, ha, ht, hcell, hobj, hk1', hk2', hfit', VmOp.dirties, VmOp.acts]
def zFinds (e : Env) (s : State) (f : JFrame) (a : Addr) (pc : Nat) (vm' : Vm) : Prop :=
  ∀ (Q : Handler → Pre) (E : CtlPost) (d : Bool) (acts : List Action), wp (findHandler f a) Q E e d acts s ↔ Q (.found pc) d acts (s.setVm vm')
theorem zcaught {tb : Tables} {e : Env} {s target : State} {g : JFrame} {c : Code} {below : List Frame} {a : Addr} (h : At s g.method c below) {pc : Nat} {vm' : Vm}
    (hfind : zFinds e ((s.setTop g).pushFrame (.throwing a)) g a pc vm') (hrest : Steps tb e below ((s.setVm vm').setTop { g with pc := pc, stack := [.ref a] }) target) :
    Steps tb e below ((s.setTop g).pushFrame (.throwing a)) target := by
  have hstep : ∀ (u : State) (r : List Frame), zFinds e u g a pc vm' → (stepThrowing e u a (.java g :: r)).Is ((u.setVm vm').setFrames (.java { g with pc := pc, stack := [.ref a] } :: r)) [] := by
    intro u r hu
    simp only [stepThrowing, searchFrame, vmDo]
    generalize hr : Sem.go _ e false [] u = res
    obtain ⟨as, rfl, ha⟩ := Sem.eq_ok_of hr (a := Handler.found pc) (s' := u.setVm vm') (acts' := []) (by simp [hu _ _ _ _])
    exact ⟨rfl, ha⟩
  have hfs : ∀ (u : State) (F K : List Frame), ((u.setFrames F).setVm vm').setFrames K = (u.setVm vm').setFrames K := by
    intro u F K
    rw [show (u.setFrames F).setVm vm' = (u.setVm vm').setFrames F from rfl, State.setFrames_setFrames]
  obtain ⟨hgo, hw⟩ := h.throwing a
  refine Steps.head hgo hw ?_
  rw [stepThread_throwing (frames_entered h.top _), (hstep ((s.setTop g).pushFrame (.throwing a)) _ hfind).1]
  obtain ⟨g₀, hg⟩ := Option.isSome_iff_exists.mp h.top
  obtain ⟨r, hr⟩ := State.topJava?_eq_some.mp hg
  have hr' : (s.setVm vm').frames = .java g₀ :: r := hr
  rw [State.setTop_of_frames _ hr'] at hrest
  rw [hr, List.tail_cons, State.pushFrame, hfs, State.setTop_of_frames _ hr, hfs]
  exact hrest
section zCatch
variable {p : Program} {l : Launch} {e : Env} {R : Room} {s : State} {m : MethodId} {args : Array Value} {below : List Frame} {meth : Method} {c : Code} {T : State} {locs : List Loc} {cells slots : Nat}
theorem zlinkAt (X : Stand p l e R s m args below meth c T locs cells slots) {own name : String} {i : Nat} (hown : s.vm.findClass own = some m.cls) (hlink : (Cond.classLink own i name).before args s = true) {cT : ClassId} (hcT : s.vm.findClass name = some cT) {vm : Vm} (hW : s.WarmedH vm) :
    vm.ClassLinks e.platform m.cls i cT ∧ s.WarmedH (vm.noted m.cls i (.cls cT)) ∧ ∃ k, vm.classes[cT]? = some k := by
  have hpl : e.platform.magicAccessors = ({} : Platform).magicAccessors := by rw [X.admits.platform]
  obtain ⟨c', hc', hcl⟩ := Cond.classLink_spec hown hlink e.platform hpl
  cases hcT.symm.trans hc'
  obtain ⟨dk, _, _, kt, hd, _, _, _, _, hkt, _, hopen⟩ := hcl.here
  obtain ⟨kt', hkt', -⟩ := hW.alike.2.2 _ _ hkt
  exact ⟨hW.classLinks hcl, hW.noted hd hopen (State.rightAt_cls hcl), kt', hkt'⟩
theorem zcatch1 (X : Stand p l e R s m args below meth c T locs cells slots) (a : Addr) {g : JFrame} (hg : g.method = m) {own name : String} (hown : s.vm.findClass own = some m.cls) {x : ExceptionTableEntry} {rest : List ExceptionTableEntry} (hsplit : c.exceptionTable.toList = x :: rest) (hx : covers x g.pc = true) (h0 : x.catchType ≠ 0)
    (hlink : (Cond.classLink own x.catchType name).before args s = true) {cT : ClassId} {cell : Cell} (hcT : s.vm.findClass name = some cT) (hcell : T.heap[a]? = some cell) (hobj : cell.vm.isStatics = false) (hk : ∃ k, s.vm.classes[cell.cls]? = some k) (hfit : s.vm.assignable cell.cls cT = true) :
    ∃ vm', Stand p l e R s m args below meth c (T.setVm vm') locs cells slots ∧ ∀ target, Steps p.tables e below ((T.setVm vm').setTop { g with pc := x.handlerPc, stack := [.ref a] }) target → Steps p.tables e below ((T.setTop g).pushFrame (.throwing a)) target := by
  obtain ⟨h1, h2, h3⟩ := zlinkAt X hown hlink hcT X.warmed
  obtain ⟨k0, hk0⟩ := hk
  obtain ⟨k1, hk1, -⟩ := X.warmed.alike.2.2 _ _ hk0
  refine ⟨_, X.noted h2, fun target hrest => ?_⟩
  subst hg
  refine zcaught X.here ?_ hrest
  intro Q E d acts
  rw [W.findHandler_eq (s := (T.setTop g).pushFrame (.throwing a)) (meth := meth) (code := c) X.method' X.code, hsplit, zgo_link (s := (T.setTop g).pushFrame (.throwing a)) hx h0 (c := cT) (cell := cell) h1 hcell (VmData.ne_statics_of hobj) ⟨k1, hk1⟩ h3, if_pos (show ((T.setTop g).pushFrame (.throwing a)).vm.assignable cell.cls cT = true by show T.vm.assignable cell.cls cT = true; rw [X.warmed.alike.assignable]; exact hfit)]
  rfl
theorem zcatch2 (X : Stand p l e R s m args below meth c T locs cells slots) (a : Addr) {g : JFrame} (hg : g.method = m) {own name name1 : String} (hown : s.vm.findClass own = some m.cls) {x y : ExceptionTableEntry} {rest : List ExceptionTableEntry} (hsplit : c.exceptionTable.toList = y :: x :: rest) (hy : covers y g.pc = true) (hy0 : y.catchType ≠ 0) (hx : covers x g.pc = true) (h0 : x.catchType ≠ 0)
    (hlink1 : (Cond.classLink own y.catchType name1).before args s = true) {cT1 : ClassId} (hcT1 : s.vm.findClass name1 = some cT1) (hlink : (Cond.classLink own x.catchType name).before args s = true) {cT : ClassId} {cell : Cell} (hcT : s.vm.findClass name = some cT) (hcell : T.heap[a]? = some cell) (hobj : cell.vm.isStatics = false) (hk : ∃ k, s.vm.classes[cell.cls]? = some k) (hno : s.vm.assignable cell.cls cT1 = false) (hfit : s.vm.assignable cell.cls cT = true) :
    ∃ vm', Stand p l e R s m args below meth c (T.setVm vm') locs cells slots ∧ ∀ target, Steps p.tables e below ((T.setVm vm').setTop { g with pc := x.handlerPc, stack := [.ref a] }) target → Steps p.tables e below ((T.setTop g).pushFrame (.throwing a)) target := by
  obtain ⟨h1, h2, h3⟩ := zlinkAt X hown hlink1 hcT1 X.warmed
  obtain ⟨h4, h5, h6⟩ := zlinkAt X hown hlink hcT h2
  obtain ⟨k0, hk0⟩ := hk
  obtain ⟨k1, hk1, -⟩ := X.warmed.alike.2.2 _ _ hk0
  obtain ⟨k2, hk2, -⟩ := h2.alike.2.2 _ _ hk0
  refine ⟨_, X.noted h5, fun target hrest => ?_⟩
  subst hg
  refine zcaught X.here ?_ hrest
  intro Q E d acts
  rw [W.findHandler_eq (s := (T.setTop g).pushFrame (.throwing a)) (meth := meth) (code := c) X.method' X.code, hsplit, zgo_link (s := (T.setTop g).pushFrame (.throwing a)) hy hy0 (c := cT1) (cell := cell) h1 hcell (VmData.ne_statics_of hobj) ⟨k1, hk1⟩ h3, if_neg (show ¬ ((T.setTop g).pushFrame (.throwing a)).vm.assignable cell.cls cT1 = true by show ¬ T.vm.assignable cell.cls cT1 = true; rw [X.warmed.alike.assignable, hno]; decide),
    zgo_link (s := ((T.setTop g).pushFrame (.throwing a)).setVm (((T.setTop g).pushFrame (.throwing a)).vm.noted g.method.cls y.catchType (.cls cT1))) hx h0 (c := cT) (cell := cell) h4 hcell (VmData.ne_statics_of hobj) ⟨k2, hk2⟩ h6, if_pos (show (((T.setTop g).pushFrame (.throwing a)).setVm (((T.setTop g).pushFrame (.throwing a)).vm.noted g.method.cls y.catchType (.cls cT1))).vm.assignable cell.cls cT = true by show (T.vm.noted g.method.cls y.catchType (.cls cT1)).assignable cell.cls cT = true; rw [h2.alike.assignable]; exact hfit)]
  rfl
end zCatch
/-- a call that throws, in a method with handlers: it is caught by the first -/
theorem pw_catch1 {G : zG} {M M' : zM} {R R' : Room} {P P' : Bool} {Q Q' : zO → zH → Prop} {pc : Nat} {pl : List (Option Value)} {st : List Value} {h : zH} {nc ns : Nat} (A : List Value) {idx k ci cx lo hi hpc ct : Nat} {fs : List Value} {stk : List Value} {hs : List (Nat × Nat × Nat × Nat)} {cls : String} (hPP : P = true → P' = true) (hd : decode M.code pc = .ok (.invokevirtual idx, 3)) (hl : zLV M.nm.cls idx M' A.length) (hh : h[k]? = some (.inr (ci, fs))) (hc : (zCl[ci]?).map Prod.fst = some M'.nm.cls) (hst : stk = A.reverse ++ .ref k :: st) (hA : ∀ v ∈ A, v.category = 1) (hmax : A.length + 1 ≤ M'.maxL) (hf : zfit M' R' R nc ns) (hw : (st.map fun v => v.category).sum ≤ 8)
    (hhs : M.hs = (lo, hi, hpc, ct) :: hs) (hlo : lo ≤ pc ∧ pc < hi) (hct : ct ≠ 0) (hx : zCl[cx]? = some (cls, T_0, 0)) (hlk : Cond.classLink M.nm.cls ct cls ∈ zT) (hcast : Cond.castable cls cls ∈ zNw)
    (hb : PW G M' R' P' Q' 0 (zentry M'.maxL (.ref k :: A)) [] h 0 0) (hthr : ∀ r h', Q' r h' → ∃ y, r = .inr (cx, y) ∧ h'[y]? = some (.inr (cx, []))) (kk : ∀ y h', Q' (.inr (cx, y)) h' → PW G M R P Q hpc pl [.ref y] h' (nc + R'.cells) (ns + R'.slots)) : PW G M R P Q pc pl stk h nc ns := by
  subst hst
  intro p e s m args below meth c ad0 n C ad H locs ls hI T hT X
  obtain ⟨q, h', ad', B, L, h1, hI', X', hgo⟩ := zthrow hPP C hI hT X hd hl hh hc hA hmax hf hw hb (fun r h' hq => by obtain ⟨y, e1, -⟩ := hthr r h' hq; exact ⟨_, e1⟩)
  obtain ⟨y, e1, hy⟩ := hthr _ _ h1
  cases e1
  obtain ⟨r, hr1, cell, g1, g2, g3, -⟩ := hI'.2.2.1.1 y _ (zw_get hy)
  have htab := C.tab
  rw [hhs] at htab
  obtain ⟨x, rest, t1, t2, t3⟩ := List.map_eq_cons_iff.mp htab
  obtain ⟨u1, u2, u3, u4⟩ : x.startPc = lo ∧ x.endPc = hi ∧ x.handlerPc = hpc ∧ x.catchType = ct := by simpa using t2
  obtain ⟨c3, c4, w1, w2, w3⟩ := Cond.castable_spec (va_Nw.use (A := args) rfl (C.Z.2.2.2.2.1 _ hcast))
  cases w1.symm.trans w2
  have hKc := (C.K.1 cx _ hx).2
  have hcc : cell.cls = c3 := g2.trans (Option.some.inj (hKc.1.symm.trans w1))
  obtain ⟨kC, hkC, -⟩ := hKc.2
  obtain ⟨vm', X2, hgo2⟩ := zcatch1 X' (ad' y) (g := F0 m pc ls (st.map (zv ad))) rfl C.own t1 (by simp only [covers, u1, u2, Bool.and_eq_true, decide_eq_true_eq]; exact hlo) (by rw [u4]; exact hct) (by rw [u4]; exact C.ts _ hlk) w1 g1 (by rw [g3]; rfl) ⟨kC, by rw [g2]; exact hkC⟩ (by rw [hcc]; exact w3)
  obtain ⟨t, a1, b1⟩ := kk y h' h1 p e s m args below meth c ad0 n C ad' B.heap (locs ++ L) ls hI' (B.setVm vm') rfl X2
  refine ⟨t, hgo _ (hgo2 _ ?_), b1⟩
  rw [u3]
  exact a1
theorem pw_catch2 {G : zG} {M M' : zM} {R R' : Room} {P P' : Bool} {Q Q' : zO → zH → Prop} {pc : Nat} {pl : List (Option Value)} {st : List Value} {h : zH} {nc ns : Nat} (A : List Value) {idx k ci cx lo hi hpc ct lo1 hi1 hpc1 ct1 : Nat} {fs : List Value} {stk : List Value} {hs : List (Nat × Nat × Nat × Nat)} (hPP : P = true → P' = true) (hd : decode M.code pc = .ok (.invokevirtual idx, 3)) (hl : zLV M.nm.cls idx M' A.length) (hh : h[k]? = some (.inr (ci, fs))) (hc : (zCl[ci]?).map Prod.fst = some M'.nm.cls) (hst : stk = A.reverse ++ .ref k :: st) (hA : ∀ v ∈ A, v.category = 1) (hmax : A.length + 1 ≤ M'.maxL) (hf : zfit M' R' R nc ns) (hw : (st.map fun v => v.category).sum ≤ 8)
    (hhs : M.hs = (lo1, hi1, hpc1, ct1) :: (lo, hi, hpc, ct) :: hs) (hlo1 : lo1 ≤ pc ∧ pc < hi1) (hct1 : ct1 ≠ 0) (hlo : lo ≤ pc ∧ pc < hi) (hct : ct ≠ 0) (hx : zCl[cx]? = some ("java/lang/IllegalStateException", T_0, 0)) (hlk1 : Cond.classLink M.nm.cls ct1 "java/lang/IllegalArgumentException" ∈ zT) (hlk : Cond.classLink M.nm.cls ct "java/lang/IllegalStateException" ∈ zT) (hcast : Cond.castable "java/lang/IllegalStateException" "java/lang/IllegalStateException" ∈ zNw)
    (hb : PW G M' R' P' Q' 0 (zentry M'.maxL (.ref k :: A)) [] h 0 0) (hthr : ∀ r h', Q' r h' → ∃ y, r = .inr (cx, y) ∧ h'[y]? = some (.inr (cx, []))) (kk : ∀ y h', Q' (.inr (cx, y)) h' → PW G M R P Q hpc pl [.ref y] h' (nc + R'.cells) (ns + R'.slots)) : PW G M R P Q pc pl stk h nc ns := by
  subst hst
  intro p e s m args below meth c ad0 n C ad H locs ls hI T hT X
  obtain ⟨q, h', ad', B, L, h1, hI', X', hgo⟩ := zthrow hPP C hI hT X hd hl hh hc hA hmax hf hw hb (fun r h' hq => by obtain ⟨y, e1, -⟩ := hthr r h' hq; exact ⟨_, e1⟩)
  obtain ⟨y, e1, hy⟩ := hthr _ _ h1
  cases e1
  obtain ⟨r, hr1, cell, g1, g2, g3, -⟩ := hI'.2.2.1.1 y _ (zw_get hy)
  have htab := C.tab
  rw [hhs] at htab
  obtain ⟨x1, rest1, t1, t2, t3⟩ := List.map_eq_cons_iff.mp htab
  obtain ⟨x, rest, t4, t5, t6⟩ := List.map_eq_cons_iff.mp t3
  rw [t4] at t1
  obtain ⟨v1, v2, v3, v4⟩ : x1.startPc = lo1 ∧ x1.endPc = hi1 ∧ x1.handlerPc = hpc1 ∧ x1.catchType = ct1 := by simpa using t2
  obtain ⟨u1, u2, u3, u4⟩ : x.startPc = lo ∧ x.endPc = hi ∧ x.handlerPc = hpc ∧ x.catchType = ct := by simpa using t5
  obtain ⟨c3, c4, w1, w2, w3⟩ := Cond.castable_spec (va_Nw.use (A := args) rfl (C.Z.2.2.2.2.1 _ hcast))
  cases w1.symm.trans w2
  obtain ⟨c5, c6, z1, z2, z3⟩ := C.Z.2.2.2.2.2.2.2.2
  cases w1.symm.trans z1
  have hKc := (C.K.1 cx _ hx).2
  have hcc : cell.cls = c3 := g2.trans (Option.some.inj (hKc.1.symm.trans w1))
  obtain ⟨kC, hkC, -⟩ := hKc.2
  obtain ⟨vm', X2, hgo2⟩ := zcatch2 X' (ad' y) (g := F0 m pc ls (st.map (zv ad))) rfl C.own t1 (by simp only [covers, v1, v2, Bool.and_eq_true, decide_eq_true_eq]; exact hlo1) (by rw [v4]; exact hct1) (by simp only [covers, u1, u2, Bool.and_eq_true, decide_eq_true_eq]; exact hlo) (by rw [u4]; exact hct) (by rw [v4]; exact C.ts _ hlk1) z2 (by rw [u4]; exact C.ts _ hlk) w1 g1 (by rw [g3]; rfl) ⟨kC, by rw [g2]; exact hkC⟩ (by rw [hcc]; exact z3) (by rw [hcc]; exact w3)
  obtain ⟨t, a1, b1⟩ := kk y h' h1 p e s m args below meth c ad0 n C ad' B.heap (locs ++ L) ls hI' (B.setVm vm') rfl X2
  refine ⟨t, hgo _ (hgo2 _ ?_), b1⟩
  rw [u3]
  exact a1
end
