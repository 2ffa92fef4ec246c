section
-- ===== PART A: goes FIRST, ahead of the names: the tables' words, and 'selects' of the private methods out of them =====
/-- a private method of a class that the tables say can be made, by its rows of tables_1 -/
def lw_okq (q : MethodName × Nat) : Prop := (q.1.cls ≠ "java/lang/invoke/MethodHandle" ∧ q.1.cls ≠ "java/lang/invoke/VarHandle") ∧ Cond.instantiable q.1.cls q.2 ∈ tables_1 ∧ Cond.privateMethod q.1 ∈ tables_1 ∧ Cond.instanceMethod q.1 ∈ tables_1
theorem lw_p0 : lw_okq (⟨"WedgePlanes$Rock", "addFace", "(I)V"⟩, 17) := ⟨⟨by decide +kernel, by decide +kernel⟩, List.mem_of_getElem? (i := 69) (by decide +kernel), List.mem_of_getElem? (i := 151) (by decide +kernel), List.mem_of_getElem? (i := 152) (by decide +kernel)⟩
theorem lw_p1 : lw_okq (⟨"WedgePlanes$Rock", "meet", "(LWedgePlanes$Plane;LWedgePlanes$Plane;LWedgePlanes$Plane;)V"⟩, 17) := ⟨⟨by decide +kernel, by decide +kernel⟩, List.mem_of_getElem? (i := 69) (by decide +kernel), List.mem_of_getElem? (i := 166) (by decide +kernel), List.mem_of_getElem? (i := 167) (by decide +kernel)⟩
theorem lw_p2 : lw_okq (⟨"WedgePlanes$Rock", "addPoint", "(IIII)V"⟩, 17) := ⟨⟨by decide +kernel, by decide +kernel⟩, List.mem_of_getElem? (i := 69) (by decide +kernel), List.mem_of_getElem? (i := 179) (by decide +kernel), List.mem_of_getElem? (i := 180) (by decide +kernel)⟩
theorem lw_p3 : lw_okq (⟨"WedgePlanes$Rock", "isInBox", "(IIII)Z"⟩, 17) := ⟨⟨by decide +kernel, by decide +kernel⟩, List.mem_of_getElem? (i := 69) (by decide +kernel), List.mem_of_getElem? (i := 183) (by decide +kernel), List.mem_of_getElem? (i := 184) (by decide +kernel)⟩
theorem lw_p4 : lw_okq (⟨"WedgePlanes$Rock", "findBlocks", "()V"⟩, 17) := ⟨⟨by decide +kernel, by decide +kernel⟩, List.mem_of_getElem? (i := 69) (by decide +kernel), List.mem_of_getElem? (i := 198) (by decide +kernel), List.mem_of_getElem? (i := 199) (by decide +kernel)⟩
theorem lw_p5 : lw_okq (⟨"WedgePlanes$Rock", "findBlock", "(I)V"⟩, 17) := ⟨⟨by decide +kernel, by decide +kernel⟩, List.mem_of_getElem? (i := 69) (by decide +kernel), List.mem_of_getElem? (i := 202) (by decide +kernel), List.mem_of_getElem? (i := 203) (by decide +kernel)⟩
theorem lw_p6 : lw_okq (⟨"WedgePlanes$Rock", "addBlock", "(III)V"⟩, 17) := ⟨⟨by decide +kernel, by decide +kernel⟩, List.mem_of_getElem? (i := 69) (by decide +kernel), List.mem_of_getElem? (i := 210) (by decide +kernel), List.mem_of_getElem? (i := 211) (by decide +kernel)⟩
theorem lw_p7 : lw_okq (⟨"WedgePlanes", "putAllBack", "()V"⟩, 10) := ⟨⟨by decide +kernel, by decide +kernel⟩, List.mem_of_getElem? (i := 17) (by decide +kernel), List.mem_of_getElem? (i := 310) (by decide +kernel), List.mem_of_getElem? (i := 311) (by decide +kernel)⟩
theorem lw_p8 : lw_okq (⟨"WedgePlanes", "takeLeast", "()Z"⟩, 10) := ⟨⟨by decide +kernel, by decide +kernel⟩, List.mem_of_getElem? (i := 17) (by decide +kernel), List.mem_of_getElem? (i := 334) (by decide +kernel), List.mem_of_getElem? (i := 335) (by decide +kernel)⟩
theorem lw_p9 : lw_okq (⟨"WedgePlanes", "leastDirection", "(I)I"⟩, 10) := ⟨⟨by decide +kernel, by decide +kernel⟩, List.mem_of_getElem? (i := 17) (by decide +kernel), List.mem_of_getElem? (i := 338) (by decide +kernel), List.mem_of_getElem? (i := 339) (by decide +kernel)⟩
theorem lw_p10 : lw_okq (⟨"WedgePlanes", "lookAtHold", "(I)V"⟩, 10) := ⟨⟨by decide +kernel, by decide +kernel⟩, List.mem_of_getElem? (i := 17) (by decide +kernel), List.mem_of_getElem? (i := 342) (by decide +kernel), List.mem_of_getElem? (i := 343) (by decide +kernel)⟩
theorem lw_p11 : lw_okq (⟨"WedgePlanes", "isFree", "(II)Z"⟩, 10) := ⟨⟨by decide +kernel, by decide +kernel⟩, List.mem_of_getElem? (i := 17) (by decide +kernel), List.mem_of_getElem? (i := 351) (by decide +kernel), List.mem_of_getElem? (i := 352) (by decide +kernel)⟩
theorem lw_p12 : lw_okq (⟨"WedgePlanes", "putAway", "(II)V"⟩, 10) := ⟨⟨by decide +kernel, by decide +kernel⟩, List.mem_of_getElem? (i := 17) (by decide +kernel), List.mem_of_getElem? (i := 377) (by decide +kernel), List.mem_of_getElem? (i := 378) (by decide +kernel)⟩
theorem lw_p13 : lw_okq (⟨"WedgePlanes", "isJoint", "(IIII)Z"⟩, 10) := ⟨⟨by decide +kernel, by decide +kernel⟩, List.mem_of_getElem? (i := 17) (by decide +kernel), List.mem_of_getElem? (i := 397) (by decide +kernel), List.mem_of_getElem? (i := 398) (by decide +kernel)⟩
theorem lw_p14 : lw_okq (⟨"java/lang/Throwable", "fillInStackTrace", "(I)Ljava/lang/Throwable;"⟩, 6) := ⟨⟨by decide +kernel, by decide +kernel⟩, List.mem_of_getElem? (i := 456) (by decide +kernel), List.mem_of_getElem? (i := 454) (by decide +kernel), List.mem_of_getElem? (i := 455) (by decide +kernel)⟩
theorem lw_p15 : lw_okq (⟨"WedgePlanes", "needBlock", "(I)V"⟩, 10) := ⟨⟨by decide +kernel, by decide +kernel⟩, List.mem_of_getElem? (i := 17) (by decide +kernel), List.mem_of_getElem? (i := 557) (by decide +kernel), List.mem_of_getElem? (i := 558) (by decide +kernel)⟩
def lw_privs_1 : List (MethodName × Nat) := [(⟨"WedgePlanes$Rock", "addFace", "(I)V"⟩, 17), (⟨"WedgePlanes$Rock", "meet", "(LWedgePlanes$Plane;LWedgePlanes$Plane;LWedgePlanes$Plane;)V"⟩, 17), (⟨"WedgePlanes$Rock", "addPoint", "(IIII)V"⟩, 17), (⟨"WedgePlanes$Rock", "isInBox", "(IIII)Z"⟩, 17), (⟨"WedgePlanes$Rock", "findBlocks", "()V"⟩, 17), (⟨"WedgePlanes$Rock", "findBlock", "(I)V"⟩, 17), (⟨"WedgePlanes$Rock", "addBlock", "(III)V"⟩, 17), (⟨"WedgePlanes", "putAllBack", "()V"⟩, 10), (⟨"WedgePlanes", "takeLeast", "()Z"⟩, 10), (⟨"WedgePlanes", "leastDirection", "(I)I"⟩, 10), (⟨"WedgePlanes", "lookAtHold", "(I)V"⟩, 10), (⟨"WedgePlanes", "isFree", "(II)Z"⟩, 10), (⟨"WedgePlanes", "putAway", "(II)V"⟩, 10), (⟨"WedgePlanes", "isJoint", "(IIII)Z"⟩, 10), (⟨"java/lang/Throwable", "fillInStackTrace", "(I)Ljava/lang/Throwable;"⟩, 6), (⟨"WedgePlanes", "needBlock", "(I)V"⟩, 10)]
theorem lw_r1 : ∀ q ∈ lw_privs_1, lw_okq q := List.forall_mem_cons.mpr ⟨lw_p0, List.forall_mem_cons.mpr ⟨lw_p1, List.forall_mem_cons.mpr ⟨lw_p2, List.forall_mem_cons.mpr ⟨lw_p3, List.forall_mem_cons.mpr ⟨lw_p4, List.forall_mem_cons.mpr ⟨lw_p5, List.forall_mem_cons.mpr ⟨lw_p6, List.forall_mem_cons.mpr ⟨lw_p7, List.forall_mem_cons.mpr ⟨lw_p8, List.forall_mem_cons.mpr ⟨lw_p9, List.forall_mem_cons.mpr ⟨lw_p10, List.forall_mem_cons.mpr ⟨lw_p11, List.forall_mem_cons.mpr ⟨lw_p12, List.forall_mem_cons.mpr ⟨lw_p13, List.forall_mem_cons.mpr ⟨lw_p14, List.forall_mem_cons.mpr ⟨lw_p15, fun _ h => absurd h List.not_mem_nil⟩⟩⟩⟩⟩⟩⟩⟩⟩⟩⟩⟩⟩⟩⟩⟩
theorem lw_p16 : lw_okq (⟨"WedgePlanes$Rock", "isOnSides", "(IIII)Z"⟩, 17) := ⟨⟨by decide +kernel, by decide +kernel⟩, List.mem_of_getElem? (i := 69) (by decide +kernel), List.mem_of_getElem? (i := 566) (by decide +kernel), List.mem_of_getElem? (i := 567) (by decide +kernel)⟩
theorem lw_p17 : lw_okq (⟨"WedgePlanes$Rock", "sortIn", "(II)V"⟩, 17) := ⟨⟨by decide +kernel, by decide +kernel⟩, List.mem_of_getElem? (i := 69) (by decide +kernel), List.mem_of_getElem? (i := 584) (by decide +kernel), List.mem_of_getElem? (i := 585) (by decide +kernel)⟩
theorem lw_p18 : lw_okq (⟨"WedgePlanes$Hold", "slideOnOne", "(LWedgePlanes$Arrow;)I"⟩, 4) := ⟨⟨by decide +kernel, by decide +kernel⟩, List.mem_of_getElem? (i := 25) (by decide +kernel), List.mem_of_getElem? (i := 645) (by decide +kernel), List.mem_of_getElem? (i := 646) (by decide +kernel)⟩
theorem lw_p19 : lw_okq (⟨"WedgePlanes$Hold", "slideOnTwo", "(LWedgePlanes$Arrow;)I"⟩, 4) := ⟨⟨by decide +kernel, by decide +kernel⟩, List.mem_of_getElem? (i := 25) (by decide +kernel), List.mem_of_getElem? (i := 649) (by decide +kernel), List.mem_of_getElem? (i := 650) (by decide +kernel)⟩
theorem lw_p20 : lw_okq (⟨"WedgePlanes$Hold", "slidesAlong", "(IILWedgePlanes$Arrow;)Z"⟩, 4) := ⟨⟨by decide +kernel, by decide +kernel⟩, List.mem_of_getElem? (i := 25) (by decide +kernel), List.mem_of_getElem? (i := 653) (by decide +kernel), List.mem_of_getElem? (i := 654) (by decide +kernel)⟩
theorem lw_p21 : lw_okq (⟨"WedgePlanesModel", "cut", "()V"⟩, 25) := ⟨⟨by decide +kernel, by decide +kernel⟩, List.mem_of_getElem? (i := 665) (by decide +kernel), List.mem_of_getElem? (i := 674) (by decide +kernel), List.mem_of_getElem? (i := 675) (by decide +kernel)⟩
theorem lw_p22 : lw_okq (⟨"WedgePlanesModel", "isThere", "(I)Z"⟩, 25) := ⟨⟨by decide +kernel, by decide +kernel⟩, List.mem_of_getElem? (i := 665) (by decide +kernel), List.mem_of_getElem? (i := 678) (by decide +kernel), List.mem_of_getElem? (i := 679) (by decide +kernel)⟩
theorem lw_p23 : lw_okq (⟨"WedgePlanesModel", "make", "(III)V"⟩, 25) := ⟨⟨by decide +kernel, by decide +kernel⟩, List.mem_of_getElem? (i := 665) (by decide +kernel), List.mem_of_getElem? (i := 682) (by decide +kernel), List.mem_of_getElem? (i := 683) (by decide +kernel)⟩
theorem lw_p24 : lw_okq (⟨"WedgePlanesModel", "determinant", "(IIII)I"⟩, 25) := ⟨⟨by decide +kernel, by decide +kernel⟩, List.mem_of_getElem? (i := 665) (by decide +kernel), List.mem_of_getElem? (i := 686) (by decide +kernel), List.mem_of_getElem? (i := 687) (by decide +kernel)⟩
theorem lw_p25 : lw_okq (⟨"WedgePlanesModel", "part", "(III)I"⟩, 25) := ⟨⟨by decide +kernel, by decide +kernel⟩, List.mem_of_getElem? (i := 665) (by decide +kernel), List.mem_of_getElem? (i := 690) (by decide +kernel), List.mem_of_getElem? (i := 691) (by decide +kernel)⟩
theorem lw_p26 : lw_okq (⟨"WedgePlanesModel", "order", "(I)I"⟩, 25) := ⟨⟨by decide +kernel, by decide +kernel⟩, List.mem_of_getElem? (i := 665) (by decide +kernel), List.mem_of_getElem? (i := 697) (by decide +kernel), List.mem_of_getElem? (i := 698) (by decide +kernel)⟩
theorem lw_p27 : lw_okq (⟨"WedgePlanesModel", "more", "(II)I"⟩, 25) := ⟨⟨by decide +kernel, by decide +kernel⟩, List.mem_of_getElem? (i := 665) (by decide +kernel), List.mem_of_getElem? (i := 701) (by decide +kernel), List.mem_of_getElem? (i := 702) (by decide +kernel)⟩
theorem lw_p28 : lw_okq (⟨"WedgePlanesModel", "freeOf", "(II)I"⟩, 25) := ⟨⟨by decide +kernel, by decide +kernel⟩, List.mem_of_getElem? (i := 665) (by decide +kernel), List.mem_of_getElem? (i := 705) (by decide +kernel), List.mem_of_getElem? (i := 706) (by decide +kernel)⟩
theorem lw_p29 : lw_okq (⟨"WedgePlanesModel", "isOf", "(II)Z"⟩, 25) := ⟨⟨by decide +kernel, by decide +kernel⟩, List.mem_of_getElem? (i := 665) (by decide +kernel), List.mem_of_getElem? (i := 709) (by decide +kernel), List.mem_of_getElem? (i := 710) (by decide +kernel)⟩
theorem lw_p30 : lw_okq (⟨"WedgePlanesModel", "all", "()I"⟩, 25) := ⟨⟨by decide +kernel, by decide +kernel⟩, List.mem_of_getElem? (i := 665) (by decide +kernel), List.mem_of_getElem? (i := 713) (by decide +kernel), List.mem_of_getElem? (i := 714) (by decide +kernel)⟩
theorem lw_p31 : lw_okq (⟨"WedgePlanesModel", "findFaces", "(I)I"⟩, 25) := ⟨⟨by decide +kernel, by decide +kernel⟩, List.mem_of_getElem? (i := 665) (by decide +kernel), List.mem_of_getElem? (i := 717) (by decide +kernel), List.mem_of_getElem? (i := 718) (by decide +kernel)⟩
def lw_privs_2 : List (MethodName × Nat) := [(⟨"WedgePlanes$Rock", "isOnSides", "(IIII)Z"⟩, 17), (⟨"WedgePlanes$Rock", "sortIn", "(II)V"⟩, 17), (⟨"WedgePlanes$Hold", "slideOnOne", "(LWedgePlanes$Arrow;)I"⟩, 4), (⟨"WedgePlanes$Hold", "slideOnTwo", "(LWedgePlanes$Arrow;)I"⟩, 4), (⟨"WedgePlanes$Hold", "slidesAlong", "(IILWedgePlanes$Arrow;)Z"⟩, 4), (⟨"WedgePlanesModel", "cut", "()V"⟩, 25), (⟨"WedgePlanesModel", "isThere", "(I)Z"⟩, 25), (⟨"WedgePlanesModel", "make", "(III)V"⟩, 25), (⟨"WedgePlanesModel", "determinant", "(IIII)I"⟩, 25), (⟨"WedgePlanesModel", "part", "(III)I"⟩, 25), (⟨"WedgePlanesModel", "order", "(I)I"⟩, 25), (⟨"WedgePlanesModel", "more", "(II)I"⟩, 25), (⟨"WedgePlanesModel", "freeOf", "(II)I"⟩, 25), (⟨"WedgePlanesModel", "isOf", "(II)Z"⟩, 25), (⟨"WedgePlanesModel", "all", "()I"⟩, 25), (⟨"WedgePlanesModel", "findFaces", "(I)I"⟩, 25)]
theorem lw_r2 : ∀ q ∈ lw_privs_2, lw_okq q := List.forall_mem_cons.mpr ⟨lw_p16, List.forall_mem_cons.mpr ⟨lw_p17, List.forall_mem_cons.mpr ⟨lw_p18, List.forall_mem_cons.mpr ⟨lw_p19, List.forall_mem_cons.mpr ⟨lw_p20, List.forall_mem_cons.mpr ⟨lw_p21, List.forall_mem_cons.mpr ⟨lw_p22, List.forall_mem_cons.mpr ⟨lw_p23, List.forall_mem_cons.mpr ⟨lw_p24, List.forall_mem_cons.mpr ⟨lw_p25, List.forall_mem_cons.mpr ⟨lw_p26, List.forall_mem_cons.mpr ⟨lw_p27, List.forall_mem_cons.mpr ⟨lw_p28, List.forall_mem_cons.mpr ⟨lw_p29, List.forall_mem_cons.mpr ⟨lw_p30, List.forall_mem_cons.mpr ⟨lw_p31, fun _ h => absurd h List.not_mem_nil⟩⟩⟩⟩⟩⟩⟩⟩⟩⟩⟩⟩⟩⟩⟩⟩
theorem lw_p32 : lw_okq (⟨"WedgePlanesModel", "isRight", "(IIII)Z"⟩, 25) := ⟨⟨by decide +kernel, by decide +kernel⟩, List.mem_of_getElem? (i := 665) (by decide +kernel), List.mem_of_getElem? (i := 805) (by decide +kernel), List.mem_of_getElem? (i := 806) (by decide +kernel)⟩
theorem lw_p33 : lw_okq (⟨"WedgePlanesModel", "isSame", "(IIIII)Z"⟩, 25) := ⟨⟨by decide +kernel, by decide +kernel⟩, List.mem_of_getElem? (i := 665) (by decide +kernel), List.mem_of_getElem? (i := 812) (by decide +kernel), List.mem_of_getElem? (i := 813) (by decide +kernel)⟩
theorem lw_p34 : lw_okq (⟨"WedgePlanesModel", "isBlock", "(I)Z"⟩, 25) := ⟨⟨by decide +kernel, by decide +kernel⟩, List.mem_of_getElem? (i := 665) (by decide +kernel), List.mem_of_getElem? (i := 843) (by decide +kernel), List.mem_of_getElem? (i := 844) (by decide +kernel)⟩
theorem lw_p35 : lw_okq (⟨"WedgePlanesModel", "cornersOf", "(I)I"⟩, 25) := ⟨⟨by decide +kernel, by decide +kernel⟩, List.mem_of_getElem? (i := 665) (by decide +kernel), List.mem_of_getElem? (i := 847) (by decide +kernel), List.mem_of_getElem? (i := 848) (by decide +kernel)⟩
theorem lw_p36 : lw_okq (⟨"WedgePlanesModel", "insideOf", "(I)I"⟩, 25) := ⟨⟨by decide +kernel, by decide +kernel⟩, List.mem_of_getElem? (i := 665) (by decide +kernel), List.mem_of_getElem? (i := 851) (by decide +kernel), List.mem_of_getElem? (i := 852) (by decide +kernel)⟩
theorem lw_p37 : lw_okq (⟨"WedgePlanesModel", "isInside", "(IIII)Z"⟩, 25) := ⟨⟨by decide +kernel, by decide +kernel⟩, List.mem_of_getElem? (i := 665) (by decide +kernel), List.mem_of_getElem? (i := 855) (by decide +kernel), List.mem_of_getElem? (i := 856) (by decide +kernel)⟩
theorem lw_p38 : lw_okq (⟨"WedgePlanesModel", "isFace", "(II)Z"⟩, 25) := ⟨⟨by decide +kernel, by decide +kernel⟩, List.mem_of_getElem? (i := 665) (by decide +kernel), List.mem_of_getElem? (i := 871) (by decide +kernel), List.mem_of_getElem? (i := 872) (by decide +kernel)⟩
theorem lw_p39 : lw_okq (⟨"WedgePlanesModel", "canGoBy", "(II)Z"⟩, 25) := ⟨⟨by decide +kernel, by decide +kernel⟩, List.mem_of_getElem? (i := 665) (by decide +kernel), List.mem_of_getElem? (i := 880) (by decide +kernel), List.mem_of_getElem? (i := 881) (by decide +kernel)⟩
theorem lw_p40 : lw_okq (⟨"WedgePlanesModel", "canGo", "(I)Z"⟩, 25) := ⟨⟨by decide +kernel, by decide +kernel⟩, List.mem_of_getElem? (i := 665) (by decide +kernel), List.mem_of_getElem? (i := 884) (by decide +kernel), List.mem_of_getElem? (i := 885) (by decide +kernel)⟩
theorem lw_p41 : lw_okq (⟨"WedgePlanesModel", "holds", "(II)Z"⟩, 25) := ⟨⟨by decide +kernel, by decide +kernel⟩, List.mem_of_getElem? (i := 665) (by decide +kernel), List.mem_of_getElem? (i := 888) (by decide +kernel), List.mem_of_getElem? (i := 889) (by decide +kernel)⟩
theorem lw_p42 : lw_okq (⟨"WedgePlanesModel", "inward", "(II[I)V"⟩, 25) := ⟨⟨by decide +kernel, by decide +kernel⟩, List.mem_of_getElem? (i := 665) (by decide +kernel), List.mem_of_getElem? (i := 892) (by decide +kernel), List.mem_of_getElem? (i := 893) (by decide +kernel)⟩
theorem lw_p43 : lw_okq (⟨"WedgePlanesModel", "taking", "(I)I"⟩, 25) := ⟨⟨by decide +kernel, by decide +kernel⟩, List.mem_of_getElem? (i := 665) (by decide +kernel), List.mem_of_getElem? (i := 903) (by decide +kernel), List.mem_of_getElem? (i := 904) (by decide +kernel)⟩
theorem lw_p44 : lw_okq (⟨"WedgePlanesModel", "slidesOn", "(II)Z"⟩, 25) := ⟨⟨by decide +kernel, by decide +kernel⟩, List.mem_of_getElem? (i := 665) (by decide +kernel), List.mem_of_getElem? (i := 923) (by decide +kernel), List.mem_of_getElem? (i := 924) (by decide +kernel)⟩
theorem lw_p45 : lw_okq (⟨"WedgePlanesModel", "slide", "([I[I)V"⟩, 25) := ⟨⟨by decide +kernel, by decide +kernel⟩, List.mem_of_getElem? (i := 665) (by decide +kernel), List.mem_of_getElem? (i := 927) (by decide +kernel), List.mem_of_getElem? (i := 928) (by decide +kernel)⟩
theorem lw_p46 : lw_okq (⟨"WedgePlanesModel", "slidesAlong", "(III)Z"⟩, 25) := ⟨⟨by decide +kernel, by decide +kernel⟩, List.mem_of_getElem? (i := 665) (by decide +kernel), List.mem_of_getElem? (i := 931) (by decide +kernel), List.mem_of_getElem? (i := 932) (by decide +kernel)⟩
def lw_privs_3 : List (MethodName × Nat) := [(⟨"WedgePlanesModel", "isRight", "(IIII)Z"⟩, 25), (⟨"WedgePlanesModel", "isSame", "(IIIII)Z"⟩, 25), (⟨"WedgePlanesModel", "isBlock", "(I)Z"⟩, 25), (⟨"WedgePlanesModel", "cornersOf", "(I)I"⟩, 25), (⟨"WedgePlanesModel", "insideOf", "(I)I"⟩, 25), (⟨"WedgePlanesModel", "isInside", "(IIII)Z"⟩, 25), (⟨"WedgePlanesModel", "isFace", "(II)Z"⟩, 25), (⟨"WedgePlanesModel", "canGoBy", "(II)Z"⟩, 25), (⟨"WedgePlanesModel", "canGo", "(I)Z"⟩, 25), (⟨"WedgePlanesModel", "holds", "(II)Z"⟩, 25), (⟨"WedgePlanesModel", "inward", "(II[I)V"⟩, 25), (⟨"WedgePlanesModel", "taking", "(I)I"⟩, 25), (⟨"WedgePlanesModel", "slidesOn", "(II)Z"⟩, 25), (⟨"WedgePlanesModel", "slide", "([I[I)V"⟩, 25), (⟨"WedgePlanesModel", "slidesAlong", "(III)Z"⟩, 25)]
theorem lw_r3 : ∀ q ∈ lw_privs_3, lw_okq q := List.forall_mem_cons.mpr ⟨lw_p32, List.forall_mem_cons.mpr ⟨lw_p33, List.forall_mem_cons.mpr ⟨lw_p34, List.forall_mem_cons.mpr ⟨lw_p35, List.forall_mem_cons.mpr ⟨lw_p36, List.forall_mem_cons.mpr ⟨lw_p37, List.forall_mem_cons.mpr ⟨lw_p38, List.forall_mem_cons.mpr ⟨lw_p39, List.forall_mem_cons.mpr ⟨lw_p40, List.forall_mem_cons.mpr ⟨lw_p41, List.forall_mem_cons.mpr ⟨lw_p42, List.forall_mem_cons.mpr ⟨lw_p43, List.forall_mem_cons.mpr ⟨lw_p44, List.forall_mem_cons.mpr ⟨lw_p45, List.forall_mem_cons.mpr ⟨lw_p46, fun _ h => absurd h List.not_mem_nil⟩⟩⟩⟩⟩⟩⟩⟩⟩⟩⟩⟩⟩⟩⟩
def lw_privs : List (MethodName × Nat) := lw_privs_1 ++ (lw_privs_2 ++ (lw_privs_3))
def lw_tbl : List Cond := k2_sels lw_privs ++ tables_1
theorem lw_privs_ok : ∀ q ∈ lw_privs, lw_okq q := by
  show ∀ q ∈ lw_privs_1 ++ (lw_privs_2 ++ (lw_privs_3)), lw_okq q
  exact List.forall_mem_append.mpr ⟨lw_r1, List.forall_mem_append.mpr ⟨lw_r2, lw_r3⟩⟩

/-- the words that stay -/
def zT : List Cond := lw_tbl.filter goodWord
def zisN : Cond → Bool
  | .methodLinkNest .. => true
  | .declares _ => true
  | .castable .. => true
  | _ => false
/-- words that stay by rows of their own -/
def zNw : List Cond := lw_tbl.filter zisN
def zSt : List (Nat × String) := [(73, "no plane that cuts the box, or a joint already"), (83, "there are 6 joints"), (98, "no face of the box"), (109, "parts are -9 to 9, not all 0"), (111, "there are 8 directions"), (113, "parts are -9 to 9"), (215, "no such block"), (134, "what is 0 to 4"), (136, "no such corner"), (160, "what is 0 to 3"), (165, "no such joint"), (170, "no such direction"), (190, "not so many blocks are taken"), (192, "what is 0 or 1")]
def T_Arrow : u_T := fun k => match k with
  | 0 => ("WedgePlanes$Arrow", "x", "I", false)
  | 1 => ("WedgePlanes$Arrow", "y", "I", false)
  | _ => ("WedgePlanes$Arrow", "z", "I", false)
def t_Arrow : Nat → FieldType := fun k => match k with
  | 0 => .int
  | 1 => .int
  | _ => .int
theorem n_Arrow : ∀ a, a < 3 → ∀ b, b < 3 → a ≠ b → (T_Arrow a).2.1 ≠ (T_Arrow b).2.1 := by decide +kernel
theorem t_Arrow_ok : ∀ k, k < 3 → parseFieldDescriptor (T_Arrow k).2.2.1 = some (t_Arrow k) := by decide +kernel
set_option maxRecDepth 20000 in
theorem i_Arrow : ∀ w ∈ u_ws "WedgePlanes$Arrow" T_Arrow 3, w ∈ zT := by decide +kernel
def T_Hold : u_T := fun k => match k with
  | 0 => ("WedgePlanes$Hold", "inward", "[LWedgePlanes$Arrow;", true)
  | 1 => ("WedgePlanes$Hold", "slide", "[LWedgePlanes$Arrow;", true)
  | 2 => ("WedgePlanes$Hold", "line", "LWedgePlanes$Arrow;", true)
  | _ => ("WedgePlanes$Hold", "faces", "I", false)
def t_Hold : Nat → FieldType := fun k => match k with
  | 0 => .array (.object "WedgePlanes$Arrow")
  | 1 => .array (.object "WedgePlanes$Arrow")
  | 2 => .object "WedgePlanes$Arrow"
  | _ => .int
theorem n_Hold : ∀ a, a < 4 → ∀ b, b < 4 → a ≠ b → (T_Hold a).2.1 ≠ (T_Hold b).2.1 := by decide +kernel
theorem t_Hold_ok : ∀ k, k < 4 → parseFieldDescriptor (T_Hold k).2.2.1 = some (t_Hold k) := by decide +kernel
set_option maxRecDepth 20000 in
theorem i_Hold : ∀ w ∈ u_ws "WedgePlanes$Hold" T_Hold 4, w ∈ zT := by decide +kernel
def T_Plane : u_T := fun k => match k with
  | 0 => ("WedgePlanes$Plane", "normal", "LWedgePlanes$Arrow;", true)
  | _ => ("WedgePlanes$Plane", "d", "I", false)
def t_Plane : Nat → FieldType := fun k => match k with
  | 0 => .object "WedgePlanes$Arrow"
  | _ => .int
theorem n_Plane : ∀ a, a < 2 → ∀ b, b < 2 → a ≠ b → (T_Plane a).2.1 ≠ (T_Plane b).2.1 := by decide +kernel
theorem t_Plane_ok : ∀ k, k < 2 → parseFieldDescriptor (T_Plane k).2.2.1 = some (t_Plane k) := by decide +kernel
set_option maxRecDepth 20000 in
theorem i_Plane : ∀ w ∈ u_ws "WedgePlanes$Plane" T_Plane 2, w ∈ zT := by decide +kernel
def T_Points : u_T := fun k => match k with
  | 0 => ("WedgePlanes$Points", "x", "[I", true)
  | 1 => ("WedgePlanes$Points", "y", "[I", true)
  | 2 => ("WedgePlanes$Points", "z", "[I", true)
  | 3 => ("WedgePlanes$Points", "q", "[I", true)
  | 4 => ("WedgePlanes$Points", "above", "[I", true)
  | 5 => ("WedgePlanes$Points", "below", "[I", true)
  | _ => ("WedgePlanes$Points", "count", "I", false)
def t_Points : Nat → FieldType := fun k => match k with
  | 0 => .array .int
  | 1 => .array .int
  | 2 => .array .int
  | 3 => .array .int
  | 4 => .array .int
  | 5 => .array .int
  | _ => .int
theorem n_Points : ∀ a, a < 7 → ∀ b, b < 7 → a ≠ b → (T_Points a).2.1 ≠ (T_Points b).2.1 := by decide +kernel
theorem t_Points_ok : ∀ k, k < 7 → parseFieldDescriptor (T_Points k).2.2.1 = some (t_Points k) := by decide +kernel
set_option maxRecDepth 20000 in
theorem i_Points : ∀ w ∈ u_ws "WedgePlanes$Points" T_Points 7, w ∈ zT := by decide +kernel
def T_Rock : u_T := fun k => match k with
  | 0 => ("WedgePlanes$Rock", "planes", "[LWedgePlanes$Plane;", true)
  | 1 => ("WedgePlanes$Rock", "points", "LWedgePlanes$Points;", true)
  | 2 => ("WedgePlanes$Rock", "sides", "[I", true)
  | 3 => ("WedgePlanes$Rock", "faces", "[I", true)
  | 4 => ("WedgePlanes$Rock", "cornerCounts", "[I", true)
  | 5 => ("WedgePlanes$Rock", "numbers", "[I", true)
  | 6 => ("WedgePlanes$Rock", "jointCount", "I", false)
  | 7 => ("WedgePlanes$Rock", "blockCount", "I", false)
  | 8 => ("WedgePlanes$Rock", "sizeX", "I", true)
  | 9 => ("WedgePlanes$Rock", "sizeY", "I", true)
  | 10 => ("WedgePlanes$Rock", "sizeZ", "I", true)
  | 11 => ("WedgePlanes$Rock", "pointsBefore", "[I", true)
  | 12 => ("WedgePlanes$Rock", "sorted", "[I", true)
  | 13 => ("WedgePlanes$Rock", "crossA", "LWedgePlanes$Arrow;", true)
  | 14 => ("WedgePlanes$Rock", "crossB", "LWedgePlanes$Arrow;", true)
  | 15 => ("WedgePlanes$Rock", "crossC", "LWedgePlanes$Arrow;", true)
  | _ => ("WedgePlanes$Rock", "known", "I", false)
def t_Rock : Nat → FieldType := fun k => match k with
  | 0 => .array (.object "WedgePlanes$Plane")
  | 1 => .object "WedgePlanes$Points"
  | 2 => .array .int
  | 3 => .array .int
  | 4 => .array .int
  | 5 => .array .int
  | 6 => .int
  | 7 => .int
  | 8 => .int
  | 9 => .int
  | 10 => .int
  | 11 => .array .int
  | 12 => .array .int
  | 13 => .object "WedgePlanes$Arrow"
  | 14 => .object "WedgePlanes$Arrow"
  | 15 => .object "WedgePlanes$Arrow"
  | _ => .int
theorem n_Rock : ∀ a, a < 17 → ∀ b, b < 17 → a ≠ b → (T_Rock a).2.1 ≠ (T_Rock b).2.1 := by decide +kernel
theorem t_Rock_ok : ∀ k, k < 17 → parseFieldDescriptor (T_Rock k).2.2.1 = some (t_Rock k) := by decide +kernel
set_option maxRecDepth 20000 in
theorem i_Rock : ∀ w ∈ u_ws "WedgePlanes$Rock" T_Rock 17, w ∈ zT := by decide +kernel
def T_WP : u_T := fun k => match k with
  | 0 => ("WedgePlanes", "rock", "LWedgePlanes$Rock;", true)
  | 1 => ("WedgePlanes", "hold", "LWedgePlanes$Hold;", true)
  | 2 => ("WedgePlanes", "directions", "[LWedgePlanes$Arrow;", true)
  | 3 => ("WedgePlanes", "pulling", "LWedgePlanes$Arrow;", true)
  | 4 => ("WedgePlanes", "isTaken", "[Z", true)
  | 5 => ("WedgePlanes", "takenBlocks", "[I", true)
  | 6 => ("WedgePlanes", "takenBy", "[I", true)
  | 7 => ("WedgePlanes", "takenCount", "I", false)
  | 8 => ("WedgePlanes", "directionCount", "I", false)
  | _ => ("WedgePlanes", "openFaces", "I", false)
def t_WP : Nat → FieldType := fun k => match k with
  | 0 => .object "WedgePlanes$Rock"
  | 1 => .object "WedgePlanes$Hold"
  | 2 => .array (.object "WedgePlanes$Arrow")
  | 3 => .object "WedgePlanes$Arrow"
  | 4 => .array .boolean
  | 5 => .array .int
  | 6 => .array .int
  | 7 => .int
  | 8 => .int
  | _ => .int
theorem n_WP : ∀ a, a < 10 → ∀ b, b < 10 → a ≠ b → (T_WP a).2.1 ≠ (T_WP b).2.1 := by decide +kernel
theorem t_WP_ok : ∀ k, k < 10 → parseFieldDescriptor (T_WP k).2.2.1 = some (t_WP k) := by decide +kernel
set_option maxRecDepth 20000 in
theorem i_WP : ∀ w ∈ u_ws "WedgePlanes" T_WP 10, w ∈ zT := by decide +kernel
def T_Md : u_T := fun k => match k with
  | 0 => ("WedgePlanesModel", "thrown", "I", false)
  | 1 => ("WedgePlanesModel", "sizes", "[I", true)
  | 2 => ("WedgePlanesModel", "joints", "I", false)
  | 3 => ("WedgePlanesModel", "planes", "[I", true)
  | 4 => ("WedgePlanesModel", "open", "[Z", true)
  | 5 => ("WedgePlanesModel", "directions", "I", false)
  | 6 => ("WedgePlanesModel", "told", "[I", true)
  | 7 => ("WedgePlanesModel", "pulls", "[I", true)
  | 8 => ("WedgePlanesModel", "points", "I", false)
  | 9 => ("WedgePlanesModel", "point", "[I", true)
  | 10 => ("WedgePlanesModel", "on", "[I", true)
  | 11 => ("WedgePlanesModel", "above", "[I", true)
  | 12 => ("WedgePlanesModel", "below", "[I", true)
  | 13 => ("WedgePlanesModel", "made", "[I", true)
  | 14 => ("WedgePlanesModel", "blocks", "I", false)
  | 15 => ("WedgePlanesModel", "sides", "[I", true)
  | 16 => ("WedgePlanesModel", "faces", "[I", true)
  | 17 => ("WedgePlanesModel", "isTaken", "[Z", true)
  | 18 => ("WedgePlanesModel", "taken", "I", false)
  | 19 => ("WedgePlanesModel", "takenBlock", "[I", true)
  | 20 => ("WedgePlanesModel", "takenBy", "[I", true)
  | 21 => ("WedgePlanesModel", "first", "[I", true)
  | 22 => ("WedgePlanesModel", "second", "[I", true)
  | 23 => ("WedgePlanesModel", "way", "[I", true)
  | _ => ("WedgePlanesModel", "other", "[I", true)
def t_Md : Nat → FieldType := fun k => match k with
  | 0 => .int
  | 1 => .array .int
  | 2 => .int
  | 3 => .array .int
  | 4 => .array .boolean
  | 5 => .int
  | 6 => .array .int
  | 7 => .array .int
  | 8 => .int
  | 9 => .array .int
  | 10 => .array .int
  | 11 => .array .int
  | 12 => .array .int
  | 13 => .array .int
  | 14 => .int
  | 15 => .array .int
  | 16 => .array .int
  | 17 => .array .boolean
  | 18 => .int
  | 19 => .array .int
  | 20 => .array .int
  | 21 => .array .int
  | 22 => .array .int
  | 23 => .array .int
  | _ => .array .int
theorem n_Md : ∀ a, a < 25 → ∀ b, b < 25 → a ≠ b → (T_Md a).2.1 ≠ (T_Md b).2.1 := by decide +kernel
theorem t_Md_ok : ∀ k, k < 25 → parseFieldDescriptor (T_Md k).2.2.1 = some (t_Md k) := by decide +kernel
set_option maxRecDepth 20000 in
theorem i_Md : ∀ w ∈ u_ws "WedgePlanesModel" T_Md 25, w ∈ zT := by decide +kernel
def T_0 : u_T := fun _ => ("", "", "", false)
abbrev zCl : List vw_C := [("WedgePlanes$Arrow", T_Arrow, 3), ("WedgePlanes$Hold", T_Hold, 4), ("WedgePlanes$Plane", T_Plane, 2), ("WedgePlanes$Points", T_Points, 7), ("WedgePlanes$Rock", T_Rock, 17), ("WedgePlanes", T_WP, 10), ("WedgePlanesModel", T_Md, 25), ("java/lang/IllegalArgumentException", T_0, 0), ("java/lang/IllegalStateException", T_0, 0), ("java/lang/IndexOutOfBoundsException", T_0, 0)]
abbrev zTys : List FieldType := [.int, .boolean, .long, .object "WedgePlanes$Arrow", .object "WedgePlanes$Plane"]
abbrev M_WP_init : MethodName × ByteArray × Nat × Option FieldType × List (Nat × Nat × Nat × Nat) := (⟨"WedgePlanes", "<init>", "(III)V"⟩, prog_1_method_1_code, 5, none, [])
abbrev M_Hold_init : MethodName × ByteArray × Nat × Option FieldType × List (Nat × Nat × Nat × Nat) := (⟨"WedgePlanes$Hold", "<init>", "()V"⟩, prog_3_method_1_code, 2, none, [])
abbrev M_Arrow_init : MethodName × ByteArray × Nat × Option FieldType × List (Nat × Nat × Nat × Nat) := (⟨"WedgePlanes$Arrow", "<init>", "()V"⟩, prog_2_method_1_code, 1, none, [])
abbrev M_WP_sizeFor : MethodName × ByteArray × Nat × Option FieldType × List (Nat × Nat × Nat × Nat) := (⟨"WedgePlanes", "sizeFor", "(I)I"⟩, prog_1_method_19_code, 1, some .int, [])
abbrev M_Math_min : MethodName × ByteArray × Nat × Option FieldType × List (Nat × Nat × Nat × Nat) := (⟨"java/lang/Math", "min", "(II)I"⟩, prog_14_method_69_code, 2, some .int, [])
abbrev M_Math_max : MethodName × ByteArray × Nat × Option FieldType × List (Nat × Nat × Nat × Nat) := (⟨"java/lang/Math", "max", "(II)I"⟩, prog_14_method_65_code, 2, some .int, [])
abbrev M_Rock_init : MethodName × ByteArray × Nat × Option FieldType × List (Nat × Nat × Nat × Nat) := (⟨"WedgePlanes$Rock", "<init>", "(III)V"⟩, prog_6_method_1_code, 5, none, [])
abbrev M_Points_init : MethodName × ByteArray × Nat × Option FieldType × List (Nat × Nat × Nat × Nat) := (⟨"WedgePlanes$Points", "<init>", "()V"⟩, prog_5_method_1_code, 1, none, [])
abbrev M_Plane_init : MethodName × ByteArray × Nat × Option FieldType × List (Nat × Nat × Nat × Nat) := (⟨"WedgePlanes$Plane", "<init>", "()V"⟩, prog_4_method_1_code, 1, none, [])
abbrev M_Plane_set : MethodName × ByteArray × Nat × Option FieldType × List (Nat × Nat × Nat × Nat) := (⟨"WedgePlanes$Plane", "set", "(IIII)V"⟩, prog_4_method_2_code, 5, none, [])
abbrev M_Arrow_set : MethodName × ByteArray × Nat × Option FieldType × List (Nat × Nat × Nat × Nat) := (⟨"WedgePlanes$Arrow", "set", "(III)V"⟩, prog_2_method_2_code, 4, none, [])
abbrev M_Rock_addFace : MethodName × ByteArray × Nat × Option FieldType × List (Nat × Nat × Nat × Nat) := (⟨"WedgePlanes$Rock", "addFace", "(I)V"⟩, prog_6_method_11_code, 5, none, [])
abbrev M_Points_tellSide : MethodName × ByteArray × Nat × Option FieldType × List (Nat × Nat × Nat × Nat) := (⟨"WedgePlanes$Points", "tellSide", "(IILWedgePlanes$Plane;)V"⟩, prog_5_method_4_code, 5, none, [])
abbrev M_Plane_heightOf : MethodName × ByteArray × Nat × Option FieldType × List (Nat × Nat × Nat × Nat) := (⟨"WedgePlanes$Plane", "heightOf", "(IIII)I"⟩, prog_4_method_3_code, 5, some .int, [])
abbrev M_WP_hasBit : MethodName × ByteArray × Nat × Option FieldType × List (Nat × Nat × Nat × Nat) := (⟨"WedgePlanes", "hasBit", "(II)Z"⟩, prog_1_method_20_code, 2, some .boolean, [])
abbrev M_Rock_meet : MethodName × ByteArray × Nat × Option FieldType × List (Nat × Nat × Nat × Nat) := (⟨"WedgePlanes$Rock", "meet", "(LWedgePlanes$Plane;LWedgePlanes$Plane;LWedgePlanes$Plane;)V"⟩, prog_6_method_12_code, 9, none, [])
abbrev M_Arrow_setCross : MethodName × ByteArray × Nat × Option FieldType × List (Nat × Nat × Nat × Nat) := (⟨"WedgePlanes$Arrow", "setCross", "(LWedgePlanes$Arrow;LWedgePlanes$Arrow;)V"⟩, prog_2_method_4_code, 3, none, [])
abbrev M_Arrow_times : MethodName × ByteArray × Nat × Option FieldType × List (Nat × Nat × Nat × Nat) := (⟨"WedgePlanes$Arrow", "times", "(LWedgePlanes$Arrow;)I"⟩, prog_2_method_6_code, 2, some .int, [])
abbrev M_Rock_addPoint : MethodName × ByteArray × Nat × Option FieldType × List (Nat × Nat × Nat × Nat) := (⟨"WedgePlanes$Rock", "addPoint", "(IIII)V"⟩, prog_6_method_13_code, 7, none, [])
abbrev M_Rock_isInBox : MethodName × ByteArray × Nat × Option FieldType × List (Nat × Nat × Nat × Nat) := (⟨"WedgePlanes$Rock", "isInBox", "(IIII)Z"⟩, prog_6_method_14_code, 5, some .boolean, [])
abbrev M_Rock_commonDivisor : MethodName × ByteArray × Nat × Option FieldType × List (Nat × Nat × Nat × Nat) := (⟨"WedgePlanes$Rock", "commonDivisor", "(II)I"⟩, prog_6_method_15_code, 6, some .int, [])
abbrev M_Points_has : MethodName × ByteArray × Nat × Option FieldType × List (Nat × Nat × Nat × Nat) := (⟨"WedgePlanes$Points", "has", "(IIII)Z"⟩, prog_5_method_2_code, 6, some .boolean, [])
abbrev M_Points_add : MethodName × ByteArray × Nat × Option FieldType × List (Nat × Nat × Nat × Nat) := (⟨"WedgePlanes$Points", "add", "(IIII)V"⟩, prog_5_method_3_code, 5, none, [])
abbrev M_Rock_findBlocks : MethodName × ByteArray × Nat × Option FieldType × List (Nat × Nat × Nat × Nat) := (⟨"WedgePlanes$Rock", "findBlocks", "()V"⟩, prog_6_method_16_code, 2, none, [])
abbrev M_Rock_findBlock : MethodName × ByteArray × Nat × Option FieldType × List (Nat × Nat × Nat × Nat) := (⟨"WedgePlanes$Rock", "findBlock", "(I)V"⟩, prog_6_method_17_code, 10, none, [])
abbrev M_Points_touches : MethodName × ByteArray × Nat × Option FieldType × List (Nat × Nat × Nat × Nat) := (⟨"WedgePlanes$Points", "touches", "(II)Z"⟩, prog_5_method_6_code, 3, some .boolean, [])
abbrev M_Rock_addBlock : MethodName × ByteArray × Nat × Option FieldType × List (Nat × Nat × Nat × Nat) := (⟨"WedgePlanes$Rock", "addBlock", "(III)V"⟩, prog_6_method_18_code, 4, none, [])
abbrev M_WP_unjoint : MethodName × ByteArray × Nat × Option FieldType × List (Nat × Nat × Nat × Nat) := (⟨"WedgePlanes", "unjoint", "()I"⟩, prog_1_method_3_code, 1, some .int, [])
abbrev M_WP_putAllBack : MethodName × ByteArray × Nat × Option FieldType × List (Nat × Nat × Nat × Nat) := (⟨"WedgePlanes", "putAllBack", "()V"⟩, prog_1_method_25_code, 2, none, [])
abbrev M_Rock_dropJoint : MethodName × ByteArray × Nat × Option FieldType × List (Nat × Nat × Nat × Nat) := (⟨"WedgePlanes$Rock", "dropJoint", "()V"⟩, prog_6_method_5_code, 1, none, [])
abbrev M_Points_dropFace : MethodName × ByteArray × Nat × Option FieldType × List (Nat × Nat × Nat × Nat) := (⟨"WedgePlanes$Points", "dropFace", "(II)V"⟩, prog_5_method_5_code, 4, none, [])
abbrev M_WP_blocks : MethodName × ByteArray × Nat × Option FieldType × List (Nat × Nat × Nat × Nat) := (⟨"WedgePlanes", "blocks", "()I"⟩, prog_1_method_7_code, 1, some .int, [])
abbrev M_WP_find : MethodName × ByteArray × Nat × Option FieldType × List (Nat × Nat × Nat × Nat) := (⟨"WedgePlanes", "find", "(I)I"⟩, prog_1_method_10_code, 2, some .int, [])
abbrev M_WP_order : MethodName × ByteArray × Nat × Option FieldType × List (Nat × Nat × Nat × Nat) := (⟨"WedgePlanes", "order", "()I"⟩, prog_1_method_14_code, 2, some .int, [])
abbrev M_WP_takeLeast : MethodName × ByteArray × Nat × Option FieldType × List (Nat × Nat × Nat × Nat) := (⟨"WedgePlanes", "takeLeast", "()Z"⟩, prog_1_method_27_code, 3, some .boolean, [])
abbrev M_WP_leastDirection : MethodName × ByteArray × Nat × Option FieldType × List (Nat × Nat × Nat × Nat) := (⟨"WedgePlanes", "leastDirection", "(I)I"⟩, prog_1_method_28_code, 3, some .int, [])
abbrev M_WP_lookAtHold : MethodName × ByteArray × Nat × Option FieldType × List (Nat × Nat × Nat × Nat) := (⟨"WedgePlanes", "lookAtHold", "(I)V"⟩, prog_1_method_29_code, 4, none, [])
abbrev M_Hold_clear : MethodName × ByteArray × Nat × Option FieldType × List (Nat × Nat × Nat × Nat) := (⟨"WedgePlanes$Hold", "clear", "()V"⟩, prog_3_method_2_code, 1, none, [])
abbrev M_WP_isFree : MethodName × ByteArray × Nat × Option FieldType × List (Nat × Nat × Nat × Nat) := (⟨"WedgePlanes", "isFree", "(II)Z"⟩, prog_1_method_30_code, 4, some .boolean, [])
abbrev M_Rock_neighbour : MethodName × ByteArray × Nat × Option FieldType × List (Nat × Nat × Nat × Nat) := (⟨"WedgePlanes$Rock", "neighbour", "(II)I"⟩, prog_6_method_6_code, 3, some .int, [])
abbrev M_Hold_add : MethodName × ByteArray × Nat × Option FieldType × List (Nat × Nat × Nat × Nat) := (⟨"WedgePlanes$Hold", "add", "(ILWedgePlanes$Arrow;Z)V"⟩, prog_3_method_3_code, 4, none, [])
abbrev M_Arrow_setScaled : MethodName × ByteArray × Nat × Option FieldType × List (Nat × Nat × Nat × Nat) := (⟨"WedgePlanes$Arrow", "setScaled", "(LWedgePlanes$Arrow;I)V"⟩, prog_2_method_3_code, 3, none, [])
abbrev M_Hold_lets : MethodName × ByteArray × Nat × Option FieldType × List (Nat × Nat × Nat × Nat) := (⟨"WedgePlanes$Hold", "lets", "(LWedgePlanes$Arrow;)Z"⟩, prog_3_method_4_code, 3, some .boolean, [])
abbrev M_Arrow_isZero : MethodName × ByteArray × Nat × Option FieldType × List (Nat × Nat × Nat × Nat) := (⟨"WedgePlanes$Arrow", "isZero", "()Z"⟩, prog_2_method_7_code, 1, some .boolean, [])
abbrev M_WP_putAway : MethodName × ByteArray × Nat × Option FieldType × List (Nat × Nat × Nat × Nat) := (⟨"WedgePlanes", "putAway", "(II)V"⟩, prog_1_method_26_code, 3, none, [])
abbrev M_WP_back : MethodName × ByteArray × Nat × Option FieldType × List (Nat × Nat × Nat × Nat) := (⟨"WedgePlanes", "back", "()I"⟩, prog_1_method_16_code, 2, some .int, [])
abbrev M_Law_cell : MethodName × ByteArray × Nat × Option FieldType × List (Nat × Nat × Nat × Nat) := (⟨"WedgePlanesLaw", "cell", "([II)I"⟩, method_2_code, 2, some .int, [])
abbrev M_Law_joint : MethodName × ByteArray × Nat × Option FieldType × List (Nat × Nat × Nat × Nat) := (⟨"WedgePlanesLaw", "joint", "(LWedgePlanes;IIII[J)I"⟩, method_3_code, 7, some .int, [((0), (14), (17), (13)), ((0), (14), (21), (15))])
abbrev M_WP_joint : MethodName × ByteArray × Nat × Option FieldType × List (Nat × Nat × Nat × Nat) := (⟨"WedgePlanes", "joint", "(IIII)I"⟩, prog_1_method_2_code, 5, some .int, [])
abbrev M_WP_isJoint : MethodName × ByteArray × Nat × Option FieldType × List (Nat × Nat × Nat × Nat) := (⟨"WedgePlanes", "isJoint", "(IIII)Z"⟩, prog_1_method_23_code, 5, some .boolean, [])
abbrev M_WP_isWithin : MethodName × ByteArray × Nat × Option FieldType × List (Nat × Nat × Nat × Nat) := (⟨"WedgePlanes", "isWithin", "(II)Z"⟩, prog_1_method_21_code, 2, some .boolean, [])
abbrev M_Rock_isCutBy : MethodName × ByteArray × Nat × Option FieldType × List (Nat × Nat × Nat × Nat) := (⟨"WedgePlanes$Rock", "isCutBy", "(IIII)Z"⟩, prog_6_method_2_code, 7, some .boolean, [])
abbrev M_Rock_hasJoint : MethodName × ByteArray × Nat × Option FieldType × List (Nat × Nat × Nat × Nat) := (⟨"WedgePlanes$Rock", "hasJoint", "(IIII)Z"⟩, prog_6_method_3_code, 6, some .boolean, [])
abbrev M_Plane_isSame : MethodName × ByteArray × Nat × Option FieldType × List (Nat × Nat × Nat × Nat) := (⟨"WedgePlanes$Plane", "isSame", "(IIII)Z"⟩, prog_4_method_4_code, 5, some .boolean, [])
abbrev M_Rock_addJoint : MethodName × ByteArray × Nat × Option FieldType × List (Nat × Nat × Nat × Nat) := (⟨"WedgePlanes$Rock", "addJoint", "(IIII)V"⟩, prog_6_method_4_code, 5, none, [])
abbrev M_Law_open : MethodName × ByteArray × Nat × Option FieldType × List (Nat × Nat × Nat × Nat) := (⟨"WedgePlanesLaw", "open", "(LWedgePlanes;IZ[J)I"⟩, method_4_code, 5, some .int, [((0), (17), (20), (21))])
abbrev M_WP_open : MethodName × ByteArray × Nat × Option FieldType × List (Nat × Nat × Nat × Nat) := (⟨"WedgePlanes", "open", "(IZ)Z"⟩, prog_1_method_4_code, 4, some .boolean, [])
abbrev M_Law_direction : MethodName × ByteArray × Nat × Option FieldType × List (Nat × Nat × Nat × Nat) := (⟨"WedgePlanesLaw", "direction", "(LWedgePlanes;III[J)I"⟩, method_5_code, 6, some .int, [((0), (12), (15), (13)), ((0), (12), (19), (15))])
abbrev M_WP_direction : MethodName × ByteArray × Nat × Option FieldType × List (Nat × Nat × Nat × Nat) := (⟨"WedgePlanes", "direction", "(III)I"⟩, prog_1_method_5_code, 4, some .int, [])
abbrev M_WP_isStep : MethodName × ByteArray × Nat × Option FieldType × List (Nat × Nat × Nat × Nat) := (⟨"WedgePlanes", "isStep", "(III)Z"⟩, prog_1_method_22_code, 3, some .boolean, [])
abbrev M_Law_pull : MethodName × ByteArray × Nat × Option FieldType × List (Nat × Nat × Nat × Nat) := (⟨"WedgePlanesLaw", "pull", "(LWedgePlanes;III)I"⟩, method_6_code, 5, some .int, [((0), (7), (10), (13))])
abbrev M_WP_pull : MethodName × ByteArray × Nat × Option FieldType × List (Nat × Nat × Nat × Nat) := (⟨"WedgePlanes", "pull", "(III)V"⟩, prog_1_method_6_code, 4, none, [])
abbrev M_Law_block : MethodName × ByteArray × Nat × Option FieldType × List (Nat × Nat × Nat × Nat) := (⟨"WedgePlanesLaw", "block", "(LWedgePlanes;II[J)I"⟩, method_7_code, 5, some .int, [((0), (10), (13), (21))])
abbrev M_WP_block : MethodName × ByteArray × Nat × Option FieldType × List (Nat × Nat × Nat × Nat) := (⟨"WedgePlanes", "block", "(II)I"⟩, prog_1_method_8_code, 3, some .int, [])
abbrev M_WP_needBlock : MethodName × ByteArray × Nat × Option FieldType × List (Nat × Nat × Nat × Nat) := (⟨"WedgePlanes", "needBlock", "(I)V"⟩, prog_1_method_24_code, 2, none, [])
abbrev M_Rock_countWholePoints : MethodName × ByteArray × Nat × Option FieldType × List (Nat × Nat × Nat × Nat) := (⟨"WedgePlanes$Rock", "countWholePoints", "(I)I"⟩, prog_6_method_8_code, 6, some .int, [])
abbrev M_Rock_isOnSides : MethodName × ByteArray × Nat × Option FieldType × List (Nat × Nat × Nat × Nat) := (⟨"WedgePlanes$Rock", "isOnSides", "(IIII)Z"⟩, prog_6_method_9_code, 7, some .boolean, [])
abbrev M_Law_corner : MethodName × ByteArray × Nat × Option FieldType × List (Nat × Nat × Nat × Nat) := (⟨"WedgePlanesLaw", "corner", "(LWedgePlanes;III[J)I"⟩, method_8_code, 6, some .int, [((0), (12), (15), (21))])
abbrev M_WP_corner : MethodName × ByteArray × Nat × Option FieldType × List (Nat × Nat × Nat × Nat) := (⟨"WedgePlanes", "corner", "(III)I"⟩, prog_1_method_9_code, 5, some .int, [])
abbrev M_Rock_cornerPoint : MethodName × ByteArray × Nat × Option FieldType × List (Nat × Nat × Nat × Nat) := (⟨"WedgePlanes$Rock", "cornerPoint", "(II)I"⟩, prog_6_method_7_code, 6, some .int, [])
abbrev M_Rock_sortIn : MethodName × ByteArray × Nat × Option FieldType × List (Nat × Nat × Nat × Nat) := (⟨"WedgePlanes$Rock", "sortIn", "(II)V"⟩, prog_6_method_10_code, 4, none, [])
abbrev M_Points_isBefore : MethodName × ByteArray × Nat × Option FieldType × List (Nat × Nat × Nat × Nat) := (⟨"WedgePlanes$Points", "isBefore", "(II)Z"⟩, prog_5_method_7_code, 6, some .boolean, [])
abbrev M_Integer_compare : MethodName × ByteArray × Nat × Option FieldType × List (Nat × Nat × Nat × Nat) := (⟨"java/lang/Integer", "compare", "(II)I"⟩, prog_13_method_40_code, 2, some .int, [])
abbrev M_Law_beside : MethodName × ByteArray × Nat × Option FieldType × List (Nat × Nat × Nat × Nat) := (⟨"WedgePlanesLaw", "beside", "(LWedgePlanes;II[J)I"⟩, method_9_code, 5, some .int, [((0), (10), (13), (21))])
abbrev M_WP_beside : MethodName × ByteArray × Nat × Option FieldType × List (Nat × Nat × Nat × Nat) := (⟨"WedgePlanes", "beside", "(II)I"⟩, prog_1_method_11_code, 3, some .int, [])
abbrev M_Law_goes : MethodName × ByteArray × Nat × Option FieldType × List (Nat × Nat × Nat × Nat) := (⟨"WedgePlanesLaw", "goes", "(LWedgePlanes;II[J)I"⟩, method_10_code, 5, some .int, [((0), (17), (20), (21))])
abbrev M_WP_goes : MethodName × ByteArray × Nat × Option FieldType × List (Nat × Nat × Nat × Nat) := (⟨"WedgePlanes", "goes", "(II)Z"⟩, prog_1_method_12_code, 3, some .boolean, [])
abbrev M_Law_take : MethodName × ByteArray × Nat × Option FieldType × List (Nat × Nat × Nat × Nat) := (⟨"WedgePlanesLaw", "take", "(LWedgePlanes;I[J)I"⟩, method_11_code, 4, some .int, [((0), (9), (12), (21))])
abbrev M_WP_take : MethodName × ByteArray × Nat × Option FieldType × List (Nat × Nat × Nat × Nat) := (⟨"WedgePlanes", "take", "(I)I"⟩, prog_1_method_13_code, 3, some .int, [])
abbrev M_Law_taken : MethodName × ByteArray × Nat × Option FieldType × List (Nat × Nat × Nat × Nat) := (⟨"WedgePlanesLaw", "taken", "(LWedgePlanes;II[J)I"⟩, method_12_code, 5, some .int, [((0), (10), (13), (21))])
abbrev M_WP_taken : MethodName × ByteArray × Nat × Option FieldType × List (Nat × Nat × Nat × Nat) := (⟨"WedgePlanes", "taken", "(II)I"⟩, prog_1_method_15_code, 3, some .int, [])
abbrev M_Law_mode : MethodName × ByteArray × Nat × Option FieldType × List (Nat × Nat × Nat × Nat) := (⟨"WedgePlanesLaw", "mode", "(LWedgePlanes;I[J)I"⟩, method_13_code, 4, some .int, [((0), (9), (12), (21))])
abbrev M_WP_mode : MethodName × ByteArray × Nat × Option FieldType × List (Nat × Nat × Nat × Nat) := (⟨"WedgePlanes", "mode", "(I)I"⟩, prog_1_method_17_code, 2, some .int, [])
abbrev M_Hold_answerTo : MethodName × ByteArray × Nat × Option FieldType × List (Nat × Nat × Nat × Nat) := (⟨"WedgePlanes$Hold", "answerTo", "(LWedgePlanes$Arrow;)I"⟩, prog_3_method_5_code, 3, some .int, [])
abbrev M_Arrow_setSlide : MethodName × ByteArray × Nat × Option FieldType × List (Nat × Nat × Nat × Nat) := (⟨"WedgePlanes$Arrow", "setSlide", "(LWedgePlanes$Arrow;LWedgePlanes$Arrow;)V"⟩, prog_2_method_5_code, 5, none, [])
abbrev M_Hold_slideOnOne : MethodName × ByteArray × Nat × Option FieldType × List (Nat × Nat × Nat × Nat) := (⟨"WedgePlanes$Hold", "slideOnOne", "(LWedgePlanes$Arrow;)I"⟩, prog_3_method_6_code, 3, some .int, [])
abbrev M_Hold_slideOnTwo : MethodName × ByteArray × Nat × Option FieldType × List (Nat × Nat × Nat × Nat) := (⟨"WedgePlanes$Hold", "slideOnTwo", "(LWedgePlanes$Arrow;)I"⟩, prog_3_method_7_code, 4, some .int, [])
abbrev M_Hold_slidesAlong : MethodName × ByteArray × Nat × Option FieldType × List (Nat × Nat × Nat × Nat) := (⟨"WedgePlanes$Hold", "slidesAlong", "(IILWedgePlanes$Arrow;)Z"⟩, prog_3_method_8_code, 4, some .boolean, [])
abbrev M_Law_told : MethodName × ByteArray × Nat × Option FieldType × List (Nat × Nat × Nat × Nat) := (⟨"WedgePlanesLaw", "told", "(LWedgePlanes;I[J)I"⟩, method_14_code, 4, some .int, [((0), (9), (12), (21))])
abbrev M_WP_told : MethodName × ByteArray × Nat × Option FieldType × List (Nat × Nat × Nat × Nat) := (⟨"WedgePlanes", "told", "(I)I"⟩, prog_1_method_18_code, 2, some .int, [])
abbrev M_Md_init : MethodName × ByteArray × Nat × Option FieldType × List (Nat × Nat × Nat × Nat) := (⟨"WedgePlanesModel", "<init>", "(III)V"⟩, prog_8_method_1_code, 5, none, [])
abbrev M_Md_within : MethodName × ByteArray × Nat × Option FieldType × List (Nat × Nat × Nat × Nat) := (⟨"WedgePlanesModel", "within", "(I)I"⟩, prog_8_method_3_code, 1, some .int, [])
abbrev M_Md_cut : MethodName × ByteArray × Nat × Option FieldType × List (Nat × Nat × Nat × Nat) := (⟨"WedgePlanesModel", "cut", "()V"⟩, prog_8_method_12_code, 4, none, [])
abbrev M_Md_isThere : MethodName × ByteArray × Nat × Option FieldType × List (Nat × Nat × Nat × Nat) := (⟨"WedgePlanesModel", "isThere", "(I)Z"⟩, prog_8_method_8_code, 2, some .boolean, [])
abbrev M_Md_make : MethodName × ByteArray × Nat × Option FieldType × List (Nat × Nat × Nat × Nat) := (⟨"WedgePlanesModel", "make", "(III)V"⟩, prog_8_method_11_code, 9, none, [])
abbrev M_Md_determinant : MethodName × ByteArray × Nat × Option FieldType × List (Nat × Nat × Nat × Nat) := (⟨"WedgePlanesModel", "determinant", "(IIII)I"⟩, prog_8_method_7_code, 8, some .int, [])
abbrev M_Md_part : MethodName × ByteArray × Nat × Option FieldType × List (Nat × Nat × Nat × Nat) := (⟨"WedgePlanesModel", "part", "(III)I"⟩, prog_8_method_6_code, 4, some .int, [])
abbrev M_Md_common : MethodName × ByteArray × Nat × Option FieldType × List (Nat × Nat × Nat × Nat) := (⟨"WedgePlanesModel", "common", "(II)I"⟩, prog_8_method_5_code, 5, some .int, [])
abbrev M_Md_orderP : MethodName × ByteArray × Nat × Option FieldType × List (Nat × Nat × Nat × Nat) := (⟨"WedgePlanesModel", "order", "(I)I"⟩, prog_8_method_10_code, 4, some .int, [])
abbrev M_Md_more : MethodName × ByteArray × Nat × Option FieldType × List (Nat × Nat × Nat × Nat) := (⟨"WedgePlanesModel", "more", "(II)I"⟩, prog_8_method_9_code, 3, some .int, [])
abbrev M_Md_freeOf : MethodName × ByteArray × Nat × Option FieldType × List (Nat × Nat × Nat × Nat) := (⟨"WedgePlanesModel", "freeOf", "(II)I"⟩, prog_8_method_15_code, 5, some .int, [])
abbrev M_Md_isOf : MethodName × ByteArray × Nat × Option FieldType × List (Nat × Nat × Nat × Nat) := (⟨"WedgePlanesModel", "isOf", "(II)Z"⟩, prog_8_method_14_code, 3, some .boolean, [])
abbrev M_Md_all : MethodName × ByteArray × Nat × Option FieldType × List (Nat × Nat × Nat × Nat) := (⟨"WedgePlanesModel", "all", "()I"⟩, prog_8_method_13_code, 1, some .int, [])
abbrev M_Md_findFaces : MethodName × ByteArray × Nat × Option FieldType × List (Nat × Nat × Nat × Nat) := (⟨"WedgePlanesModel", "findFaces", "(I)I"⟩, prog_8_method_16_code, 4, some .int, [])
abbrev M_Md_thrown : MethodName × ByteArray × Nat × Option FieldType × List (Nat × Nat × Nat × Nat) := (⟨"WedgePlanesModel", "thrown", "()I"⟩, prog_8_method_2_code, 1, some .int, [])
abbrev M_Md_joint : MethodName × ByteArray × Nat × Option FieldType × List (Nat × Nat × Nat × Nat) := (⟨"WedgePlanesModel", "joint", "(IIII)I"⟩, prog_8_method_19_code, 5, some .int, [])
abbrev M_Md_isRight : MethodName × ByteArray × Nat × Option FieldType × List (Nat × Nat × Nat × Nat) := (⟨"WedgePlanesModel", "isRight", "(IIII)Z"⟩, prog_8_method_18_code, 10, some .boolean, [])
abbrev M_Md_in : MethodName × ByteArray × Nat × Option FieldType × List (Nat × Nat × Nat × Nat) := (⟨"WedgePlanesModel", "in", "(III)Z"⟩, prog_8_method_4_code, 3, some .boolean, [])
abbrev M_Md_isSame : MethodName × ByteArray × Nat × Option FieldType × List (Nat × Nat × Nat × Nat) := (⟨"WedgePlanesModel", "isSame", "(IIIII)Z"⟩, prog_8_method_17_code, 10, some .boolean, [])
abbrev M_Md_unjoint : MethodName × ByteArray × Nat × Option FieldType × List (Nat × Nat × Nat × Nat) := (⟨"WedgePlanesModel", "unjoint", "()I"⟩, prog_8_method_20_code, 1, some .int, [])
abbrev M_Md_open : MethodName × ByteArray × Nat × Option FieldType × List (Nat × Nat × Nat × Nat) := (⟨"WedgePlanesModel", "open", "(IZ)Z"⟩, prog_8_method_21_code, 4, some .boolean, [])
abbrev M_Md_direction : MethodName × ByteArray × Nat × Option FieldType × List (Nat × Nat × Nat × Nat) := (⟨"WedgePlanesModel", "direction", "(III)I"⟩, prog_8_method_23_code, 4, some .int, [])
abbrev M_Md_isVector : MethodName × ByteArray × Nat × Option FieldType × List (Nat × Nat × Nat × Nat) := (⟨"WedgePlanesModel", "isVector", "(III)Z"⟩, prog_8_method_22_code, 3, some .boolean, [])
abbrev M_Md_pull : MethodName × ByteArray × Nat × Option FieldType × List (Nat × Nat × Nat × Nat) := (⟨"WedgePlanesModel", "pull", "(III)V"⟩, prog_8_method_24_code, 4, none, [])
abbrev M_Md_blocks : MethodName × ByteArray × Nat × Option FieldType × List (Nat × Nat × Nat × Nat) := (⟨"WedgePlanesModel", "blocks", "()I"⟩, prog_8_method_25_code, 1, some .int, [])
abbrev M_Md_block : MethodName × ByteArray × Nat × Option FieldType × List (Nat × Nat × Nat × Nat) := (⟨"WedgePlanesModel", "block", "(II)I"⟩, prog_8_method_30_code, 3, some .int, [])
abbrev M_Md_isBlock : MethodName × ByteArray × Nat × Option FieldType × List (Nat × Nat × Nat × Nat) := (⟨"WedgePlanesModel", "isBlock", "(I)Z"⟩, prog_8_method_26_code, 2, some .boolean, [])
abbrev M_Md_cornersOf : MethodName × ByteArray × Nat × Option FieldType × List (Nat × Nat × Nat × Nat) := (⟨"WedgePlanesModel", "cornersOf", "(I)I"⟩, prog_8_method_27_code, 4, some .int, [])
abbrev M_Md_insideOf : MethodName × ByteArray × Nat × Option FieldType × List (Nat × Nat × Nat × Nat) := (⟨"WedgePlanesModel", "insideOf", "(I)I"⟩, prog_8_method_29_code, 6, some .int, [])
abbrev M_Md_isInside : MethodName × ByteArray × Nat × Option FieldType × List (Nat × Nat × Nat × Nat) := (⟨"WedgePlanesModel", "isInside", "(IIII)Z"⟩, prog_8_method_28_code, 8, some .boolean, [])
abbrev M_Md_corner : MethodName × ByteArray × Nat × Option FieldType × List (Nat × Nat × Nat × Nat) := (⟨"WedgePlanesModel", "corner", "(III)I"⟩, prog_8_method_31_code, 7, some .int, [])
abbrev M_Md_find : MethodName × ByteArray × Nat × Option FieldType × List (Nat × Nat × Nat × Nat) := (⟨"WedgePlanesModel", "find", "(I)I"⟩, prog_8_method_32_code, 3, some .int, [])
abbrev M_Md_beside : MethodName × ByteArray × Nat × Option FieldType × List (Nat × Nat × Nat × Nat) := (⟨"WedgePlanesModel", "beside", "(II)I"⟩, prog_8_method_34_code, 3, some .int, [])
abbrev M_Md_isFace : MethodName × ByteArray × Nat × Option FieldType × List (Nat × Nat × Nat × Nat) := (⟨"WedgePlanesModel", "isFace", "(II)Z"⟩, prog_8_method_33_code, 3, some .boolean, [])
abbrev M_Md_goes : MethodName × ByteArray × Nat × Option FieldType × List (Nat × Nat × Nat × Nat) := (⟨"WedgePlanesModel", "goes", "(II)Z"⟩, prog_8_method_40_code, 3, some .boolean, [])
abbrev M_Md_canGoBy : MethodName × ByteArray × Nat × Option FieldType × List (Nat × Nat × Nat × Nat) := (⟨"WedgePlanesModel", "canGoBy", "(II)Z"⟩, prog_8_method_39_code, 4, some .boolean, [])
abbrev M_Md_canGo : MethodName × ByteArray × Nat × Option FieldType × List (Nat × Nat × Nat × Nat) := (⟨"WedgePlanesModel", "canGo", "(I)Z"⟩, prog_8_method_38_code, 4, some .boolean, [])
abbrev M_Md_holds : MethodName × ByteArray × Nat × Option FieldType × List (Nat × Nat × Nat × Nat) := (⟨"WedgePlanesModel", "holds", "(II)Z"⟩, prog_8_method_35_code, 3, some .boolean, [])
abbrev M_Md_inward : MethodName × ByteArray × Nat × Option FieldType × List (Nat × Nat × Nat × Nat) := (⟨"WedgePlanesModel", "inward", "(II[I)V"⟩, prog_8_method_36_code, 6, none, [])
abbrev M_Md_times : MethodName × ByteArray × Nat × Option FieldType × List (Nat × Nat × Nat × Nat) := (⟨"WedgePlanesModel", "times", "([I[I)I"⟩, prog_8_method_37_code, 2, some .int, [])
abbrev M_Md_take : MethodName × ByteArray × Nat × Option FieldType × List (Nat × Nat × Nat × Nat) := (⟨"WedgePlanesModel", "take", "(I)I"⟩, prog_8_method_42_code, 2, some .int, [])
abbrev M_Md_taking : MethodName × ByteArray × Nat × Option FieldType × List (Nat × Nat × Nat × Nat) := (⟨"WedgePlanesModel", "taking", "(I)I"⟩, prog_8_method_41_code, 3, some .int, [])
abbrev M_Md_order : MethodName × ByteArray × Nat × Option FieldType × List (Nat × Nat × Nat × Nat) := (⟨"WedgePlanesModel", "order", "()I"⟩, prog_8_method_43_code, 3, some .int, [])
abbrev M_Md_taken : MethodName × ByteArray × Nat × Option FieldType × List (Nat × Nat × Nat × Nat) := (⟨"WedgePlanesModel", "taken", "(II)I"⟩, prog_8_method_44_code, 3, some .int, [])
abbrev M_Md_back : MethodName × ByteArray × Nat × Option FieldType × List (Nat × Nat × Nat × Nat) := (⟨"WedgePlanesModel", "back", "()I"⟩, prog_8_method_45_code, 3, some .int, [])
abbrev M_Md_mode : MethodName × ByteArray × Nat × Option FieldType × List (Nat × Nat × Nat × Nat) := (⟨"WedgePlanesModel", "mode", "(I)I"⟩, prog_8_method_49_code, 4, some .int, [])
abbrev M_Md_slidesOn : MethodName × ByteArray × Nat × Option FieldType × List (Nat × Nat × Nat × Nat) := (⟨"WedgePlanesModel", "slidesOn", "(II)Z"⟩, prog_8_method_47_code, 3, some .boolean, [])
abbrev M_Md_slide : MethodName × ByteArray × Nat × Option FieldType × List (Nat × Nat × Nat × Nat) := (⟨"WedgePlanesModel", "slide", "([I[I)V"⟩, prog_8_method_46_code, 6, none, [])
abbrev M_Md_slidesAlong : MethodName × ByteArray × Nat × Option FieldType × List (Nat × Nat × Nat × Nat) := (⟨"WedgePlanesModel", "slidesAlong", "(III)Z"⟩, prog_8_method_48_code, 7, some .boolean, [])
abbrev M_Md_told : MethodName × ByteArray × Nat × Option FieldType × List (Nat × Nat × Nat × Nat) := (⟨"WedgePlanesModel", "told", "(I)I"⟩, prog_8_method_50_code, 2, some .int, [])
abbrev M_Law_law : MethodName × ByteArray × Nat × Option FieldType × List (Nat × Nat × Nat × Nat) := (⟨"WedgePlanesLaw", "law", "([I)Z"⟩, code, 7, some .boolean, [])
end
section
-- the abstract world: cells by their places (0, 1, ..), references are places
abbrev zE : Type := (Nat × vp_A) ⊕ (Nat × List Value)
abbrev zH : Type := List zE
/-- an outcome: returned (with a value), or threw: the class's number in zCl, the exception's place -/
abbrev zO : Type := Option Value ⊕ (Nat × Nat)
/-- launch; classes' numbers and slots; array classes; the heap's size at the law's entry -/
abbrev zG : Type := Launch × va_G × List (ClassId × FieldType) × Nat
abbrev zG.l (G : zG) : Launch := G.1
abbrev zG.D (G : zG) : va_G := G.2.1
abbrev zG.tys (G : zG) : List (ClassId × FieldType) := G.2.2.1
abbrev zG.n0 (G : zG) : Nat := G.2.2.2
abbrev zG.A (G : zG) : Nat → Prop := fun q => G.2.2.2 ≤ q
/-- a method: name, code, locals, what it returns -/
abbrev zM : Type := MethodName × ByteArray × Nat × Option FieldType × List (Nat × Nat × Nat × Nat)
abbrev zM.nm (M : zM) : MethodName := M.1
abbrev zM.code (M : zM) : ByteArray := M.2.1
abbrev zM.maxL (M : zM) : Nat := M.2.2.1
abbrev zM.ret (M : zM) : Option FieldType := M.2.2.2.1
abbrev zM.hs (M : zM) : List (Nat × Nat × Nat × Nat) := M.2.2.2.2
def zv (ad : Nat → Nat) (v : Value) : Value := match v with
  | .ref k => .ref (ad k)
  | w => w
def zk (ad : Nat → Nat) (a : vp_A) : vp_A := (a.1, match a.2 with
  | .inr (.inr (.inr (.inr f))) => .inr (.inr (.inr (.inr (fun j => (f j).map ad))))
  | x => x)
def zc (ad : Nat → Nat) (tys : List (ClassId × FieldType)) (c : zE) : va_E := match c with
  | .inl q => .inl ((tys.getD q.1 (0, .int)).1, zk ad q.2)
  | .inr q => .inr (q.1, q.2.map (zv ad))
def zw (ad : Nat → Nat) (tys : List (ClassId × FieldType)) (h : zH) : va_W := h.mapIdx (fun k c => (ad k, zc ad tys c))
/-- references are to places below n -/
def zov (n : Nat) (v : Value) : Prop := match v with
  | .ref k => k < n
  | _ => True
def zok (n : Nat) (a : vp_A) : Prop := match a.2 with
  | .inr (.inr (.inr (.inr f))) => ∀ j k, f j = some k → k < n
  | _ => True
def zoc (n : Nat) (c : zE) : Prop := match c with
  | .inl q => zok n q.2
  | .inr q => ∀ v ∈ q.2, zov n v
def zoh (h : zH) : Prop := ∀ (k : Nat) (c : zE), h[k]? = some c → zoc h.length c
def zos (n : Nat) (st : List Value) : Prop := ∀ v ∈ st, zov n v
def zol (n : Nat) (pl : List (Option Value)) : Prop := ∀ (i : Nat) (v : Value), pl[i]? = some (some v) → zov n v ∧ v.category = 1
def zhas (ad : Nat → Nat) (pl : List (Option Value)) (nL : Nat) (ls : Array Slot) : Prop := ls.size = nL ∧ lv_wf ls ∧ ∀ (i : Nat) (v : Value), pl[i]? = some (some v) → ls[i]? = some (.val (zv ad v))
theorem zov_mono {n n' : Nat} (h : n ≤ n') {v : Value} (hv : zov n v) : zov n' v := by
  cases v with
  | ref k => exact Nat.lt_of_lt_of_le hv h
  | _ => trivial
theorem zok_mono {n n' : Nat} (h : n ≤ n') {a : vp_A} (ha : zok n a) : zok n' a := by
  obtain ⟨k, f⟩ := a
  rcases f with f | f | f | f | f <;> simp only [zok] at *
  exact fun j k hk => Nat.lt_of_lt_of_le (ha j k hk) h
theorem zoc_mono {n n' : Nat} (h : n ≤ n') {c : zE} (hc : zoc n c) : zoc n' c := by
  cases c with
  | inl q => exact zok_mono h hc
  | inr q => exact fun v hv => zov_mono h (hc v hv)
theorem zv_cong {n : Nat} {ad ad' : Nat → Nat} (h : ∀ k, k < n → ad' k = ad k) {v : Value} (hv : zov n v) : zv ad' v = zv ad v := by
  cases v <;> simp only [zv]
  simp only [zov] at hv
  rw [h _ hv]
theorem zk_cong {n : Nat} {ad ad' : Nat → Nat} (h : ∀ k, k < n → ad' k = ad k) {a : vp_A} (ha : zok n a) : zk ad' a = zk ad a := by
  obtain ⟨k, f⟩ := a
  rcases f with f | f | f | f | f <;> simp only [zk]
  simp only [zok] at ha
  have e : (fun j => (f j).map ad') = (fun j => (f j).map ad) := by
    funext j
    cases hj : f j with
    | none => rfl
    | some q => simp only [Option.map_some, h q (ha j q hj)]
  rw [e]
theorem zc_cong {n : Nat} {ad ad' : Nat → Nat} {tys : List (ClassId × FieldType)} (h : ∀ k, k < n → ad' k = ad k) {c : zE} (hc : zoc n c) : zc ad' tys c = zc ad tys c := by
  cases c with
  | inl q => simp only [zc]; rw [zk_cong h hc]
  | inr q =>
    simp only [zc]
    have e : q.2.map (zv ad') = q.2.map (zv ad) := List.map_congr_left fun v hv => zv_cong h (hc v hv)
    rw [e]
theorem zst_cong {n : Nat} {ad ad' : Nat → Nat} (h : ∀ k, k < n → ad' k = ad k) {st : List Value} (hs : zos n st) : st.map (zv ad') = st.map (zv ad) := List.map_congr_left fun v hv => zv_cong h (hs v hv)
theorem zhas_cong {n nL : Nat} {ad ad' : Nat → Nat} (h : ∀ k, k < n → ad' k = ad k) {pl : List (Option Value)} {ls : Array Slot} (hp : zol n pl) (hl : zhas ad pl nL ls) : zhas ad' pl nL ls :=
  ⟨hl.1, hl.2.1, fun i v hi => by rw [zv_cong h (hp i v hi).1]; exact hl.2.2 i v hi⟩
theorem zw_len (ad : Nat → Nat) (tys : List (ClassId × FieldType)) (h : zH) : (zw ad tys h).length = h.length := by simp [zw]
theorem zw_get {ad : Nat → Nat} {tys : List (ClassId × FieldType)} {h : zH} {k : Nat} {c : zE} (hk : h[k]? = some c) : (zw ad tys h)[k]? = some (ad k, zc ad tys c) := by
  simp [zw, hk]
theorem zw_at {ad : Nat → Nat} {tys : List (ClassId × FieldType)} {h : zH} {k : Nat} {q : Nat × va_E} (hk : (zw ad tys h)[k]? = some q) : ∃ c, h[k]? = some c ∧ q = (ad k, zc ad tys c) := by
  simp only [zw, List.getElem?_mapIdx, Option.map_eq_some_iff] at hk
  obtain ⟨c, h1, h2⟩ := hk
  exact ⟨c, h1, h2.symm⟩
theorem zw_set {ad : Nat → Nat} {tys : List (ClassId × FieldType)} {h : zH} {k : Nat} {c : zE} : zw ad tys (h.set k c) = (zw ad tys h).set k (ad k, zc ad tys c) := by
  apply List.ext_getElem?
  intro i
  simp only [zw, List.getElem?_mapIdx, List.getElem?_set, List.length_mapIdx]
  by_cases hi : k = i
  · subst hi
    by_cases hl : k < h.length <;> simp [hl]
  · simp [hi]
theorem zw_push {ad ad' : Nat → Nat} {tys : List (ClassId × FieldType)} {h : zH} {c : zE} (ho : zoh h) (hc : ∀ k, k < h.length → ad' k = ad k) : zw ad' tys (h ++ [c]) = zw ad tys h ++ [(ad' h.length, zc ad' tys c)] := by
  simp only [zw, List.mapIdx_concat]
  congr 1
  apply List.ext_getElem?
  intro i
  simp only [List.getElem?_mapIdx]
  cases hi : h[i]? with
  | none => rfl
  | some x =>
    have hl : i < h.length := (List.getElem?_eq_some_iff.mp hi).1
    simp only [Option.map_some, hc i hl, zc_cong hc (ho i x hi)]
theorem zw_cong {ad ad' : Nat → Nat} {tys : List (ClassId × FieldType)} {h : zH} (ho : zoh h) (hc : ∀ k, k < h.length → ad' k = ad k) : zw ad' tys h = zw ad tys h := by
  apply List.ext_getElem?
  intro i
  simp only [zw, List.getElem?_mapIdx]
  cases hi : h[i]? with
  | none => rfl
  | some x =>
    have hl : i < h.length := (List.getElem?_eq_some_iff.mp hi).1
    simp only [Option.map_some, hc i hl, zc_cong hc (ho i x hi)]
theorem zoh_set {h : zH} {k : Nat} {c : zE} (ho : zoh h) (hc : zoc h.length c) : zoh (h.set k c) := by
  intro i x hx
  rw [List.length_set]
  rw [List.getElem?_set] at hx
  by_cases hi : k = i
  · subst hi
    by_cases hl : k < h.length
    · simp [hl] at hx; exact hx ▸ hc
    · simp [hl] at hx
  · simp [hi] at hx; exact ho i x hx
theorem zoh_push {h : zH} {c : zE} (ho : zoh h) (hc : zoc (h.length + 1) c) : zoh (h ++ [c]) := by
  intro i x hx
  rw [List.length_append, List.length_singleton]
  by_cases hi : i < h.length
  · rw [List.getElem?_append_left hi] at hx
    exact zoc_mono (Nat.le_succ _) (ho i x hx)
  · rw [List.getElem?_append_right (Nat.le_of_not_lt hi)] at hx
    have : x ∈ [c] := List.mem_of_getElem? hx
    rw [List.mem_singleton] at this
    subst this
    exact hc
end
section
def zroom (d mc ms : Nat) : Room := { frames := d, cells := mc, slots := ms, locals := 32 * d }
/-- a static of Throwable's that holds a reference or null -/
def zSV (G : zG) (nm ds : String) (U : State) : Prop := ∃ (c i a : Nat) (k : Class) (f : Field) (cell : Cell) (v : Value), U.vm.findClass "java/lang/Throwable" = some c ∧ U.fieldFound? "java/lang/Throwable" nm ds = some (c, k, i, f) ∧ f.isStatic = true ∧ k.statics = some a ∧ U.heap[a]? = some cell ∧ cell.vm.isStatics = true ∧ cell.cls = c ∧ f.slot < cell.slots.size ∧ k.staticTypes[f.slot]? = some f.type ∧ cell.slots[f.slot]? = some v ∧ v.isRef = true ∧ ¬ G.A a
def zZ (G : zG) (s : State) : Prop := G.tys.map Prod.snd = zTys ∧ G.l.flags = flags0 ∧ zSV G "UNASSIGNED_STACK" "[Ljava/lang/StackTraceElement;" s ∧ zSV G "SUPPRESSED_SENTINEL" "Ljava/util/List;" s ∧ (∀ w ∈ zNw, va_Nw w s) ∧ va_AO "WedgePlanes$Arrow" s ∧ va_AO "WedgePlanes$Plane" s ∧ ∀ q ∈ zSt, ∃ a, vk_R "WedgePlanes" q.1 q.2 a s
def zR (G : zG) (ad : Nat → Nat) (h : zH) (H : Heap) : Prop := va_P G.D zCl (zw ad G.tys h) H ∧ va_D G.A (zw ad G.tys h) ∧ zoh h
def zo (ad : Nat → Nat) (r : zO) : Outcome := match r with
  | .inl v => .returned (v.map (zv ad))
  | .inr q => .threw (ad q.2)
def zor (n : Nat) (r : zO) : Prop := match r with
  | .inl v => ∀ w, v = some w → zov n w
  | .inr q => q.2 < n
def zQ (G : zG) (ad0 : Nat → Nat) (n : Nat) (Q : zO → zH → Prop) (o : Outcome) (H : Heap) : Prop := ∃ (r : zO) (h : zH) (ad : Nat → Nat), Q r h ∧ (∀ k, k < n → ad k = ad0 k) ∧ n ≤ h.length ∧ zR G ad h H ∧ zor h.length r ∧ o = zo ad r
def zF (G : zG) (P : Bool) : Nat → Prop := fun q => P = false ∧ G.A q
theorem zS0 {G : zG} {P : Bool} (hP : P = false) {H0 H : Heap} {locs : List Loc} (h : va_S (zF G P) H0 H locs) : va_S G.A H0 H locs := ⟨h.1, fun q h1 h2 => h.2.1 q h1 (fun z => h2 z.2), fun q hq => (h.2.2 q hq).2⟩
theorem zS1 {G : zG} {P : Bool} (hP : P = false) {H0 H : Heap} {locs : List Loc} (h : va_S G.A H0 H locs) : va_S (zF G P) H0 H locs := ⟨h.1, fun q h1 h2 => h.2.1 q h1 (fun z => h2 ⟨hP, z⟩), fun q hq => ⟨hP, h.2.2 q hq⟩⟩
theorem zS2 {G : zG} {P : Bool} {H0 H : Heap} {locs : List Loc} (h : va_S (zF G P) H0 H locs) : va_S G.A H0 H locs := ⟨h.1, fun q h1 h2 => h.2.1 q h1 (fun z => h2 z.2), fun q hq => (h.2.2 q hq).2⟩
def zEnd (G : zG) (P : Bool) (below : List Frame) (s : State) (mc ms : Nat) (K : Outcome → Heap → Prop) : State → Prop := fun t => ∃ o, t.status = .running ∧ Ended t below o ∧ K o t.heap ∧ va_F (zF G P) s t ∧ s.WarmedH t.vm ∧ ∃ L, s.sameButNew ({ t with vm := s.vm } : State) L mc ms ∧ ∀ q ∈ L, zF G P q.base
/-- what holds all through a method -/
def zX (G : zG) (M : zM) (p : Program) (e : Env) (s : State) (m : MethodId) (args : Array Value) (meth : Method) (c : Code) : Prop :=
  p.tables.exec = Jvm.exec ∧ c.code = M.code ∧ meth.sig.returnType = M.ret ∧ c.maxLocals = M.maxL ∧ s.vm.findClass M.nm.cls = some m.cls ∧ (∀ w ∈ zT, w.before args s = true) ∧ meth.locks = false ∧ va_K G.D zCl G.tys s ∧ G.n0 ≤ s.heap.size ∧ meth.name = M.nm.name ∧ c.exceptionTable.toList.map (fun h => (h.startPc, h.endPc, h.handlerPc, h.catchType)) = M.hs ∧ zZ G s
/-- what holds at a point of it -/
def zI (G : zG) (M : zM) (P : Bool) (s : State) (ad0 : Nat → Nat) (n : Nat) (ad : Nat → Nat) (H : Heap) (locs : List Loc) (ls : Array Slot) (pl : List (Option Value)) (st : List Value) (h : zH) : Prop :=
  (∀ k, k < n → ad k = ad0 k) ∧ n ≤ h.length ∧ zR G ad h H ∧ va_S (zF G P) s.heap H locs ∧ zol h.length pl ∧ zos h.length st ∧ zhas ad pl M.maxL ls
def PW (G : zG) (M : zM) (R : Room) (P : Bool) (Q : zO → zH → Prop) (pc : Nat) (pl : List (Option Value)) (st : List Value) (h : zH) (nc ns : Nat) : Prop :=
  ∀ (p : Program) (e : Env) (s : State) (m : MethodId) (args : Array Value) (below : List Frame) (meth : Method) (c : Code) (ad0 : Nat → Nat) (n : Nat), zX G M p e s m args meth c →
    ∀ (ad : Nat → Nat) (H : Heap) (locs : List Loc) (ls : Array Slot), zI G M P s ad0 n ad H locs ls pl st h →
      W p G.l e R s m args below meth c H locs nc ns (zEnd G P below s R.cells R.slots (zQ G ad0 n Q)) (F0 m pc ls (st.map (zv ad)))
theorem zos_nil {n : Nat} : zos n [] := fun v h => by cases h
theorem zos_c {n : Nat} {v : Value} {st : List Value} (h1 : zov n v) (h2 : zos n st) : zos n (v :: st) := by
  intro w hw
  rcases List.mem_cons.mp hw with rfl | h
  · exact h1
  · exact h2 w h
theorem zos_t {n : Nat} {v : Value} {st : List Value} (h : zos n (v :: st)) : zos n st := fun w hw => h w (List.mem_cons_of_mem _ hw)
theorem zos_h {n : Nat} {v : Value} {st : List Value} (h : zos n (v :: st)) : zov n v := h v List.mem_cons_self
theorem zI.st {G : zG} {M : zM} {P : Bool} {s : State} {ad0 : Nat → Nat} {n : Nat} {ad : Nat → Nat} {H : Heap} {locs : List Loc} {ls : Array Slot} {pl : List (Option Value)} {st st' : List Value} {h : zH} (hI : zI G M P s ad0 n ad H locs ls pl st h) (hs : zos h.length st') : zI G M P s ad0 n ad H locs ls pl st' h :=
  ⟨hI.1, hI.2.1, hI.2.2.1, hI.2.2.2.1, hI.2.2.2.2.1, hs, hI.2.2.2.2.2.2⟩
theorem zI.s0 {G : zG} {M : zM} {P : Bool} {s : State} {ad0 : Nat → Nat} {n : Nat} {ad : Nat → Nat} {H : Heap} {locs : List Loc} {ls : Array Slot} {pl : List (Option Value)} {st : List Value} {h : zH} (hI : zI G M P s ad0 n ad H locs ls pl st h) : zos h.length st := hI.2.2.2.2.2.1
theorem zcat (ad : Nat → Nat) (v : Value) : (zv ad v).category = v.category := by cases v <;> rfl
def zent (ad : Nat → Nat) (pl : List (Option Value)) : List (Nat × Value) := pl.zipIdx.filterMap (fun q => q.1.map (fun v => (q.2, zv ad v)))
theorem zent_mem {ad : Nat → Nat} {pl : List (Option Value)} {i : Nat} {w : Value} : (i, w) ∈ zent ad pl ↔ ∃ v, pl[i]? = some (some v) ∧ w = zv ad v := by
  simp only [zent, List.mem_filterMap, Option.map_eq_some_iff, Prod.mk.injEq]
  constructor
  · rintro ⟨⟨o, j⟩, hm, v, ho, rfl, rfl⟩
    have := List.mem_zipIdx_iff_getElem?.mp hm
    simp only at ho this
    subst ho
    exact ⟨v, this, rfl⟩
  · rintro ⟨v, hv, rfl⟩
    exact ⟨(some v, i), List.mem_zipIdx_iff_getElem?.mpr hv, v, rfl, rfl, rfl⟩
theorem zhas.lv {ad : Nat → Nat} {pl : List (Option Value)} {nL : Nat} {ls : Array Slot} (h : zhas ad pl nL ls) : lv_has ls nL (zent ad pl) :=
  ⟨h.1, h.2.1, fun q hq => by obtain ⟨v, h1, h2⟩ := zent_mem.mp (show (q.1, q.2) ∈ _ from hq); rw [h2]; exact h.2.2 _ _ h1⟩
theorem zhas.put {ad : Nat → Nat} {pl : List (Option Value)} {nL n : Nat} {ls' : Array Slot} {i : Nat} {v : Value} (hp : zol n pl) (h : lv_has ls' nL ((i, zv ad v) :: (zent ad pl).filter (fun q => !(q.1 == i) && !(q.1 + 1 == i && q.2.category == 2)))) : zhas ad (pl.set i (some v)) nL ls' := by
  refine ⟨h.1, h.2.1, fun j w hw => ?_⟩
  rw [List.getElem?_set] at hw
  by_cases hi : i = j
  · subst hi
    by_cases hl : i < pl.length
    · simp [hl] at hw
      subst hw
      exact h.2.2 _ List.mem_cons_self
    · simp [hl] at hw
  · simp [hi] at hw
    refine h.2.2 (j, zv ad w) (List.mem_cons_of_mem _ (List.mem_filter.mpr ⟨zent_mem.mpr ⟨w, hw, rfl⟩, ?_⟩))
    have hc : (zv ad w).category = 1 := by rw [zcat]; exact (hp j w hw).2
    simp [hc, Ne.symm hi]
theorem zol_set {n i : Nat} {pl : List (Option Value)} {v : Value} (h : zol n pl) (hv : zov n v) (hc : v.category = 1) : zol n (pl.set i (some v)) := by
  intro j w hw
  rw [List.getElem?_set] at hw
  by_cases hi : i = j
  · subst hi
    by_cases hl : i < pl.length
    · simp [hl] at hw; subst hw; exact ⟨hv, hc⟩
    · simp [hl] at hw
  · simp [hi] at hw; exact h j w hw
theorem zI.put {G : zG} {M : zM} {P : Bool} {s : State} {ad0 : Nat → Nat} {n : Nat} {ad : Nat → Nat} {H : Heap} {locs : List Loc} {ls ls' : Array Slot} {pl : List (Option Value)} {st st' : List Value} {h : zH} {i : Nat} {v : Value} (hI : zI G M P s ad0 n ad H locs ls pl st h) (hs : zos h.length st') (hv : zov h.length v) (hc : v.category = 1)
    (h' : lv_has ls' M.maxL ((i, zv ad v) :: (zent ad pl).filter (fun q => !(q.1 == i) && !(q.1 + 1 == i && q.2.category == 2)))) : zI G M P s ad0 n ad H locs ls' (pl.set i (some v)) st' h :=
  ⟨hI.1, hI.2.1, hI.2.2.1, hI.2.2.2.1, zol_set hI.2.2.2.2.1 hv hc, hs, zhas.put hI.2.2.2.2.1 h'⟩
theorem zI.l {G : zG} {M : zM} {P : Bool} {s : State} {ad0 : Nat → Nat} {n : Nat} {ad : Nat → Nat} {H : Heap} {locs : List Loc} {ls : Array Slot} {pl : List (Option Value)} {st : List Value} {h : zH} (hI : zI G M P s ad0 n ad H locs ls pl st h) {i : Nat} {v : Value} (hi : pl[i]? = some (some v)) : ls[i]? = some (.val (zv ad v)) := hI.2.2.2.2.2.2.2.2 i v hi
section PWrows
variable {G : zG} {M : zM} {R : Room} {P : Bool} {Q : zO → zH → Prop} {pc : Nat} {pl : List (Option Value)} {st : List Value} {h : zH} {nc ns : Nat}

theorem pw_iconst {k : Int} {x : Int32} (hd : decode M.code pc = .ok (.iconst k, 1)) (hx : Int32.ofInt k = x) (kk : PW G M R P Q (pc + 1) pl (.int x :: st) h nc ns) : PW G M R P Q pc pl st h nc ns := by
  intro p e s m args below meth c ad0 n C ad H locs ls hI
  exact lv_iconst C.1 C.2.1 hd hx (kk p e s m args below meth c ad0 n C ad H locs ls (hI.st (zos_c trivial hI.s0)))
theorem pw_bipush {k : Int} {x : Int32} (hd : decode M.code pc = .ok (.bipush k, 2)) (hx : (Int8.ofInt k).toInt32 = x) (kk : PW G M R P Q (pc + 2) pl (.int x :: st) h nc ns) : PW G M R P Q pc pl st h nc ns := by
  intro p e s m args below meth c ad0 n C ad H locs ls hI
  exact lv_bipush C.1 C.2.1 hd hx (kk p e s m args below meth c ad0 n C ad H locs ls (hI.st (zos_c trivial hI.s0)))
theorem pw_sipush {k : Int} {x : Int32} (hd : decode M.code pc = .ok (.sipush k, 3)) (hx : (Int16.ofInt k).toInt32 = x) (kk : PW G M R P Q (pc + 3) pl (.int x :: st) h nc ns) : PW G M R P Q pc pl st h nc ns := by
  intro p e s m args below meth c ad0 n C ad H locs ls hI
  exact lv_sipush C.1 C.2.1 hd hx (kk p e s m args below meth c ad0 n C ad H locs ls (hI.st (zos_c trivial hI.s0)))
theorem pw_lconst {k : Fin 2} {x : Int64} (hd : decode M.code pc = .ok (.lconst k, 1)) (hx : Int64.ofNat (k : Nat) = x) (kk : PW G M R P Q (pc + 1) pl (.long x :: st) h nc ns) : PW G M R P Q pc pl st h nc ns := by
  intro p e s m args below meth c ad0 n C ad H locs ls hI
  exact lv_lconst C.1 C.2.1 hd hx (kk p e s m args below meth c ad0 n C ad H locs ls (hI.st (zos_c trivial hI.s0)))
theorem pw_anull  (hd : decode M.code pc = .ok (.aconst_null, 1)) (kk : PW G M R P Q (pc + 1) pl (.null :: st) h nc ns) : PW G M R P Q pc pl st h nc ns := by
  intro p e s m args below meth c ad0 n C ad H locs ls hI
  exact lv_null C.1 C.2.1 hd (kk p e s m args below meth c ad0 n C ad H locs ls (hI.st (zos_c trivial hI.s0)))
theorem pw_iload_n {k : Fin 4} {i : Nat} {x : Int32} (hd : decode M.code pc = .ok (.iload_n k, 1)) (hk : (k : Nat) = i) (hx : pl[i]? = some (some (.int x))) (kk : PW G M R P Q (pc + 1) pl (.int x :: st) h nc ns) : PW G M R P Q pc pl st h nc ns := by
  intro p e s m args below meth c ad0 n C ad H locs ls hI
  exact lv_iload_n C.1 C.2.1 hd hk (hI.l hx) (kk p e s m args below meth c ad0 n C ad H locs ls (hI.st (zos_c trivial hI.s0)))
theorem pw_iload {i : Nat} {x : Int32} (hd : decode M.code pc = .ok (.iload i, 2)) (hx : pl[i]? = some (some (.int x))) (kk : PW G M R P Q (pc + 2) pl (.int x :: st) h nc ns) : PW G M R P Q pc pl st h nc ns := by
  intro p e s m args below meth c ad0 n C ad H locs ls hI
  exact lv_iload C.1 C.2.1 hd (hI.l hx) (kk p e s m args below meth c ad0 n C ad H locs ls (hI.st (zos_c trivial hI.s0)))
theorem pw_aload_n {k : Fin 4} {i x : Nat} (hd : decode M.code pc = .ok (.aload_n k, 1)) (hk : (k : Nat) = i) (hx : pl[i]? = some (some (.ref x))) (kk : PW G M R P Q (pc + 1) pl (.ref x :: st) h nc ns) : PW G M R P Q pc pl st h nc ns := by
  intro p e s m args below meth c ad0 n C ad H locs ls hI
  exact lv_aload_n C.1 C.2.1 hd hk (hI.l hx) (kk p e s m args below meth c ad0 n C ad H locs ls (hI.st (zos_c (hI.2.2.2.2.1 _ _ hx).1 hI.s0)))
theorem pw_aload {i x : Nat} (hd : decode M.code pc = .ok (.aload i, 2)) (hx : pl[i]? = some (some (.ref x))) (kk : PW G M R P Q (pc + 2) pl (.ref x :: st) h nc ns) : PW G M R P Q pc pl st h nc ns := by
  intro p e s m args below meth c ad0 n C ad H locs ls hI
  exact lv_aload C.1 C.2.1 hd (hI.l hx) (kk p e s m args below meth c ad0 n C ad H locs ls (hI.st (zos_c (hI.2.2.2.2.1 _ _ hx).1 hI.s0)))
theorem pw_istore_n {k : Fin 4} {i : Nat} {x : Int32} (hd : decode M.code pc = .ok (.istore_n k, 1)) (hk : (k : Nat) = i) (hi : i < M.maxL) (kk : PW G M R P Q (pc + 1) (pl.set i (some (.int x))) st h nc ns) : PW G M R P Q pc pl (.int x :: st) h nc ns := by
  intro p e s m args below meth c ad0 n C ad H locs ls hI
  exact lv_istore_n C.1 C.2.1 hd hk hI.2.2.2.2.2.2.lv hi rfl (fun ls' h' => kk p e s m args below meth c ad0 n C ad H locs ls' (hI.put (v := .int x) (zos_t hI.s0) (zos_h hI.s0) rfl h'))
theorem pw_istore {i : Nat} {x : Int32} (hd : decode M.code pc = .ok (.istore i, 2)) (hi : i < M.maxL) (kk : PW G M R P Q (pc + 2) (pl.set i (some (.int x))) st h nc ns) : PW G M R P Q pc pl (.int x :: st) h nc ns := by
  intro p e s m args below meth c ad0 n C ad H locs ls hI
  exact lv_istore C.1 C.2.1 hd hI.2.2.2.2.2.2.lv hi rfl (fun ls' h' => kk p e s m args below meth c ad0 n C ad H locs ls' (hI.put (v := .int x) (zos_t hI.s0) (zos_h hI.s0) rfl h'))
theorem pw_astore_n {k : Fin 4} {i x : Nat} (hd : decode M.code pc = .ok (.astore_n k, 1)) (hk : (k : Nat) = i) (hi : i < M.maxL) (kk : PW G M R P Q (pc + 1) (pl.set i (some (.ref x))) st h nc ns) : PW G M R P Q pc pl (.ref x :: st) h nc ns := by
  intro p e s m args below meth c ad0 n C ad H locs ls hI
  exact lv_astore_n C.1 C.2.1 hd hk hI.2.2.2.2.2.2.lv hi rfl (fun ls' h' => kk p e s m args below meth c ad0 n C ad H locs ls' (hI.put (v := .ref x) (zos_t hI.s0) (zos_h hI.s0) rfl h'))
theorem pw_astore {i x : Nat} (hd : decode M.code pc = .ok (.astore i, 2)) (hi : i < M.maxL) (kk : PW G M R P Q (pc + 2) (pl.set i (some (.ref x))) st h nc ns) : PW G M R P Q pc pl (.ref x :: st) h nc ns := by
  intro p e s m args below meth c ad0 n C ad H locs ls hI
  exact lv_astore C.1 C.2.1 hd hI.2.2.2.2.2.2.lv hi rfl (fun ls' h' => kk p e s m args below meth c ad0 n C ad H locs ls' (hI.put (v := .ref x) (zos_t hI.s0) (zos_h hI.s0) rfl h'))
theorem pw_iinc {i : Nat} {k : Int} {x y : Int32} (hd : decode M.code pc = .ok (.iinc i k, 3)) (hx : pl[i]? = some (some (.int x))) (hy : x + Int32.ofInt k = y) (hi : i < M.maxL) (kk : PW G M R P Q (pc + 3) (pl.set i (some (.int y))) st h nc ns) : PW G M R P Q pc pl st h nc ns := by
  intro p e s m args below meth c ad0 n C ad H locs ls hI
  obtain ⟨j, hj⟩ := List.getElem?_of_mem (zent_mem.mpr ⟨_, hx, rfl⟩ : (i, zv ad (.int x)) ∈ zent ad pl)
  exact lv_iinc C.1 C.2.1 hd hI.2.2.2.2.2.2.lv hj hy hi rfl (fun ls' h' => kk p e s m args below meth c ad0 n C ad H locs ls' (hI.put (v := .int y) hI.s0 trivial rfl h'))
theorem pw_iadd {x y : Int32} (hd : decode M.code pc = .ok (.iadd, 1)) (kk : PW G M R P Q (pc + 1) pl (.int (x + y) :: st) h nc ns) : PW G M R P Q pc pl (.int y :: .int x :: st) h nc ns := by
  intro p e s m args below meth c ad0 n C ad H locs ls hI
  exact lv_iadd C.1 C.2.1 hd (kk p e s m args below meth c ad0 n C ad H locs ls (hI.st (zos_c trivial (zos_t (zos_t hI.s0)))))
theorem pw_isub {x y : Int32} (hd : decode M.code pc = .ok (.isub, 1)) (kk : PW G M R P Q (pc + 1) pl (.int (x - y) :: st) h nc ns) : PW G M R P Q pc pl (.int y :: .int x :: st) h nc ns := by
  intro p e s m args below meth c ad0 n C ad H locs ls hI
  exact lv_isub C.1 C.2.1 hd (kk p e s m args below meth c ad0 n C ad H locs ls (hI.st (zos_c trivial (zos_t (zos_t hI.s0)))))
theorem pw_imul {x y : Int32} (hd : decode M.code pc = .ok (.imul, 1)) (kk : PW G M R P Q (pc + 1) pl (.int (x * y) :: st) h nc ns) : PW G M R P Q pc pl (.int y :: .int x :: st) h nc ns := by
  intro p e s m args below meth c ad0 n C ad H locs ls hI
  exact lv_imul C.1 C.2.1 hd (kk p e s m args below meth c ad0 n C ad H locs ls (hI.st (zos_c trivial (zos_t (zos_t hI.s0)))))
theorem pw_iand {x y : Int32} (hd : decode M.code pc = .ok (.iand, 1)) (kk : PW G M R P Q (pc + 1) pl (.int (x &&& y) :: st) h nc ns) : PW G M R P Q pc pl (.int y :: .int x :: st) h nc ns := by
  intro p e s m args below meth c ad0 n C ad H locs ls hI
  exact lv_iand C.1 C.2.1 hd (kk p e s m args below meth c ad0 n C ad H locs ls (hI.st (zos_c trivial (zos_t (zos_t hI.s0)))))
theorem pw_ior {x y : Int32} (hd : decode M.code pc = .ok (.ior, 1)) (kk : PW G M R P Q (pc + 1) pl (.int (x ||| y) :: st) h nc ns) : PW G M R P Q pc pl (.int y :: .int x :: st) h nc ns := by
  intro p e s m args below meth c ad0 n C ad H locs ls hI
  exact lv_ior C.1 C.2.1 hd (kk p e s m args below meth c ad0 n C ad H locs ls (hI.st (zos_c trivial (zos_t (zos_t hI.s0)))))
theorem pw_ixor {x y : Int32} (hd : decode M.code pc = .ok (.ixor, 1)) (kk : PW G M R P Q (pc + 1) pl (.int (x ^^^ y) :: st) h nc ns) : PW G M R P Q pc pl (.int y :: .int x :: st) h nc ns := by
  intro p e s m args below meth c ad0 n C ad H locs ls hI
  exact lv_ixor C.1 C.2.1 hd (kk p e s m args below meth c ad0 n C ad H locs ls (hI.st (zos_c trivial (zos_t (zos_t hI.s0)))))
theorem pw_ishl {x y : Int32} (hd : decode M.code pc = .ok (.ishl, 1)) (kk : PW G M R P Q (pc + 1) pl (.int (x <<< (y &&& 31)) :: st) h nc ns) : PW G M R P Q pc pl (.int y :: .int x :: st) h nc ns := by
  intro p e s m args below meth c ad0 n C ad H locs ls hI
  exact lv_ishl C.1 C.2.1 hd (kk p e s m args below meth c ad0 n C ad H locs ls (hI.st (zos_c trivial (zos_t (zos_t hI.s0)))))
theorem pw_ishr {x y : Int32} (hd : decode M.code pc = .ok (.ishr, 1)) (kk : PW G M R P Q (pc + 1) pl (.int (x >>> (y &&& 31)) :: st) h nc ns) : PW G M R P Q pc pl (.int y :: .int x :: st) h nc ns := by
  intro p e s m args below meth c ad0 n C ad H locs ls hI
  exact lv_ishr C.1 C.2.1 hd (kk p e s m args below meth c ad0 n C ad H locs ls (hI.st (zos_c trivial (zos_t (zos_t hI.s0)))))
theorem pw_idiv {x y : Int32} (hd : decode M.code pc = .ok (.idiv, 1)) (hne : ¬ y = 0) (kk : PW G M R P Q (pc + 1) pl (.int (x / y) :: st) h nc ns) : PW G M R P Q pc pl (.int y :: .int x :: st) h nc ns := by
  intro p e s m args below meth c ad0 n C ad H locs ls hI
  exact lv_idiv C.1 C.2.1 hd hne (kk p e s m args below meth c ad0 n C ad H locs ls (hI.st (zos_c trivial (zos_t (zos_t hI.s0)))))
theorem pw_irem {x y : Int32} (hd : decode M.code pc = .ok (.irem, 1)) (hne : ¬ y = 0) (kk : PW G M R P Q (pc + 1) pl (.int (x - x / y * y) :: st) h nc ns) : PW G M R P Q pc pl (.int y :: .int x :: st) h nc ns := by
  intro p e s m args below meth c ad0 n C ad H locs ls hI
  exact lv_irem C.1 C.2.1 hd hne (kk p e s m args below meth c ad0 n C ad H locs ls (hI.st (zos_c trivial (zos_t (zos_t hI.s0)))))
theorem pw_ineg {x : Int32} (hd : decode M.code pc = .ok (.ineg, 1)) (kk : PW G M R P Q (pc + 1) pl (.int (-x) :: st) h nc ns) : PW G M R P Q pc pl (.int x :: st) h nc ns := by
  intro p e s m args below meth c ad0 n C ad H locs ls hI
  exact lv_ineg C.1 C.2.1 hd (kk p e s m args below meth c ad0 n C ad H locs ls (hI.st (zos_c trivial (zos_t hI.s0))))
theorem pw_i2l {x : Int32} (hd : decode M.code pc = .ok (.i2l, 1)) (kk : PW G M R P Q (pc + 1) pl (.long x.toInt64 :: st) h nc ns) : PW G M R P Q pc pl (.int x :: st) h nc ns := by
  intro p e s m args below meth c ad0 n C ad H locs ls hI
  exact lv_i2l C.1 C.2.1 hd rfl (kk p e s m args below meth c ad0 n C ad H locs ls (hI.st (zos_c trivial (zos_t hI.s0))))
theorem pw_ladd {x y : Int64} (hd : decode M.code pc = .ok (.ladd, 1)) (kk : PW G M R P Q (pc + 1) pl (.long (x + y) :: st) h nc ns) : PW G M R P Q pc pl (.long y :: .long x :: st) h nc ns := by
  intro p e s m args below meth c ad0 n C ad H locs ls hI
  exact lv_ladd C.1 C.2.1 hd (kk p e s m args below meth c ad0 n C ad H locs ls (hI.st (zos_c trivial (zos_t (zos_t hI.s0)))))
theorem pw_lsub {x y : Int64} (hd : decode M.code pc = .ok (.lsub, 1)) (kk : PW G M R P Q (pc + 1) pl (.long (x - y) :: st) h nc ns) : PW G M R P Q pc pl (.long y :: .long x :: st) h nc ns := by
  intro p e s m args below meth c ad0 n C ad H locs ls hI
  exact lv_lsub C.1 C.2.1 hd (kk p e s m args below meth c ad0 n C ad H locs ls (hI.st (zos_c trivial (zos_t (zos_t hI.s0)))))
theorem pw_lmul {x y : Int64} (hd : decode M.code pc = .ok (.lmul, 1)) (kk : PW G M R P Q (pc + 1) pl (.long (x * y) :: st) h nc ns) : PW G M R P Q pc pl (.long y :: .long x :: st) h nc ns := by
  intro p e s m args below meth c ad0 n C ad H locs ls hI
  exact lv_lmul C.1 C.2.1 hd (kk p e s m args below meth c ad0 n C ad H locs ls (hI.st (zos_c trivial (zos_t (zos_t hI.s0)))))
theorem pw_ldiv {x y : Int64} (hd : decode M.code pc = .ok (.ldiv, 1)) (hne : ¬ y = 0) (kk : PW G M R P Q (pc + 1) pl (.long (x / y) :: st) h nc ns) : PW G M R P Q pc pl (.long y :: .long x :: st) h nc ns := by
  intro p e s m args below meth c ad0 n C ad H locs ls hI
  exact lv_ldiv C.1 C.2.1 hd hne (kk p e s m args below meth c ad0 n C ad H locs ls (hI.st (zos_c trivial (zos_t (zos_t hI.s0)))))
theorem pw_lrem {x y : Int64} (hd : decode M.code pc = .ok (.lrem, 1)) (hne : ¬ y = 0) (kk : PW G M R P Q (pc + 1) pl (.long (x - x / y * y) :: st) h nc ns) : PW G M R P Q pc pl (.long y :: .long x :: st) h nc ns := by
  intro p e s m args below meth c ad0 n C ad H locs ls hI
  exact lv_lrem C.1 C.2.1 hd hne (kk p e s m args below meth c ad0 n C ad H locs ls (hI.st (zos_c trivial (zos_t (zos_t hI.s0)))))
theorem pw_lneg {x : Int64} (hd : decode M.code pc = .ok (.lneg, 1)) (kk : PW G M R P Q (pc + 1) pl (.long (-x) :: st) h nc ns) : PW G M R P Q pc pl (.long x :: st) h nc ns := by
  intro p e s m args below meth c ad0 n C ad H locs ls hI
  exact lv_lneg C.1 C.2.1 hd (kk p e s m args below meth c ad0 n C ad H locs ls (hI.st (zos_c trivial (zos_t hI.s0))))
theorem pw_l2i {x : Int64} (hd : decode M.code pc = .ok (.l2i, 1)) (kk : PW G M R P Q (pc + 1) pl (.int x.toInt32 :: st) h nc ns) : PW G M R P Q pc pl (.long x :: st) h nc ns := by
  intro p e s m args below meth c ad0 n C ad H locs ls hI
  exact lv_l2i C.1 C.2.1 hd rfl (kk p e s m args below meth c ad0 n C ad H locs ls (hI.st (zos_c trivial (zos_t hI.s0))))
theorem pw_lcmp {x y : Int64} (hd : decode M.code pc = .ok (.lcmp, 1)) (kk : PW G M R P Q (pc + 1) pl (.int (lg_cmp x y) :: st) h nc ns) : PW G M R P Q pc pl (.long y :: .long x :: st) h nc ns := by
  intro p e s m args below meth c ad0 n C ad H locs ls hI
  exact W.lcmp C.1 C.2.1 hd (kk p e s m args below meth c ad0 n C ad H locs ls (hI.st (zos_c trivial (zos_t (zos_t hI.s0)))))
theorem pw_dup {v : Value} (hd : decode M.code pc = .ok (.dup, 1)) (hv : v.category = 1) (kk : PW G M R P Q (pc + 1) pl (v :: v :: st) h nc ns) : PW G M R P Q pc pl (v :: st) h nc ns := by
  intro p e s m args below meth c ad0 n C ad H locs ls hI
  exact lv_dup C.1 C.2.1 hd (by rw [zcat]; exact hv) (kk p e s m args below meth c ad0 n C ad H locs ls (hI.st (zos_c (zos_h hI.s0) hI.s0)))
theorem pw_pop {v : Value} (hd : decode M.code pc = .ok (.pop, 1)) (hv : v.category = 1) (kk : PW G M R P Q (pc + 1) pl st h nc ns) : PW G M R P Q pc pl (v :: st) h nc ns := by
  intro p e s m args below meth c ad0 n C ad H locs ls hI
  exact lv_pop C.1 C.2.1 hd (va := zv ad v) (by rw [zcat]; exact hv) (kk p e s m args below meth c ad0 n C ad H locs ls (hI.st (zos_t hI.s0)))
theorem pw_dup_x1 {v w : Value} (hd : decode M.code pc = .ok (.dup_x1, 1)) (hv : v.category = 1) (hw : w.category = 1) (kk : PW G M R P Q (pc + 1) pl (v :: w :: v :: st) h nc ns) : PW G M R P Q pc pl (v :: w :: st) h nc ns := by
  intro p e s m args below meth c ad0 n C ad H locs ls hI
  exact lv_dup_x1 C.1 C.2.1 hd (by rw [zcat]; exact hv) (by rw [zcat]; exact hw) (kk p e s m args below meth c ad0 n C ad H locs ls (hI.st (zos_c (zos_h hI.s0) (zos_c (zos_h (zos_t hI.s0)) (zos_c (zos_h hI.s0) (zos_t (zos_t hI.s0)))))))
theorem pw_dup_x2 {v w z : Value} (hd : decode M.code pc = .ok (.dup_x2, 1)) (hv : v.category = 1) (hw : w.category = 1) (hz : z.category = 1) (kk : PW G M R P Q (pc + 1) pl (v :: w :: z :: v :: st) h nc ns) : PW G M R P Q pc pl (v :: w :: z :: st) h nc ns := by
  intro p e s m args below meth c ad0 n C ad H locs ls hI
  exact lv_dup_x2 C.1 C.2.1 hd (by rw [zcat]; exact hv) (by rw [zcat]; exact hw) (by rw [zcat]; exact hz) (kk p e s m args below meth c ad0 n C ad H locs ls (hI.st (zos_c (zos_h hI.s0) (zos_c (zos_h (zos_t hI.s0)) (zos_c (zos_h (zos_t (zos_t hI.s0))) (zos_c (zos_h hI.s0) (zos_t (zos_t (zos_t hI.s0)))))))))
theorem pw_dup2 {v w : Value} (hd : decode M.code pc = .ok (.dup2, 1)) (hv : v.category = 1) (hw : w.category = 1) (kk : PW G M R P Q (pc + 1) pl (v :: w :: v :: w :: st) h nc ns) : PW G M R P Q pc pl (v :: w :: st) h nc ns := by
  intro p e s m args below meth c ad0 n C ad H locs ls hI
  exact lv_dup2_11 C.1 C.2.1 hd (by rw [zcat]; exact hv) (by rw [zcat]; exact hw) (kk p e s m args below meth c ad0 n C ad H locs ls (hI.st (zos_c (zos_h hI.s0) (zos_c (zos_h (zos_t hI.s0)) hI.s0))))
theorem pw_if_eq {x : Int32} {off : Int} (tgt : Nat) (hd : decode M.code pc = .ok (.ifCond .eq off, 3)) (ht : (pc : Int) + off = (tgt : Int)) (kt : x = 0 → PW G M R P Q tgt pl st h nc ns) (kf : ¬ (x = 0) → PW G M R P Q (pc + 3) pl st h nc ns) : PW G M R P Q pc pl (.int x :: st) h nc ns := by
  intro p e s m args below meth c ad0 n C ad H locs ls hI
  exact lv_if_eq C.1 C.2.1 hd ht (fun q => kt q p e s m args below meth c ad0 n C ad H locs ls (hI.st (zos_t hI.s0))) (fun q => kf q p e s m args below meth c ad0 n C ad H locs ls (hI.st (zos_t hI.s0)))
theorem pw_if_ne {x : Int32} {off : Int} (tgt : Nat) (hd : decode M.code pc = .ok (.ifCond .ne off, 3)) (ht : (pc : Int) + off = (tgt : Int)) (kt : ¬ x = 0 → PW G M R P Q tgt pl st h nc ns) (kf : x = 0 → PW G M R P Q (pc + 3) pl st h nc ns) : PW G M R P Q pc pl (.int x :: st) h nc ns := by
  intro p e s m args below meth c ad0 n C ad H locs ls hI
  exact lv_if_ne C.1 C.2.1 hd ht (fun q => kt q p e s m args below meth c ad0 n C ad H locs ls (hI.st (zos_t hI.s0))) (fun q => kf q p e s m args below meth c ad0 n C ad H locs ls (hI.st (zos_t hI.s0)))
theorem pw_if_lt {x : Int32} {off : Int} (tgt : Nat) (hd : decode M.code pc = .ok (.ifCond .lt off, 3)) (ht : (pc : Int) + off = (tgt : Int)) (kt : x < 0 → PW G M R P Q tgt pl st h nc ns) (kf : ¬ (x < 0) → PW G M R P Q (pc + 3) pl st h nc ns) : PW G M R P Q pc pl (.int x :: st) h nc ns := by
  intro p e s m args below meth c ad0 n C ad H locs ls hI
  exact lv_if_lt C.1 C.2.1 hd ht (fun q => kt q p e s m args below meth c ad0 n C ad H locs ls (hI.st (zos_t hI.s0))) (fun q => kf q p e s m args below meth c ad0 n C ad H locs ls (hI.st (zos_t hI.s0)))
theorem pw_if_ge {x : Int32} {off : Int} (tgt : Nat) (hd : decode M.code pc = .ok (.ifCond .ge off, 3)) (ht : (pc : Int) + off = (tgt : Int)) (kt : 0 ≤ x → PW G M R P Q tgt pl st h nc ns) (kf : ¬ (0 ≤ x) → PW G M R P Q (pc + 3) pl st h nc ns) : PW G M R P Q pc pl (.int x :: st) h nc ns := by
  intro p e s m args below meth c ad0 n C ad H locs ls hI
  exact lv_if_ge C.1 C.2.1 hd ht (fun q => kt q p e s m args below meth c ad0 n C ad H locs ls (hI.st (zos_t hI.s0))) (fun q => kf q p e s m args below meth c ad0 n C ad H locs ls (hI.st (zos_t hI.s0)))
theorem pw_if_gt {x : Int32} {off : Int} (tgt : Nat) (hd : decode M.code pc = .ok (.ifCond .gt off, 3)) (ht : (pc : Int) + off = (tgt : Int)) (kt : 0 < x → PW G M R P Q tgt pl st h nc ns) (kf : ¬ (0 < x) → PW G M R P Q (pc + 3) pl st h nc ns) : PW G M R P Q pc pl (.int x :: st) h nc ns := by
  intro p e s m args below meth c ad0 n C ad H locs ls hI
  exact lv_if_gt C.1 C.2.1 hd ht (fun q => kt q p e s m args below meth c ad0 n C ad H locs ls (hI.st (zos_t hI.s0))) (fun q => kf q p e s m args below meth c ad0 n C ad H locs ls (hI.st (zos_t hI.s0)))
theorem pw_if_le {x : Int32} {off : Int} (tgt : Nat) (hd : decode M.code pc = .ok (.ifCond .le off, 3)) (ht : (pc : Int) + off = (tgt : Int)) (kt : x ≤ 0 → PW G M R P Q tgt pl st h nc ns) (kf : ¬ (x ≤ 0) → PW G M R P Q (pc + 3) pl st h nc ns) : PW G M R P Q pc pl (.int x :: st) h nc ns := by
  intro p e s m args below meth c ad0 n C ad H locs ls hI
  exact lv_if_le C.1 C.2.1 hd ht (fun q => kt q p e s m args below meth c ad0 n C ad H locs ls (hI.st (zos_t hI.s0))) (fun q => kf q p e s m args below meth c ad0 n C ad H locs ls (hI.st (zos_t hI.s0)))
theorem pw_icmp_eq {x y : Int32} {off : Int} (tgt : Nat) (hd : decode M.code pc = .ok (.if_icmp .eq off, 3)) (ht : (pc : Int) + off = (tgt : Int)) (kt : x = y → PW G M R P Q tgt pl st h nc ns) (kf : ¬ (x = y) → PW G M R P Q (pc + 3) pl st h nc ns) : PW G M R P Q pc pl (.int y :: .int x :: st) h nc ns := by
  intro p e s m args below meth c ad0 n C ad H locs ls hI
  exact lv_icmp_eq C.1 C.2.1 hd ht (fun q => kt q p e s m args below meth c ad0 n C ad H locs ls (hI.st (zos_t (zos_t hI.s0)))) (fun q => kf q p e s m args below meth c ad0 n C ad H locs ls (hI.st (zos_t (zos_t hI.s0))))
theorem pw_icmp_ne {x y : Int32} {off : Int} (tgt : Nat) (hd : decode M.code pc = .ok (.if_icmp .ne off, 3)) (ht : (pc : Int) + off = (tgt : Int)) (kt : ¬ x = y → PW G M R P Q tgt pl st h nc ns) (kf : x = y → PW G M R P Q (pc + 3) pl st h nc ns) : PW G M R P Q pc pl (.int y :: .int x :: st) h nc ns := by
  intro p e s m args below meth c ad0 n C ad H locs ls hI
  exact lv_icmp_ne C.1 C.2.1 hd ht (fun q => kt q p e s m args below meth c ad0 n C ad H locs ls (hI.st (zos_t (zos_t hI.s0)))) (fun q => kf q p e s m args below meth c ad0 n C ad H locs ls (hI.st (zos_t (zos_t hI.s0))))
theorem pw_icmp_lt {x y : Int32} {off : Int} (tgt : Nat) (hd : decode M.code pc = .ok (.if_icmp .lt off, 3)) (ht : (pc : Int) + off = (tgt : Int)) (kt : x < y → PW G M R P Q tgt pl st h nc ns) (kf : ¬ (x < y) → PW G M R P Q (pc + 3) pl st h nc ns) : PW G M R P Q pc pl (.int y :: .int x :: st) h nc ns := by
  intro p e s m args below meth c ad0 n C ad H locs ls hI
  exact lv_icmp_lt C.1 C.2.1 hd ht (fun q => kt q p e s m args below meth c ad0 n C ad H locs ls (hI.st (zos_t (zos_t hI.s0)))) (fun q => kf q p e s m args below meth c ad0 n C ad H locs ls (hI.st (zos_t (zos_t hI.s0))))
theorem pw_icmp_ge {x y : Int32} {off : Int} (tgt : Nat) (hd : decode M.code pc = .ok (.if_icmp .ge off, 3)) (ht : (pc : Int) + off = (tgt : Int)) (kt : y ≤ x → PW G M R P Q tgt pl st h nc ns) (kf : ¬ (y ≤ x) → PW G M R P Q (pc + 3) pl st h nc ns) : PW G M R P Q pc pl (.int y :: .int x :: st) h nc ns := by
  intro p e s m args below meth c ad0 n C ad H locs ls hI
  exact lv_icmp_ge C.1 C.2.1 hd ht (fun q => kt q p e s m args below meth c ad0 n C ad H locs ls (hI.st (zos_t (zos_t hI.s0)))) (fun q => kf q p e s m args below meth c ad0 n C ad H locs ls (hI.st (zos_t (zos_t hI.s0))))
theorem pw_icmp_gt {x y : Int32} {off : Int} (tgt : Nat) (hd : decode M.code pc = .ok (.if_icmp .gt off, 3)) (ht : (pc : Int) + off = (tgt : Int)) (kt : y < x → PW G M R P Q tgt pl st h nc ns) (kf : ¬ (y < x) → PW G M R P Q (pc + 3) pl st h nc ns) : PW G M R P Q pc pl (.int y :: .int x :: st) h nc ns := by
  intro p e s m args below meth c ad0 n C ad H locs ls hI
  exact lv_icmp_gt C.1 C.2.1 hd ht (fun q => kt q p e s m args below meth c ad0 n C ad H locs ls (hI.st (zos_t (zos_t hI.s0)))) (fun q => kf q p e s m args below meth c ad0 n C ad H locs ls (hI.st (zos_t (zos_t hI.s0))))
theorem pw_icmp_le {x y : Int32} {off : Int} (tgt : Nat) (hd : decode M.code pc = .ok (.if_icmp .le off, 3)) (ht : (pc : Int) + off = (tgt : Int)) (kt : x ≤ y → PW G M R P Q tgt pl st h nc ns) (kf : ¬ (x ≤ y) → PW G M R P Q (pc + 3) pl st h nc ns) : PW G M R P Q pc pl (.int y :: .int x :: st) h nc ns := by
  intro p e s m args below meth c ad0 n C ad H locs ls hI
  exact lv_icmp_le C.1 C.2.1 hd ht (fun q => kt q p e s m args below meth c ad0 n C ad H locs ls (hI.st (zos_t (zos_t hI.s0)))) (fun q => kf q p e s m args below meth c ad0 n C ad H locs ls (hI.st (zos_t (zos_t hI.s0))))
theorem pw_goto {off : Int} (tgt : Nat) (hd : decode M.code pc = .ok (.goto off, 3)) (ht : (pc : Int) + off = (tgt : Int)) (kk : PW G M R P Q tgt pl st h nc ns) : PW G M R P Q pc pl st h nc ns := by
  intro p e s m args below meth c ad0 n C ad H locs ls hI
  exact lv_goto C.1 C.2.1 hd ht (kk p e s m args below meth c ad0 n C ad H locs ls hI)
end PWrows
end
section
/-- a field, as the method's class links it: class number ci, place j -/
def zFL (own : String) (idx ci j : Nat) : Prop := ∃ (C : String) (T : u_T) (N : Nat), zCl[ci]? = some (C, T, N) ∧ (∀ w ∈ u_ws C T N, w ∈ zT) ∧ j < N ∧ Cond.fieldLink own idx (T j).1 (T j).2.1 (T j).2.2.1 ∈ zT
/-- the same for writing: its type; final fields only in the constructor of their class -/
def zFP (nm : MethodName) (idx ci j : Nat) (ty : FieldType) : Prop := ∃ (C : String) (T : u_T) (N : Nat) (ty0 : Nat → FieldType), zCl[ci]? = some (C, T, N) ∧ (∀ w ∈ u_ws C T N, w ∈ zT) ∧ j < N ∧ (∀ k, k < N → parseFieldDescriptor (T k).2.2.1 = some (ty0 k)) ∧ (∀ a, a < N → ∀ b, b < N → a ≠ b → (T a).2.1 ≠ (T b).2.1) ∧ parseFieldDescriptor (T j).2.2.1 = some ty ∧
  Cond.fieldLink nm.cls idx (T j).1 (T j).2.1 (T j).2.2.1 ∈ zT ∧ ((T j).2.2.2 = false ∨ ((T j).2.2.2 = true ∧ nm.name = "<init>" ∧ (T j).1 = nm.cls))
theorem zX.exec {G : zG} {M : zM} {p : Program} {e : Env} {s : State} {m : MethodId} {args : Array Value} {meth : Method} {c : Code} (C : zX G M p e s m args meth c) : p.tables.exec = Jvm.exec := C.1
theorem zX.bytes {G : zG} {M : zM} {p : Program} {e : Env} {s : State} {m : MethodId} {args : Array Value} {meth : Method} {c : Code} (C : zX G M p e s m args meth c) : c.code = M.code := C.2.1
theorem zX.ret {G : zG} {M : zM} {p : Program} {e : Env} {s : State} {m : MethodId} {args : Array Value} {meth : Method} {c : Code} (C : zX G M p e s m args meth c) : meth.sig.returnType = M.ret := C.2.2.1
theorem zX.maxL {G : zG} {M : zM} {p : Program} {e : Env} {s : State} {m : MethodId} {args : Array Value} {meth : Method} {c : Code} (C : zX G M p e s m args meth c) : c.maxLocals = M.maxL := C.2.2.2.1
theorem zX.own {G : zG} {M : zM} {p : Program} {e : Env} {s : State} {m : MethodId} {args : Array Value} {meth : Method} {c : Code} (C : zX G M p e s m args meth c) : s.vm.findClass M.nm.cls = some m.cls := C.2.2.2.2.1
theorem zX.ts {G : zG} {M : zM} {p : Program} {e : Env} {s : State} {m : MethodId} {args : Array Value} {meth : Method} {c : Code} (C : zX G M p e s m args meth c) : ∀ w ∈ zT, w.before args s = true := C.2.2.2.2.2.1
theorem zX.locks {G : zG} {M : zM} {p : Program} {e : Env} {s : State} {m : MethodId} {args : Array Value} {meth : Method} {c : Code} (C : zX G M p e s m args meth c) : meth.locks = false := C.2.2.2.2.2.2.1
theorem zX.K {G : zG} {M : zM} {p : Program} {e : Env} {s : State} {m : MethodId} {args : Array Value} {meth : Method} {c : Code} (C : zX G M p e s m args meth c) : va_K G.D zCl G.tys s := C.2.2.2.2.2.2.2.1
theorem zX.n0 {G : zG} {M : zM} {p : Program} {e : Env} {s : State} {m : MethodId} {args : Array Value} {meth : Method} {c : Code} (C : zX G M p e s m args meth c) : G.n0 ≤ s.heap.size := C.2.2.2.2.2.2.2.2.1
theorem zX.name {G : zG} {M : zM} {p : Program} {e : Env} {s : State} {m : MethodId} {args : Array Value} {meth : Method} {c : Code} (C : zX G M p e s m args meth c) : meth.name = M.nm.name := C.2.2.2.2.2.2.2.2.2.1
theorem zX.tys {G : zG} {M : zM} {p : Program} {e : Env} {s : State} {m : MethodId} {args : Array Value} {meth : Method} {c : Code} (C : zX G M p e s m args meth c) : G.tys.map Prod.snd = zTys := C.2.2.2.2.2.2.2.2.2.2.2.1
theorem zX.Z {G : zG} {M : zM} {p : Program} {e : Env} {s : State} {m : MethodId} {args : Array Value} {meth : Method} {c : Code} (C : zX G M p e s m args meth c) : zZ G s := C.2.2.2.2.2.2.2.2.2.2.2
theorem zX.tab {G : zG} {M : zM} {p : Program} {e : Env} {s : State} {m : MethodId} {args : Array Value} {meth : Method} {c : Code} (C : zX G M p e s m args meth c) : c.exceptionTable.toList.map (fun h => (h.startPc, h.endPc, h.handlerPc, h.catchType)) = M.hs := C.2.2.2.2.2.2.2.2.2.2.1
theorem zTy {tys : List (ClassId × FieldType)} (h : tys.map Prod.snd = zTys) {t : Nat} {ty : FieldType} (ht : zTys[t]? = some ty) : tys[t]? = some ((tys.getD t (0, .int)).1, ty) := by
  rw [← h, List.getElem?_map, Option.map_eq_some_iff] at ht
  obtain ⟨q, h1, h2⟩ := ht
  rw [List.getD_eq_getElem?_getD, h1]
  simp only [Option.getD_some, ← h2]
theorem zI.set {G : zG} {M : zM} {P : Bool} {s : State} {ad0 : Nat → Nat} {n : Nat} {ad : Nat → Nat} {H H1 : Heap} {locs locs1 : List Loc} {ls : Array Slot} {pl : List (Option Value)} {st st' : List Value} {h : zH} (hI : zI G M P s ad0 n ad H locs ls pl st h) (k : Nat) (x : zE) (hx : zoc h.length x) (hs : zos h.length st')
    (hP : va_P G.D zCl ((zw ad G.tys h).set k (ad k, zc ad G.tys x)) H1) (hD : va_D G.A ((zw ad G.tys h).set k (ad k, zc ad G.tys x))) (hS : va_S (zF G P) s.heap H1 locs1) : zI G M P s ad0 n ad H1 locs1 ls pl st' (h.set k x) := by
  refine ⟨hI.1, by rw [List.length_set]; exact hI.2.1, ⟨by rw [zw_set]; exact hP, by rw [zw_set]; exact hD, zoh_set hI.2.2.1.2.2 hx⟩, hS, ?_, ?_, hI.2.2.2.2.2.2⟩
  · rw [List.length_set]; exact hI.2.2.2.2.1
  · rw [List.length_set]; exact hs
section PWheap
variable {G : zG} {M : zM} {R : Room} {P : Bool} {Q : zO → zH → Prop} {pc : Nat} {pl : List (Option Value)} {st : List Value} {h : zH} {nc ns : Nat}
theorem pw_get {k j ci idx : Nat} {fs : List Value} {v : Value} (hd : decode M.code pc = .ok (.getfield idx, 3)) (hf : zFL M.nm.cls idx ci j) (hh : h[k]? = some (.inr (ci, fs))) (hv : fs[j]? = some v) (kk : PW G M R P Q (pc + 3) pl (v :: st) h nc ns) : PW G M R P Q pc pl (.ref k :: st) h nc ns := by
  intro p e s m args below meth c ad0 n C ad H locs ls hI
  obtain ⟨Cn, T, N, hc, hin, hj, hl⟩ := hf
  have hv' : (fs.map (zv ad))[j]? = some (zv ad v) := by simp [hv]
  have hov : zov h.length v := (hI.2.2.1.2.2 _ _ hh : zoc _ _) v (List.mem_of_getElem? hv)
  have kk' := kk p e s m args below meth c ad0 n C ad H locs ls (hI.st (zos_c hov (zos_t hI.s0)))
  exact va_get C.exec C.bytes C.ts hin C.own C.K hI.2.2.1.1 k (zw_get hh) hc j hj (C.ts _ hl) (fun _ q => q) hv' hd kk'
theorem pw_put {k j ci idx : Nat} {fs : List Value} {v : Value} {ty : FieldType} (hP : P = false) (hd : decode M.code pc = .ok (.putfield idx, 3)) (hf : zFP M.nm idx ci j ty) (hh : h[k]? = some (.inr (ci, fs))) (hj : j < fs.length) (hv : ∀ ad, narrow ty (zv ad v) = zv ad v ∧ fits ty (zv ad v) = true) (kk : PW G M R P Q (pc + 3) pl st (h.set k (.inr (ci, fs.set j v))) nc ns) : PW G M R P Q pc pl (v :: .ref k :: st) h nc ns := by
  intro p e s m args below meth c ad0 n C ad H locs ls hI
  obtain ⟨Cn, T, N, ty0, hc, hin, hjN, hty, hnm, hty1, hl⟩ := hf
  have hlen : j < (fs.map (zv ad)).length := by simpa using hj
  have hx : zoc h.length (.inr (ci, fs.set j v)) := fun w hw => by
    rcases List.mem_or_eq_of_mem_set hw with h1 | h1
    · exact (hI.2.2.1.2.2 _ _ hh : zoc _ _) w h1
    · rw [h1]; exact zos_h hI.s0
  have kk' : ∀ (H1 : Heap) (locs1 : List Loc), va_P G.D zCl ((zw ad G.tys h).set k (ad k, .inr (ci, (fs.map (zv ad)).set j (zv ad v)))) H1 → va_D G.A ((zw ad G.tys h).set k (ad k, .inr (ci, (fs.map (zv ad)).set j (zv ad v)))) → va_S G.A s.heap H1 locs1 → W p G.l e R s m args below meth c H1 locs1 nc ns (zEnd G P below s R.cells R.slots (zQ G ad0 n Q)) (F0 m (pc + 3) ls (st.map (zv ad))) := by
    intro H1 locs1 hP' hD hS
    refine kk p e s m args below meth c ad0 n C ad H1 locs1 ls (hI.set k (.inr (ci, fs.set j v)) hx (zos_t (zos_t hI.s0)) ?_ ?_ (zS1 hP hS))
    · simp only [zc, List.map_set]; exact hP'
    · simp only [zc, List.map_set]; exact hD
  obtain ⟨hl, hf0 | ⟨hf1, hf2, hf3⟩⟩ := hl
  · exact va_put C.exec C.bytes C.ts hin ty0 hty hnm C.own C.K hI.2.2.1.1 hI.2.2.1.2.1 (zS0 hP hI.2.2.2.1) k (zw_get hh) hc j hjN (C.ts _ hl) (fun _ q => q) hf0 hty1 (hv ad).1 (hv ad).2 hlen hd kk'
  · exact va_putF C.exec C.bytes C.ts hin ty0 hty hnm C.own C.K hI.2.2.1.1 hI.2.2.1.2.1 (zS0 hP hI.2.2.2.1) k (zw_get hh) hc j hjN (C.ts _ hl) (fun _ q => q) hf1 (C.name.trans hf2) hf3 hty1 (hv ad).1 (hv ad).2 hlen hd kk'

theorem pw_iaload {k t len : Nat} {f : Nat → Int32} {i : Int32} (hd : decode M.code pc = .ok (.iaload, 1)) (hh : h[k]? = some (.inl (t, len, .inl f))) (ht : zTys[t]? = some .int) (hi : vp_in i len) (kk : PW G M R P Q (pc + 1) pl (.int (f i.toNatClampNeg) :: st) h nc ns) : PW G M R P Q pc pl (.int i :: .ref k :: st) h nc ns := by
  intro p e s m args below meth c ad0 n C ad H locs ls hI
  exact va_iald C.exec C.bytes C.K hI.2.2.1.1 k t (zw_get hh) (zTy C.tys ht) hi hd (kk p e s m args below meth c ad0 n C ad H locs ls (hI.st (zos_c trivial (zos_t (zos_t hI.s0)))))
theorem pw_zaload {k t len : Nat} {f : Nat → Int32} {i : Int32} (hd : decode M.code pc = .ok (.baload, 1)) (hh : h[k]? = some (.inl (t, len, .inl f))) (ht : zTys[t]? = some .boolean) (hi : vp_in i len) (kk : PW G M R P Q (pc + 1) pl (.int (f i.toNatClampNeg) :: st) h nc ns) : PW G M R P Q pc pl (.int i :: .ref k :: st) h nc ns := by
  intro p e s m args below meth c ad0 n C ad H locs ls hI
  exact va_zald C.exec C.bytes C.K hI.2.2.1.1 k t (zw_get hh) (zTy C.tys ht) hi hd (kk p e s m args below meth c ad0 n C ad H locs ls (hI.st (zos_c trivial (zos_t (zos_t hI.s0)))))
theorem pw_laload {k t len : Nat} {f : Nat → Int64} {i : Int32} (hd : decode M.code pc = .ok (.laload, 1)) (hh : h[k]? = some (.inl (t, len, .inr (.inl f)))) (ht : zTys[t]? = some .long) (hi : vp_in i len) (kk : PW G M R P Q (pc + 1) pl (.long (f i.toNatClampNeg) :: st) h nc ns) : PW G M R P Q pc pl (.int i :: .ref k :: st) h nc ns := by
  intro p e s m args below meth c ad0 n C ad H locs ls hI
  exact va_lald C.exec C.bytes C.K hI.2.2.1.1 k t (zw_get hh) (zTy C.tys ht) hi hd (kk p e s m args below meth c ad0 n C ad H locs ls (hI.st (zos_c trivial (zos_t (zos_t hI.s0)))))
theorem pw_aaload {k t len y : Nat} {Cn : String} {f : Nat → Option Nat} {i : Int32} (hd : decode M.code pc = .ok (.aaload, 1)) (hh : h[k]? = some (.inl (t, len, .inr (.inr (.inr (.inr f)))))) (ht : zTys[t]? = some (.object Cn)) (hi : vp_in i len) (hy : f i.toNatClampNeg = some y) (kk : PW G M R P Q (pc + 1) pl (.ref y :: st) h nc ns) : PW G M R P Q pc pl (.int i :: .ref k :: st) h nc ns := by
  intro p e s m args below meth c ad0 n C ad H locs ls hI
  have ho : y < h.length := (hI.2.2.1.2.2 _ _ hh : zoc _ _) _ _ hy
  have kk' := kk p e s m args below meth c ad0 n C ad H locs ls (hI.st (zos_c (show zov _ (.ref y) from ho) (zos_t (zos_t hI.s0))))
  refine va_aldq C.exec C.bytes C.K hI.2.2.1.1 k t (zw_get hh) (zTy C.tys ht) hi hd ?_
  show W _ _ _ _ _ _ _ _ _ _ _ _ _ _ _ (F0 m (pc + 1) ls (va_rf ((f i.toNatClampNeg).map ad) :: st.map (zv ad)))
  rw [hy]
  exact kk' 
theorem pw_iastore {k t len : Nat} {f : Nat → Int32} {i : Int32} {x : Int32} (hP : P = false) (hd : decode M.code pc = .ok (.iastore, 1)) (hh : h[k]? = some (.inl (t, len, .inl f))) (ht : zTys[t]? = some .int) (hi : vp_in i len) (kk : PW G M R P Q (pc + 1) pl st (h.set k (.inl (t, len, .inl (upd f i.toNatClampNeg x)))) nc ns) : PW G M R P Q pc pl (.int x :: .int i :: .ref k :: st) h nc ns := by
  intro p e s m args below meth c ad0 n C ad H locs ls hI
  exact va_iast C.exec C.bytes C.K hI.2.2.1.1 hI.2.2.1.2.1 (zS0 hP hI.2.2.2.1) k t (zw_get hh) (zTy C.tys ht) hi hd (fun H1 locs1 hP' hD hS => kk p e s m args below meth c ad0 n C ad H1 locs1 ls (hI.set k (.inl (t, len, .inl (upd f i.toNatClampNeg x))) trivial (zos_t (zos_t (zos_t hI.s0))) hP' hD (zS1 hP hS)))
theorem pw_lastore {k t len : Nat} {f : Nat → Int64} {i : Int32} {x : Int64} (hP : P = false) (hd : decode M.code pc = .ok (.lastore, 1)) (hh : h[k]? = some (.inl (t, len, .inr (.inl f)))) (ht : zTys[t]? = some .long) (hi : vp_in i len) (kk : PW G M R P Q (pc + 1) pl st (h.set k (.inl (t, len, .inr (.inl (vp_updL f i.toNatClampNeg x))))) nc ns) : PW G M R P Q pc pl (.long x :: .int i :: .ref k :: st) h nc ns := by
  intro p e s m args below meth c ad0 n C ad H locs ls hI
  exact va_last C.exec C.bytes C.K hI.2.2.1.1 hI.2.2.1.2.1 (zS0 hP hI.2.2.2.1) k t (zw_get hh) (zTy C.tys ht) hi hd (fun H1 locs1 hP' hD hS => kk p e s m args below meth c ad0 n C ad H1 locs1 ls (hI.set k (.inl (t, len, .inr (.inl (vp_updL f i.toNatClampNeg x)))) trivial (zos_t (zos_t (zos_t hI.s0))) hP' hD (zS1 hP hS)))
theorem pw_zastore {k t len : Nat} {f : Nat → Int32} {i : Int32} {x : Int32} (hP : P = false) (hd : decode M.code pc = .ok (.bastore, 1)) (hh : h[k]? = some (.inl (t, len, .inl f))) (ht : zTys[t]? = some .boolean) (hi : vp_in i len) (kk : PW G M R P Q (pc + 1) pl st (h.set k (.inl (t, len, .inl (upd f i.toNatClampNeg (vp_nar .boolean x))))) nc ns) : PW G M R P Q pc pl (.int x :: .int i :: .ref k :: st) h nc ns := by
  intro p e s m args below meth c ad0 n C ad H locs ls hI
  exact va_zast C.exec C.bytes C.K hI.2.2.1.1 hI.2.2.1.2.1 (zS0 hP hI.2.2.2.1) k t (zw_get hh) (zTy C.tys ht) hi hd (fun H1 locs1 hP' hD hS => kk p e s m args below meth c ad0 n C ad H1 locs1 ls (hI.set k (.inl (t, len, .inl (upd f i.toNatClampNeg (vp_nar .boolean x)))) trivial (zos_t (zos_t (zos_t hI.s0))) hP' hD (zS1 hP hS)))
theorem pw_aastore {k t len y ci : Nat} {r : vw_C} {vs : List Value} {f : Nat → Option Nat} {i : Int32} (hP : P = false) (hd : decode M.code pc = .ok (.aastore, 1)) (hh : h[k]? = some (.inl (t, len, .inr (.inr (.inr (.inr f)))))) (hy : h[y]? = some (.inr (ci, vs))) (hc : zCl[ci]? = some r) (ht : zTys[t]? = some (.object r.1)) (hi : vp_in i len) (kk : PW G M R P Q (pc + 1) pl st (h.set k (.inl (t, len, .inr (.inr (.inr (.inr (va_up f i.toNatClampNeg (some y)))))))) nc ns) : PW G M R P Q pc pl (.ref y :: .int i :: .ref k :: st) h nc ns := by
  intro p e s m args below meth c ad0 n C ad H locs ls hI
  have ho : zoc h.length (.inl (t, len, .inr (.inr (.inr (.inr (va_up f i.toNatClampNeg (some y))))))) := by
    intro j q hq
    unfold va_up at hq
    by_cases hj : j = i.toNatClampNeg
    · rw [if_pos hj] at hq; cases hq; exact zos_h hI.s0
    · rw [if_neg hj] at hq; exact (hI.2.2.1.2.2 _ _ hh : zoc _ _) _ _ hq
  have e1 : zc ad G.tys (.inl (t, len, .inr (.inr (.inr (.inr (va_up f i.toNatClampNeg (some y))))))) = .inl ((G.tys.getD t (0, .int)).1, len, .inr (.inr (.inr (.inr (va_up (fun j => (f j).map ad) i.toNatClampNeg (some (ad y))))))) := by
    simp only [zc, zk]
    congr 7
    funext j
    unfold va_up
    by_cases hj : j = i.toNatClampNeg <;> simp [hj]
  refine va_astq C.exec C.bytes C.K hI.2.2.1.1 hI.2.2.1.2.1 (zS0 hP hI.2.2.2.1) k t y ci (zw_get hh) (zTy C.tys ht) (zw_get hy) hc hi hd (fun H1 locs1 hP' hD hS => kk p e s m args below meth c ad0 n C ad H1 locs1 ls (hI.set k _ ho (zos_t (zos_t (zos_t hI.s0))) ?_ ?_ (zS1 hP hS)))
  · rw [e1]; exact hP'
  · rw [e1]; exact hD
theorem pw_alen {k t : Nat} {a : vp_A} {ty : FieldType} (hd : decode M.code pc = .ok (.arraylength, 1)) (hh : h[k]? = some (.inl (t, a))) (ht : zTys[t]? = some ty) (kk : PW G M R P Q (pc + 1) pl (.int (Int32.ofNat a.1) :: st) h nc ns) : PW G M R P Q pc pl (.ref k :: st) h nc ns := by
  intro p e s m args below meth c ad0 n C ad H locs ls hI
  exact va_alen C.exec C.bytes C.K hI.2.2.1.1 k t (zw_get hh) (zTy C.tys ht) rfl hd (kk p e s m args below meth c ad0 n C ad H locs ls (hI.st (zos_c trivial (zos_t hI.s0))))
/-- the end of a method that returns -/
theorem zend_ret {G : zG} {P : Bool} {below : List Frame} {s : State} {args : Array Value} {mc ms : Nat} {K : Outcome → Heap → Prop} {t : State} (h : MQ below (fun _ s o t => K o t.heap ∧ va_F (zF G P) s t) args s mc ms (zF G P) t) : zEnd G P below s mc ms K t := by
  obtain ⟨o, h1, h2, ⟨h3, h4⟩, L, ⟨h5, h6, h7⟩, h8⟩ := h
  exact ⟨o, h1, h2, h3, h4, h6, L, h7, h8⟩
theorem zW_mono {p : Program} {l : Launch} {e : Env} {R : Room} {s : State} {m : MethodId} {args : Array Value} {below : List Frame} {meth : Method} {c : Code} {H : Heap} {locs : List Loc} {cells slots : Nat} {Q Q' : State → Prop} {g : JFrame} (h : ∀ t, Q t → Q' t) (w : W p l e R s m args below meth c H locs cells slots Q g) : W p l e R s m args below meth c H locs cells slots Q' g := fun T hT X => by
  obtain ⟨t, a, b⟩ := w T hT X
  exact ⟨t, a, h t b⟩
theorem zI.q {G : zG} {M : zM} {P : Bool} {s : State} {ad0 : Nat → Nat} {n : Nat} {ad : Nat → Nat} {H : Heap} {locs : List Loc} {ls : Array Slot} {pl : List (Option Value)} {st : List Value} {h : zH} {Q : zO → zH → Prop} (hI : zI G M P s ad0 n ad H locs ls pl st h) {r : zO} (hr : zor h.length r) (hq : Q r h) {t : State} (ht : t.heap = H) : zQ G ad0 n Q (zo ad r) t.heap ∧ va_F (zF G P) s t :=
  ⟨⟨r, h, ad, hq, hI.1, hI.2.1, by rw [ht]; exact hI.2.2.1, hr, rfl⟩, hI.2.2.2.1.F ht⟩
theorem pw_ireturn {x : Int32} (hd : decode M.code pc = .ok (.ireturn, 1)) (hr : M.ret = some .int) (hc : nc ≤ R.cells) (hs : ns ≤ R.slots) (hq : Q (.inl (some (.int x))) h) : PW G M R P Q pc pl [.int x] h nc ns := by
  intro p e s m args below meth c ad0 n C ad H locs ls hI
  refine W.widen hc hs (zW_mono (fun t => zend_ret (args := args)) ?_)
  exact W.iret C.exec C.bytes (by rw [C.ret]; exact hr) (fun t ht hW => hI.q (r := .inl (some (.int x))) (by rintro w ⟨⟩; trivial) hq ht) hI.2.2.2.1.2.2 hd C.locks
theorem pw_zreturn {x : Int32} (hd : decode M.code pc = .ok (.ireturn, 1)) (hr : M.ret = some .boolean) (hx : x = 0 ∨ x = 1) (hc : nc ≤ R.cells) (hs : ns ≤ R.slots) (hq : Q (.inl (some (.int x))) h) : PW G M R P Q pc pl [.int x] h nc ns := by
  intro p e s m args below meth c ad0 n C ad H locs ls hI
  refine W.widen hc hs (zW_mono (fun t => zend_ret (args := args)) ?_)
  exact W.zret C.exec C.bytes (by rw [C.ret]; exact hr) (by rcases hx with rfl | rfl <;> rfl) (fun t ht hW => hI.q (r := .inl (some (.int x))) (by rintro w ⟨⟩; trivial) hq ht) hI.2.2.2.1.2.2 hd C.locks
theorem pw_return  (hd : decode M.code pc = .ok (.return_, 1)) (hr : M.ret = none) (hc : nc ≤ R.cells) (hs : ns ≤ R.slots) (hq : Q (.inl none) h) : PW G M R P Q pc pl [] h nc ns := by
  intro p e s m args below meth c ad0 n C ad H locs ls hI
  refine W.widen hc hs (zW_mono (fun t => zend_ret (args := args)) ?_)
  exact W.vret C.exec C.bytes (by rw [C.ret]; exact hr) (fun t ht hW => hI.q (r := .inl none) (by rintro w ⟨⟩) hq ht) hI.2.2.2.1.2.2 hd C.locks
end PWheap
end
section
def zNW (own : String) (idx ci N : Nat) (fs : List Value) : Prop := ∃ (Cn : String) (T : u_T) (ty : Nat → FieldType), zCl[ci]? = some (Cn, T, N) ∧ (∀ w ∈ u_ws Cn T N, w ∈ zT) ∧ (∀ k, k < N → parseFieldDescriptor (T k).2.2.1 = some (ty k)) ∧ Cond.classLink own idx Cn ∈ zT ∧ Cond.instantiable Cn N ∈ zT ∧ Cond.initialized Cn ∈ zT ∧ (∀ j, j < N → defaultValue (ty j) = vp_V fs j) ∧ ∀ v ∈ fs, ∀ n, zov n v ∧ ∀ ad, zv ad v = v
theorem zI.new {G : zG} {M : zM} {P : Bool} {s : State} {ad0 : Nat → Nat} {n : Nat} {ad : Nat → Nat} {H H1 : Heap} {locs locs1 : List Loc} {ls : Array Slot} {pl : List (Option Value)} {st : List Value} {h : zH} (hI : zI G M P s ad0 n ad H locs ls pl st h) (x : zE) (q : Nat) (y : va_E) (hx : zoc h.length x) (hy : ∀ ad', zc ad' G.tys x = y)
    (hP : va_P G.D zCl (zw ad G.tys h ++ [(q, y)]) H1) (hD : va_D G.A (zw ad G.tys h ++ [(q, y)])) (hS : va_S (zF G P) s.heap H1 locs1) :
    zI G M P s ad0 n (va_up ad h.length q) H1 locs1 ls pl (.ref h.length :: st) (h ++ [x]) ∧ (Value.ref h.length :: st).map (zv (va_up ad h.length q)) = .ref q :: st.map (zv ad) := by
  have hup : ∀ k, k < h.length → va_up ad h.length q k = ad k := fun k hk => by unfold va_up; rw [if_neg (Nat.ne_of_lt hk)]
  have hself : va_up ad h.length q h.length = q := by unfold va_up; rw [if_pos rfl]
  have hlen : (h ++ [x]).length = h.length + 1 := by simp
  refine ⟨⟨fun k hk => (hup k (Nat.lt_of_lt_of_le hk hI.2.1)).trans (hI.1 k hk), by rw [hlen]; exact Nat.le_succ_of_le hI.2.1, ⟨?_, ?_, zoh_push hI.2.2.1.2.2 (zoc_mono (Nat.le_succ _) hx)⟩, hS, ?_, ?_, ?_⟩, ?_⟩
  · rw [zw_push hI.2.2.1.2.2 hup, hself, hy]; exact hP
  · rw [zw_push hI.2.2.1.2.2 hup, hself, hy]; exact hD
  · rw [hlen]; exact fun i v hi => ⟨zov_mono (Nat.le_succ _) (hI.2.2.2.2.1 i v hi).1, (hI.2.2.2.2.1 i v hi).2⟩
  · rw [hlen]; exact zos_c (Nat.lt_succ_self _) (fun v hv => zov_mono (Nat.le_succ _) (hI.s0 v hv))
  · exact zhas_cong hup hI.2.2.2.2.1 hI.2.2.2.2.2.2
  · rw [List.map_cons, zst_cong hup hI.s0]; simp only [zv, hself]
section PWnew
variable {G : zG} {M : zM} {R : Room} {P : Bool} {Q : zO → zH → Prop} {pc : Nat} {pl : List (Option Value)} {st : List Value} {h : zH} {nc ns : Nat}
theorem zX.A {G : zG} {M : zM} {p : Program} {e : Env} {s : State} {m : MethodId} {args : Array Value} {meth : Method} {c : Code} (C : zX G M p e s m args meth c) : ∀ q, s.heap.size ≤ q → G.A q := fun _ hq => Nat.le_trans C.n0 hq
theorem pw_new {idx ci N : Nat} {fs : List Value} (hP : P = false) (hd : decode M.code pc = .ok (.new idx, 3)) (hn : zNW M.nm.cls idx ci N fs) (hc : nc + 1 ≤ R.cells) (hs : ns + N ≤ R.slots) (kk : PW G M R P Q (pc + 3) pl (.ref h.length :: st) (h ++ [.inr (ci, fs)]) (nc + 1) (ns + N)) : PW G M R P Q pc pl st h nc ns := by
  intro p e s m args below meth c ad0 n C ad H locs ls hI
  obtain ⟨Cn, T, ty, h1, h2, h3, h4, h5, h6, h7, h8⟩ := hn
  refine va_new C.exec C.bytes C.ts h2 ty h3 C.own (C.ts _ h4) (C.ts _ h5) (C.ts _ h6) C.K hI.2.2.1.1 hI.2.2.1.2.1 (zS0 hP hI.2.2.2.1) C.A h1 h7 hc hs hd (fun q H1 hP' hD hS => ?_)
  obtain ⟨hI', e1⟩ := hI.new (.inr (ci, fs)) q (.inr (ci, fs)) (fun v hv => (h8 v hv _).1) (fun ad' => by
    simp only [zc]
    rw [show fs.map (zv ad') = fs from (List.map_congr_left (g := id) fun v hv => (h8 v hv 0).2 ad').trans (List.map_id fs)]) hP' hD (zS1 hP hS)
  have := kk p e s m args below meth c ad0 n C _ H1 locs ls hI'
  rw [e1] at this
  exact this
theorem zprim {G : zG} {s : State} (hT : G.tys.map Prod.snd = zTys) (hK : va_K G.D zCl G.tys s) {t : Nat} {ty : FieldType} (ht : zTys[t]? = some ty) (hp : ∀ cA, va_RA s cA ty → s.vm.findClass ("[" ++ ty.toString) = some cA) {cA : ClassId} (hK' : va_K G.D zCl (G.tys ++ [(cA, ty)]) s) : cA = (G.tys.getD t (0, .int)).1 := by
  have h1 := hp _ (hK.2 t _ (zTy hT ht)).2
  have h2 := hp _ (hK'.2 G.tys.length (cA, ty) (by simp)).2
  exact Option.some.inj (h2.symm.trans h1)
theorem pw_newarray {atype : ArrayType} {ty : FieldType} {t N : Nat} {ct : (Nat → Int32) ⊕ (Nat → Int64) ⊕ (Nat → UInt32) ⊕ (Nat → UInt64) ⊕ (Nat → Option Nat)} {x : Int32} (hP : P = false) (hd : decode M.code pc = .ok (.newarray atype, 2)) (hty : newarray.typeOf atype = ty) (ht : zTys[t]? = some ty) (hw : Cond.arrayClass ty ∈ zT) (hp : ∀ (s : State) cA, va_RA s cA ty → s.vm.findClass ("[" ++ ty.toString) = some cA) (hx : ¬ x < 0) (hN : x.toNatClampNeg = N) (hb : N * componentBytes ty ≤ 536870912) (ha : ∀ cA : ClassId, vp_cell cA (N, ct) = arrV cA N (fun _ => defaultValue ty)) (hk : ∀ n, zok n (N, ct)) (hk2 : ∀ ad, zk ad (N, ct) = (N, ct)) (hc : nc + 1 ≤ R.cells) (hs : ns + N ≤ R.slots)
    (kk : PW G M R P Q (pc + 2) pl (.ref h.length :: st) (h ++ [.inl (t, N, ct)]) (nc + 1) (ns + N)) : PW G M R P Q pc pl (.int x :: st) h nc ns := by
  intro p e s m args below meth c ad0 n C ad H locs ls hI
  refine va_newa C.exec C.bytes (atype := atype) (by rw [hty]; exact C.ts _ hw) hty C.K hI.2.2.1.1 hI.2.2.1.2.1 (zS0 hP hI.2.2.2.1) C.A ha hx hN hb hc hs hd (fun q cA H1 hK' hP' hD hS => ?_)
  have e0 : cA = (G.tys.getD t (0, .int)).1 := zprim C.tys C.K ht (hp s) hK'
  obtain ⟨hI', e1⟩ := (hI.st (zos_t hI.s0)).new (.inl (t, N, ct)) q (.inl (cA, N, ct)) (hk _) (fun ad' => by simp only [zc]; rw [hk2, ← e0]) hP' hD (zS1 hP hS)
  have := kk p e s m args below meth c ad0 n C _ H1 locs ls hI'
  rw [e1] at this
  exact this
theorem pw_anewarray {idx t N : Nat} {Cn : String} {x : Int32} (hP : P = false) (hd : decode M.code pc = .ok (.anewarray idx, 3)) (ht : zTys[t]? = some (.object Cn)) (hl : Cond.classLink M.nm.cls idx Cn ∈ zT) (hw : ∀ s, zZ G s → va_AO Cn s) (hx : ¬ x < 0) (hN : x.toNatClampNeg = N) (hb : N * 4 ≤ 536870912) (hc : nc + 1 ≤ R.cells) (hs : ns + N ≤ R.slots)
    (kk : PW G M R P Q (pc + 3) pl (.ref h.length :: st) (h ++ [.inl (t, N, .inr (.inr (.inr (.inr (fun _ => none)))))]) (nc + 1) (ns + N)) : PW G M R P Q pc pl (.int x :: st) h nc ns := by
  intro p e s m args below meth c ad0 n C ad H locs ls hI
  refine va_newq C.exec C.bytes C.own (C.ts _ hl) (hw s C.Z) C.K hI.2.2.1.1 hI.2.2.1.2.1 (zS0 hP hI.2.2.2.1) C.A hx hN hb hc hs hd (fun q cA H1 hK' hP' hD hS => ?_)
  have e0 : cA = (G.tys.getD t (0, .int)).1 := zprim C.tys C.K ht (fun cA h => h.choose_spec.choose_spec.2.2.2) hK'
  obtain ⟨hI', e1⟩ := (hI.st (zos_t hI.s0)).new (.inl (t, N, .inr (.inr (.inr (.inr (fun _ => none)))))) q (.inl (cA, N, .inr (.inr (.inr (.inr (fun _ => none)))))) (fun j k h => by cases h) (fun ad' => by simp only [zc, zk, Option.map_none]; rw [← e0]) hP' hD (zS1 hP hS)
  have := kk p e s m args below meth c ad0 n C _ H1 locs ls hI'
  rw [e1] at this
  exact this
end PWnew
end
section
theorem zT_good : ∀ w ∈ zT, w ∈ zT ∧ ((w.onTables && w.keeps) = true ∨ ∃ ty, w = .arrayClass ty) := fun w hw => ⟨hw, good_of_word (List.mem_filter.mp hw).2⟩
theorem zNw_warm {s U : State} (hW : s.WarmedH U.vm) (h : ∀ w ∈ zNw, va_Nw w s) : ∀ w ∈ zNw, va_Nw w U := by
  intro w hw
  have h1 := h w hw
  have h2 := (List.mem_filter.mp hw).2
  cases w <;> first | exact va_Nw.warmM hW h1 | exact va_Nw.warmD hW h1 | exact va_Nw.warmC hW h1 | (simp [zisN] at h2)
theorem zSV.moved {G : zG} {nm ds : String} {u U : State} (hvm : u.vm.Alike U.vm) (hq : ∀ a : Nat, a < u.heap.size → ¬ G.A a → U.heap[a]? = u.heap[a]?) (h : zSV G nm ds u) : zSV G nm ds U := by
  obtain ⟨c, i, a, k, f, cell, v, h1, h2, h3, h4, h5, h6, h7, h8, h9, h10, h11, h12⟩ := h
  obtain ⟨k', hi', he⟩ := State.fieldFound?_setVm hvm h2
  exact ⟨c, i, a, k', f, cell, v, by rw [hvm.findClass]; exact h1, hi', h3, by rw [he]; exact h4, by rw [hq a (Array.getElem?_eq_some_iff.mp h5).1 h12]; exact h5, h6, h7, h8, by rw [he]; exact h9, h10, h11, h12⟩
theorem zZ.warm {G : zG} {s U : State} (hW : s.WarmedH U.vm) (hq : ∀ a : Nat, a < s.heap.size → ¬ G.A a → U.heap[a]? = s.heap[a]?) (h : zZ G s) : zZ G U :=
  ⟨h.1, h.2.1, h.2.2.1.moved hW.alike hq, h.2.2.2.1.moved hW.alike hq, zNw_warm hW h.2.2.2.2.1, h.2.2.2.2.2.1.moved hW.alike, h.2.2.2.2.2.2.1.moved hW.alike, fun q hq => by obtain ⟨a, ha⟩ := h.2.2.2.2.2.2.2 q hq; exact ⟨a, ha.warm hW⟩⟩
/-- a method's start -/
def zPc (G : zG) (ad : Nat → Nat) (h : zH) (A : List Value) : Array Value → State → Prop := va_Pc (A.map (zv ad)) (fun U => zR G ad h U.heap ∧ va_K G.D zCl G.tys U ∧ G.n0 ≤ U.heap.size ∧ zZ G U)
def zQc (G : zG) (P : Bool) (ad : Nat → Nat) (h : zH) (Q : zO → zH → Prop) : Array Value → State → Outcome → State → Prop := fun _ st o t => zQ G ad h.length Q o t.heap ∧ va_F (zF G P) st t
def zentry (n : Nat) (A : List Value) : List (Option Value) := A.map some ++ List.replicate (n - A.length) none
theorem zargs {vs : List Value} (hc : ∀ v ∈ vs, v.category = 1) (j i : Nat) (v : Value) (hv : vs[i]? = some v) : (j + i, v) ∈ lv_args j vs := by
  induction vs generalizing i j with
  | nil => simp at hv
  | cons w t ih =>
    have h1 : w.category = 1 := hc w List.mem_cons_self
    simp only [lv_args, h1]
    cases i with
    | zero => simp at hv; subst hv; simp
    | succ i =>
      refine List.mem_cons_of_mem _ ?_
      have := ih (fun v h => hc v (List.mem_cons_of_mem _ h)) (j + 1) i (by simpa using hv)
      simpa [Nat.add_assoc, Nat.add_comm 1 i] using this
theorem zsl {vs : List Value} (hc : ∀ v ∈ vs, v.category = 1) : (lg_sl vs).length = vs.length := by
  induction vs with
  | nil => rfl
  | cons w t ih =>
    have h1 : w.category = 1 := hc w List.mem_cons_self
    have h2 := ih (fun v h => hc v (List.mem_cons_of_mem _ h))
    simp only [lg_sl, List.flatMap_cons, h1] at h2 ⊢
    simp [h2]
theorem zentry_get {n i : Nat} {A : List Value} {v : Value} (h : (zentry n A)[i]? = some (some v)) : A[i]? = some v := by
  unfold zentry at h
  by_cases hi : i < A.length
  · rw [List.getElem?_append_left (by simpa using hi)] at h
    simpa using h
  · rw [List.getElem?_append_right (by simpa using Nat.le_of_not_lt hi)] at h
    have := List.mem_of_getElem? h
    simp at this
theorem zentry_has {ad : Nat → Nat} {A : List Value} {n : Nat} (hc : ∀ v ∈ A, v.category = 1) (hn : A.length ≤ n) : zhas ad (zentry n A) n ((lg_sl (A.map (zv ad)) ++ List.replicate (n - (lg_sl (A.map (zv ad))).length) Slot.unset).toArray) := by
  have hc' : ∀ v ∈ A.map (zv ad), v.category = 1 := fun v hv => by
    obtain ⟨w, hw, rfl⟩ := List.mem_map.mp hv
    rw [zcat]; exact hc w hw
  have hl := lv_entry (A.map (zv ad)) (n := n) (by rw [zsl hc']; simpa using hn)
  refine ⟨hl.1, hl.2.1, fun i v hi => ?_⟩
  have hA := zentry_get hi
  have := zargs hc' 0 i (zv ad v) (by simp [hA])
  rw [Nat.zero_add] at this
  exact hl.2.2 _ this
/-- the contract, as the kit has it, of a method that returns -/
theorem zmet {G : zG} {M : zM} {R : Room} {P : Bool} {Q : zO → zH → Prop} {A : List Value} {h : zH} (hhs : M.hs = []) (hpl : plainName M.nm.cls = true) (hc : ∀ v ∈ A, v.category = 1) (hn : A.length ≤ M.maxL) (hP : PW G M R P Q 0 (zentry M.maxL A) [] h 0 0) (hret : ∀ r h', Q r h' → ∃ v, r = .inl v) (ad : Nat → Nat) (ho : zos h.length A) :
    Met G.l M.nm (Cond.code M.nm M.code M.maxL M.ret :: zT) R (zPc G ad h A) (zQc G P ad h Q) R.cells R.slots (zF G P) := by
  refine Met.ofW (cc := M.code) (maxL := M.maxL) (ret := M.ret) hpl rfl ?_
  intro p e s m args below meth c s₁ B hml hv
  obtain ⟨rfl, hR, hK, hn0, hZ⟩ := hv
  have hts := atoms_spec (ws := Cond.code M.nm M.code M.maxL M.ret :: zT) B.pre
  have htab : c.exceptionTable.toList.map (fun h => (h.startPc, h.endPc, h.handlerPc, h.catchType)) = M.hs := by
    obtain ⟨meth', c', q1, q2, -, -, -, -, q7, -⟩ := Cond.code_spec B.named (hts _ List.mem_cons_self)
    cases B.method.symm.trans q1
    have hc : meth.code = some c := (Stand.of_body B).code
    cases hc.symm.trans q2
    rw [hhs, Array.isEmpty_iff.mp q7]; rfl
  have C : zX G M p e s m (A.map (zv ad)).toArray meth c := ⟨B.exec, B.bytes, B.returns, hml, findClass_of_methodNamed B.named, fun w hw => hts w (List.mem_cons_of_mem _ hw), B.notSynchronized, hK, hn0, (name_of_methodNamed B.named B.method).1, htab, hZ⟩
  rw [lg_entry_eq]
  refine zW_mono (fun t ht => ?_) (hP p e s m _ below meth c ad h.length C ad s.heap [] _ ⟨fun _ _ => rfl, Nat.le_refl _, hR, va_S.rf, fun i v hi => ⟨ho v (List.mem_of_getElem? (zentry_get hi)), hc v (List.mem_of_getElem? (zentry_get hi))⟩, zos_nil, zentry_has hc hn⟩)
  obtain ⟨o, h1, h2, h3, h4, h5, L, h6, h7⟩ := ht
  refine ⟨o, h1, h2, ⟨h3, h4⟩, L, ⟨?_, h5, h6⟩, h7⟩
  obtain ⟨r, h', ad', hq, -, -, -, -, rfl⟩ := h3
  obtain ⟨v, rfl⟩ := hret r h' hq
  exact ⟨_, rfl⟩
theorem zPc_blind {G : zG} {ad : Nat → Nat} {h : zH} {A : List Value} : FrameBlind (zPc G ad h A) := by
  intro a U g mk q
  obtain ⟨q0, q1, q2, q3, q4⟩ := q
  exact ⟨q0, q1, va_K.moved (u := U) (U := U.calling g mk a) (Vm.Alike.refl U.vm) q2, q3, q4.1, q4.2.1, q4.2.2.1.moved (U := U.calling g mk a) (Vm.Alike.refl U.vm) (fun _ _ _ => rfl), q4.2.2.2.1.moved (U := U.calling g mk a) (Vm.Alike.refl U.vm) (fun _ _ _ => rfl), fun w hw => va_Nw.same (u := U) (U := U.calling g mk a) (by
    have h2 := (List.mem_filter.mp hw).2
    cases w <;> first | rfl | (simp [zisN] at h2)) rfl (q4.2.2.2.2.1 w hw), q4.2.2.2.2.2.1.moved (Vm.Alike.refl U.vm), q4.2.2.2.2.2.2.1.moved (Vm.Alike.refl U.vm), fun q hq => by obtain ⟨x, hx⟩ := q4.2.2.2.2.2.2.2 q hq; exact ⟨x, hx.same rfl⟩⟩
/-- the start holds at a call -/
theorem zPc_at {G : zG} {M : zM} {p : Program} {e : Env} {s : State} {m : MethodId} {args : Array Value} {meth : Method} {c : Code} {P : Bool} {ad0 : Nat → Nat} {n : Nat} {ad : Nat → Nat} {H : Heap} {locs : List Loc} {ls : Array Slot} {pl : List (Option Value)} {st : List Value} {h : zH} (C : zX G M p e s m args meth c) (hI : zI G M P s ad0 n ad H locs ls pl st h) {A : List Value} {U : State} (hU : U.heap = H) (hW : s.WarmedH U.vm) : zPc G ad h A (A.map (zv ad)).toArray U :=
  ⟨rfl, by rw [hU]; exact hI.2.2.1, va_K.moved hW.alike C.K, by rw [hU]; exact Nat.le_trans C.n0 hI.2.2.2.1.1, C.Z.warm hW (fun a h1 h2 => by rw [hU]; exact (zS2 hI.2.2.2.1).2.1 a h1 h2)⟩
/-- behind a call that returned -/
theorem zback {G : zG} {M : zM} {R : Room} {P P' : Bool} {Q Q' : zO → zH → Prop} {pc : Nat} {pl : List (Option Value)} {stk st : List Value} {h : zH} {nc ns mc ms : Nat} {p : Program} {e : Env} {s : State} {m : MethodId} {args : Array Value} {below : List Frame} {meth : Method} {c : Code} {ad0 : Nat → Nat} {n : Nat} {ad : Nat → Nat} {H : Heap} {locs : List Loc} {ls : Array Slot} (hPP : P = true → P' = true) (C : zX G M p e s m args meth c) (hI : zI G M P s ad0 n ad H locs ls pl stk h) (hst : zos h.length st) {st0 : List Value} {a : Array Value}
    (hr : va_Run p G.l e R s m args below meth c H locs nc ns mc ms (F0 m pc ls st0) (st.map (zv ad)) (zQc G P' ad h Q' a) (zF G P')) (kk : ∀ v h', Q' (.inl v) h' → PW G M R P Q (pc + 3) pl (v.toList ++ st) h' (nc + mc) (ns + ms)) : W p G.l e R s m args below meth c H locs nc ns (zEnd G P below s R.cells R.slots (zQ G ad0 n Q)) (F0 m pc ls st0) := by
  intro T hT X
  obtain ⟨v, st₀, t, T', L, h0, X', hL, e1, e2, ⟨⟨r, h', ad', hq, ha, hlen, hR', hor, hv⟩, hz, hk⟩, go⟩ := hr T hT X
  cases r with
  | inr q => cases hv
  | inl v' =>
    cases hv
    rw [h0] at hz hk
    have hPF : ∀ q, zF G P' q → zF G P q := fun q z => ⟨by cases hb : P with | false => rfl | true => exact absurd (hPP hb) (by rw [z.1]; decide), z.2⟩
    have hS : va_S (zF G P) s.heap T'.heap (locs ++ L) := ⟨Nat.le_trans hI.2.2.2.1.1 (by rw [e1]; exact hz), fun q h1 h2 => by rw [e1, hk q (Nat.lt_of_lt_of_le h1 hI.2.2.2.1.1) (fun z => h2 (hPF q z))]; exact hI.2.2.2.1.2.1 q h1 h2, fun q hq => by
      rcases List.mem_append.mp hq with h | h
      · exact hI.2.2.2.1.2.2 q h
      · exact hPF _ (hL q h)⟩
    have hI' : zI G M P s ad0 n ad' T'.heap (locs ++ L) ls pl (v'.toList ++ st) h' := by
      refine ⟨fun k hk => (ha k (Nat.lt_of_lt_of_le hk hI.2.1)).trans (hI.1 k hk), Nat.le_trans hI.2.1 hlen, by rw [e1]; exact hR', hS, fun i w hi => ⟨zov_mono hlen (hI.2.2.2.2.1 i w hi).1, (hI.2.2.2.2.1 i w hi).2⟩, ?_, zhas_cong ha hI.2.2.2.2.1 hI.2.2.2.2.2.2⟩
      intro w hw
      rcases List.mem_append.mp hw with h1 | h1
      · cases v' with
        | none => cases h1
        | some x =>
          simp at h1
          subst h1
          exact hor _ rfl
      · exact zov_mono hlen (hst w h1)
    obtain ⟨t2, a1, b1⟩ := kk v' h' hq p e s m args below meth c ad0 n C ad' T'.heap (locs ++ L) ls hI' T' rfl X'
    refine ⟨t2, go t2 ?_, b1⟩
    have e3 : (v'.toList ++ st).map (zv ad') = (v'.map (zv ad')).toList ++ st.map (zv ad) := by
      rw [List.map_append, zst_cong ha hst]
      cases v' <;> rfl
    rw [e3] at a1
    exact a1
end
section
/-- a callee: its words -/
def zL0 (M' : zM) (n : Nat) : Prop := Cond.code M'.nm M'.code M'.maxL M'.ret ∈ zT ∧ Cond.initialized M'.nm.cls ∈ zT ∧ (M'.nm.cls ≠ "java/lang/invoke/MethodHandle" ∧ M'.nm.cls ≠ "java/lang/invoke/VarHandle") ∧ (parseMethodDescriptor M'.nm.desc).map (fun d => d.parameters.length) = some n ∧ plainName M'.nm.cls = true ∧ M'.hs = []
def zLV (own : String) (idx : Nat) (M' : zM) (n : Nat) : Prop := zL0 M' n ∧ Cond.methodLink own idx M'.nm ∈ zT ∧ Cond.instanceMethod M'.nm ∈ zT ∧ Cond.selects M'.nm.cls M'.nm M'.nm ∈ zT
def zLS (own : String) (idx : Nat) (M' : zM) (n : Nat) : Prop := zL0 M' n ∧ (Cond.methodLink own idx M'.nm ∈ zT ∨ ∃ host, Cond.methodLinkNest own idx M'.nm host ∈ zNw) ∧ Cond.static M'.nm ∈ zT
def zLI (own : String) (idx : Nat) (M' : zM) (n : Nat) : Prop := zL0 M' n ∧ (Cond.methodLink own idx M'.nm ∈ zT ∨ ∃ host, Cond.methodLinkNest own idx M'.nm host ∈ zNw) ∧ M'.nm.name = "<init>" ∧ Cond.instanceMethod M'.nm ∈ zT ∧ M'.ret = none
/-- the callee's room in the caller's -/
def zfit (M' : zM) (R' R : Room) (nc ns : Nat) : Prop := R'.frames + 1 ≤ R.frames ∧ 8 + (M'.maxL + 11) + R'.locals ≤ R.locals ∧ nc + R'.cells ≤ R.cells ∧ ns + R'.slots ≤ R.slots
theorem zwords {G : zG} {M M' : zM} {p : Program} {e : Env} {s : State} {m : MethodId} {args : Array Value} {meth : Method} {c : Code} (C : zX G M p e s m args meth c) (hc : Cond.code M'.nm M'.code M'.maxL M'.ret ∈ zT) : ∀ w ∈ (Cond.code M'.nm M'.code M'.maxL M'.ret :: zT), ∀ (a' : Array Value) (U : State), s.WarmedH U.vm → w.before a' U = true :=
  pay_in (big := zT) C.ts (fun w hw => by
    rcases List.mem_cons.mp hw with rfl | h
    · exact zT_good _ hc
    · exact zT_good _ h)
theorem zsig {M' : zM} {n : Nat} (h : (parseMethodDescriptor M'.nm.desc).map (fun d => d.parameters.length) = some n) : ∀ sig, parseMethodDescriptor M'.nm.desc = some sig → n = sig.parameters.length := fun sig hs => by
  rw [hs] at h
  exact (Option.some.inj h).symm
theorem zargsok {n : Nat} {A : List Value} {st : List Value} (h : zos n (A.reverse ++ st)) : zos n A := fun v hv => h v (List.mem_append_left _ (List.mem_reverse.mpr hv))
theorem zrestok {n : Nat} {A : List Value} {st : List Value} (h : zos n (A.reverse ++ st)) : zos n st := fun v hv => h v (List.mem_append_right _ hv)
theorem zcatsum (ad : Nat → Nat) (st : List Value) : ((st.map (zv ad)).map fun v => v.category).sum = (st.map fun v => v.category).sum := by
  rw [List.map_map]
  congr 1
  exact List.map_congr_left fun v _ => zcat ad v
section PWcall
variable {G : zG} {M M' : zM} {R R' : Room} {P P' : Bool} {Q Q' : zO → zH → Prop} {pc : Nat} {pl : List (Option Value)} {st : List Value} {h : zH} {nc ns : Nat}
theorem pw_callV (A : List Value) {idx k ci : Nat} {fs : List Value} {stk : List Value} (hPP : P = true → P' = true) (hd : decode M.code pc = .ok (.invokevirtual idx, 3)) (hl : zLV M.nm.cls idx M' A.length) (hh : h[k]? = some (.inr (ci, fs))) (hc : (zCl[ci]?).map Prod.fst = some M'.nm.cls) (hst : stk = A.reverse ++ .ref k :: st) (hA : ∀ v ∈ A, v.category = 1) (hmax : A.length + 1 ≤ M'.maxL) (hf : zfit M' R' R nc ns) (hw : (st.map fun v => v.category).sum ≤ 8)
    (hb : PW G M' R' P' Q' 0 (zentry M'.maxL (.ref k :: A)) [] h 0 0) (hret : ∀ r h', Q' r h' → ∃ v, r = .inl v) (kk : ∀ v h', Q' (.inl v) h' → PW G M R P Q (pc + 3) pl (v.toList ++ st) h' (nc + R'.cells) (ns + R'.slots)) : PW G M R P Q pc pl stk h nc ns := by
  subst hst
  intro p e s m args below meth c ad0 n C ad H locs ls hI
  obtain ⟨⟨c1, c2, c3, c4, c5, c6⟩, l1, l2, l3⟩ := hl
  have ho : zos h.length (.ref k :: A) := zos_c (zos_h (zrestok hI.s0)) (zargsok hI.s0)
  have hM := zmet (G := G) (M := M') (R := R') c6 c5 (A := .ref k :: A) (fun v hv => by rcases List.mem_cons.mp hv with rfl | h; exact rfl; exact hA v h) hmax hb hret ad ho
  obtain ⟨q, hq1, hq2⟩ := Option.map_eq_some_iff.mp hc
  have hrec := va_recv C.K hI.2.2.1.1 hq1 (zw_get hh)
  rw [hq2] at hrec
  refine zback (st := st) (st0 := (A.reverse ++ .ref k :: st).map (zv ad)) hPP C hI (zos_t (zrestok hI.s0)) (va_runV (C := M'.nm.cls) (As := A.map (zv ad)) (b := ad k) (rest := st.map (zv ad)) ⟨C.exec, C.bytes, C.maxL, C.own, C.ts⟩ hM ⟨⟨rfl, rfl, hf.1, hf.2.1, zwords C c1, List.mem_cons_self, C.ts _ c1, C.ts _ c2, c3, zsig c4, C.ts _ l1⟩, C.ts _ l2, C.ts _ l3⟩ ⟨zPc_blind, hrec, fun U hU hW => zPc_at C hI hU hW⟩ rfl (by simp) hI.2.2.2.2.2.2.1 (by simp [zv]) (lv_room (by rw [zcatsum]; exact hw)) hd ⟨hf.2.2.1, hf.2.2.2⟩) kk
theorem pw_callS (A : List Value) {idx : Nat} {stk : List Value} (hPP : P = true → P' = true) (hd : decode M.code pc = .ok (.invokestatic idx, 3)) (hl : zLS M.nm.cls idx M' A.length) (hst : stk = A.reverse ++ st) (hA : ∀ v ∈ A, v.category = 1) (hmax : A.length ≤ M'.maxL) (hf : zfit M' R' R nc ns) (hw : (st.map fun v => v.category).sum ≤ 8)
    (hb : PW G M' R' P' Q' 0 (zentry M'.maxL A) [] h 0 0) (hret : ∀ r h', Q' r h' → ∃ v, r = .inl v) (kk : ∀ v h', Q' (.inl v) h' → PW G M R P Q (pc + 3) pl (v.toList ++ st) h' (nc + R'.cells) (ns + R'.slots)) : PW G M R P Q pc pl stk h nc ns := by
  subst hst
  intro p e s m args below meth c ad0 n C ad H locs ls hI
  obtain ⟨⟨c1, c2, c3, c4, c5, c6⟩, l1, l2⟩ := hl
  have hM := zmet (G := G) (M := M') (R := R') c6 c5 (A := A) hA hmax hb hret ad (zargsok hI.s0)
  rcases l1 with l1 | ⟨host, l1⟩
  · exact zback (st := st) (st0 := (A.reverse ++ st).map (zv ad)) hPP C hI (zrestok hI.s0) (va_runS (As := A.map (zv ad)) (rest := st.map (zv ad)) ⟨C.exec, C.bytes, C.maxL, C.own, C.ts⟩ hM ⟨⟨rfl, rfl, hf.1, hf.2.1, zwords C c1, List.mem_cons_self, C.ts _ c1, C.ts _ c2, c3, zsig c4, C.ts _ l1⟩, C.ts _ l2⟩ ⟨zPc_blind, fun U hU hW => zPc_at C hI hU hW⟩ rfl (by simp) hI.2.2.2.2.2.2.1 (by simp) (lv_room (by rw [zcatsum]; exact hw)) hd ⟨hf.2.2.1, hf.2.2.2⟩) kk
  · exact zback (st := st) (st0 := (A.reverse ++ st).map (zv ad)) hPP C hI (zrestok hI.s0) (va_runSN (As := A.map (zv ad)) (rest := st.map (zv ad)) ⟨C.exec, C.bytes, C.maxL, C.own, C.ts⟩ hM ⟨⟨⟨rfl, rfl, hf.1, hf.2.1, zwords C c1, List.mem_cons_self⟩, C.ts _ c1, C.ts _ c2, c3, zsig c4, va_Nw.use rfl (C.Z.2.2.2.2.1 _ l1)⟩, C.ts _ l2, trivial⟩ ⟨zPc_blind, fun U hU hW => zPc_at C hI hU hW⟩ rfl (by simp) hI.2.2.2.2.2.2.1 (by simp) (lv_room (by rw [zcatsum]; exact hw)) hd ⟨hf.2.2.1, hf.2.2.2⟩) kk
theorem pw_callI (A : List Value) {idx k : Nat} {stk : List Value} (hPP : P = true → P' = true) (hd : decode M.code pc = .ok (.invokespecial idx, 3)) (hl : zLI M.nm.cls idx M' A.length) (hst : stk = A.reverse ++ .ref k :: st) (hA : ∀ v ∈ A, v.category = 1) (hmax : A.length + 1 ≤ M'.maxL) (hf : zfit M' R' R nc ns) (hw : (st.map fun v => v.category).sum ≤ 8)
    (hb : PW G M' R' P' Q' 0 (zentry M'.maxL (.ref k :: A)) [] h 0 0) (hret : ∀ r h', Q' r h' → ∃ v, r = .inl v) (kk : ∀ v h', Q' (.inl v) h' → PW G M R P Q (pc + 3) pl (v.toList ++ st) h' (nc + R'.cells) (ns + R'.slots)) : PW G M R P Q pc pl stk h nc ns := by
  subst hst
  intro p e s m args below meth c ad0 n C ad H locs ls hI
  obtain ⟨⟨c1, c2, c3, c4, c5, c6⟩, l1, l2, l3, l4⟩ := hl
  have ho : zos h.length (.ref k :: A) := zos_c (zos_h (zrestok hI.s0)) (zargsok hI.s0)
  have hM := zmet (G := G) (M := M') (R := R') c6 c5 (A := .ref k :: A) (fun v hv => by rcases List.mem_cons.mp hv with rfl | h; exact rfl; exact hA v h) hmax hb hret ad ho
  rw [l4] at hM c1
  have hw0 := zwords (M' := (M'.1, M'.2.1, M'.2.2.1, none, [])) C c1
  rcases l1 with l1 | ⟨host, l1⟩
  · exact zback (st := st) (st0 := (A.reverse ++ .ref k :: st).map (zv ad)) hPP C hI (zos_t (zrestok hI.s0)) (va_runI (As := A.map (zv ad)) (b := ad k) (rest := st.map (zv ad)) ⟨C.exec, C.bytes, C.maxL, C.own, C.ts⟩ hM ⟨⟨rfl, rfl, hf.1, hf.2.1, hw0, List.mem_cons_self, C.ts _ c1, C.ts _ c2, c3, zsig c4, C.ts _ l1⟩, l2, C.ts _ l3⟩ ⟨zPc_blind, fun U hU hW => zPc_at C hI hU hW⟩ rfl (by simp) hI.2.2.2.2.2.2.1 (by simp [zv]) (lv_room (by rw [zcatsum]; exact hw)) hd ⟨hf.2.2.1, hf.2.2.2⟩) kk
  · exact zback (st := st) (st0 := (A.reverse ++ .ref k :: st).map (zv ad)) hPP C hI (zos_t (zrestok hI.s0)) (va_runIN (As := A.map (zv ad)) (b := ad k) (rest := st.map (zv ad)) ⟨C.exec, C.bytes, C.maxL, C.own, C.ts⟩ hM ⟨⟨⟨rfl, rfl, hf.1, hf.2.1, hw0, List.mem_cons_self⟩, C.ts _ c1, C.ts _ c2, c3, zsig c4, va_Nw.use rfl (C.Z.2.2.2.2.1 _ l1)⟩, l2, C.ts _ l3⟩ ⟨zPc_blind, fun U hU hW => zPc_at C hI hU hW⟩ rfl (by simp) hI.2.2.2.2.2.2.1 (by simp [zv]) (lv_room (by rw [zcatsum]; exact hw)) hd ⟨hf.2.2.1, hf.2.2.2⟩) kk
def zLO (own : String) (idx : Nat) : Prop := Cond.methodLink own idx Lib.objectInit ∈ zT
theorem zobj1 : Cond.instanceMethod Lib.objectInit ∈ zT := by decide +kernel
theorem zobj2 : Cond.code Lib.objectInit ⟨#[0xb1]⟩ 1 none ∈ zT := by decide +kernel
theorem pw_objInit {idx k : Nat} (hd : decode M.code pc = .ok (.invokespecial idx, 3)) (hl : zLO M.nm.cls idx) (hf : 1 ≤ R.frames) (hw : (st.map fun v => v.category).sum + 12 ≤ R.locals) (kk : PW G M R P Q (pc + 3) pl st h nc ns) : PW G M R P Q pc pl (.ref k :: st) h nc ns := by
  intro p e s m args below meth c ad0 n C ad H locs ls hI
  exact W.objInit C.exec C.bytes C.own (C.ts _ hl) (C.ts _ zobj1) (C.ts _ zobj2) rfl (hI.2.2.2.2.2.2.1.trans C.maxL.symm) rfl hd hf (by show 2 * 0 + ((st.map (zv ad)).map fun v => v.category).sum + 12 ≤ R.locals; rw [zcatsum]; omega) (kk p e s m args below meth c ad0 n C ad H locs ls (hI.st (zos_t hI.s0)))
end PWcall
end
section
theorem d_WP_init_0 : decode prog_1_method_1_code 0 = .ok (.aload_n 0, 1) := by decide +kernel
theorem d_WP_init_1 : decode prog_1_method_1_code 1 = .ok (.invokespecial 3, 3) := by decide +kernel
theorem d_WP_init_4 : decode prog_1_method_1_code 4 = .ok (.aload_n 0, 1) := by decide +kernel
theorem d_WP_init_5 : decode prog_1_method_1_code 5 = .ok (.new 9, 3) := by decide +kernel
theorem d_WP_init_8 : decode prog_1_method_1_code 8 = .ok (.dup, 1) := by decide +kernel
theorem d_WP_init_9 : decode prog_1_method_1_code 9 = .ok (.invokespecial 11, 3) := by decide +kernel
theorem d_WP_init_12 : decode prog_1_method_1_code 12 = .ok (.putfield 12, 3) := by decide +kernel
theorem d_WP_init_15 : decode prog_1_method_1_code 15 = .ok (.aload_n 0, 1) := by decide +kernel
theorem d_WP_init_16 : decode prog_1_method_1_code 16 = .ok (.bipush 8, 2) := by decide +kernel
theorem d_WP_init_18 : decode prog_1_method_1_code 18 = .ok (.anewarray 16, 3) := by decide +kernel
theorem d_WP_init_21 : decode prog_1_method_1_code 21 = .ok (.putfield 18, 3) := by decide +kernel
theorem d_WP_init_24 : decode prog_1_method_1_code 24 = .ok (.aload_n 0, 1) := by decide +kernel
theorem d_WP_init_25 : decode prog_1_method_1_code 25 = .ok (.new 16, 3) := by decide +kernel
theorem d_WP_init_28 : decode prog_1_method_1_code 28 = .ok (.dup, 1) := by decide +kernel
theorem d_WP_init_29 : decode prog_1_method_1_code 29 = .ok (.invokespecial 22, 3) := by decide +kernel
theorem d_WP_init_32 : decode prog_1_method_1_code 32 = .ok (.putfield 23, 3) := by decide +kernel
theorem d_WP_init_35 : decode prog_1_method_1_code 35 = .ok (.aload_n 0, 1) := by decide +kernel
theorem d_WP_init_36 : decode prog_1_method_1_code 36 = .ok (.bipush 64, 2) := by decide +kernel
theorem d_WP_init_38 : decode prog_1_method_1_code 38 = .ok (.newarray .boolean, 2) := by decide +kernel
theorem d_WP_init_40 : decode prog_1_method_1_code 40 = .ok (.putfield 27, 3) := by decide +kernel
theorem d_WP_init_43 : decode prog_1_method_1_code 43 = .ok (.aload_n 0, 1) := by decide +kernel
theorem d_WP_init_44 : decode prog_1_method_1_code 44 = .ok (.bipush 64, 2) := by decide +kernel
theorem d_WP_init_46 : decode prog_1_method_1_code 46 = .ok (.newarray .int, 2) := by decide +kernel
theorem d_WP_init_48 : decode prog_1_method_1_code 48 = .ok (.putfield 31, 3) := by decide +kernel
theorem d_WP_init_51 : decode prog_1_method_1_code 51 = .ok (.aload_n 0, 1) := by decide +kernel
theorem d_WP_init_52 : decode prog_1_method_1_code 52 = .ok (.bipush 64, 2) := by decide +kernel
theorem d_WP_init_54 : decode prog_1_method_1_code 54 = .ok (.newarray .int, 2) := by decide +kernel
theorem d_WP_init_56 : decode prog_1_method_1_code 56 = .ok (.putfield 35, 3) := by decide +kernel
theorem d_WP_init_59 : decode prog_1_method_1_code 59 = .ok (.aload_n 0, 1) := by decide +kernel
theorem d_WP_init_60 : decode prog_1_method_1_code 60 = .ok (.iconst 0, 1) := by decide +kernel
theorem d_WP_init_61 : decode prog_1_method_1_code 61 = .ok (.putfield 38, 3) := by decide +kernel
theorem d_WP_init_64 : decode prog_1_method_1_code 64 = .ok (.aload_n 0, 1) := by decide +kernel
theorem d_WP_init_65 : decode prog_1_method_1_code 65 = .ok (.iconst 0, 1) := by decide +kernel
theorem d_WP_init_66 : decode prog_1_method_1_code 66 = .ok (.putfield 42, 3) := by decide +kernel
theorem d_WP_init_69 : decode prog_1_method_1_code 69 = .ok (.aload_n 0, 1) := by decide +kernel
theorem d_WP_init_70 : decode prog_1_method_1_code 70 = .ok (.iconst 0, 1) := by decide +kernel
theorem d_WP_init_71 : decode prog_1_method_1_code 71 = .ok (.putfield 45, 3) := by decide +kernel
theorem d_WP_init_74 : decode prog_1_method_1_code 74 = .ok (.aload_n 0, 1) := by decide +kernel
theorem d_WP_init_75 : decode prog_1_method_1_code 75 = .ok (.new 48, 3) := by decide +kernel
theorem d_WP_init_78 : decode prog_1_method_1_code 78 = .ok (.dup, 1) := by decide +kernel
theorem d_WP_init_79 : decode prog_1_method_1_code 79 = .ok (.iload_n 1, 1) := by decide +kernel
theorem d_WP_init_80 : decode prog_1_method_1_code 80 = .ok (.invokestatic 50, 3) := by decide +kernel
theorem d_WP_init_83 : decode prog_1_method_1_code 83 = .ok (.iload_n 2, 1) := by decide +kernel
theorem d_WP_init_84 : decode prog_1_method_1_code 84 = .ok (.invokestatic 50, 3) := by decide +kernel
theorem d_WP_init_87 : decode prog_1_method_1_code 87 = .ok (.iload_n 3, 1) := by decide +kernel
theorem d_WP_init_88 : decode prog_1_method_1_code 88 = .ok (.invokestatic 50, 3) := by decide +kernel
theorem d_WP_init_91 : decode prog_1_method_1_code 91 = .ok (.invokespecial 54, 3) := by decide +kernel
theorem d_WP_init_94 : decode prog_1_method_1_code 94 = .ok (.putfield 57, 3) := by decide +kernel
theorem d_WP_init_97 : decode prog_1_method_1_code 97 = .ok (.iconst 0, 1) := by decide +kernel
theorem d_WP_init_98 : decode prog_1_method_1_code 98 = .ok (.istore 4, 2) := by decide +kernel
theorem d_WP_init_100 : decode prog_1_method_1_code 100 = .ok (.iload 4, 2) := by decide +kernel
theorem d_WP_init_102 : decode prog_1_method_1_code 102 = .ok (.bipush 8, 2) := by decide +kernel
theorem d_WP_init_104 : decode prog_1_method_1_code 104 = .ok (.if_icmp .ge 23, 3) := by decide +kernel
theorem d_WP_init_107 : decode prog_1_method_1_code 107 = .ok (.aload_n 0, 1) := by decide +kernel
theorem d_WP_init_108 : decode prog_1_method_1_code 108 = .ok (.getfield 18, 3) := by decide +kernel
theorem d_WP_init_111 : decode prog_1_method_1_code 111 = .ok (.iload 4, 2) := by decide +kernel
theorem d_WP_init_113 : decode prog_1_method_1_code 113 = .ok (.new 16, 3) := by decide +kernel
theorem d_WP_init_116 : decode prog_1_method_1_code 116 = .ok (.dup, 1) := by decide +kernel
theorem d_WP_init_117 : decode prog_1_method_1_code 117 = .ok (.invokespecial 22, 3) := by decide +kernel
theorem d_WP_init_120 : decode prog_1_method_1_code 120 = .ok (.aastore, 1) := by decide +kernel
theorem d_WP_init_121 : decode prog_1_method_1_code 121 = .ok (.iinc 4 1, 3) := by decide +kernel
theorem d_WP_init_124 : decode prog_1_method_1_code 124 = .ok (.goto (-24), 3) := by decide +kernel
theorem d_WP_init_127 : decode prog_1_method_1_code 127 = .ok (.aload_n 0, 1) := by decide +kernel
theorem d_WP_init_128 : decode prog_1_method_1_code 128 = .ok (.getfield 23, 3) := by decide +kernel
theorem d_WP_init_131 : decode prog_1_method_1_code 131 = .ok (.iconst 0, 1) := by decide +kernel
theorem d_WP_init_132 : decode prog_1_method_1_code 132 = .ok (.iconst 0, 1) := by decide +kernel
theorem d_WP_init_133 : decode prog_1_method_1_code 133 = .ok (.iconst (-1), 1) := by decide +kernel
theorem d_WP_init_134 : decode prog_1_method_1_code 134 = .ok (.invokevirtual 61, 3) := by decide +kernel
theorem d_WP_init_137 : decode prog_1_method_1_code 137 = .ok (.return_, 1) := by decide +kernel
theorem d_Hold_init_0 : decode prog_3_method_1_code 0 = .ok (.aload_n 0, 1) := by decide +kernel
theorem d_Hold_init_1 : decode prog_3_method_1_code 1 = .ok (.invokespecial 3, 3) := by decide +kernel
theorem d_Hold_init_4 : decode prog_3_method_1_code 4 = .ok (.aload_n 0, 1) := by decide +kernel
theorem d_Hold_init_5 : decode prog_3_method_1_code 5 = .ok (.bipush 12, 2) := by decide +kernel
theorem d_Hold_init_7 : decode prog_3_method_1_code 7 = .ok (.anewarray 9, 3) := by decide +kernel
theorem d_Hold_init_10 : decode prog_3_method_1_code 10 = .ok (.putfield 11, 3) := by decide +kernel
theorem d_Hold_init_13 : decode prog_3_method_1_code 13 = .ok (.aload_n 0, 1) := by decide +kernel
theorem d_Hold_init_14 : decode prog_3_method_1_code 14 = .ok (.bipush 12, 2) := by decide +kernel
theorem d_Hold_init_16 : decode prog_3_method_1_code 16 = .ok (.anewarray 9, 3) := by decide +kernel
theorem d_Hold_init_19 : decode prog_3_method_1_code 19 = .ok (.putfield 17, 3) := by decide +kernel
theorem d_Hold_init_22 : decode prog_3_method_1_code 22 = .ok (.aload_n 0, 1) := by decide +kernel
theorem d_Hold_init_23 : decode prog_3_method_1_code 23 = .ok (.new 9, 3) := by decide +kernel
theorem d_Hold_init_26 : decode prog_3_method_1_code 26 = .ok (.dup, 1) := by decide +kernel
theorem d_Hold_init_27 : decode prog_3_method_1_code 27 = .ok (.invokespecial 20, 3) := by decide +kernel
theorem d_Hold_init_30 : decode prog_3_method_1_code 30 = .ok (.putfield 21, 3) := by decide +kernel
theorem d_Hold_init_33 : decode prog_3_method_1_code 33 = .ok (.aload_n 0, 1) := by decide +kernel
theorem d_Hold_init_34 : decode prog_3_method_1_code 34 = .ok (.iconst 0, 1) := by decide +kernel
theorem d_Hold_init_35 : decode prog_3_method_1_code 35 = .ok (.putfield 25, 3) := by decide +kernel
theorem d_Hold_init_38 : decode prog_3_method_1_code 38 = .ok (.iconst 0, 1) := by decide +kernel
theorem d_Hold_init_39 : decode prog_3_method_1_code 39 = .ok (.istore_n 1, 1) := by decide +kernel
theorem d_Hold_init_40 : decode prog_3_method_1_code 40 = .ok (.iload_n 1, 1) := by decide +kernel
theorem d_Hold_init_41 : decode prog_3_method_1_code 41 = .ok (.bipush 12, 2) := by decide +kernel
theorem d_Hold_init_43 : decode prog_3_method_1_code 43 = .ok (.if_icmp .ge 35, 3) := by decide +kernel
theorem d_Hold_init_46 : decode prog_3_method_1_code 46 = .ok (.aload_n 0, 1) := by decide +kernel
theorem d_Hold_init_47 : decode prog_3_method_1_code 47 = .ok (.getfield 11, 3) := by decide +kernel
theorem d_Hold_init_50 : decode prog_3_method_1_code 50 = .ok (.iload_n 1, 1) := by decide +kernel
theorem d_Hold_init_51 : decode prog_3_method_1_code 51 = .ok (.new 9, 3) := by decide +kernel
theorem d_Hold_init_54 : decode prog_3_method_1_code 54 = .ok (.dup, 1) := by decide +kernel
theorem d_Hold_init_55 : decode prog_3_method_1_code 55 = .ok (.invokespecial 20, 3) := by decide +kernel
theorem d_Hold_init_58 : decode prog_3_method_1_code 58 = .ok (.aastore, 1) := by decide +kernel
theorem d_Hold_init_59 : decode prog_3_method_1_code 59 = .ok (.aload_n 0, 1) := by decide +kernel
theorem d_Hold_init_60 : decode prog_3_method_1_code 60 = .ok (.getfield 17, 3) := by decide +kernel
theorem d_Hold_init_63 : decode prog_3_method_1_code 63 = .ok (.iload_n 1, 1) := by decide +kernel
theorem d_Hold_init_64 : decode prog_3_method_1_code 64 = .ok (.new 9, 3) := by decide +kernel
theorem d_Hold_init_67 : decode prog_3_method_1_code 67 = .ok (.dup, 1) := by decide +kernel
theorem d_Hold_init_68 : decode prog_3_method_1_code 68 = .ok (.invokespecial 20, 3) := by decide +kernel
theorem d_Hold_init_71 : decode prog_3_method_1_code 71 = .ok (.aastore, 1) := by decide +kernel
theorem d_Hold_init_72 : decode prog_3_method_1_code 72 = .ok (.iinc 1 1, 3) := by decide +kernel
theorem d_Hold_init_75 : decode prog_3_method_1_code 75 = .ok (.goto (-35), 3) := by decide +kernel
theorem d_Hold_init_78 : decode prog_3_method_1_code 78 = .ok (.return_, 1) := by decide +kernel
theorem d_Arrow_init_0 : decode prog_2_method_1_code 0 = .ok (.aload_n 0, 1) := by decide +kernel
theorem d_Arrow_init_1 : decode prog_2_method_1_code 1 = .ok (.invokespecial 1, 3) := by decide +kernel
theorem d_Arrow_init_4 : decode prog_2_method_1_code 4 = .ok (.aload_n 0, 1) := by decide +kernel
theorem d_Arrow_init_5 : decode prog_2_method_1_code 5 = .ok (.iconst 0, 1) := by decide +kernel
theorem d_Arrow_init_6 : decode prog_2_method_1_code 6 = .ok (.putfield 7, 3) := by decide +kernel
theorem d_Arrow_init_9 : decode prog_2_method_1_code 9 = .ok (.aload_n 0, 1) := by decide +kernel
theorem d_Arrow_init_10 : decode prog_2_method_1_code 10 = .ok (.iconst 0, 1) := by decide +kernel
theorem d_Arrow_init_11 : decode prog_2_method_1_code 11 = .ok (.putfield 13, 3) := by decide +kernel
theorem d_Arrow_init_14 : decode prog_2_method_1_code 14 = .ok (.aload_n 0, 1) := by decide +kernel
theorem d_Arrow_init_15 : decode prog_2_method_1_code 15 = .ok (.iconst 0, 1) := by decide +kernel
theorem d_Arrow_init_16 : decode prog_2_method_1_code 16 = .ok (.putfield 16, 3) := by decide +kernel
theorem d_Arrow_init_19 : decode prog_2_method_1_code 19 = .ok (.return_, 1) := by decide +kernel
theorem d_WP_sizeFor_0 : decode prog_1_method_19_code 0 = .ok (.iconst 1, 1) := by decide +kernel
theorem d_WP_sizeFor_1 : decode prog_1_method_19_code 1 = .ok (.bipush 8, 2) := by decide +kernel
theorem d_WP_sizeFor_3 : decode prog_1_method_19_code 3 = .ok (.iload_n 0, 1) := by decide +kernel
theorem d_WP_sizeFor_4 : decode prog_1_method_19_code 4 = .ok (.invokestatic 201, 3) := by decide +kernel
theorem d_WP_sizeFor_7 : decode prog_1_method_19_code 7 = .ok (.invokestatic 206, 3) := by decide +kernel
theorem d_WP_sizeFor_10 : decode prog_1_method_19_code 10 = .ok (.ireturn, 1) := by decide +kernel
theorem d_Math_min_0 : decode prog_14_method_69_code 0 = .ok (.iload_n 0, 1) := by decide +kernel
theorem d_Math_min_1 : decode prog_14_method_69_code 1 = .ok (.iload_n 1, 1) := by decide +kernel
theorem d_Math_min_2 : decode prog_14_method_69_code 2 = .ok (.if_icmp .gt 7, 3) := by decide +kernel
theorem d_Math_min_5 : decode prog_14_method_69_code 5 = .ok (.iload_n 0, 1) := by decide +kernel
theorem d_Math_min_6 : decode prog_14_method_69_code 6 = .ok (.goto 4, 3) := by decide +kernel
theorem d_Math_min_9 : decode prog_14_method_69_code 9 = .ok (.iload_n 1, 1) := by decide +kernel
theorem d_Math_min_10 : decode prog_14_method_69_code 10 = .ok (.ireturn, 1) := by decide +kernel
theorem d_Math_max_0 : decode prog_14_method_65_code 0 = .ok (.iload_n 0, 1) := by decide +kernel
theorem d_Math_max_1 : decode prog_14_method_65_code 1 = .ok (.iload_n 1, 1) := by decide +kernel
theorem d_Math_max_2 : decode prog_14_method_65_code 2 = .ok (.if_icmp .lt 7, 3) := by decide +kernel
theorem d_Math_max_5 : decode prog_14_method_65_code 5 = .ok (.iload_n 0, 1) := by decide +kernel
theorem d_Math_max_6 : decode prog_14_method_65_code 6 = .ok (.goto 4, 3) := by decide +kernel
theorem d_Math_max_9 : decode prog_14_method_65_code 9 = .ok (.iload_n 1, 1) := by decide +kernel
theorem d_Math_max_10 : decode prog_14_method_65_code 10 = .ok (.ireturn, 1) := by decide +kernel
theorem d_Rock_init_0 : decode prog_6_method_1_code 0 = .ok (.aload_n 0, 1) := by decide +kernel
theorem d_Rock_init_1 : decode prog_6_method_1_code 1 = .ok (.invokespecial 3, 3) := by decide +kernel
theorem d_Rock_init_4 : decode prog_6_method_1_code 4 = .ok (.aload_n 0, 1) := by decide +kernel
theorem d_Rock_init_5 : decode prog_6_method_1_code 5 = .ok (.bipush 12, 2) := by decide +kernel
theorem d_Rock_init_7 : decode prog_6_method_1_code 7 = .ok (.anewarray 9, 3) := by decide +kernel
theorem d_Rock_init_10 : decode prog_6_method_1_code 10 = .ok (.putfield 11, 3) := by decide +kernel
theorem d_Rock_init_13 : decode prog_6_method_1_code 13 = .ok (.aload_n 0, 1) := by decide +kernel
theorem d_Rock_init_14 : decode prog_6_method_1_code 14 = .ok (.new 17, 3) := by decide +kernel
theorem d_Rock_init_17 : decode prog_6_method_1_code 17 = .ok (.dup, 1) := by decide +kernel
theorem d_Rock_init_18 : decode prog_6_method_1_code 18 = .ok (.invokespecial 19, 3) := by decide +kernel
theorem d_Rock_init_21 : decode prog_6_method_1_code 21 = .ok (.putfield 20, 3) := by decide +kernel
theorem d_Rock_init_24 : decode prog_6_method_1_code 24 = .ok (.aload_n 0, 1) := by decide +kernel
theorem d_Rock_init_25 : decode prog_6_method_1_code 25 = .ok (.bipush 64, 2) := by decide +kernel
theorem d_Rock_init_27 : decode prog_6_method_1_code 27 = .ok (.newarray .int, 2) := by decide +kernel
theorem d_Rock_init_29 : decode prog_6_method_1_code 29 = .ok (.putfield 24, 3) := by decide +kernel
theorem d_Rock_init_32 : decode prog_6_method_1_code 32 = .ok (.aload_n 0, 1) := by decide +kernel
theorem d_Rock_init_33 : decode prog_6_method_1_code 33 = .ok (.bipush 64, 2) := by decide +kernel
theorem d_Rock_init_35 : decode prog_6_method_1_code 35 = .ok (.newarray .int, 2) := by decide +kernel
theorem d_Rock_init_37 : decode prog_6_method_1_code 37 = .ok (.putfield 28, 3) := by decide +kernel
theorem d_Rock_init_40 : decode prog_6_method_1_code 40 = .ok (.aload_n 0, 1) := by decide +kernel
theorem d_Rock_init_41 : decode prog_6_method_1_code 41 = .ok (.bipush 64, 2) := by decide +kernel
theorem d_Rock_init_43 : decode prog_6_method_1_code 43 = .ok (.newarray .int, 2) := by decide +kernel
theorem d_Rock_init_45 : decode prog_6_method_1_code 45 = .ok (.putfield 31, 3) := by decide +kernel
theorem d_Rock_init_48 : decode prog_6_method_1_code 48 = .ok (.aload_n 0, 1) := by decide +kernel
theorem d_Rock_init_49 : decode prog_6_method_1_code 49 = .ok (.bipush 64, 2) := by decide +kernel
theorem d_Rock_init_51 : decode prog_6_method_1_code 51 = .ok (.newarray .int, 2) := by decide +kernel
theorem d_Rock_init_53 : decode prog_6_method_1_code 53 = .ok (.putfield 34, 3) := by decide +kernel
theorem d_Rock_init_56 : decode prog_6_method_1_code 56 = .ok (.aload_n 0, 1) := by decide +kernel
theorem d_Rock_init_57 : decode prog_6_method_1_code 57 = .ok (.iconst 0, 1) := by decide +kernel
theorem d_Rock_init_58 : decode prog_6_method_1_code 58 = .ok (.putfield 37, 3) := by decide +kernel
theorem d_Rock_init_61 : decode prog_6_method_1_code 61 = .ok (.aload_n 0, 1) := by decide +kernel
theorem d_Rock_init_62 : decode prog_6_method_1_code 62 = .ok (.iconst 0, 1) := by decide +kernel
theorem d_Rock_init_63 : decode prog_6_method_1_code 63 = .ok (.putfield 41, 3) := by decide +kernel
theorem d_Rock_init_66 : decode prog_6_method_1_code 66 = .ok (.aload_n 0, 1) := by decide +kernel
theorem d_Rock_init_67 : decode prog_6_method_1_code 67 = .ok (.bipush 6, 2) := by decide +kernel
theorem d_Rock_init_69 : decode prog_6_method_1_code 69 = .ok (.newarray .int, 2) := by decide +kernel
theorem d_Rock_init_71 : decode prog_6_method_1_code 71 = .ok (.putfield 44, 3) := by decide +kernel
theorem d_Rock_init_74 : decode prog_6_method_1_code 74 = .ok (.aload_n 0, 1) := by decide +kernel
theorem d_Rock_init_75 : decode prog_6_method_1_code 75 = .ok (.sipush 220, 3) := by decide +kernel
theorem d_Rock_init_78 : decode prog_6_method_1_code 78 = .ok (.newarray .int, 2) := by decide +kernel
theorem d_Rock_init_80 : decode prog_6_method_1_code 80 = .ok (.putfield 47, 3) := by decide +kernel
theorem d_Rock_init_83 : decode prog_6_method_1_code 83 = .ok (.aload_n 0, 1) := by decide +kernel
theorem d_Rock_init_84 : decode prog_6_method_1_code 84 = .ok (.new 50, 3) := by decide +kernel
theorem d_Rock_init_87 : decode prog_6_method_1_code 87 = .ok (.dup, 1) := by decide +kernel
theorem d_Rock_init_88 : decode prog_6_method_1_code 88 = .ok (.invokespecial 52, 3) := by decide +kernel
theorem d_Rock_init_91 : decode prog_6_method_1_code 91 = .ok (.putfield 53, 3) := by decide +kernel
theorem d_Rock_init_94 : decode prog_6_method_1_code 94 = .ok (.aload_n 0, 1) := by decide +kernel
theorem d_Rock_init_95 : decode prog_6_method_1_code 95 = .ok (.new 50, 3) := by decide +kernel
theorem d_Rock_init_98 : decode prog_6_method_1_code 98 = .ok (.dup, 1) := by decide +kernel
theorem d_Rock_init_99 : decode prog_6_method_1_code 99 = .ok (.invokespecial 52, 3) := by decide +kernel
theorem d_Rock_init_102 : decode prog_6_method_1_code 102 = .ok (.putfield 57, 3) := by decide +kernel
theorem d_Rock_init_105 : decode prog_6_method_1_code 105 = .ok (.aload_n 0, 1) := by decide +kernel
theorem d_Rock_init_106 : decode prog_6_method_1_code 106 = .ok (.new 50, 3) := by decide +kernel
theorem d_Rock_init_109 : decode prog_6_method_1_code 109 = .ok (.dup, 1) := by decide +kernel
theorem d_Rock_init_110 : decode prog_6_method_1_code 110 = .ok (.invokespecial 52, 3) := by decide +kernel
theorem d_Rock_init_113 : decode prog_6_method_1_code 113 = .ok (.putfield 60, 3) := by decide +kernel
theorem d_Rock_init_116 : decode prog_6_method_1_code 116 = .ok (.aload_n 0, 1) := by decide +kernel
theorem d_Rock_init_117 : decode prog_6_method_1_code 117 = .ok (.iconst 0, 1) := by decide +kernel
theorem d_Rock_init_118 : decode prog_6_method_1_code 118 = .ok (.putfield 63, 3) := by decide +kernel
theorem d_Rock_init_121 : decode prog_6_method_1_code 121 = .ok (.aload_n 0, 1) := by decide +kernel
theorem d_Rock_init_122 : decode prog_6_method_1_code 122 = .ok (.iload_n 1, 1) := by decide +kernel
theorem d_Rock_init_123 : decode prog_6_method_1_code 123 = .ok (.putfield 66, 3) := by decide +kernel
theorem d_Rock_init_126 : decode prog_6_method_1_code 126 = .ok (.aload_n 0, 1) := by decide +kernel
theorem d_Rock_init_127 : decode prog_6_method_1_code 127 = .ok (.iload_n 2, 1) := by decide +kernel
theorem d_Rock_init_128 : decode prog_6_method_1_code 128 = .ok (.putfield 69, 3) := by decide +kernel
theorem d_Rock_init_131 : decode prog_6_method_1_code 131 = .ok (.aload_n 0, 1) := by decide +kernel
theorem d_Rock_init_132 : decode prog_6_method_1_code 132 = .ok (.iload_n 3, 1) := by decide +kernel
theorem d_Rock_init_133 : decode prog_6_method_1_code 133 = .ok (.putfield 72, 3) := by decide +kernel
theorem d_Rock_init_136 : decode prog_6_method_1_code 136 = .ok (.iconst 0, 1) := by decide +kernel
theorem d_Rock_init_137 : decode prog_6_method_1_code 137 = .ok (.istore 4, 2) := by decide +kernel
theorem d_Rock_init_139 : decode prog_6_method_1_code 139 = .ok (.iload 4, 2) := by decide +kernel
theorem d_Rock_init_141 : decode prog_6_method_1_code 141 = .ok (.bipush 12, 2) := by decide +kernel
theorem d_Rock_init_143 : decode prog_6_method_1_code 143 = .ok (.if_icmp .ge 23, 3) := by decide +kernel
theorem d_Rock_init_146 : decode prog_6_method_1_code 146 = .ok (.aload_n 0, 1) := by decide +kernel
theorem d_Rock_init_147 : decode prog_6_method_1_code 147 = .ok (.getfield 11, 3) := by decide +kernel
theorem d_Rock_init_150 : decode prog_6_method_1_code 150 = .ok (.iload 4, 2) := by decide +kernel
theorem d_Rock_init_152 : decode prog_6_method_1_code 152 = .ok (.new 9, 3) := by decide +kernel
theorem d_Rock_init_155 : decode prog_6_method_1_code 155 = .ok (.dup, 1) := by decide +kernel
theorem d_Rock_init_156 : decode prog_6_method_1_code 156 = .ok (.invokespecial 75, 3) := by decide +kernel
theorem d_Rock_init_159 : decode prog_6_method_1_code 159 = .ok (.aastore, 1) := by decide +kernel
theorem d_Rock_init_160 : decode prog_6_method_1_code 160 = .ok (.iinc 4 1, 3) := by decide +kernel
theorem d_Rock_init_163 : decode prog_6_method_1_code 163 = .ok (.goto (-24), 3) := by decide +kernel
theorem d_Rock_init_166 : decode prog_6_method_1_code 166 = .ok (.aload_n 0, 1) := by decide +kernel
theorem d_Rock_init_167 : decode prog_6_method_1_code 167 = .ok (.getfield 11, 3) := by decide +kernel
theorem d_Rock_init_170 : decode prog_6_method_1_code 170 = .ok (.bipush 6, 2) := by decide +kernel
theorem d_Rock_init_172 : decode prog_6_method_1_code 172 = .ok (.aaload, 1) := by decide +kernel
theorem d_Rock_init_173 : decode prog_6_method_1_code 173 = .ok (.iconst 1, 1) := by decide +kernel
theorem d_Rock_init_174 : decode prog_6_method_1_code 174 = .ok (.iconst 0, 1) := by decide +kernel
theorem d_Rock_init_175 : decode prog_6_method_1_code 175 = .ok (.iconst 0, 1) := by decide +kernel
theorem d_Rock_init_176 : decode prog_6_method_1_code 176 = .ok (.iconst 0, 1) := by decide +kernel
theorem d_Rock_init_177 : decode prog_6_method_1_code 177 = .ok (.invokevirtual 76, 3) := by decide +kernel
theorem d_Rock_init_180 : decode prog_6_method_1_code 180 = .ok (.aload_n 0, 1) := by decide +kernel
theorem d_Rock_init_181 : decode prog_6_method_1_code 181 = .ok (.getfield 11, 3) := by decide +kernel
theorem d_Rock_init_184 : decode prog_6_method_1_code 184 = .ok (.bipush 7, 2) := by decide +kernel
theorem d_Rock_init_186 : decode prog_6_method_1_code 186 = .ok (.aaload, 1) := by decide +kernel
theorem d_Rock_init_187 : decode prog_6_method_1_code 187 = .ok (.iconst 1, 1) := by decide +kernel
theorem d_Rock_init_188 : decode prog_6_method_1_code 188 = .ok (.iconst 0, 1) := by decide +kernel
theorem d_Rock_init_189 : decode prog_6_method_1_code 189 = .ok (.iconst 0, 1) := by decide +kernel
theorem d_Rock_init_190 : decode prog_6_method_1_code 190 = .ok (.iload_n 1, 1) := by decide +kernel
theorem d_Rock_init_191 : decode prog_6_method_1_code 191 = .ok (.invokevirtual 76, 3) := by decide +kernel
theorem d_Rock_init_194 : decode prog_6_method_1_code 194 = .ok (.aload_n 0, 1) := by decide +kernel
theorem d_Rock_init_195 : decode prog_6_method_1_code 195 = .ok (.getfield 11, 3) := by decide +kernel
theorem d_Rock_init_198 : decode prog_6_method_1_code 198 = .ok (.bipush 8, 2) := by decide +kernel
theorem d_Rock_init_200 : decode prog_6_method_1_code 200 = .ok (.aaload, 1) := by decide +kernel
theorem d_Rock_init_201 : decode prog_6_method_1_code 201 = .ok (.iconst 0, 1) := by decide +kernel
theorem d_Rock_init_202 : decode prog_6_method_1_code 202 = .ok (.iconst 1, 1) := by decide +kernel
theorem d_Rock_init_203 : decode prog_6_method_1_code 203 = .ok (.iconst 0, 1) := by decide +kernel
theorem d_Rock_init_204 : decode prog_6_method_1_code 204 = .ok (.iconst 0, 1) := by decide +kernel
theorem d_Rock_init_205 : decode prog_6_method_1_code 205 = .ok (.invokevirtual 76, 3) := by decide +kernel
theorem d_Rock_init_208 : decode prog_6_method_1_code 208 = .ok (.aload_n 0, 1) := by decide +kernel
theorem d_Rock_init_209 : decode prog_6_method_1_code 209 = .ok (.getfield 11, 3) := by decide +kernel
theorem d_Rock_init_212 : decode prog_6_method_1_code 212 = .ok (.bipush 9, 2) := by decide +kernel
theorem d_Rock_init_214 : decode prog_6_method_1_code 214 = .ok (.aaload, 1) := by decide +kernel
theorem d_Rock_init_215 : decode prog_6_method_1_code 215 = .ok (.iconst 0, 1) := by decide +kernel
theorem d_Rock_init_216 : decode prog_6_method_1_code 216 = .ok (.iconst 1, 1) := by decide +kernel
theorem d_Rock_init_217 : decode prog_6_method_1_code 217 = .ok (.iconst 0, 1) := by decide +kernel
theorem d_Rock_init_218 : decode prog_6_method_1_code 218 = .ok (.iload_n 2, 1) := by decide +kernel
theorem d_Rock_init_219 : decode prog_6_method_1_code 219 = .ok (.invokevirtual 76, 3) := by decide +kernel
theorem d_Rock_init_222 : decode prog_6_method_1_code 222 = .ok (.aload_n 0, 1) := by decide +kernel
theorem d_Rock_init_223 : decode prog_6_method_1_code 223 = .ok (.getfield 11, 3) := by decide +kernel
theorem d_Rock_init_226 : decode prog_6_method_1_code 226 = .ok (.bipush 10, 2) := by decide +kernel
theorem d_Rock_init_228 : decode prog_6_method_1_code 228 = .ok (.aaload, 1) := by decide +kernel
theorem d_Rock_init_229 : decode prog_6_method_1_code 229 = .ok (.iconst 0, 1) := by decide +kernel
theorem d_Rock_init_230 : decode prog_6_method_1_code 230 = .ok (.iconst 0, 1) := by decide +kernel
theorem d_Rock_init_231 : decode prog_6_method_1_code 231 = .ok (.iconst 1, 1) := by decide +kernel
theorem d_Rock_init_232 : decode prog_6_method_1_code 232 = .ok (.iconst 0, 1) := by decide +kernel
theorem d_Rock_init_233 : decode prog_6_method_1_code 233 = .ok (.invokevirtual 76, 3) := by decide +kernel
theorem d_Rock_init_236 : decode prog_6_method_1_code 236 = .ok (.aload_n 0, 1) := by decide +kernel
theorem d_Rock_init_237 : decode prog_6_method_1_code 237 = .ok (.getfield 11, 3) := by decide +kernel
theorem d_Rock_init_240 : decode prog_6_method_1_code 240 = .ok (.bipush 11, 2) := by decide +kernel
theorem d_Rock_init_242 : decode prog_6_method_1_code 242 = .ok (.aaload, 1) := by decide +kernel
theorem d_Rock_init_243 : decode prog_6_method_1_code 243 = .ok (.iconst 0, 1) := by decide +kernel
theorem d_Rock_init_244 : decode prog_6_method_1_code 244 = .ok (.iconst 0, 1) := by decide +kernel
theorem d_Rock_init_245 : decode prog_6_method_1_code 245 = .ok (.iconst 1, 1) := by decide +kernel
theorem d_Rock_init_246 : decode prog_6_method_1_code 246 = .ok (.iload_n 3, 1) := by decide +kernel
theorem d_Rock_init_247 : decode prog_6_method_1_code 247 = .ok (.invokevirtual 76, 3) := by decide +kernel
theorem d_Rock_init_250 : decode prog_6_method_1_code 250 = .ok (.bipush 6, 2) := by decide +kernel
theorem d_Rock_init_252 : decode prog_6_method_1_code 252 = .ok (.istore 4, 2) := by decide +kernel
theorem d_Rock_init_254 : decode prog_6_method_1_code 254 = .ok (.iload 4, 2) := by decide +kernel
theorem d_Rock_init_256 : decode prog_6_method_1_code 256 = .ok (.bipush 12, 2) := by decide +kernel
theorem d_Rock_init_258 : decode prog_6_method_1_code 258 = .ok (.if_icmp .ge 15, 3) := by decide +kernel
theorem d_Rock_init_261 : decode prog_6_method_1_code 261 = .ok (.aload_n 0, 1) := by decide +kernel
theorem d_Rock_init_262 : decode prog_6_method_1_code 262 = .ok (.iload 4, 2) := by decide +kernel
theorem d_Rock_init_264 : decode prog_6_method_1_code 264 = .ok (.invokevirtual 80, 3) := by decide +kernel
theorem d_Rock_init_267 : decode prog_6_method_1_code 267 = .ok (.iinc 4 1, 3) := by decide +kernel
theorem d_Rock_init_270 : decode prog_6_method_1_code 270 = .ok (.goto (-16), 3) := by decide +kernel
theorem d_Rock_init_273 : decode prog_6_method_1_code 273 = .ok (.aload_n 0, 1) := by decide +kernel
theorem d_Rock_init_274 : decode prog_6_method_1_code 274 = .ok (.invokevirtual 84, 3) := by decide +kernel
theorem d_Rock_init_277 : decode prog_6_method_1_code 277 = .ok (.return_, 1) := by decide +kernel
theorem d_Points_init_0 : decode prog_5_method_1_code 0 = .ok (.aload_n 0, 1) := by decide +kernel
theorem d_Points_init_1 : decode prog_5_method_1_code 1 = .ok (.invokespecial 1, 3) := by decide +kernel
theorem d_Points_init_4 : decode prog_5_method_1_code 4 = .ok (.aload_n 0, 1) := by decide +kernel
theorem d_Points_init_5 : decode prog_5_method_1_code 5 = .ok (.sipush 220, 3) := by decide +kernel
theorem d_Points_init_8 : decode prog_5_method_1_code 8 = .ok (.newarray .int, 2) := by decide +kernel
theorem d_Points_init_10 : decode prog_5_method_1_code 10 = .ok (.putfield 9, 3) := by decide +kernel
theorem d_Points_init_13 : decode prog_5_method_1_code 13 = .ok (.aload_n 0, 1) := by decide +kernel
theorem d_Points_init_14 : decode prog_5_method_1_code 14 = .ok (.sipush 220, 3) := by decide +kernel
theorem d_Points_init_17 : decode prog_5_method_1_code 17 = .ok (.newarray .int, 2) := by decide +kernel
theorem d_Points_init_19 : decode prog_5_method_1_code 19 = .ok (.putfield 13, 3) := by decide +kernel
theorem d_Points_init_22 : decode prog_5_method_1_code 22 = .ok (.aload_n 0, 1) := by decide +kernel
theorem d_Points_init_23 : decode prog_5_method_1_code 23 = .ok (.sipush 220, 3) := by decide +kernel
theorem d_Points_init_26 : decode prog_5_method_1_code 26 = .ok (.newarray .int, 2) := by decide +kernel
theorem d_Points_init_28 : decode prog_5_method_1_code 28 = .ok (.putfield 16, 3) := by decide +kernel
theorem d_Points_init_31 : decode prog_5_method_1_code 31 = .ok (.aload_n 0, 1) := by decide +kernel
theorem d_Points_init_32 : decode prog_5_method_1_code 32 = .ok (.sipush 220, 3) := by decide +kernel
theorem d_Points_init_35 : decode prog_5_method_1_code 35 = .ok (.newarray .int, 2) := by decide +kernel
theorem d_Points_init_37 : decode prog_5_method_1_code 37 = .ok (.putfield 19, 3) := by decide +kernel
theorem d_Points_init_40 : decode prog_5_method_1_code 40 = .ok (.aload_n 0, 1) := by decide +kernel
theorem d_Points_init_41 : decode prog_5_method_1_code 41 = .ok (.sipush 220, 3) := by decide +kernel
theorem d_Points_init_44 : decode prog_5_method_1_code 44 = .ok (.newarray .int, 2) := by decide +kernel
theorem d_Points_init_46 : decode prog_5_method_1_code 46 = .ok (.putfield 22, 3) := by decide +kernel
theorem d_Points_init_49 : decode prog_5_method_1_code 49 = .ok (.aload_n 0, 1) := by decide +kernel
theorem d_Points_init_50 : decode prog_5_method_1_code 50 = .ok (.sipush 220, 3) := by decide +kernel
theorem d_Points_init_53 : decode prog_5_method_1_code 53 = .ok (.newarray .int, 2) := by decide +kernel
theorem d_Points_init_55 : decode prog_5_method_1_code 55 = .ok (.putfield 25, 3) := by decide +kernel
theorem d_Points_init_58 : decode prog_5_method_1_code 58 = .ok (.aload_n 0, 1) := by decide +kernel
theorem d_Points_init_59 : decode prog_5_method_1_code 59 = .ok (.iconst 0, 1) := by decide +kernel
theorem d_Points_init_60 : decode prog_5_method_1_code 60 = .ok (.putfield 28, 3) := by decide +kernel
theorem d_Points_init_63 : decode prog_5_method_1_code 63 = .ok (.return_, 1) := by decide +kernel
theorem d_Plane_init_0 : decode prog_4_method_1_code 0 = .ok (.aload_n 0, 1) := by decide +kernel
theorem d_Plane_init_1 : decode prog_4_method_1_code 1 = .ok (.invokespecial 1, 3) := by decide +kernel
theorem d_Plane_init_4 : decode prog_4_method_1_code 4 = .ok (.aload_n 0, 1) := by decide +kernel
theorem d_Plane_init_5 : decode prog_4_method_1_code 5 = .ok (.new 7, 3) := by decide +kernel
theorem d_Plane_init_8 : decode prog_4_method_1_code 8 = .ok (.dup, 1) := by decide +kernel
theorem d_Plane_init_9 : decode prog_4_method_1_code 9 = .ok (.invokespecial 9, 3) := by decide +kernel
theorem d_Plane_init_12 : decode prog_4_method_1_code 12 = .ok (.putfield 10, 3) := by decide +kernel
theorem d_Plane_init_15 : decode prog_4_method_1_code 15 = .ok (.aload_n 0, 1) := by decide +kernel
theorem d_Plane_init_16 : decode prog_4_method_1_code 16 = .ok (.iconst 0, 1) := by decide +kernel
theorem d_Plane_init_17 : decode prog_4_method_1_code 17 = .ok (.putfield 16, 3) := by decide +kernel
theorem d_Plane_init_20 : decode prog_4_method_1_code 20 = .ok (.return_, 1) := by decide +kernel
theorem d_Plane_set_0 : decode prog_4_method_2_code 0 = .ok (.aload_n 0, 1) := by decide +kernel
theorem d_Plane_set_1 : decode prog_4_method_2_code 1 = .ok (.getfield 10, 3) := by decide +kernel
theorem d_Plane_set_4 : decode prog_4_method_2_code 4 = .ok (.iload_n 1, 1) := by decide +kernel
theorem d_Plane_set_5 : decode prog_4_method_2_code 5 = .ok (.iload_n 2, 1) := by decide +kernel
theorem d_Plane_set_6 : decode prog_4_method_2_code 6 = .ok (.iload_n 3, 1) := by decide +kernel
theorem d_Plane_set_7 : decode prog_4_method_2_code 7 = .ok (.invokevirtual 20, 3) := by decide +kernel
theorem d_Plane_set_10 : decode prog_4_method_2_code 10 = .ok (.aload_n 0, 1) := by decide +kernel
theorem d_Plane_set_11 : decode prog_4_method_2_code 11 = .ok (.iload 4, 2) := by decide +kernel
theorem d_Plane_set_13 : decode prog_4_method_2_code 13 = .ok (.putfield 16, 3) := by decide +kernel
theorem d_Plane_set_16 : decode prog_4_method_2_code 16 = .ok (.return_, 1) := by decide +kernel
theorem d_Arrow_set_0 : decode prog_2_method_2_code 0 = .ok (.aload_n 0, 1) := by decide +kernel
theorem d_Arrow_set_1 : decode prog_2_method_2_code 1 = .ok (.iload_n 1, 1) := by decide +kernel
theorem d_Arrow_set_2 : decode prog_2_method_2_code 2 = .ok (.putfield 7, 3) := by decide +kernel
theorem d_Arrow_set_5 : decode prog_2_method_2_code 5 = .ok (.aload_n 0, 1) := by decide +kernel
theorem d_Arrow_set_6 : decode prog_2_method_2_code 6 = .ok (.iload_n 2, 1) := by decide +kernel
theorem d_Arrow_set_7 : decode prog_2_method_2_code 7 = .ok (.putfield 13, 3) := by decide +kernel
theorem d_Arrow_set_10 : decode prog_2_method_2_code 10 = .ok (.aload_n 0, 1) := by decide +kernel
theorem d_Arrow_set_11 : decode prog_2_method_2_code 11 = .ok (.iload_n 3, 1) := by decide +kernel
theorem d_Arrow_set_12 : decode prog_2_method_2_code 12 = .ok (.putfield 16, 3) := by decide +kernel
theorem d_Arrow_set_15 : decode prog_2_method_2_code 15 = .ok (.return_, 1) := by decide +kernel
theorem d_Rock_addFace_0 : decode prog_6_method_11_code 0 = .ok (.iconst 0, 1) := by decide +kernel
theorem d_Rock_addFace_1 : decode prog_6_method_11_code 1 = .ok (.istore_n 2, 1) := by decide +kernel
theorem d_Rock_addFace_2 : decode prog_6_method_11_code 2 = .ok (.iload_n 2, 1) := by decide +kernel
theorem d_Rock_addFace_3 : decode prog_6_method_11_code 3 = .ok (.aload_n 0, 1) := by decide +kernel
theorem d_Rock_addFace_4 : decode prog_6_method_11_code 4 = .ok (.getfield 20, 3) := by decide +kernel
theorem d_Rock_addFace_7 : decode prog_6_method_11_code 7 = .ok (.getfield 100, 3) := by decide +kernel
theorem d_Rock_addFace_10 : decode prog_6_method_11_code 10 = .ok (.if_icmp .ge 24, 3) := by decide +kernel
theorem d_Rock_addFace_13 : decode prog_6_method_11_code 13 = .ok (.aload_n 0, 1) := by decide +kernel
theorem d_Rock_addFace_14 : decode prog_6_method_11_code 14 = .ok (.getfield 20, 3) := by decide +kernel
theorem d_Rock_addFace_17 : decode prog_6_method_11_code 17 = .ok (.iload_n 2, 1) := by decide +kernel
theorem d_Rock_addFace_18 : decode prog_6_method_11_code 18 = .ok (.iload_n 1, 1) := by decide +kernel
theorem d_Rock_addFace_19 : decode prog_6_method_11_code 19 = .ok (.aload_n 0, 1) := by decide +kernel
theorem d_Rock_addFace_20 : decode prog_6_method_11_code 20 = .ok (.getfield 11, 3) := by decide +kernel
theorem d_Rock_addFace_23 : decode prog_6_method_11_code 23 = .ok (.iload_n 1, 1) := by decide +kernel
theorem d_Rock_addFace_24 : decode prog_6_method_11_code 24 = .ok (.aaload, 1) := by decide +kernel
theorem d_Rock_addFace_25 : decode prog_6_method_11_code 25 = .ok (.invokevirtual 127, 3) := by decide +kernel
theorem d_Rock_addFace_28 : decode prog_6_method_11_code 28 = .ok (.iinc 2 1, 3) := by decide +kernel
theorem d_Rock_addFace_31 : decode prog_6_method_11_code 31 = .ok (.goto (-29), 3) := by decide +kernel
theorem d_Rock_addFace_34 : decode prog_6_method_11_code 34 = .ok (.aload_n 0, 1) := by decide +kernel
theorem d_Rock_addFace_35 : decode prog_6_method_11_code 35 = .ok (.getfield 63, 3) := by decide +kernel
theorem d_Rock_addFace_38 : decode prog_6_method_11_code 38 = .ok (.istore_n 2, 1) := by decide +kernel
theorem d_Rock_addFace_39 : decode prog_6_method_11_code 39 = .ok (.aload_n 0, 1) := by decide +kernel
theorem d_Rock_addFace_40 : decode prog_6_method_11_code 40 = .ok (.dup, 1) := by decide +kernel
theorem d_Rock_addFace_41 : decode prog_6_method_11_code 41 = .ok (.getfield 63, 3) := by decide +kernel
theorem d_Rock_addFace_44 : decode prog_6_method_11_code 44 = .ok (.iconst 1, 1) := by decide +kernel
theorem d_Rock_addFace_45 : decode prog_6_method_11_code 45 = .ok (.iload_n 1, 1) := by decide +kernel
theorem d_Rock_addFace_46 : decode prog_6_method_11_code 46 = .ok (.ishl, 1) := by decide +kernel
theorem d_Rock_addFace_47 : decode prog_6_method_11_code 47 = .ok (.ior, 1) := by decide +kernel
theorem d_Rock_addFace_48 : decode prog_6_method_11_code 48 = .ok (.putfield 63, 3) := by decide +kernel
theorem d_Rock_addFace_51 : decode prog_6_method_11_code 51 = .ok (.iconst 0, 1) := by decide +kernel
theorem d_Rock_addFace_52 : decode prog_6_method_11_code 52 = .ok (.istore_n 3, 1) := by decide +kernel
theorem d_Rock_addFace_53 : decode prog_6_method_11_code 53 = .ok (.iload_n 3, 1) := by decide +kernel
theorem d_Rock_addFace_54 : decode prog_6_method_11_code 54 = .ok (.bipush 12, 2) := by decide +kernel
theorem d_Rock_addFace_56 : decode prog_6_method_11_code 56 = .ok (.if_icmp .ge 67, 3) := by decide +kernel
theorem d_Rock_addFace_59 : decode prog_6_method_11_code 59 = .ok (.iload_n 3, 1) := by decide +kernel
theorem d_Rock_addFace_60 : decode prog_6_method_11_code 60 = .ok (.iconst 1, 1) := by decide +kernel
theorem d_Rock_addFace_61 : decode prog_6_method_11_code 61 = .ok (.iadd, 1) := by decide +kernel
theorem d_Rock_addFace_62 : decode prog_6_method_11_code 62 = .ok (.istore 4, 2) := by decide +kernel
theorem d_Rock_addFace_64 : decode prog_6_method_11_code 64 = .ok (.iload 4, 2) := by decide +kernel
theorem d_Rock_addFace_66 : decode prog_6_method_11_code 66 = .ok (.bipush 12, 2) := by decide +kernel
theorem d_Rock_addFace_68 : decode prog_6_method_11_code 68 = .ok (.if_icmp .ge 49, 3) := by decide +kernel
theorem d_Rock_addFace_71 : decode prog_6_method_11_code 71 = .ok (.iload_n 2, 1) := by decide +kernel
theorem d_Rock_addFace_72 : decode prog_6_method_11_code 72 = .ok (.iload_n 3, 1) := by decide +kernel
theorem d_Rock_addFace_73 : decode prog_6_method_11_code 73 = .ok (.invokestatic 107, 3) := by decide +kernel
theorem d_Rock_addFace_76 : decode prog_6_method_11_code 76 = .ok (.ifCond .eq 35, 3) := by decide +kernel
theorem d_Rock_addFace_79 : decode prog_6_method_11_code 79 = .ok (.iload_n 2, 1) := by decide +kernel
theorem d_Rock_addFace_80 : decode prog_6_method_11_code 80 = .ok (.iload 4, 2) := by decide +kernel
theorem d_Rock_addFace_82 : decode prog_6_method_11_code 82 = .ok (.invokestatic 107, 3) := by decide +kernel
theorem d_Rock_addFace_85 : decode prog_6_method_11_code 85 = .ok (.ifCond .eq 26, 3) := by decide +kernel
theorem d_Rock_addFace_88 : decode prog_6_method_11_code 88 = .ok (.aload_n 0, 1) := by decide +kernel
theorem d_Rock_addFace_89 : decode prog_6_method_11_code 89 = .ok (.aload_n 0, 1) := by decide +kernel
theorem d_Rock_addFace_90 : decode prog_6_method_11_code 90 = .ok (.getfield 11, 3) := by decide +kernel
theorem d_Rock_addFace_93 : decode prog_6_method_11_code 93 = .ok (.iload_n 1, 1) := by decide +kernel
theorem d_Rock_addFace_94 : decode prog_6_method_11_code 94 = .ok (.aaload, 1) := by decide +kernel
theorem d_Rock_addFace_95 : decode prog_6_method_11_code 95 = .ok (.aload_n 0, 1) := by decide +kernel
theorem d_Rock_addFace_96 : decode prog_6_method_11_code 96 = .ok (.getfield 11, 3) := by decide +kernel
theorem d_Rock_addFace_99 : decode prog_6_method_11_code 99 = .ok (.iload_n 3, 1) := by decide +kernel
theorem d_Rock_addFace_100 : decode prog_6_method_11_code 100 = .ok (.aaload, 1) := by decide +kernel
theorem d_Rock_addFace_101 : decode prog_6_method_11_code 101 = .ok (.aload_n 0, 1) := by decide +kernel
theorem d_Rock_addFace_102 : decode prog_6_method_11_code 102 = .ok (.getfield 11, 3) := by decide +kernel
theorem d_Rock_addFace_105 : decode prog_6_method_11_code 105 = .ok (.iload 4, 2) := by decide +kernel
theorem d_Rock_addFace_107 : decode prog_6_method_11_code 107 = .ok (.aaload, 1) := by decide +kernel
theorem d_Rock_addFace_108 : decode prog_6_method_11_code 108 = .ok (.invokevirtual 131, 3) := by decide +kernel
theorem d_Rock_addFace_111 : decode prog_6_method_11_code 111 = .ok (.iinc 4 1, 3) := by decide +kernel
theorem d_Rock_addFace_114 : decode prog_6_method_11_code 114 = .ok (.goto (-50), 3) := by decide +kernel
theorem d_Rock_addFace_117 : decode prog_6_method_11_code 117 = .ok (.iinc 3 1, 3) := by decide +kernel
theorem d_Rock_addFace_120 : decode prog_6_method_11_code 120 = .ok (.goto (-67), 3) := by decide +kernel
theorem d_Rock_addFace_123 : decode prog_6_method_11_code 123 = .ok (.return_, 1) := by decide +kernel
theorem d_Points_tellSide_0 : decode prog_5_method_4_code 0 = .ok (.aload_n 3, 1) := by decide +kernel
theorem d_Points_tellSide_1 : decode prog_5_method_4_code 1 = .ok (.aload_n 0, 1) := by decide +kernel
theorem d_Points_tellSide_2 : decode prog_5_method_4_code 2 = .ok (.getfield 9, 3) := by decide +kernel
theorem d_Points_tellSide_5 : decode prog_5_method_4_code 5 = .ok (.iload_n 1, 1) := by decide +kernel
theorem d_Points_tellSide_6 : decode prog_5_method_4_code 6 = .ok (.iaload, 1) := by decide +kernel
theorem d_Points_tellSide_7 : decode prog_5_method_4_code 7 = .ok (.aload_n 0, 1) := by decide +kernel
theorem d_Points_tellSide_8 : decode prog_5_method_4_code 8 = .ok (.getfield 13, 3) := by decide +kernel
theorem d_Points_tellSide_11 : decode prog_5_method_4_code 11 = .ok (.iload_n 1, 1) := by decide +kernel
theorem d_Points_tellSide_12 : decode prog_5_method_4_code 12 = .ok (.iaload, 1) := by decide +kernel
theorem d_Points_tellSide_13 : decode prog_5_method_4_code 13 = .ok (.aload_n 0, 1) := by decide +kernel
theorem d_Points_tellSide_14 : decode prog_5_method_4_code 14 = .ok (.getfield 16, 3) := by decide +kernel
theorem d_Points_tellSide_17 : decode prog_5_method_4_code 17 = .ok (.iload_n 1, 1) := by decide +kernel
theorem d_Points_tellSide_18 : decode prog_5_method_4_code 18 = .ok (.iaload, 1) := by decide +kernel
theorem d_Points_tellSide_19 : decode prog_5_method_4_code 19 = .ok (.aload_n 0, 1) := by decide +kernel
theorem d_Points_tellSide_20 : decode prog_5_method_4_code 20 = .ok (.getfield 19, 3) := by decide +kernel
theorem d_Points_tellSide_23 : decode prog_5_method_4_code 23 = .ok (.iload_n 1, 1) := by decide +kernel
theorem d_Points_tellSide_24 : decode prog_5_method_4_code 24 = .ok (.iaload, 1) := by decide +kernel
theorem d_Points_tellSide_25 : decode prog_5_method_4_code 25 = .ok (.invokevirtual 32, 3) := by decide +kernel
theorem d_Points_tellSide_28 : decode prog_5_method_4_code 28 = .ok (.istore 4, 2) := by decide +kernel
theorem d_Points_tellSide_30 : decode prog_5_method_4_code 30 = .ok (.iload 4, 2) := by decide +kernel
theorem d_Points_tellSide_32 : decode prog_5_method_4_code 32 = .ok (.ifCond .le 18, 3) := by decide +kernel
theorem d_Points_tellSide_35 : decode prog_5_method_4_code 35 = .ok (.aload_n 0, 1) := by decide +kernel
theorem d_Points_tellSide_36 : decode prog_5_method_4_code 36 = .ok (.getfield 22, 3) := by decide +kernel
theorem d_Points_tellSide_39 : decode prog_5_method_4_code 39 = .ok (.iload_n 1, 1) := by decide +kernel
theorem d_Points_tellSide_40 : decode prog_5_method_4_code 40 = .ok (.dup2, 1) := by decide +kernel
theorem d_Points_tellSide_41 : decode prog_5_method_4_code 41 = .ok (.iaload, 1) := by decide +kernel
theorem d_Points_tellSide_42 : decode prog_5_method_4_code 42 = .ok (.iconst 1, 1) := by decide +kernel
theorem d_Points_tellSide_43 : decode prog_5_method_4_code 43 = .ok (.iload_n 2, 1) := by decide +kernel
theorem d_Points_tellSide_44 : decode prog_5_method_4_code 44 = .ok (.ishl, 1) := by decide +kernel
theorem d_Points_tellSide_45 : decode prog_5_method_4_code 45 = .ok (.ior, 1) := by decide +kernel
theorem d_Points_tellSide_46 : decode prog_5_method_4_code 46 = .ok (.iastore, 1) := by decide +kernel
theorem d_Points_tellSide_47 : decode prog_5_method_4_code 47 = .ok (.goto 20, 3) := by decide +kernel
theorem d_Points_tellSide_50 : decode prog_5_method_4_code 50 = .ok (.iload 4, 2) := by decide +kernel
theorem d_Points_tellSide_52 : decode prog_5_method_4_code 52 = .ok (.ifCond .ge 15, 3) := by decide +kernel
theorem d_Points_tellSide_55 : decode prog_5_method_4_code 55 = .ok (.aload_n 0, 1) := by decide +kernel
theorem d_Points_tellSide_56 : decode prog_5_method_4_code 56 = .ok (.getfield 25, 3) := by decide +kernel
theorem d_Points_tellSide_59 : decode prog_5_method_4_code 59 = .ok (.iload_n 1, 1) := by decide +kernel
theorem d_Points_tellSide_60 : decode prog_5_method_4_code 60 = .ok (.dup2, 1) := by decide +kernel
theorem d_Points_tellSide_61 : decode prog_5_method_4_code 61 = .ok (.iaload, 1) := by decide +kernel
theorem d_Points_tellSide_62 : decode prog_5_method_4_code 62 = .ok (.iconst 1, 1) := by decide +kernel
theorem d_Points_tellSide_63 : decode prog_5_method_4_code 63 = .ok (.iload_n 2, 1) := by decide +kernel
theorem d_Points_tellSide_64 : decode prog_5_method_4_code 64 = .ok (.ishl, 1) := by decide +kernel
theorem d_Points_tellSide_65 : decode prog_5_method_4_code 65 = .ok (.ior, 1) := by decide +kernel
theorem d_Points_tellSide_66 : decode prog_5_method_4_code 66 = .ok (.iastore, 1) := by decide +kernel
theorem d_Points_tellSide_67 : decode prog_5_method_4_code 67 = .ok (.return_, 1) := by decide +kernel
theorem d_Plane_heightOf_0 : decode prog_4_method_3_code 0 = .ok (.aload_n 0, 1) := by decide +kernel
theorem d_Plane_heightOf_1 : decode prog_4_method_3_code 1 = .ok (.getfield 10, 3) := by decide +kernel
theorem d_Plane_heightOf_4 : decode prog_4_method_3_code 4 = .ok (.getfield 24, 3) := by decide +kernel
theorem d_Plane_heightOf_7 : decode prog_4_method_3_code 7 = .ok (.iload_n 1, 1) := by decide +kernel
theorem d_Plane_heightOf_8 : decode prog_4_method_3_code 8 = .ok (.imul, 1) := by decide +kernel
theorem d_Plane_heightOf_9 : decode prog_4_method_3_code 9 = .ok (.aload_n 0, 1) := by decide +kernel
theorem d_Plane_heightOf_10 : decode prog_4_method_3_code 10 = .ok (.getfield 10, 3) := by decide +kernel
theorem d_Plane_heightOf_13 : decode prog_4_method_3_code 13 = .ok (.getfield 27, 3) := by decide +kernel
theorem d_Plane_heightOf_16 : decode prog_4_method_3_code 16 = .ok (.iload_n 2, 1) := by decide +kernel
theorem d_Plane_heightOf_17 : decode prog_4_method_3_code 17 = .ok (.imul, 1) := by decide +kernel
theorem d_Plane_heightOf_18 : decode prog_4_method_3_code 18 = .ok (.iadd, 1) := by decide +kernel
theorem d_Plane_heightOf_19 : decode prog_4_method_3_code 19 = .ok (.aload_n 0, 1) := by decide +kernel
theorem d_Plane_heightOf_20 : decode prog_4_method_3_code 20 = .ok (.getfield 10, 3) := by decide +kernel
theorem d_Plane_heightOf_23 : decode prog_4_method_3_code 23 = .ok (.getfield 30, 3) := by decide +kernel
theorem d_Plane_heightOf_26 : decode prog_4_method_3_code 26 = .ok (.iload_n 3, 1) := by decide +kernel
theorem d_Plane_heightOf_27 : decode prog_4_method_3_code 27 = .ok (.imul, 1) := by decide +kernel
theorem d_Plane_heightOf_28 : decode prog_4_method_3_code 28 = .ok (.iadd, 1) := by decide +kernel
theorem d_Plane_heightOf_29 : decode prog_4_method_3_code 29 = .ok (.aload_n 0, 1) := by decide +kernel
theorem d_Plane_heightOf_30 : decode prog_4_method_3_code 30 = .ok (.getfield 16, 3) := by decide +kernel
theorem d_Plane_heightOf_33 : decode prog_4_method_3_code 33 = .ok (.iload 4, 2) := by decide +kernel
theorem d_Plane_heightOf_35 : decode prog_4_method_3_code 35 = .ok (.imul, 1) := by decide +kernel
theorem d_Plane_heightOf_36 : decode prog_4_method_3_code 36 = .ok (.isub, 1) := by decide +kernel
theorem d_Plane_heightOf_37 : decode prog_4_method_3_code 37 = .ok (.ireturn, 1) := by decide +kernel
theorem d_WP_hasBit_0 : decode prog_1_method_20_code 0 = .ok (.iload_n 0, 1) := by decide +kernel
theorem d_WP_hasBit_1 : decode prog_1_method_20_code 1 = .ok (.iload_n 1, 1) := by decide +kernel
theorem d_WP_hasBit_2 : decode prog_1_method_20_code 2 = .ok (.ishr, 1) := by decide +kernel
theorem d_WP_hasBit_3 : decode prog_1_method_20_code 3 = .ok (.iconst 1, 1) := by decide +kernel
theorem d_WP_hasBit_4 : decode prog_1_method_20_code 4 = .ok (.iand, 1) := by decide +kernel
theorem d_WP_hasBit_5 : decode prog_1_method_20_code 5 = .ok (.iconst 1, 1) := by decide +kernel
theorem d_WP_hasBit_6 : decode prog_1_method_20_code 6 = .ok (.if_icmp .ne 7, 3) := by decide +kernel
theorem d_WP_hasBit_9 : decode prog_1_method_20_code 9 = .ok (.iconst 1, 1) := by decide +kernel
theorem d_WP_hasBit_10 : decode prog_1_method_20_code 10 = .ok (.goto 4, 3) := by decide +kernel
theorem d_WP_hasBit_13 : decode prog_1_method_20_code 13 = .ok (.iconst 0, 1) := by decide +kernel
theorem d_WP_hasBit_14 : decode prog_1_method_20_code 14 = .ok (.ireturn, 1) := by decide +kernel
theorem d_Rock_meet_0 : decode prog_6_method_12_code 0 = .ok (.aload_n 0, 1) := by decide +kernel
theorem d_Rock_meet_1 : decode prog_6_method_12_code 1 = .ok (.getfield 53, 3) := by decide +kernel
theorem d_Rock_meet_4 : decode prog_6_method_12_code 4 = .ok (.aload_n 2, 1) := by decide +kernel
theorem d_Rock_meet_5 : decode prog_6_method_12_code 5 = .ok (.getfield 135, 3) := by decide +kernel
theorem d_Rock_meet_8 : decode prog_6_method_12_code 8 = .ok (.aload_n 3, 1) := by decide +kernel
theorem d_Rock_meet_9 : decode prog_6_method_12_code 9 = .ok (.getfield 135, 3) := by decide +kernel
theorem d_Rock_meet_12 : decode prog_6_method_12_code 12 = .ok (.invokevirtual 138, 3) := by decide +kernel
theorem d_Rock_meet_15 : decode prog_6_method_12_code 15 = .ok (.aload_n 0, 1) := by decide +kernel
theorem d_Rock_meet_16 : decode prog_6_method_12_code 16 = .ok (.getfield 57, 3) := by decide +kernel
theorem d_Rock_meet_19 : decode prog_6_method_12_code 19 = .ok (.aload_n 3, 1) := by decide +kernel
theorem d_Rock_meet_20 : decode prog_6_method_12_code 20 = .ok (.getfield 135, 3) := by decide +kernel
theorem d_Rock_meet_23 : decode prog_6_method_12_code 23 = .ok (.aload_n 1, 1) := by decide +kernel
theorem d_Rock_meet_24 : decode prog_6_method_12_code 24 = .ok (.getfield 135, 3) := by decide +kernel
theorem d_Rock_meet_27 : decode prog_6_method_12_code 27 = .ok (.invokevirtual 138, 3) := by decide +kernel
theorem d_Rock_meet_30 : decode prog_6_method_12_code 30 = .ok (.aload_n 0, 1) := by decide +kernel
theorem d_Rock_meet_31 : decode prog_6_method_12_code 31 = .ok (.getfield 60, 3) := by decide +kernel
theorem d_Rock_meet_34 : decode prog_6_method_12_code 34 = .ok (.aload_n 1, 1) := by decide +kernel
theorem d_Rock_meet_35 : decode prog_6_method_12_code 35 = .ok (.getfield 135, 3) := by decide +kernel
theorem d_Rock_meet_38 : decode prog_6_method_12_code 38 = .ok (.aload_n 2, 1) := by decide +kernel
theorem d_Rock_meet_39 : decode prog_6_method_12_code 39 = .ok (.getfield 135, 3) := by decide +kernel
theorem d_Rock_meet_42 : decode prog_6_method_12_code 42 = .ok (.invokevirtual 138, 3) := by decide +kernel
theorem d_Rock_meet_45 : decode prog_6_method_12_code 45 = .ok (.aload_n 1, 1) := by decide +kernel
theorem d_Rock_meet_46 : decode prog_6_method_12_code 46 = .ok (.getfield 135, 3) := by decide +kernel
theorem d_Rock_meet_49 : decode prog_6_method_12_code 49 = .ok (.aload_n 0, 1) := by decide +kernel
theorem d_Rock_meet_50 : decode prog_6_method_12_code 50 = .ok (.getfield 53, 3) := by decide +kernel
theorem d_Rock_meet_53 : decode prog_6_method_12_code 53 = .ok (.invokevirtual 142, 3) := by decide +kernel
theorem d_Rock_meet_56 : decode prog_6_method_12_code 56 = .ok (.istore 4, 2) := by decide +kernel
theorem d_Rock_meet_58 : decode prog_6_method_12_code 58 = .ok (.iload 4, 2) := by decide +kernel
theorem d_Rock_meet_60 : decode prog_6_method_12_code 60 = .ok (.ifCond .ne 4, 3) := by decide +kernel
theorem d_Rock_meet_63 : decode prog_6_method_12_code 63 = .ok (.return_, 1) := by decide +kernel
theorem d_Rock_meet_64 : decode prog_6_method_12_code 64 = .ok (.iload 4, 2) := by decide +kernel
theorem d_Rock_meet_66 : decode prog_6_method_12_code 66 = .ok (.ifCond .le 7, 3) := by decide +kernel
theorem d_Rock_meet_69 : decode prog_6_method_12_code 69 = .ok (.iconst 1, 1) := by decide +kernel
theorem d_Rock_meet_70 : decode prog_6_method_12_code 70 = .ok (.goto 4, 3) := by decide +kernel
theorem d_Rock_meet_73 : decode prog_6_method_12_code 73 = .ok (.iconst (-1), 1) := by decide +kernel
theorem d_Rock_meet_74 : decode prog_6_method_12_code 74 = .ok (.istore 5, 2) := by decide +kernel
theorem d_Rock_meet_76 : decode prog_6_method_12_code 76 = .ok (.aload_n 1, 1) := by decide +kernel
theorem d_Rock_meet_77 : decode prog_6_method_12_code 77 = .ok (.getfield 146, 3) := by decide +kernel
theorem d_Rock_meet_80 : decode prog_6_method_12_code 80 = .ok (.aload_n 0, 1) := by decide +kernel
theorem d_Rock_meet_81 : decode prog_6_method_12_code 81 = .ok (.getfield 53, 3) := by decide +kernel
theorem d_Rock_meet_84 : decode prog_6_method_12_code 84 = .ok (.getfield 149, 3) := by decide +kernel
theorem d_Rock_meet_87 : decode prog_6_method_12_code 87 = .ok (.imul, 1) := by decide +kernel
theorem d_Rock_meet_88 : decode prog_6_method_12_code 88 = .ok (.aload_n 2, 1) := by decide +kernel
theorem d_Rock_meet_89 : decode prog_6_method_12_code 89 = .ok (.getfield 146, 3) := by decide +kernel
theorem d_Rock_meet_92 : decode prog_6_method_12_code 92 = .ok (.aload_n 0, 1) := by decide +kernel
theorem d_Rock_meet_93 : decode prog_6_method_12_code 93 = .ok (.getfield 57, 3) := by decide +kernel
theorem d_Rock_meet_96 : decode prog_6_method_12_code 96 = .ok (.getfield 149, 3) := by decide +kernel
theorem d_Rock_meet_99 : decode prog_6_method_12_code 99 = .ok (.imul, 1) := by decide +kernel
theorem d_Rock_meet_100 : decode prog_6_method_12_code 100 = .ok (.iadd, 1) := by decide +kernel
theorem d_Rock_meet_101 : decode prog_6_method_12_code 101 = .ok (.aload_n 3, 1) := by decide +kernel
theorem d_Rock_meet_102 : decode prog_6_method_12_code 102 = .ok (.getfield 146, 3) := by decide +kernel
theorem d_Rock_meet_105 : decode prog_6_method_12_code 105 = .ok (.aload_n 0, 1) := by decide +kernel
theorem d_Rock_meet_106 : decode prog_6_method_12_code 106 = .ok (.getfield 60, 3) := by decide +kernel
theorem d_Rock_meet_109 : decode prog_6_method_12_code 109 = .ok (.getfield 149, 3) := by decide +kernel
theorem d_Rock_meet_112 : decode prog_6_method_12_code 112 = .ok (.imul, 1) := by decide +kernel
theorem d_Rock_meet_113 : decode prog_6_method_12_code 113 = .ok (.iadd, 1) := by decide +kernel
theorem d_Rock_meet_114 : decode prog_6_method_12_code 114 = .ok (.istore 6, 2) := by decide +kernel
theorem d_Rock_meet_116 : decode prog_6_method_12_code 116 = .ok (.aload_n 1, 1) := by decide +kernel
theorem d_Rock_meet_117 : decode prog_6_method_12_code 117 = .ok (.getfield 146, 3) := by decide +kernel
theorem d_Rock_meet_120 : decode prog_6_method_12_code 120 = .ok (.aload_n 0, 1) := by decide +kernel
theorem d_Rock_meet_121 : decode prog_6_method_12_code 121 = .ok (.getfield 53, 3) := by decide +kernel
theorem d_Rock_meet_124 : decode prog_6_method_12_code 124 = .ok (.getfield 152, 3) := by decide +kernel
theorem d_Rock_meet_127 : decode prog_6_method_12_code 127 = .ok (.imul, 1) := by decide +kernel
theorem d_Rock_meet_128 : decode prog_6_method_12_code 128 = .ok (.aload_n 2, 1) := by decide +kernel
theorem d_Rock_meet_129 : decode prog_6_method_12_code 129 = .ok (.getfield 146, 3) := by decide +kernel
theorem d_Rock_meet_132 : decode prog_6_method_12_code 132 = .ok (.aload_n 0, 1) := by decide +kernel
theorem d_Rock_meet_133 : decode prog_6_method_12_code 133 = .ok (.getfield 57, 3) := by decide +kernel
theorem d_Rock_meet_136 : decode prog_6_method_12_code 136 = .ok (.getfield 152, 3) := by decide +kernel
theorem d_Rock_meet_139 : decode prog_6_method_12_code 139 = .ok (.imul, 1) := by decide +kernel
theorem d_Rock_meet_140 : decode prog_6_method_12_code 140 = .ok (.iadd, 1) := by decide +kernel
theorem d_Rock_meet_141 : decode prog_6_method_12_code 141 = .ok (.aload_n 3, 1) := by decide +kernel
theorem d_Rock_meet_142 : decode prog_6_method_12_code 142 = .ok (.getfield 146, 3) := by decide +kernel
theorem d_Rock_meet_145 : decode prog_6_method_12_code 145 = .ok (.aload_n 0, 1) := by decide +kernel
theorem d_Rock_meet_146 : decode prog_6_method_12_code 146 = .ok (.getfield 60, 3) := by decide +kernel
theorem d_Rock_meet_149 : decode prog_6_method_12_code 149 = .ok (.getfield 152, 3) := by decide +kernel
theorem d_Rock_meet_152 : decode prog_6_method_12_code 152 = .ok (.imul, 1) := by decide +kernel
theorem d_Rock_meet_153 : decode prog_6_method_12_code 153 = .ok (.iadd, 1) := by decide +kernel
theorem d_Rock_meet_154 : decode prog_6_method_12_code 154 = .ok (.istore 7, 2) := by decide +kernel
theorem d_Rock_meet_156 : decode prog_6_method_12_code 156 = .ok (.aload_n 1, 1) := by decide +kernel
theorem d_Rock_meet_157 : decode prog_6_method_12_code 157 = .ok (.getfield 146, 3) := by decide +kernel
theorem d_Rock_meet_160 : decode prog_6_method_12_code 160 = .ok (.aload_n 0, 1) := by decide +kernel
theorem d_Rock_meet_161 : decode prog_6_method_12_code 161 = .ok (.getfield 53, 3) := by decide +kernel
theorem d_Rock_meet_164 : decode prog_6_method_12_code 164 = .ok (.getfield 155, 3) := by decide +kernel
theorem d_Rock_meet_167 : decode prog_6_method_12_code 167 = .ok (.imul, 1) := by decide +kernel
theorem d_Rock_meet_168 : decode prog_6_method_12_code 168 = .ok (.aload_n 2, 1) := by decide +kernel
theorem d_Rock_meet_169 : decode prog_6_method_12_code 169 = .ok (.getfield 146, 3) := by decide +kernel
theorem d_Rock_meet_172 : decode prog_6_method_12_code 172 = .ok (.aload_n 0, 1) := by decide +kernel
theorem d_Rock_meet_173 : decode prog_6_method_12_code 173 = .ok (.getfield 57, 3) := by decide +kernel
theorem d_Rock_meet_176 : decode prog_6_method_12_code 176 = .ok (.getfield 155, 3) := by decide +kernel
theorem d_Rock_meet_179 : decode prog_6_method_12_code 179 = .ok (.imul, 1) := by decide +kernel
theorem d_Rock_meet_180 : decode prog_6_method_12_code 180 = .ok (.iadd, 1) := by decide +kernel
theorem d_Rock_meet_181 : decode prog_6_method_12_code 181 = .ok (.aload_n 3, 1) := by decide +kernel
theorem d_Rock_meet_182 : decode prog_6_method_12_code 182 = .ok (.getfield 146, 3) := by decide +kernel
theorem d_Rock_meet_185 : decode prog_6_method_12_code 185 = .ok (.aload_n 0, 1) := by decide +kernel
theorem d_Rock_meet_186 : decode prog_6_method_12_code 186 = .ok (.getfield 60, 3) := by decide +kernel
theorem d_Rock_meet_189 : decode prog_6_method_12_code 189 = .ok (.getfield 155, 3) := by decide +kernel
theorem d_Rock_meet_192 : decode prog_6_method_12_code 192 = .ok (.imul, 1) := by decide +kernel
theorem d_Rock_meet_193 : decode prog_6_method_12_code 193 = .ok (.iadd, 1) := by decide +kernel
theorem d_Rock_meet_194 : decode prog_6_method_12_code 194 = .ok (.istore 8, 2) := by decide +kernel
theorem d_Rock_meet_196 : decode prog_6_method_12_code 196 = .ok (.aload_n 0, 1) := by decide +kernel
theorem d_Rock_meet_197 : decode prog_6_method_12_code 197 = .ok (.iload 5, 2) := by decide +kernel
theorem d_Rock_meet_199 : decode prog_6_method_12_code 199 = .ok (.iload 6, 2) := by decide +kernel
theorem d_Rock_meet_201 : decode prog_6_method_12_code 201 = .ok (.imul, 1) := by decide +kernel
theorem d_Rock_meet_202 : decode prog_6_method_12_code 202 = .ok (.iload 5, 2) := by decide +kernel
theorem d_Rock_meet_204 : decode prog_6_method_12_code 204 = .ok (.iload 7, 2) := by decide +kernel
theorem d_Rock_meet_206 : decode prog_6_method_12_code 206 = .ok (.imul, 1) := by decide +kernel
theorem d_Rock_meet_207 : decode prog_6_method_12_code 207 = .ok (.iload 5, 2) := by decide +kernel
theorem d_Rock_meet_209 : decode prog_6_method_12_code 209 = .ok (.iload 8, 2) := by decide +kernel
theorem d_Rock_meet_211 : decode prog_6_method_12_code 211 = .ok (.imul, 1) := by decide +kernel
theorem d_Rock_meet_212 : decode prog_6_method_12_code 212 = .ok (.iload 5, 2) := by decide +kernel
theorem d_Rock_meet_214 : decode prog_6_method_12_code 214 = .ok (.iload 4, 2) := by decide +kernel
theorem d_Rock_meet_216 : decode prog_6_method_12_code 216 = .ok (.imul, 1) := by decide +kernel
theorem d_Rock_meet_217 : decode prog_6_method_12_code 217 = .ok (.invokevirtual 158, 3) := by decide +kernel
theorem d_Rock_meet_220 : decode prog_6_method_12_code 220 = .ok (.return_, 1) := by decide +kernel
theorem d_Arrow_setCross_0 : decode prog_2_method_4_code 0 = .ok (.aload_n 0, 1) := by decide +kernel
theorem d_Arrow_setCross_1 : decode prog_2_method_4_code 1 = .ok (.aload_n 1, 1) := by decide +kernel
theorem d_Arrow_setCross_2 : decode prog_2_method_4_code 2 = .ok (.getfield 13, 3) := by decide +kernel
theorem d_Arrow_setCross_5 : decode prog_2_method_4_code 5 = .ok (.aload_n 2, 1) := by decide +kernel
theorem d_Arrow_setCross_6 : decode prog_2_method_4_code 6 = .ok (.getfield 16, 3) := by decide +kernel
theorem d_Arrow_setCross_9 : decode prog_2_method_4_code 9 = .ok (.imul, 1) := by decide +kernel
theorem d_Arrow_setCross_10 : decode prog_2_method_4_code 10 = .ok (.aload_n 1, 1) := by decide +kernel
theorem d_Arrow_setCross_11 : decode prog_2_method_4_code 11 = .ok (.getfield 16, 3) := by decide +kernel
theorem d_Arrow_setCross_14 : decode prog_2_method_4_code 14 = .ok (.aload_n 2, 1) := by decide +kernel
theorem d_Arrow_setCross_15 : decode prog_2_method_4_code 15 = .ok (.getfield 13, 3) := by decide +kernel
theorem d_Arrow_setCross_18 : decode prog_2_method_4_code 18 = .ok (.imul, 1) := by decide +kernel
theorem d_Arrow_setCross_19 : decode prog_2_method_4_code 19 = .ok (.isub, 1) := by decide +kernel
theorem d_Arrow_setCross_20 : decode prog_2_method_4_code 20 = .ok (.aload_n 1, 1) := by decide +kernel
theorem d_Arrow_setCross_21 : decode prog_2_method_4_code 21 = .ok (.getfield 16, 3) := by decide +kernel
theorem d_Arrow_setCross_24 : decode prog_2_method_4_code 24 = .ok (.aload_n 2, 1) := by decide +kernel
theorem d_Arrow_setCross_25 : decode prog_2_method_4_code 25 = .ok (.getfield 7, 3) := by decide +kernel
theorem d_Arrow_setCross_28 : decode prog_2_method_4_code 28 = .ok (.imul, 1) := by decide +kernel
theorem d_Arrow_setCross_29 : decode prog_2_method_4_code 29 = .ok (.aload_n 1, 1) := by decide +kernel
theorem d_Arrow_setCross_30 : decode prog_2_method_4_code 30 = .ok (.getfield 7, 3) := by decide +kernel
theorem d_Arrow_setCross_33 : decode prog_2_method_4_code 33 = .ok (.aload_n 2, 1) := by decide +kernel
theorem d_Arrow_setCross_34 : decode prog_2_method_4_code 34 = .ok (.getfield 16, 3) := by decide +kernel
theorem d_Arrow_setCross_37 : decode prog_2_method_4_code 37 = .ok (.imul, 1) := by decide +kernel
theorem d_Arrow_setCross_38 : decode prog_2_method_4_code 38 = .ok (.isub, 1) := by decide +kernel
theorem d_Arrow_setCross_39 : decode prog_2_method_4_code 39 = .ok (.aload_n 1, 1) := by decide +kernel
theorem d_Arrow_setCross_40 : decode prog_2_method_4_code 40 = .ok (.getfield 7, 3) := by decide +kernel
theorem d_Arrow_setCross_43 : decode prog_2_method_4_code 43 = .ok (.aload_n 2, 1) := by decide +kernel
theorem d_Arrow_setCross_44 : decode prog_2_method_4_code 44 = .ok (.getfield 13, 3) := by decide +kernel
theorem d_Arrow_setCross_47 : decode prog_2_method_4_code 47 = .ok (.imul, 1) := by decide +kernel
theorem d_Arrow_setCross_48 : decode prog_2_method_4_code 48 = .ok (.aload_n 1, 1) := by decide +kernel
theorem d_Arrow_setCross_49 : decode prog_2_method_4_code 49 = .ok (.getfield 13, 3) := by decide +kernel
theorem d_Arrow_setCross_52 : decode prog_2_method_4_code 52 = .ok (.aload_n 2, 1) := by decide +kernel
theorem d_Arrow_setCross_53 : decode prog_2_method_4_code 53 = .ok (.getfield 7, 3) := by decide +kernel
theorem d_Arrow_setCross_56 : decode prog_2_method_4_code 56 = .ok (.imul, 1) := by decide +kernel
theorem d_Arrow_setCross_57 : decode prog_2_method_4_code 57 = .ok (.isub, 1) := by decide +kernel
theorem d_Arrow_setCross_58 : decode prog_2_method_4_code 58 = .ok (.invokevirtual 19, 3) := by decide +kernel
theorem d_Arrow_setCross_61 : decode prog_2_method_4_code 61 = .ok (.return_, 1) := by decide +kernel
theorem d_Arrow_times_0 : decode prog_2_method_6_code 0 = .ok (.aload_n 0, 1) := by decide +kernel
theorem d_Arrow_times_1 : decode prog_2_method_6_code 1 = .ok (.getfield 7, 3) := by decide +kernel
theorem d_Arrow_times_4 : decode prog_2_method_6_code 4 = .ok (.aload_n 1, 1) := by decide +kernel
theorem d_Arrow_times_5 : decode prog_2_method_6_code 5 = .ok (.getfield 7, 3) := by decide +kernel
theorem d_Arrow_times_8 : decode prog_2_method_6_code 8 = .ok (.imul, 1) := by decide +kernel
theorem d_Arrow_times_9 : decode prog_2_method_6_code 9 = .ok (.aload_n 0, 1) := by decide +kernel
theorem d_Arrow_times_10 : decode prog_2_method_6_code 10 = .ok (.getfield 13, 3) := by decide +kernel
theorem d_Arrow_times_13 : decode prog_2_method_6_code 13 = .ok (.aload_n 1, 1) := by decide +kernel
theorem d_Arrow_times_14 : decode prog_2_method_6_code 14 = .ok (.getfield 13, 3) := by decide +kernel
theorem d_Arrow_times_17 : decode prog_2_method_6_code 17 = .ok (.imul, 1) := by decide +kernel
theorem d_Arrow_times_18 : decode prog_2_method_6_code 18 = .ok (.iadd, 1) := by decide +kernel
theorem d_Arrow_times_19 : decode prog_2_method_6_code 19 = .ok (.aload_n 0, 1) := by decide +kernel
theorem d_Arrow_times_20 : decode prog_2_method_6_code 20 = .ok (.getfield 16, 3) := by decide +kernel
theorem d_Arrow_times_23 : decode prog_2_method_6_code 23 = .ok (.aload_n 1, 1) := by decide +kernel
theorem d_Arrow_times_24 : decode prog_2_method_6_code 24 = .ok (.getfield 16, 3) := by decide +kernel
theorem d_Arrow_times_27 : decode prog_2_method_6_code 27 = .ok (.imul, 1) := by decide +kernel
theorem d_Arrow_times_28 : decode prog_2_method_6_code 28 = .ok (.iadd, 1) := by decide +kernel
theorem d_Arrow_times_29 : decode prog_2_method_6_code 29 = .ok (.ireturn, 1) := by decide +kernel
theorem d_Rock_addPoint_0 : decode prog_6_method_13_code 0 = .ok (.aload_n 0, 1) := by decide +kernel
theorem d_Rock_addPoint_1 : decode prog_6_method_13_code 1 = .ok (.iload_n 1, 1) := by decide +kernel
theorem d_Rock_addPoint_2 : decode prog_6_method_13_code 2 = .ok (.iload_n 2, 1) := by decide +kernel
theorem d_Rock_addPoint_3 : decode prog_6_method_13_code 3 = .ok (.iload_n 3, 1) := by decide +kernel
theorem d_Rock_addPoint_4 : decode prog_6_method_13_code 4 = .ok (.iload 4, 2) := by decide +kernel
theorem d_Rock_addPoint_6 : decode prog_6_method_13_code 6 = .ok (.invokevirtual 161, 3) := by decide +kernel
theorem d_Rock_addPoint_9 : decode prog_6_method_13_code 9 = .ok (.ifCond .ne 4, 3) := by decide +kernel
theorem d_Rock_addPoint_12 : decode prog_6_method_13_code 12 = .ok (.return_, 1) := by decide +kernel
theorem d_Rock_addPoint_13 : decode prog_6_method_13_code 13 = .ok (.iload_n 1, 1) := by decide +kernel
theorem d_Rock_addPoint_14 : decode prog_6_method_13_code 14 = .ok (.iload_n 2, 1) := by decide +kernel
theorem d_Rock_addPoint_15 : decode prog_6_method_13_code 15 = .ok (.invokestatic 164, 3) := by decide +kernel
theorem d_Rock_addPoint_18 : decode prog_6_method_13_code 18 = .ok (.iload_n 3, 1) := by decide +kernel
theorem d_Rock_addPoint_19 : decode prog_6_method_13_code 19 = .ok (.iload 4, 2) := by decide +kernel
theorem d_Rock_addPoint_21 : decode prog_6_method_13_code 21 = .ok (.invokestatic 164, 3) := by decide +kernel
theorem d_Rock_addPoint_24 : decode prog_6_method_13_code 24 = .ok (.invokestatic 164, 3) := by decide +kernel
theorem d_Rock_addPoint_27 : decode prog_6_method_13_code 27 = .ok (.istore 5, 2) := by decide +kernel
theorem d_Rock_addPoint_29 : decode prog_6_method_13_code 29 = .ok (.iload 5, 2) := by decide +kernel
theorem d_Rock_addPoint_31 : decode prog_6_method_13_code 31 = .ok (.ifCond .eq 30, 3) := by decide +kernel
theorem d_Rock_addPoint_34 : decode prog_6_method_13_code 34 = .ok (.aload_n 0, 1) := by decide +kernel
theorem d_Rock_addPoint_35 : decode prog_6_method_13_code 35 = .ok (.getfield 20, 3) := by decide +kernel
theorem d_Rock_addPoint_38 : decode prog_6_method_13_code 38 = .ok (.iload_n 1, 1) := by decide +kernel
theorem d_Rock_addPoint_39 : decode prog_6_method_13_code 39 = .ok (.iload 5, 2) := by decide +kernel
theorem d_Rock_addPoint_41 : decode prog_6_method_13_code 41 = .ok (.idiv, 1) := by decide +kernel
theorem d_Rock_addPoint_42 : decode prog_6_method_13_code 42 = .ok (.iload_n 2, 1) := by decide +kernel
theorem d_Rock_addPoint_43 : decode prog_6_method_13_code 43 = .ok (.iload 5, 2) := by decide +kernel
theorem d_Rock_addPoint_45 : decode prog_6_method_13_code 45 = .ok (.idiv, 1) := by decide +kernel
theorem d_Rock_addPoint_46 : decode prog_6_method_13_code 46 = .ok (.iload_n 3, 1) := by decide +kernel
theorem d_Rock_addPoint_47 : decode prog_6_method_13_code 47 = .ok (.iload 5, 2) := by decide +kernel
theorem d_Rock_addPoint_49 : decode prog_6_method_13_code 49 = .ok (.idiv, 1) := by decide +kernel
theorem d_Rock_addPoint_50 : decode prog_6_method_13_code 50 = .ok (.iload 4, 2) := by decide +kernel
theorem d_Rock_addPoint_52 : decode prog_6_method_13_code 52 = .ok (.iload 5, 2) := by decide +kernel
theorem d_Rock_addPoint_54 : decode prog_6_method_13_code 54 = .ok (.idiv, 1) := by decide +kernel
theorem d_Rock_addPoint_55 : decode prog_6_method_13_code 55 = .ok (.invokevirtual 167, 3) := by decide +kernel
theorem d_Rock_addPoint_58 : decode prog_6_method_13_code 58 = .ok (.ifCond .eq 4, 3) := by decide +kernel
theorem d_Rock_addPoint_61 : decode prog_6_method_13_code 61 = .ok (.return_, 1) := by decide +kernel
theorem d_Rock_addPoint_62 : decode prog_6_method_13_code 62 = .ok (.aload_n 0, 1) := by decide +kernel
theorem d_Rock_addPoint_63 : decode prog_6_method_13_code 63 = .ok (.getfield 20, 3) := by decide +kernel
theorem d_Rock_addPoint_66 : decode prog_6_method_13_code 66 = .ok (.iload_n 1, 1) := by decide +kernel
theorem d_Rock_addPoint_67 : decode prog_6_method_13_code 67 = .ok (.iload 5, 2) := by decide +kernel
theorem d_Rock_addPoint_69 : decode prog_6_method_13_code 69 = .ok (.idiv, 1) := by decide +kernel
theorem d_Rock_addPoint_70 : decode prog_6_method_13_code 70 = .ok (.iload_n 2, 1) := by decide +kernel
theorem d_Rock_addPoint_71 : decode prog_6_method_13_code 71 = .ok (.iload 5, 2) := by decide +kernel
theorem d_Rock_addPoint_73 : decode prog_6_method_13_code 73 = .ok (.idiv, 1) := by decide +kernel
theorem d_Rock_addPoint_74 : decode prog_6_method_13_code 74 = .ok (.iload_n 3, 1) := by decide +kernel
theorem d_Rock_addPoint_75 : decode prog_6_method_13_code 75 = .ok (.iload 5, 2) := by decide +kernel
theorem d_Rock_addPoint_77 : decode prog_6_method_13_code 77 = .ok (.idiv, 1) := by decide +kernel
theorem d_Rock_addPoint_78 : decode prog_6_method_13_code 78 = .ok (.iload 4, 2) := by decide +kernel
theorem d_Rock_addPoint_80 : decode prog_6_method_13_code 80 = .ok (.iload 5, 2) := by decide +kernel
theorem d_Rock_addPoint_82 : decode prog_6_method_13_code 82 = .ok (.idiv, 1) := by decide +kernel
theorem d_Rock_addPoint_83 : decode prog_6_method_13_code 83 = .ok (.invokevirtual 170, 3) := by decide +kernel
theorem d_Rock_addPoint_86 : decode prog_6_method_13_code 86 = .ok (.iconst 0, 1) := by decide +kernel
theorem d_Rock_addPoint_87 : decode prog_6_method_13_code 87 = .ok (.istore 6, 2) := by decide +kernel
theorem d_Rock_addPoint_89 : decode prog_6_method_13_code 89 = .ok (.iload 6, 2) := by decide +kernel
theorem d_Rock_addPoint_91 : decode prog_6_method_13_code 91 = .ok (.bipush 12, 2) := by decide +kernel
theorem d_Rock_addPoint_93 : decode prog_6_method_13_code 93 = .ok (.if_icmp .ge 46, 3) := by decide +kernel
theorem d_Rock_addPoint_96 : decode prog_6_method_13_code 96 = .ok (.aload_n 0, 1) := by decide +kernel
theorem d_Rock_addPoint_97 : decode prog_6_method_13_code 97 = .ok (.getfield 63, 3) := by decide +kernel
theorem d_Rock_addPoint_100 : decode prog_6_method_13_code 100 = .ok (.iload 6, 2) := by decide +kernel
theorem d_Rock_addPoint_102 : decode prog_6_method_13_code 102 = .ok (.invokestatic 107, 3) := by decide +kernel
theorem d_Rock_addPoint_105 : decode prog_6_method_13_code 105 = .ok (.ifCond .eq 28, 3) := by decide +kernel
theorem d_Rock_addPoint_108 : decode prog_6_method_13_code 108 = .ok (.aload_n 0, 1) := by decide +kernel
theorem d_Rock_addPoint_109 : decode prog_6_method_13_code 109 = .ok (.getfield 20, 3) := by decide +kernel
theorem d_Rock_addPoint_112 : decode prog_6_method_13_code 112 = .ok (.aload_n 0, 1) := by decide +kernel
theorem d_Rock_addPoint_113 : decode prog_6_method_13_code 113 = .ok (.getfield 20, 3) := by decide +kernel
theorem d_Rock_addPoint_116 : decode prog_6_method_13_code 116 = .ok (.getfield 100, 3) := by decide +kernel
theorem d_Rock_addPoint_119 : decode prog_6_method_13_code 119 = .ok (.iconst 1, 1) := by decide +kernel
theorem d_Rock_addPoint_120 : decode prog_6_method_13_code 120 = .ok (.isub, 1) := by decide +kernel
theorem d_Rock_addPoint_121 : decode prog_6_method_13_code 121 = .ok (.iload 6, 2) := by decide +kernel
theorem d_Rock_addPoint_123 : decode prog_6_method_13_code 123 = .ok (.aload_n 0, 1) := by decide +kernel
theorem d_Rock_addPoint_124 : decode prog_6_method_13_code 124 = .ok (.getfield 11, 3) := by decide +kernel
theorem d_Rock_addPoint_127 : decode prog_6_method_13_code 127 = .ok (.iload 6, 2) := by decide +kernel
theorem d_Rock_addPoint_129 : decode prog_6_method_13_code 129 = .ok (.aaload, 1) := by decide +kernel
theorem d_Rock_addPoint_130 : decode prog_6_method_13_code 130 = .ok (.invokevirtual 127, 3) := by decide +kernel
theorem d_Rock_addPoint_133 : decode prog_6_method_13_code 133 = .ok (.iinc 6 1, 3) := by decide +kernel
theorem d_Rock_addPoint_136 : decode prog_6_method_13_code 136 = .ok (.goto (-47), 3) := by decide +kernel
theorem d_Rock_addPoint_139 : decode prog_6_method_13_code 139 = .ok (.return_, 1) := by decide +kernel
theorem d_Rock_isInBox_0 : decode prog_6_method_14_code 0 = .ok (.iload_n 1, 1) := by decide +kernel
theorem d_Rock_isInBox_1 : decode prog_6_method_14_code 1 = .ok (.ifCond .lt 48, 3) := by decide +kernel
theorem d_Rock_isInBox_4 : decode prog_6_method_14_code 4 = .ok (.iload_n 1, 1) := by decide +kernel
theorem d_Rock_isInBox_5 : decode prog_6_method_14_code 5 = .ok (.aload_n 0, 1) := by decide +kernel
theorem d_Rock_isInBox_6 : decode prog_6_method_14_code 6 = .ok (.getfield 66, 3) := by decide +kernel
theorem d_Rock_isInBox_9 : decode prog_6_method_14_code 9 = .ok (.iload 4, 2) := by decide +kernel
theorem d_Rock_isInBox_11 : decode prog_6_method_14_code 11 = .ok (.imul, 1) := by decide +kernel
theorem d_Rock_isInBox_12 : decode prog_6_method_14_code 12 = .ok (.if_icmp .gt 37, 3) := by decide +kernel
theorem d_Rock_isInBox_15 : decode prog_6_method_14_code 15 = .ok (.iload_n 2, 1) := by decide +kernel
theorem d_Rock_isInBox_16 : decode prog_6_method_14_code 16 = .ok (.ifCond .lt 33, 3) := by decide +kernel
theorem d_Rock_isInBox_19 : decode prog_6_method_14_code 19 = .ok (.iload_n 2, 1) := by decide +kernel
theorem d_Rock_isInBox_20 : decode prog_6_method_14_code 20 = .ok (.aload_n 0, 1) := by decide +kernel
theorem d_Rock_isInBox_21 : decode prog_6_method_14_code 21 = .ok (.getfield 69, 3) := by decide +kernel
theorem d_Rock_isInBox_24 : decode prog_6_method_14_code 24 = .ok (.iload 4, 2) := by decide +kernel
theorem d_Rock_isInBox_26 : decode prog_6_method_14_code 26 = .ok (.imul, 1) := by decide +kernel
theorem d_Rock_isInBox_27 : decode prog_6_method_14_code 27 = .ok (.if_icmp .gt 22, 3) := by decide +kernel
theorem d_Rock_isInBox_30 : decode prog_6_method_14_code 30 = .ok (.iload_n 3, 1) := by decide +kernel
theorem d_Rock_isInBox_31 : decode prog_6_method_14_code 31 = .ok (.ifCond .lt 18, 3) := by decide +kernel
theorem d_Rock_isInBox_34 : decode prog_6_method_14_code 34 = .ok (.iload_n 3, 1) := by decide +kernel
theorem d_Rock_isInBox_35 : decode prog_6_method_14_code 35 = .ok (.aload_n 0, 1) := by decide +kernel
theorem d_Rock_isInBox_36 : decode prog_6_method_14_code 36 = .ok (.getfield 72, 3) := by decide +kernel
theorem d_Rock_isInBox_39 : decode prog_6_method_14_code 39 = .ok (.iload 4, 2) := by decide +kernel
theorem d_Rock_isInBox_41 : decode prog_6_method_14_code 41 = .ok (.imul, 1) := by decide +kernel
theorem d_Rock_isInBox_42 : decode prog_6_method_14_code 42 = .ok (.if_icmp .gt 7, 3) := by decide +kernel
theorem d_Rock_isInBox_45 : decode prog_6_method_14_code 45 = .ok (.iconst 1, 1) := by decide +kernel
theorem d_Rock_isInBox_46 : decode prog_6_method_14_code 46 = .ok (.goto 4, 3) := by decide +kernel
theorem d_Rock_isInBox_49 : decode prog_6_method_14_code 49 = .ok (.iconst 0, 1) := by decide +kernel
theorem d_Rock_isInBox_50 : decode prog_6_method_14_code 50 = .ok (.ireturn, 1) := by decide +kernel
theorem d_Rock_commonDivisor_0 : decode prog_6_method_15_code 0 = .ok (.iload_n 0, 1) := by decide +kernel
theorem d_Rock_commonDivisor_1 : decode prog_6_method_15_code 1 = .ok (.istore_n 2, 1) := by decide +kernel
theorem d_Rock_commonDivisor_2 : decode prog_6_method_15_code 2 = .ok (.iload_n 1, 1) := by decide +kernel
theorem d_Rock_commonDivisor_3 : decode prog_6_method_15_code 3 = .ok (.istore_n 3, 1) := by decide +kernel
theorem d_Rock_commonDivisor_4 : decode prog_6_method_15_code 4 = .ok (.iconst 0, 1) := by decide +kernel
theorem d_Rock_commonDivisor_5 : decode prog_6_method_15_code 5 = .ok (.istore 4, 2) := by decide +kernel
theorem d_Rock_commonDivisor_7 : decode prog_6_method_15_code 7 = .ok (.iload 4, 2) := by decide +kernel
theorem d_Rock_commonDivisor_9 : decode prog_6_method_15_code 9 = .ok (.bipush 64, 2) := by decide +kernel
theorem d_Rock_commonDivisor_11 : decode prog_6_method_15_code 11 = .ok (.if_icmp .ge 23, 3) := by decide +kernel
theorem d_Rock_commonDivisor_14 : decode prog_6_method_15_code 14 = .ok (.iload_n 3, 1) := by decide +kernel
theorem d_Rock_commonDivisor_15 : decode prog_6_method_15_code 15 = .ok (.ifCond .eq 19, 3) := by decide +kernel
theorem d_Rock_commonDivisor_18 : decode prog_6_method_15_code 18 = .ok (.iload_n 2, 1) := by decide +kernel
theorem d_Rock_commonDivisor_19 : decode prog_6_method_15_code 19 = .ok (.iload_n 3, 1) := by decide +kernel
theorem d_Rock_commonDivisor_20 : decode prog_6_method_15_code 20 = .ok (.irem, 1) := by decide +kernel
theorem d_Rock_commonDivisor_21 : decode prog_6_method_15_code 21 = .ok (.istore 5, 2) := by decide +kernel
theorem d_Rock_commonDivisor_23 : decode prog_6_method_15_code 23 = .ok (.iload_n 3, 1) := by decide +kernel
theorem d_Rock_commonDivisor_24 : decode prog_6_method_15_code 24 = .ok (.istore_n 2, 1) := by decide +kernel
theorem d_Rock_commonDivisor_25 : decode prog_6_method_15_code 25 = .ok (.iload 5, 2) := by decide +kernel
theorem d_Rock_commonDivisor_27 : decode prog_6_method_15_code 27 = .ok (.istore_n 3, 1) := by decide +kernel
theorem d_Rock_commonDivisor_28 : decode prog_6_method_15_code 28 = .ok (.iinc 4 1, 3) := by decide +kernel
theorem d_Rock_commonDivisor_31 : decode prog_6_method_15_code 31 = .ok (.goto (-24), 3) := by decide +kernel
theorem d_Rock_commonDivisor_34 : decode prog_6_method_15_code 34 = .ok (.iload_n 2, 1) := by decide +kernel
theorem d_Rock_commonDivisor_35 : decode prog_6_method_15_code 35 = .ok (.ireturn, 1) := by decide +kernel
theorem d_Points_has_0 : decode prog_5_method_2_code 0 = .ok (.iconst 0, 1) := by decide +kernel
theorem d_Points_has_1 : decode prog_5_method_2_code 1 = .ok (.istore 5, 2) := by decide +kernel
theorem d_Points_has_3 : decode prog_5_method_2_code 3 = .ok (.iload 5, 2) := by decide +kernel
theorem d_Points_has_5 : decode prog_5_method_2_code 5 = .ok (.aload_n 0, 1) := by decide +kernel
theorem d_Points_has_6 : decode prog_5_method_2_code 6 = .ok (.getfield 28, 3) := by decide +kernel
theorem d_Points_has_9 : decode prog_5_method_2_code 9 = .ok (.if_icmp .ge 56, 3) := by decide +kernel
theorem d_Points_has_12 : decode prog_5_method_2_code 12 = .ok (.aload_n 0, 1) := by decide +kernel
theorem d_Points_has_13 : decode prog_5_method_2_code 13 = .ok (.getfield 9, 3) := by decide +kernel
theorem d_Points_has_16 : decode prog_5_method_2_code 16 = .ok (.iload 5, 2) := by decide +kernel
theorem d_Points_has_18 : decode prog_5_method_2_code 18 = .ok (.iaload, 1) := by decide +kernel
theorem d_Points_has_19 : decode prog_5_method_2_code 19 = .ok (.iload_n 1, 1) := by decide +kernel
theorem d_Points_has_20 : decode prog_5_method_2_code 20 = .ok (.if_icmp .ne 39, 3) := by decide +kernel
theorem d_Points_has_23 : decode prog_5_method_2_code 23 = .ok (.aload_n 0, 1) := by decide +kernel
theorem d_Points_has_24 : decode prog_5_method_2_code 24 = .ok (.getfield 13, 3) := by decide +kernel
theorem d_Points_has_27 : decode prog_5_method_2_code 27 = .ok (.iload 5, 2) := by decide +kernel
theorem d_Points_has_29 : decode prog_5_method_2_code 29 = .ok (.iaload, 1) := by decide +kernel
theorem d_Points_has_30 : decode prog_5_method_2_code 30 = .ok (.iload_n 2, 1) := by decide +kernel
theorem d_Points_has_31 : decode prog_5_method_2_code 31 = .ok (.if_icmp .ne 28, 3) := by decide +kernel
theorem d_Points_has_34 : decode prog_5_method_2_code 34 = .ok (.aload_n 0, 1) := by decide +kernel
theorem d_Points_has_35 : decode prog_5_method_2_code 35 = .ok (.getfield 16, 3) := by decide +kernel
theorem d_Points_has_38 : decode prog_5_method_2_code 38 = .ok (.iload 5, 2) := by decide +kernel
theorem d_Points_has_40 : decode prog_5_method_2_code 40 = .ok (.iaload, 1) := by decide +kernel
theorem d_Points_has_41 : decode prog_5_method_2_code 41 = .ok (.iload_n 3, 1) := by decide +kernel
theorem d_Points_has_42 : decode prog_5_method_2_code 42 = .ok (.if_icmp .ne 17, 3) := by decide +kernel
theorem d_Points_has_45 : decode prog_5_method_2_code 45 = .ok (.aload_n 0, 1) := by decide +kernel
theorem d_Points_has_46 : decode prog_5_method_2_code 46 = .ok (.getfield 19, 3) := by decide +kernel
theorem d_Points_has_49 : decode prog_5_method_2_code 49 = .ok (.iload 5, 2) := by decide +kernel
theorem d_Points_has_51 : decode prog_5_method_2_code 51 = .ok (.iaload, 1) := by decide +kernel
theorem d_Points_has_52 : decode prog_5_method_2_code 52 = .ok (.iload 4, 2) := by decide +kernel
theorem d_Points_has_54 : decode prog_5_method_2_code 54 = .ok (.if_icmp .ne 5, 3) := by decide +kernel
theorem d_Points_has_57 : decode prog_5_method_2_code 57 = .ok (.iconst 1, 1) := by decide +kernel
theorem d_Points_has_58 : decode prog_5_method_2_code 58 = .ok (.ireturn, 1) := by decide +kernel
theorem d_Points_has_59 : decode prog_5_method_2_code 59 = .ok (.iinc 5 1, 3) := by decide +kernel
theorem d_Points_has_62 : decode prog_5_method_2_code 62 = .ok (.goto (-59), 3) := by decide +kernel
theorem d_Points_has_65 : decode prog_5_method_2_code 65 = .ok (.iconst 0, 1) := by decide +kernel
theorem d_Points_has_66 : decode prog_5_method_2_code 66 = .ok (.ireturn, 1) := by decide +kernel
theorem d_Points_add_0 : decode prog_5_method_3_code 0 = .ok (.aload_n 0, 1) := by decide +kernel
theorem d_Points_add_1 : decode prog_5_method_3_code 1 = .ok (.getfield 28, 3) := by decide +kernel
theorem d_Points_add_4 : decode prog_5_method_3_code 4 = .ok (.sipush 220, 3) := by decide +kernel
theorem d_Points_add_7 : decode prog_5_method_3_code 7 = .ok (.if_icmp .ge 74, 3) := by decide +kernel
theorem d_Points_add_10 : decode prog_5_method_3_code 10 = .ok (.aload_n 0, 1) := by decide +kernel
theorem d_Points_add_11 : decode prog_5_method_3_code 11 = .ok (.getfield 9, 3) := by decide +kernel
theorem d_Points_add_14 : decode prog_5_method_3_code 14 = .ok (.aload_n 0, 1) := by decide +kernel
theorem d_Points_add_15 : decode prog_5_method_3_code 15 = .ok (.getfield 28, 3) := by decide +kernel
theorem d_Points_add_18 : decode prog_5_method_3_code 18 = .ok (.iload_n 1, 1) := by decide +kernel
theorem d_Points_add_19 : decode prog_5_method_3_code 19 = .ok (.iastore, 1) := by decide +kernel
theorem d_Points_add_20 : decode prog_5_method_3_code 20 = .ok (.aload_n 0, 1) := by decide +kernel
theorem d_Points_add_21 : decode prog_5_method_3_code 21 = .ok (.getfield 13, 3) := by decide +kernel
theorem d_Points_add_24 : decode prog_5_method_3_code 24 = .ok (.aload_n 0, 1) := by decide +kernel
theorem d_Points_add_25 : decode prog_5_method_3_code 25 = .ok (.getfield 28, 3) := by decide +kernel
theorem d_Points_add_28 : decode prog_5_method_3_code 28 = .ok (.iload_n 2, 1) := by decide +kernel
theorem d_Points_add_29 : decode prog_5_method_3_code 29 = .ok (.iastore, 1) := by decide +kernel
theorem d_Points_add_30 : decode prog_5_method_3_code 30 = .ok (.aload_n 0, 1) := by decide +kernel
theorem d_Points_add_31 : decode prog_5_method_3_code 31 = .ok (.getfield 16, 3) := by decide +kernel
theorem d_Points_add_34 : decode prog_5_method_3_code 34 = .ok (.aload_n 0, 1) := by decide +kernel
theorem d_Points_add_35 : decode prog_5_method_3_code 35 = .ok (.getfield 28, 3) := by decide +kernel
theorem d_Points_add_38 : decode prog_5_method_3_code 38 = .ok (.iload_n 3, 1) := by decide +kernel
theorem d_Points_add_39 : decode prog_5_method_3_code 39 = .ok (.iastore, 1) := by decide +kernel
theorem d_Points_add_40 : decode prog_5_method_3_code 40 = .ok (.aload_n 0, 1) := by decide +kernel
theorem d_Points_add_41 : decode prog_5_method_3_code 41 = .ok (.getfield 19, 3) := by decide +kernel
theorem d_Points_add_44 : decode prog_5_method_3_code 44 = .ok (.aload_n 0, 1) := by decide +kernel
theorem d_Points_add_45 : decode prog_5_method_3_code 45 = .ok (.getfield 28, 3) := by decide +kernel
theorem d_Points_add_48 : decode prog_5_method_3_code 48 = .ok (.iload 4, 2) := by decide +kernel
theorem d_Points_add_50 : decode prog_5_method_3_code 50 = .ok (.iastore, 1) := by decide +kernel
theorem d_Points_add_51 : decode prog_5_method_3_code 51 = .ok (.aload_n 0, 1) := by decide +kernel
theorem d_Points_add_52 : decode prog_5_method_3_code 52 = .ok (.getfield 22, 3) := by decide +kernel
theorem d_Points_add_55 : decode prog_5_method_3_code 55 = .ok (.aload_n 0, 1) := by decide +kernel
theorem d_Points_add_56 : decode prog_5_method_3_code 56 = .ok (.getfield 28, 3) := by decide +kernel
theorem d_Points_add_59 : decode prog_5_method_3_code 59 = .ok (.iconst 0, 1) := by decide +kernel
theorem d_Points_add_60 : decode prog_5_method_3_code 60 = .ok (.iastore, 1) := by decide +kernel
theorem d_Points_add_61 : decode prog_5_method_3_code 61 = .ok (.aload_n 0, 1) := by decide +kernel
theorem d_Points_add_62 : decode prog_5_method_3_code 62 = .ok (.getfield 25, 3) := by decide +kernel
theorem d_Points_add_65 : decode prog_5_method_3_code 65 = .ok (.aload_n 0, 1) := by decide +kernel
theorem d_Points_add_66 : decode prog_5_method_3_code 66 = .ok (.getfield 28, 3) := by decide +kernel
theorem d_Points_add_69 : decode prog_5_method_3_code 69 = .ok (.iconst 0, 1) := by decide +kernel
theorem d_Points_add_70 : decode prog_5_method_3_code 70 = .ok (.iastore, 1) := by decide +kernel
theorem d_Points_add_71 : decode prog_5_method_3_code 71 = .ok (.aload_n 0, 1) := by decide +kernel
theorem d_Points_add_72 : decode prog_5_method_3_code 72 = .ok (.dup, 1) := by decide +kernel
theorem d_Points_add_73 : decode prog_5_method_3_code 73 = .ok (.getfield 28, 3) := by decide +kernel
theorem d_Points_add_76 : decode prog_5_method_3_code 76 = .ok (.iconst 1, 1) := by decide +kernel
theorem d_Points_add_77 : decode prog_5_method_3_code 77 = .ok (.iadd, 1) := by decide +kernel
theorem d_Points_add_78 : decode prog_5_method_3_code 78 = .ok (.putfield 28, 3) := by decide +kernel
theorem d_Points_add_81 : decode prog_5_method_3_code 81 = .ok (.return_, 1) := by decide +kernel
theorem d_Rock_findBlocks_0 : decode prog_6_method_16_code 0 = .ok (.aload_n 0, 1) := by decide +kernel
theorem d_Rock_findBlocks_1 : decode prog_6_method_16_code 1 = .ok (.iconst 0, 1) := by decide +kernel
theorem d_Rock_findBlocks_2 : decode prog_6_method_16_code 2 = .ok (.putfield 41, 3) := by decide +kernel
theorem d_Rock_findBlocks_5 : decode prog_6_method_16_code 5 = .ok (.iconst 0, 1) := by decide +kernel
theorem d_Rock_findBlocks_6 : decode prog_6_method_16_code 6 = .ok (.istore_n 1, 1) := by decide +kernel
theorem d_Rock_findBlocks_7 : decode prog_6_method_16_code 7 = .ok (.iload_n 1, 1) := by decide +kernel
theorem d_Rock_findBlocks_8 : decode prog_6_method_16_code 8 = .ok (.bipush 64, 2) := by decide +kernel
theorem d_Rock_findBlocks_10 : decode prog_6_method_16_code 10 = .ok (.if_icmp .ge 31, 3) := by decide +kernel
theorem d_Rock_findBlocks_13 : decode prog_6_method_16_code 13 = .ok (.aload_n 0, 1) := by decide +kernel
theorem d_Rock_findBlocks_14 : decode prog_6_method_16_code 14 = .ok (.getfield 34, 3) := by decide +kernel
theorem d_Rock_findBlocks_17 : decode prog_6_method_16_code 17 = .ok (.iload_n 1, 1) := by decide +kernel
theorem d_Rock_findBlocks_18 : decode prog_6_method_16_code 18 = .ok (.iconst (-1), 1) := by decide +kernel
theorem d_Rock_findBlocks_19 : decode prog_6_method_16_code 19 = .ok (.iastore, 1) := by decide +kernel
theorem d_Rock_findBlocks_20 : decode prog_6_method_16_code 20 = .ok (.iload_n 1, 1) := by decide +kernel
theorem d_Rock_findBlocks_21 : decode prog_6_method_16_code 21 = .ok (.iconst 1, 1) := by decide +kernel
theorem d_Rock_findBlocks_22 : decode prog_6_method_16_code 22 = .ok (.aload_n 0, 1) := by decide +kernel
theorem d_Rock_findBlocks_23 : decode prog_6_method_16_code 23 = .ok (.getfield 37, 3) := by decide +kernel
theorem d_Rock_findBlocks_26 : decode prog_6_method_16_code 26 = .ok (.ishl, 1) := by decide +kernel
theorem d_Rock_findBlocks_27 : decode prog_6_method_16_code 27 = .ok (.if_icmp .ge 8, 3) := by decide +kernel
theorem d_Rock_findBlocks_30 : decode prog_6_method_16_code 30 = .ok (.aload_n 0, 1) := by decide +kernel
theorem d_Rock_findBlocks_31 : decode prog_6_method_16_code 31 = .ok (.iload_n 1, 1) := by decide +kernel
theorem d_Rock_findBlocks_32 : decode prog_6_method_16_code 32 = .ok (.invokevirtual 173, 3) := by decide +kernel
theorem d_Rock_findBlocks_35 : decode prog_6_method_16_code 35 = .ok (.iinc 1 1, 3) := by decide +kernel
theorem d_Rock_findBlocks_38 : decode prog_6_method_16_code 38 = .ok (.goto (-31), 3) := by decide +kernel
theorem d_Rock_findBlocks_41 : decode prog_6_method_16_code 41 = .ok (.return_, 1) := by decide +kernel
theorem d_Rock_findBlock_0 : decode prog_6_method_17_code 0 = .ok (.iconst 0, 1) := by decide +kernel
theorem d_Rock_findBlock_1 : decode prog_6_method_17_code 1 = .ok (.istore_n 2, 1) := by decide +kernel
theorem d_Rock_findBlock_2 : decode prog_6_method_17_code 2 = .ok (.iconst 0, 1) := by decide +kernel
theorem d_Rock_findBlock_3 : decode prog_6_method_17_code 3 = .ok (.istore_n 3, 1) := by decide +kernel
theorem d_Rock_findBlock_4 : decode prog_6_method_17_code 4 = .ok (.iconst 0, 1) := by decide +kernel
theorem d_Rock_findBlock_5 : decode prog_6_method_17_code 5 = .ok (.istore 4, 2) := by decide +kernel
theorem d_Rock_findBlock_7 : decode prog_6_method_17_code 7 = .ok (.iconst 0, 1) := by decide +kernel
theorem d_Rock_findBlock_8 : decode prog_6_method_17_code 8 = .ok (.istore 5, 2) := by decide +kernel
theorem d_Rock_findBlock_10 : decode prog_6_method_17_code 10 = .ok (.iconst 0, 1) := by decide +kernel
theorem d_Rock_findBlock_11 : decode prog_6_method_17_code 11 = .ok (.istore 6, 2) := by decide +kernel
theorem d_Rock_findBlock_13 : decode prog_6_method_17_code 13 = .ok (.iconst 0, 1) := by decide +kernel
theorem d_Rock_findBlock_14 : decode prog_6_method_17_code 14 = .ok (.istore 7, 2) := by decide +kernel
theorem d_Rock_findBlock_16 : decode prog_6_method_17_code 16 = .ok (.iload 7, 2) := by decide +kernel
theorem d_Rock_findBlock_18 : decode prog_6_method_17_code 18 = .ok (.aload_n 0, 1) := by decide +kernel
theorem d_Rock_findBlock_19 : decode prog_6_method_17_code 19 = .ok (.getfield 20, 3) := by decide +kernel
theorem d_Rock_findBlock_22 : decode prog_6_method_17_code 22 = .ok (.getfield 100, 3) := by decide +kernel
theorem d_Rock_findBlock_25 : decode prog_6_method_17_code 25 = .ok (.if_icmp .ge 95, 3) := by decide +kernel
theorem d_Rock_findBlock_28 : decode prog_6_method_17_code 28 = .ok (.aload_n 0, 1) := by decide +kernel
theorem d_Rock_findBlock_29 : decode prog_6_method_17_code 29 = .ok (.getfield 20, 3) := by decide +kernel
theorem d_Rock_findBlock_32 : decode prog_6_method_17_code 32 = .ok (.iload 7, 2) := by decide +kernel
theorem d_Rock_findBlock_34 : decode prog_6_method_17_code 34 = .ok (.iload_n 1, 1) := by decide +kernel
theorem d_Rock_findBlock_35 : decode prog_6_method_17_code 35 = .ok (.sipush 1344, 3) := by decide +kernel
theorem d_Rock_findBlock_38 : decode prog_6_method_17_code 38 = .ok (.ior, 1) := by decide +kernel
theorem d_Rock_findBlock_39 : decode prog_6_method_17_code 39 = .ok (.invokevirtual 111, 3) := by decide +kernel
theorem d_Rock_findBlock_42 : decode prog_6_method_17_code 42 = .ok (.ifCond .eq 72, 3) := by decide +kernel
theorem d_Rock_findBlock_45 : decode prog_6_method_17_code 45 = .ok (.aload_n 0, 1) := by decide +kernel
theorem d_Rock_findBlock_46 : decode prog_6_method_17_code 46 = .ok (.getfield 20, 3) := by decide +kernel
theorem d_Rock_findBlock_49 : decode prog_6_method_17_code 49 = .ok (.getfield 176, 3) := by decide +kernel
theorem d_Rock_findBlock_52 : decode prog_6_method_17_code 52 = .ok (.iload 7, 2) := by decide +kernel
theorem d_Rock_findBlock_54 : decode prog_6_method_17_code 54 = .ok (.iaload, 1) := by decide +kernel
theorem d_Rock_findBlock_55 : decode prog_6_method_17_code 55 = .ok (.aload_n 0, 1) := by decide +kernel
theorem d_Rock_findBlock_56 : decode prog_6_method_17_code 56 = .ok (.getfield 20, 3) := by decide +kernel
theorem d_Rock_findBlock_59 : decode prog_6_method_17_code 59 = .ok (.getfield 179, 3) := by decide +kernel
theorem d_Rock_findBlock_62 : decode prog_6_method_17_code 62 = .ok (.iload 7, 2) := by decide +kernel
theorem d_Rock_findBlock_64 : decode prog_6_method_17_code 64 = .ok (.iaload, 1) := by decide +kernel
theorem d_Rock_findBlock_65 : decode prog_6_method_17_code 65 = .ok (.ior, 1) := by decide +kernel
theorem d_Rock_findBlock_66 : decode prog_6_method_17_code 66 = .ok (.istore 8, 2) := by decide +kernel
theorem d_Rock_findBlock_68 : decode prog_6_method_17_code 68 = .ok (.aload_n 0, 1) := by decide +kernel
theorem d_Rock_findBlock_69 : decode prog_6_method_17_code 69 = .ok (.getfield 63, 3) := by decide +kernel
theorem d_Rock_findBlock_72 : decode prog_6_method_17_code 72 = .ok (.iload 8, 2) := by decide +kernel
theorem d_Rock_findBlock_74 : decode prog_6_method_17_code 74 = .ok (.iconst (-1), 1) := by decide +kernel
theorem d_Rock_findBlock_75 : decode prog_6_method_17_code 75 = .ok (.ixor, 1) := by decide +kernel
theorem d_Rock_findBlock_76 : decode prog_6_method_17_code 76 = .ok (.iand, 1) := by decide +kernel
theorem d_Rock_findBlock_77 : decode prog_6_method_17_code 77 = .ok (.istore 9, 2) := by decide +kernel
theorem d_Rock_findBlock_79 : decode prog_6_method_17_code 79 = .ok (.iinc 2 1, 3) := by decide +kernel
theorem d_Rock_findBlock_82 : decode prog_6_method_17_code 82 = .ok (.iload_n 3, 1) := by decide +kernel
theorem d_Rock_findBlock_83 : decode prog_6_method_17_code 83 = .ok (.iload 8, 2) := by decide +kernel
theorem d_Rock_findBlock_85 : decode prog_6_method_17_code 85 = .ok (.ior, 1) := by decide +kernel
theorem d_Rock_findBlock_86 : decode prog_6_method_17_code 86 = .ok (.istore_n 3, 1) := by decide +kernel
theorem d_Rock_findBlock_87 : decode prog_6_method_17_code 87 = .ok (.iload 6, 2) := by decide +kernel
theorem d_Rock_findBlock_89 : decode prog_6_method_17_code 89 = .ok (.iload 5, 2) := by decide +kernel
theorem d_Rock_findBlock_91 : decode prog_6_method_17_code 91 = .ok (.iload 9, 2) := by decide +kernel
theorem d_Rock_findBlock_93 : decode prog_6_method_17_code 93 = .ok (.iand, 1) := by decide +kernel
theorem d_Rock_findBlock_94 : decode prog_6_method_17_code 94 = .ok (.ior, 1) := by decide +kernel
theorem d_Rock_findBlock_95 : decode prog_6_method_17_code 95 = .ok (.istore 6, 2) := by decide +kernel
theorem d_Rock_findBlock_97 : decode prog_6_method_17_code 97 = .ok (.iload 5, 2) := by decide +kernel
theorem d_Rock_findBlock_99 : decode prog_6_method_17_code 99 = .ok (.iload 4, 2) := by decide +kernel
theorem d_Rock_findBlock_101 : decode prog_6_method_17_code 101 = .ok (.iload 9, 2) := by decide +kernel
theorem d_Rock_findBlock_103 : decode prog_6_method_17_code 103 = .ok (.iand, 1) := by decide +kernel
theorem d_Rock_findBlock_104 : decode prog_6_method_17_code 104 = .ok (.ior, 1) := by decide +kernel
theorem d_Rock_findBlock_105 : decode prog_6_method_17_code 105 = .ok (.istore 5, 2) := by decide +kernel
theorem d_Rock_findBlock_107 : decode prog_6_method_17_code 107 = .ok (.iload 4, 2) := by decide +kernel
theorem d_Rock_findBlock_109 : decode prog_6_method_17_code 109 = .ok (.iload 9, 2) := by decide +kernel
theorem d_Rock_findBlock_111 : decode prog_6_method_17_code 111 = .ok (.ior, 1) := by decide +kernel
theorem d_Rock_findBlock_112 : decode prog_6_method_17_code 112 = .ok (.istore 4, 2) := by decide +kernel
theorem d_Rock_findBlock_114 : decode prog_6_method_17_code 114 = .ok (.iinc 7 1, 3) := by decide +kernel
theorem d_Rock_findBlock_117 : decode prog_6_method_17_code 117 = .ok (.goto (-101), 3) := by decide +kernel
theorem d_Rock_findBlock_120 : decode prog_6_method_17_code 120 = .ok (.iload_n 3, 1) := by decide +kernel
theorem d_Rock_findBlock_121 : decode prog_6_method_17_code 121 = .ok (.aload_n 0, 1) := by decide +kernel
theorem d_Rock_findBlock_122 : decode prog_6_method_17_code 122 = .ok (.getfield 63, 3) := by decide +kernel
theorem d_Rock_findBlock_125 : decode prog_6_method_17_code 125 = .ok (.if_icmp .ne 11, 3) := by decide +kernel
theorem d_Rock_findBlock_128 : decode prog_6_method_17_code 128 = .ok (.aload_n 0, 1) := by decide +kernel
theorem d_Rock_findBlock_129 : decode prog_6_method_17_code 129 = .ok (.iload_n 1, 1) := by decide +kernel
theorem d_Rock_findBlock_130 : decode prog_6_method_17_code 130 = .ok (.iload 6, 2) := by decide +kernel
theorem d_Rock_findBlock_132 : decode prog_6_method_17_code 132 = .ok (.iload_n 2, 1) := by decide +kernel
theorem d_Rock_findBlock_133 : decode prog_6_method_17_code 133 = .ok (.invokevirtual 182, 3) := by decide +kernel
theorem d_Rock_findBlock_136 : decode prog_6_method_17_code 136 = .ok (.return_, 1) := by decide +kernel
theorem d_Points_touches_0 : decode prog_5_method_6_code 0 = .ok (.aload_n 0, 1) := by decide +kernel
theorem d_Points_touches_1 : decode prog_5_method_6_code 1 = .ok (.getfield 22, 3) := by decide +kernel
theorem d_Points_touches_4 : decode prog_5_method_6_code 4 = .ok (.iload_n 1, 1) := by decide +kernel
theorem d_Points_touches_5 : decode prog_5_method_6_code 5 = .ok (.iaload, 1) := by decide +kernel
theorem d_Points_touches_6 : decode prog_5_method_6_code 6 = .ok (.iload_n 2, 1) := by decide +kernel
theorem d_Points_touches_7 : decode prog_5_method_6_code 7 = .ok (.iconst (-1), 1) := by decide +kernel
theorem d_Points_touches_8 : decode prog_5_method_6_code 8 = .ok (.ixor, 1) := by decide +kernel
theorem d_Points_touches_9 : decode prog_5_method_6_code 9 = .ok (.iand, 1) := by decide +kernel
theorem d_Points_touches_10 : decode prog_5_method_6_code 10 = .ok (.ifCond .ne 18, 3) := by decide +kernel
theorem d_Points_touches_13 : decode prog_5_method_6_code 13 = .ok (.aload_n 0, 1) := by decide +kernel
theorem d_Points_touches_14 : decode prog_5_method_6_code 14 = .ok (.getfield 25, 3) := by decide +kernel
theorem d_Points_touches_17 : decode prog_5_method_6_code 17 = .ok (.iload_n 1, 1) := by decide +kernel
theorem d_Points_touches_18 : decode prog_5_method_6_code 18 = .ok (.iaload, 1) := by decide +kernel
theorem d_Points_touches_19 : decode prog_5_method_6_code 19 = .ok (.iload_n 2, 1) := by decide +kernel
theorem d_Points_touches_20 : decode prog_5_method_6_code 20 = .ok (.iand, 1) := by decide +kernel
theorem d_Points_touches_21 : decode prog_5_method_6_code 21 = .ok (.ifCond .ne 7, 3) := by decide +kernel
theorem d_Points_touches_24 : decode prog_5_method_6_code 24 = .ok (.iconst 1, 1) := by decide +kernel
theorem d_Points_touches_25 : decode prog_5_method_6_code 25 = .ok (.goto 4, 3) := by decide +kernel
theorem d_Points_touches_28 : decode prog_5_method_6_code 28 = .ok (.iconst 0, 1) := by decide +kernel
theorem d_Points_touches_29 : decode prog_5_method_6_code 29 = .ok (.ireturn, 1) := by decide +kernel
theorem d_Rock_addBlock_0 : decode prog_6_method_18_code 0 = .ok (.aload_n 0, 1) := by decide +kernel
theorem d_Rock_addBlock_1 : decode prog_6_method_18_code 1 = .ok (.getfield 41, 3) := by decide +kernel
theorem d_Rock_addBlock_4 : decode prog_6_method_18_code 4 = .ok (.bipush 64, 2) := by decide +kernel
theorem d_Rock_addBlock_6 : decode prog_6_method_18_code 6 = .ok (.if_icmp .ge 53, 3) := by decide +kernel
theorem d_Rock_addBlock_9 : decode prog_6_method_18_code 9 = .ok (.aload_n 0, 1) := by decide +kernel
theorem d_Rock_addBlock_10 : decode prog_6_method_18_code 10 = .ok (.getfield 24, 3) := by decide +kernel
theorem d_Rock_addBlock_13 : decode prog_6_method_18_code 13 = .ok (.aload_n 0, 1) := by decide +kernel
theorem d_Rock_addBlock_14 : decode prog_6_method_18_code 14 = .ok (.getfield 41, 3) := by decide +kernel
theorem d_Rock_addBlock_17 : decode prog_6_method_18_code 17 = .ok (.iload_n 1, 1) := by decide +kernel
theorem d_Rock_addBlock_18 : decode prog_6_method_18_code 18 = .ok (.iastore, 1) := by decide +kernel
theorem d_Rock_addBlock_19 : decode prog_6_method_18_code 19 = .ok (.aload_n 0, 1) := by decide +kernel
theorem d_Rock_addBlock_20 : decode prog_6_method_18_code 20 = .ok (.getfield 28, 3) := by decide +kernel
theorem d_Rock_addBlock_23 : decode prog_6_method_18_code 23 = .ok (.aload_n 0, 1) := by decide +kernel
theorem d_Rock_addBlock_24 : decode prog_6_method_18_code 24 = .ok (.getfield 41, 3) := by decide +kernel
theorem d_Rock_addBlock_27 : decode prog_6_method_18_code 27 = .ok (.iload_n 2, 1) := by decide +kernel
theorem d_Rock_addBlock_28 : decode prog_6_method_18_code 28 = .ok (.iastore, 1) := by decide +kernel
theorem d_Rock_addBlock_29 : decode prog_6_method_18_code 29 = .ok (.aload_n 0, 1) := by decide +kernel
theorem d_Rock_addBlock_30 : decode prog_6_method_18_code 30 = .ok (.getfield 31, 3) := by decide +kernel
theorem d_Rock_addBlock_33 : decode prog_6_method_18_code 33 = .ok (.aload_n 0, 1) := by decide +kernel
theorem d_Rock_addBlock_34 : decode prog_6_method_18_code 34 = .ok (.getfield 41, 3) := by decide +kernel
theorem d_Rock_addBlock_37 : decode prog_6_method_18_code 37 = .ok (.iload_n 3, 1) := by decide +kernel
theorem d_Rock_addBlock_38 : decode prog_6_method_18_code 38 = .ok (.iastore, 1) := by decide +kernel
theorem d_Rock_addBlock_39 : decode prog_6_method_18_code 39 = .ok (.aload_n 0, 1) := by decide +kernel
theorem d_Rock_addBlock_40 : decode prog_6_method_18_code 40 = .ok (.getfield 34, 3) := by decide +kernel
theorem d_Rock_addBlock_43 : decode prog_6_method_18_code 43 = .ok (.iload_n 1, 1) := by decide +kernel
theorem d_Rock_addBlock_44 : decode prog_6_method_18_code 44 = .ok (.aload_n 0, 1) := by decide +kernel
theorem d_Rock_addBlock_45 : decode prog_6_method_18_code 45 = .ok (.getfield 41, 3) := by decide +kernel
theorem d_Rock_addBlock_48 : decode prog_6_method_18_code 48 = .ok (.iastore, 1) := by decide +kernel
theorem d_Rock_addBlock_49 : decode prog_6_method_18_code 49 = .ok (.aload_n 0, 1) := by decide +kernel
theorem d_Rock_addBlock_50 : decode prog_6_method_18_code 50 = .ok (.dup, 1) := by decide +kernel
theorem d_Rock_addBlock_51 : decode prog_6_method_18_code 51 = .ok (.getfield 41, 3) := by decide +kernel
theorem d_Rock_addBlock_54 : decode prog_6_method_18_code 54 = .ok (.iconst 1, 1) := by decide +kernel
theorem d_Rock_addBlock_55 : decode prog_6_method_18_code 55 = .ok (.iadd, 1) := by decide +kernel
theorem d_Rock_addBlock_56 : decode prog_6_method_18_code 56 = .ok (.putfield 41, 3) := by decide +kernel
theorem d_Rock_addBlock_59 : decode prog_6_method_18_code 59 = .ok (.return_, 1) := by decide +kernel
theorem d_WP_unjoint_0 : decode prog_1_method_3_code 0 = .ok (.aload_n 0, 1) := by decide +kernel
theorem d_WP_unjoint_1 : decode prog_1_method_3_code 1 = .ok (.getfield 57, 3) := by decide +kernel
theorem d_WP_unjoint_4 : decode prog_1_method_3_code 4 = .ok (.getfield 78, 3) := by decide +kernel
theorem d_WP_unjoint_7 : decode prog_1_method_3_code 7 = .ok (.ifCond .ne 5, 3) := by decide +kernel
theorem d_WP_unjoint_10 : decode prog_1_method_3_code 10 = .ok (.iconst (-1), 1) := by decide +kernel
theorem d_WP_unjoint_11 : decode prog_1_method_3_code 11 = .ok (.ireturn, 1) := by decide +kernel
theorem d_WP_unjoint_12 : decode prog_1_method_3_code 12 = .ok (.aload_n 0, 1) := by decide +kernel
theorem d_WP_unjoint_13 : decode prog_1_method_3_code 13 = .ok (.invokevirtual 86, 3) := by decide +kernel
theorem d_WP_unjoint_16 : decode prog_1_method_3_code 16 = .ok (.aload_n 0, 1) := by decide +kernel
theorem d_WP_unjoint_17 : decode prog_1_method_3_code 17 = .ok (.getfield 57, 3) := by decide +kernel
theorem d_WP_unjoint_20 : decode prog_1_method_3_code 20 = .ok (.invokevirtual 93, 3) := by decide +kernel
theorem d_WP_unjoint_23 : decode prog_1_method_3_code 23 = .ok (.aload_n 0, 1) := by decide +kernel
theorem d_WP_unjoint_24 : decode prog_1_method_3_code 24 = .ok (.getfield 57, 3) := by decide +kernel
theorem d_WP_unjoint_27 : decode prog_1_method_3_code 27 = .ok (.getfield 78, 3) := by decide +kernel
theorem d_WP_unjoint_30 : decode prog_1_method_3_code 30 = .ok (.ireturn, 1) := by decide +kernel
theorem d_WP_putAllBack_0 : decode prog_1_method_25_code 0 = .ok (.iconst 0, 1) := by decide +kernel
theorem d_WP_putAllBack_1 : decode prog_1_method_25_code 1 = .ok (.istore_n 1, 1) := by decide +kernel
theorem d_WP_putAllBack_2 : decode prog_1_method_25_code 2 = .ok (.iload_n 1, 1) := by decide +kernel
theorem d_WP_putAllBack_3 : decode prog_1_method_25_code 3 = .ok (.bipush 64, 2) := by decide +kernel
theorem d_WP_putAllBack_5 : decode prog_1_method_25_code 5 = .ok (.if_icmp .ge 16, 3) := by decide +kernel
theorem d_WP_putAllBack_8 : decode prog_1_method_25_code 8 = .ok (.aload_n 0, 1) := by decide +kernel
theorem d_WP_putAllBack_9 : decode prog_1_method_25_code 9 = .ok (.getfield 27, 3) := by decide +kernel
theorem d_WP_putAllBack_12 : decode prog_1_method_25_code 12 = .ok (.iload_n 1, 1) := by decide +kernel
theorem d_WP_putAllBack_13 : decode prog_1_method_25_code 13 = .ok (.iconst 0, 1) := by decide +kernel
theorem d_WP_putAllBack_14 : decode prog_1_method_25_code 14 = .ok (.bastore, 1) := by decide +kernel
theorem d_WP_putAllBack_15 : decode prog_1_method_25_code 15 = .ok (.iinc 1 1, 3) := by decide +kernel
theorem d_WP_putAllBack_18 : decode prog_1_method_25_code 18 = .ok (.goto (-16), 3) := by decide +kernel
theorem d_WP_putAllBack_21 : decode prog_1_method_25_code 21 = .ok (.aload_n 0, 1) := by decide +kernel
theorem d_WP_putAllBack_22 : decode prog_1_method_25_code 22 = .ok (.iconst 0, 1) := by decide +kernel
theorem d_WP_putAllBack_23 : decode prog_1_method_25_code 23 = .ok (.putfield 38, 3) := by decide +kernel
theorem d_WP_putAllBack_26 : decode prog_1_method_25_code 26 = .ok (.return_, 1) := by decide +kernel
theorem d_Rock_dropJoint_0 : decode prog_6_method_5_code 0 = .ok (.aload_n 0, 1) := by decide +kernel
theorem d_Rock_dropJoint_1 : decode prog_6_method_5_code 1 = .ok (.getfield 37, 3) := by decide +kernel
theorem d_Rock_dropJoint_4 : decode prog_6_method_5_code 4 = .ok (.ifCond .le 54, 3) := by decide +kernel
theorem d_Rock_dropJoint_7 : decode prog_6_method_5_code 7 = .ok (.aload_n 0, 1) := by decide +kernel
theorem d_Rock_dropJoint_8 : decode prog_6_method_5_code 8 = .ok (.dup, 1) := by decide +kernel
theorem d_Rock_dropJoint_9 : decode prog_6_method_5_code 9 = .ok (.getfield 37, 3) := by decide +kernel
theorem d_Rock_dropJoint_12 : decode prog_6_method_5_code 12 = .ok (.iconst 1, 1) := by decide +kernel
theorem d_Rock_dropJoint_13 : decode prog_6_method_5_code 13 = .ok (.isub, 1) := by decide +kernel
theorem d_Rock_dropJoint_14 : decode prog_6_method_5_code 14 = .ok (.putfield 37, 3) := by decide +kernel
theorem d_Rock_dropJoint_17 : decode prog_6_method_5_code 17 = .ok (.aload_n 0, 1) := by decide +kernel
theorem d_Rock_dropJoint_18 : decode prog_6_method_5_code 18 = .ok (.dup, 1) := by decide +kernel
theorem d_Rock_dropJoint_19 : decode prog_6_method_5_code 19 = .ok (.getfield 63, 3) := by decide +kernel
theorem d_Rock_dropJoint_22 : decode prog_6_method_5_code 22 = .ok (.iconst 1, 1) := by decide +kernel
theorem d_Rock_dropJoint_23 : decode prog_6_method_5_code 23 = .ok (.aload_n 0, 1) := by decide +kernel
theorem d_Rock_dropJoint_24 : decode prog_6_method_5_code 24 = .ok (.getfield 37, 3) := by decide +kernel
theorem d_Rock_dropJoint_27 : decode prog_6_method_5_code 27 = .ok (.ishl, 1) := by decide +kernel
theorem d_Rock_dropJoint_28 : decode prog_6_method_5_code 28 = .ok (.iconst (-1), 1) := by decide +kernel
theorem d_Rock_dropJoint_29 : decode prog_6_method_5_code 29 = .ok (.ixor, 1) := by decide +kernel
theorem d_Rock_dropJoint_30 : decode prog_6_method_5_code 30 = .ok (.iand, 1) := by decide +kernel
theorem d_Rock_dropJoint_31 : decode prog_6_method_5_code 31 = .ok (.putfield 63, 3) := by decide +kernel
theorem d_Rock_dropJoint_34 : decode prog_6_method_5_code 34 = .ok (.aload_n 0, 1) := by decide +kernel
theorem d_Rock_dropJoint_35 : decode prog_6_method_5_code 35 = .ok (.getfield 20, 3) := by decide +kernel
theorem d_Rock_dropJoint_38 : decode prog_6_method_5_code 38 = .ok (.aload_n 0, 1) := by decide +kernel
theorem d_Rock_dropJoint_39 : decode prog_6_method_5_code 39 = .ok (.getfield 37, 3) := by decide +kernel
theorem d_Rock_dropJoint_42 : decode prog_6_method_5_code 42 = .ok (.aload_n 0, 1) := by decide +kernel
theorem d_Rock_dropJoint_43 : decode prog_6_method_5_code 43 = .ok (.getfield 44, 3) := by decide +kernel
theorem d_Rock_dropJoint_46 : decode prog_6_method_5_code 46 = .ok (.aload_n 0, 1) := by decide +kernel
theorem d_Rock_dropJoint_47 : decode prog_6_method_5_code 47 = .ok (.getfield 37, 3) := by decide +kernel
theorem d_Rock_dropJoint_50 : decode prog_6_method_5_code 50 = .ok (.iaload, 1) := by decide +kernel
theorem d_Rock_dropJoint_51 : decode prog_6_method_5_code 51 = .ok (.invokevirtual 103, 3) := by decide +kernel
theorem d_Rock_dropJoint_54 : decode prog_6_method_5_code 54 = .ok (.aload_n 0, 1) := by decide +kernel
theorem d_Rock_dropJoint_55 : decode prog_6_method_5_code 55 = .ok (.invokevirtual 84, 3) := by decide +kernel
theorem d_Rock_dropJoint_58 : decode prog_6_method_5_code 58 = .ok (.return_, 1) := by decide +kernel
theorem d_Points_dropFace_0 : decode prog_5_method_5_code 0 = .ok (.aload_n 0, 1) := by decide +kernel
theorem d_Points_dropFace_1 : decode prog_5_method_5_code 1 = .ok (.iload_n 2, 1) := by decide +kernel
theorem d_Points_dropFace_2 : decode prog_5_method_5_code 2 = .ok (.putfield 28, 3) := by decide +kernel
theorem d_Points_dropFace_5 : decode prog_5_method_5_code 5 = .ok (.iconst 0, 1) := by decide +kernel
theorem d_Points_dropFace_6 : decode prog_5_method_5_code 6 = .ok (.istore_n 3, 1) := by decide +kernel
theorem d_Points_dropFace_7 : decode prog_5_method_5_code 7 = .ok (.iload_n 3, 1) := by decide +kernel
theorem d_Points_dropFace_8 : decode prog_5_method_5_code 8 = .ok (.aload_n 0, 1) := by decide +kernel
theorem d_Points_dropFace_9 : decode prog_5_method_5_code 9 = .ok (.getfield 28, 3) := by decide +kernel
theorem d_Points_dropFace_12 : decode prog_5_method_5_code 12 = .ok (.if_icmp .ge 37, 3) := by decide +kernel
theorem d_Points_dropFace_15 : decode prog_5_method_5_code 15 = .ok (.aload_n 0, 1) := by decide +kernel
theorem d_Points_dropFace_16 : decode prog_5_method_5_code 16 = .ok (.getfield 22, 3) := by decide +kernel
theorem d_Points_dropFace_19 : decode prog_5_method_5_code 19 = .ok (.iload_n 3, 1) := by decide +kernel
theorem d_Points_dropFace_20 : decode prog_5_method_5_code 20 = .ok (.dup2, 1) := by decide +kernel
theorem d_Points_dropFace_21 : decode prog_5_method_5_code 21 = .ok (.iaload, 1) := by decide +kernel
theorem d_Points_dropFace_22 : decode prog_5_method_5_code 22 = .ok (.iconst 1, 1) := by decide +kernel
theorem d_Points_dropFace_23 : decode prog_5_method_5_code 23 = .ok (.iload_n 1, 1) := by decide +kernel
theorem d_Points_dropFace_24 : decode prog_5_method_5_code 24 = .ok (.ishl, 1) := by decide +kernel
theorem d_Points_dropFace_25 : decode prog_5_method_5_code 25 = .ok (.iconst (-1), 1) := by decide +kernel
theorem d_Points_dropFace_26 : decode prog_5_method_5_code 26 = .ok (.ixor, 1) := by decide +kernel
theorem d_Points_dropFace_27 : decode prog_5_method_5_code 27 = .ok (.iand, 1) := by decide +kernel
theorem d_Points_dropFace_28 : decode prog_5_method_5_code 28 = .ok (.iastore, 1) := by decide +kernel
theorem d_Points_dropFace_29 : decode prog_5_method_5_code 29 = .ok (.aload_n 0, 1) := by decide +kernel
theorem d_Points_dropFace_30 : decode prog_5_method_5_code 30 = .ok (.getfield 25, 3) := by decide +kernel
theorem d_Points_dropFace_33 : decode prog_5_method_5_code 33 = .ok (.iload_n 3, 1) := by decide +kernel
theorem d_Points_dropFace_34 : decode prog_5_method_5_code 34 = .ok (.dup2, 1) := by decide +kernel
theorem d_Points_dropFace_35 : decode prog_5_method_5_code 35 = .ok (.iaload, 1) := by decide +kernel
theorem d_Points_dropFace_36 : decode prog_5_method_5_code 36 = .ok (.iconst 1, 1) := by decide +kernel
theorem d_Points_dropFace_37 : decode prog_5_method_5_code 37 = .ok (.iload_n 1, 1) := by decide +kernel
theorem d_Points_dropFace_38 : decode prog_5_method_5_code 38 = .ok (.ishl, 1) := by decide +kernel
theorem d_Points_dropFace_39 : decode prog_5_method_5_code 39 = .ok (.iconst (-1), 1) := by decide +kernel
theorem d_Points_dropFace_40 : decode prog_5_method_5_code 40 = .ok (.ixor, 1) := by decide +kernel
theorem d_Points_dropFace_41 : decode prog_5_method_5_code 41 = .ok (.iand, 1) := by decide +kernel
theorem d_Points_dropFace_42 : decode prog_5_method_5_code 42 = .ok (.iastore, 1) := by decide +kernel
theorem d_Points_dropFace_43 : decode prog_5_method_5_code 43 = .ok (.iinc 3 1, 3) := by decide +kernel
theorem d_Points_dropFace_46 : decode prog_5_method_5_code 46 = .ok (.goto (-39), 3) := by decide +kernel
theorem d_Points_dropFace_49 : decode prog_5_method_5_code 49 = .ok (.return_, 1) := by decide +kernel
theorem d_WP_blocks_0 : decode prog_1_method_7_code 0 = .ok (.aload_n 0, 1) := by decide +kernel
theorem d_WP_blocks_1 : decode prog_1_method_7_code 1 = .ok (.getfield 57, 3) := by decide +kernel
theorem d_WP_blocks_4 : decode prog_1_method_7_code 4 = .ok (.getfield 115, 3) := by decide +kernel
theorem d_WP_blocks_7 : decode prog_1_method_7_code 7 = .ok (.ireturn, 1) := by decide +kernel
theorem d_WP_find_0 : decode prog_1_method_10_code 0 = .ok (.iload_n 1, 1) := by decide +kernel
theorem d_WP_find_1 : decode prog_1_method_10_code 1 = .ok (.ifCond .lt 9, 3) := by decide +kernel
theorem d_WP_find_4 : decode prog_1_method_10_code 4 = .ok (.iload_n 1, 1) := by decide +kernel
theorem d_WP_find_5 : decode prog_1_method_10_code 5 = .ok (.bipush 64, 2) := by decide +kernel
theorem d_WP_find_7 : decode prog_1_method_10_code 7 = .ok (.if_icmp .lt 7, 3) := by decide +kernel
theorem d_WP_find_10 : decode prog_1_method_10_code 10 = .ok (.iconst (-1), 1) := by decide +kernel
theorem d_WP_find_11 : decode prog_1_method_10_code 11 = .ok (.goto 12, 3) := by decide +kernel
theorem d_WP_find_14 : decode prog_1_method_10_code 14 = .ok (.aload_n 0, 1) := by decide +kernel
theorem d_WP_find_15 : decode prog_1_method_10_code 15 = .ok (.getfield 57, 3) := by decide +kernel
theorem d_WP_find_18 : decode prog_1_method_10_code 18 = .ok (.getfield 162, 3) := by decide +kernel
theorem d_WP_find_21 : decode prog_1_method_10_code 21 = .ok (.iload_n 1, 1) := by decide +kernel
theorem d_WP_find_22 : decode prog_1_method_10_code 22 = .ok (.iaload, 1) := by decide +kernel
theorem d_WP_find_23 : decode prog_1_method_10_code 23 = .ok (.ireturn, 1) := by decide +kernel
theorem d_WP_order_0 : decode prog_1_method_14_code 0 = .ok (.iconst 0, 1) := by decide +kernel
theorem d_WP_order_1 : decode prog_1_method_14_code 1 = .ok (.istore_n 1, 1) := by decide +kernel
theorem d_WP_order_2 : decode prog_1_method_14_code 2 = .ok (.iload_n 1, 1) := by decide +kernel
theorem d_WP_order_3 : decode prog_1_method_14_code 3 = .ok (.bipush 64, 2) := by decide +kernel
theorem d_WP_order_5 : decode prog_1_method_14_code 5 = .ok (.if_icmp .ge 16, 3) := by decide +kernel
theorem d_WP_order_8 : decode prog_1_method_14_code 8 = .ok (.aload_n 0, 1) := by decide +kernel
theorem d_WP_order_9 : decode prog_1_method_14_code 9 = .ok (.invokevirtual 186, 3) := by decide +kernel
theorem d_WP_order_12 : decode prog_1_method_14_code 12 = .ok (.ifCond .eq 9, 3) := by decide +kernel
theorem d_WP_order_15 : decode prog_1_method_14_code 15 = .ok (.iinc 1 1, 3) := by decide +kernel
theorem d_WP_order_18 : decode prog_1_method_14_code 18 = .ok (.goto (-16), 3) := by decide +kernel
theorem d_WP_order_21 : decode prog_1_method_14_code 21 = .ok (.iload_n 1, 1) := by decide +kernel
theorem d_WP_order_22 : decode prog_1_method_14_code 22 = .ok (.ireturn, 1) := by decide +kernel
theorem d_WP_takeLeast_0 : decode prog_1_method_27_code 0 = .ok (.iconst 0, 1) := by decide +kernel
theorem d_WP_takeLeast_1 : decode prog_1_method_27_code 1 = .ok (.istore_n 1, 1) := by decide +kernel
theorem d_WP_takeLeast_2 : decode prog_1_method_27_code 2 = .ok (.iload_n 1, 1) := by decide +kernel
theorem d_WP_takeLeast_3 : decode prog_1_method_27_code 3 = .ok (.aload_n 0, 1) := by decide +kernel
theorem d_WP_takeLeast_4 : decode prog_1_method_27_code 4 = .ok (.getfield 57, 3) := by decide +kernel
theorem d_WP_takeLeast_7 : decode prog_1_method_27_code 7 = .ok (.getfield 115, 3) := by decide +kernel
theorem d_WP_takeLeast_10 : decode prog_1_method_27_code 10 = .ok (.if_icmp .ge 28, 3) := by decide +kernel
theorem d_WP_takeLeast_13 : decode prog_1_method_27_code 13 = .ok (.aload_n 0, 1) := by decide +kernel
theorem d_WP_takeLeast_14 : decode prog_1_method_27_code 14 = .ok (.iload_n 1, 1) := by decide +kernel
theorem d_WP_takeLeast_15 : decode prog_1_method_27_code 15 = .ok (.invokevirtual 179, 3) := by decide +kernel
theorem d_WP_takeLeast_18 : decode prog_1_method_27_code 18 = .ok (.istore_n 2, 1) := by decide +kernel
theorem d_WP_takeLeast_19 : decode prog_1_method_27_code 19 = .ok (.iload_n 2, 1) := by decide +kernel
theorem d_WP_takeLeast_20 : decode prog_1_method_27_code 20 = .ok (.iconst (-1), 1) := by decide +kernel
theorem d_WP_takeLeast_21 : decode prog_1_method_27_code 21 = .ok (.if_icmp .eq 11, 3) := by decide +kernel
theorem d_WP_takeLeast_24 : decode prog_1_method_27_code 24 = .ok (.aload_n 0, 1) := by decide +kernel
theorem d_WP_takeLeast_25 : decode prog_1_method_27_code 25 = .ok (.iload_n 1, 1) := by decide +kernel
theorem d_WP_takeLeast_26 : decode prog_1_method_27_code 26 = .ok (.iload_n 2, 1) := by decide +kernel
theorem d_WP_takeLeast_27 : decode prog_1_method_27_code 27 = .ok (.invokevirtual 182, 3) := by decide +kernel
theorem d_WP_takeLeast_30 : decode prog_1_method_27_code 30 = .ok (.iconst 1, 1) := by decide +kernel
theorem d_WP_takeLeast_31 : decode prog_1_method_27_code 31 = .ok (.ireturn, 1) := by decide +kernel
theorem d_WP_takeLeast_32 : decode prog_1_method_27_code 32 = .ok (.iinc 1 1, 3) := by decide +kernel
theorem d_WP_takeLeast_35 : decode prog_1_method_27_code 35 = .ok (.goto (-33), 3) := by decide +kernel
theorem d_WP_takeLeast_38 : decode prog_1_method_27_code 38 = .ok (.iconst 0, 1) := by decide +kernel
theorem d_WP_takeLeast_39 : decode prog_1_method_27_code 39 = .ok (.ireturn, 1) := by decide +kernel
theorem d_WP_leastDirection_0 : decode prog_1_method_28_code 0 = .ok (.aload_n 0, 1) := by decide +kernel
theorem d_WP_leastDirection_1 : decode prog_1_method_28_code 1 = .ok (.getfield 27, 3) := by decide +kernel
theorem d_WP_leastDirection_4 : decode prog_1_method_28_code 4 = .ok (.iload_n 1, 1) := by decide +kernel
theorem d_WP_leastDirection_5 : decode prog_1_method_28_code 5 = .ok (.baload, 1) := by decide +kernel
theorem d_WP_leastDirection_6 : decode prog_1_method_28_code 6 = .ok (.ifCond .eq 5, 3) := by decide +kernel
theorem d_WP_leastDirection_9 : decode prog_1_method_28_code 9 = .ok (.iconst (-1), 1) := by decide +kernel
theorem d_WP_leastDirection_10 : decode prog_1_method_28_code 10 = .ok (.ireturn, 1) := by decide +kernel
theorem d_WP_leastDirection_11 : decode prog_1_method_28_code 11 = .ok (.aload_n 0, 1) := by decide +kernel
theorem d_WP_leastDirection_12 : decode prog_1_method_28_code 12 = .ok (.iload_n 1, 1) := by decide +kernel
theorem d_WP_leastDirection_13 : decode prog_1_method_28_code 13 = .ok (.invokevirtual 172, 3) := by decide +kernel
theorem d_WP_leastDirection_16 : decode prog_1_method_28_code 16 = .ok (.iconst 0, 1) := by decide +kernel
theorem d_WP_leastDirection_17 : decode prog_1_method_28_code 17 = .ok (.istore_n 2, 1) := by decide +kernel
theorem d_WP_leastDirection_18 : decode prog_1_method_28_code 18 = .ok (.iload_n 2, 1) := by decide +kernel
theorem d_WP_leastDirection_19 : decode prog_1_method_28_code 19 = .ok (.aload_n 0, 1) := by decide +kernel
theorem d_WP_leastDirection_20 : decode prog_1_method_28_code 20 = .ok (.getfield 42, 3) := by decide +kernel
theorem d_WP_leastDirection_23 : decode prog_1_method_28_code 23 = .ok (.if_icmp .ge 27, 3) := by decide +kernel
theorem d_WP_leastDirection_26 : decode prog_1_method_28_code 26 = .ok (.aload_n 0, 1) := by decide +kernel
theorem d_WP_leastDirection_27 : decode prog_1_method_28_code 27 = .ok (.getfield 12, 3) := by decide +kernel
theorem d_WP_leastDirection_30 : decode prog_1_method_28_code 30 = .ok (.aload_n 0, 1) := by decide +kernel
theorem d_WP_leastDirection_31 : decode prog_1_method_28_code 31 = .ok (.getfield 18, 3) := by decide +kernel
theorem d_WP_leastDirection_34 : decode prog_1_method_28_code 34 = .ok (.iload_n 2, 1) := by decide +kernel
theorem d_WP_leastDirection_35 : decode prog_1_method_28_code 35 = .ok (.aaload, 1) := by decide +kernel
theorem d_WP_leastDirection_36 : decode prog_1_method_28_code 36 = .ok (.invokevirtual 175, 3) := by decide +kernel
theorem d_WP_leastDirection_39 : decode prog_1_method_28_code 39 = .ok (.ifCond .eq 5, 3) := by decide +kernel
theorem d_WP_leastDirection_42 : decode prog_1_method_28_code 42 = .ok (.iload_n 2, 1) := by decide +kernel
theorem d_WP_leastDirection_43 : decode prog_1_method_28_code 43 = .ok (.ireturn, 1) := by decide +kernel
theorem d_WP_leastDirection_44 : decode prog_1_method_28_code 44 = .ok (.iinc 2 1, 3) := by decide +kernel
theorem d_WP_leastDirection_47 : decode prog_1_method_28_code 47 = .ok (.goto (-29), 3) := by decide +kernel
theorem d_WP_leastDirection_50 : decode prog_1_method_28_code 50 = .ok (.iconst (-1), 1) := by decide +kernel
theorem d_WP_leastDirection_51 : decode prog_1_method_28_code 51 = .ok (.ireturn, 1) := by decide +kernel
theorem d_WP_lookAtHold_0 : decode prog_1_method_29_code 0 = .ok (.aload_n 0, 1) := by decide +kernel
theorem d_WP_lookAtHold_1 : decode prog_1_method_29_code 1 = .ok (.getfield 57, 3) := by decide +kernel
theorem d_WP_lookAtHold_4 : decode prog_1_method_29_code 4 = .ok (.getfield 122, 3) := by decide +kernel
theorem d_WP_lookAtHold_7 : decode prog_1_method_29_code 7 = .ok (.iload_n 1, 1) := by decide +kernel
theorem d_WP_lookAtHold_8 : decode prog_1_method_29_code 8 = .ok (.iaload, 1) := by decide +kernel
theorem d_WP_lookAtHold_9 : decode prog_1_method_29_code 9 = .ok (.sipush 1344, 3) := by decide +kernel
theorem d_WP_lookAtHold_12 : decode prog_1_method_29_code 12 = .ok (.ior, 1) := by decide +kernel
theorem d_WP_lookAtHold_13 : decode prog_1_method_29_code 13 = .ok (.istore_n 2, 1) := by decide +kernel
theorem d_WP_lookAtHold_14 : decode prog_1_method_29_code 14 = .ok (.aload_n 0, 1) := by decide +kernel
theorem d_WP_lookAtHold_15 : decode prog_1_method_29_code 15 = .ok (.getfield 12, 3) := by decide +kernel
theorem d_WP_lookAtHold_18 : decode prog_1_method_29_code 18 = .ok (.invokevirtual 217, 3) := by decide +kernel
theorem d_WP_lookAtHold_21 : decode prog_1_method_29_code 21 = .ok (.iconst 0, 1) := by decide +kernel
theorem d_WP_lookAtHold_22 : decode prog_1_method_29_code 22 = .ok (.istore_n 3, 1) := by decide +kernel
theorem d_WP_lookAtHold_23 : decode prog_1_method_29_code 23 = .ok (.iload_n 3, 1) := by decide +kernel
theorem d_WP_lookAtHold_24 : decode prog_1_method_29_code 24 = .ok (.bipush 12, 2) := by decide +kernel
theorem d_WP_lookAtHold_26 : decode prog_1_method_29_code 26 = .ok (.if_icmp .ge 59, 3) := by decide +kernel
theorem d_WP_lookAtHold_29 : decode prog_1_method_29_code 29 = .ok (.aload_n 0, 1) := by decide +kernel
theorem d_WP_lookAtHold_30 : decode prog_1_method_29_code 30 = .ok (.getfield 57, 3) := by decide +kernel
theorem d_WP_lookAtHold_33 : decode prog_1_method_29_code 33 = .ok (.getfield 125, 3) := by decide +kernel
theorem d_WP_lookAtHold_36 : decode prog_1_method_29_code 36 = .ok (.iload_n 1, 1) := by decide +kernel
theorem d_WP_lookAtHold_37 : decode prog_1_method_29_code 37 = .ok (.iaload, 1) := by decide +kernel
theorem d_WP_lookAtHold_38 : decode prog_1_method_29_code 38 = .ok (.iload_n 3, 1) := by decide +kernel
theorem d_WP_lookAtHold_39 : decode prog_1_method_29_code 39 = .ok (.invokestatic 101, 3) := by decide +kernel
theorem d_WP_lookAtHold_42 : decode prog_1_method_29_code 42 = .ok (.ifCond .eq 37, 3) := by decide +kernel
theorem d_WP_lookAtHold_45 : decode prog_1_method_29_code 45 = .ok (.aload_n 0, 1) := by decide +kernel
theorem d_WP_lookAtHold_46 : decode prog_1_method_29_code 46 = .ok (.iload_n 1, 1) := by decide +kernel
theorem d_WP_lookAtHold_47 : decode prog_1_method_29_code 47 = .ok (.iload_n 3, 1) := by decide +kernel
theorem d_WP_lookAtHold_48 : decode prog_1_method_29_code 48 = .ok (.invokevirtual 220, 3) := by decide +kernel
theorem d_WP_lookAtHold_51 : decode prog_1_method_29_code 51 = .ok (.ifCond .ne 28, 3) := by decide +kernel
theorem d_WP_lookAtHold_54 : decode prog_1_method_29_code 54 = .ok (.aload_n 0, 1) := by decide +kernel
theorem d_WP_lookAtHold_55 : decode prog_1_method_29_code 55 = .ok (.getfield 12, 3) := by decide +kernel
theorem d_WP_lookAtHold_58 : decode prog_1_method_29_code 58 = .ok (.iload_n 3, 1) := by decide +kernel
theorem d_WP_lookAtHold_59 : decode prog_1_method_29_code 59 = .ok (.aload_n 0, 1) := by decide +kernel
theorem d_WP_lookAtHold_60 : decode prog_1_method_29_code 60 = .ok (.getfield 57, 3) := by decide +kernel
theorem d_WP_lookAtHold_63 : decode prog_1_method_29_code 63 = .ok (.getfield 223, 3) := by decide +kernel
theorem d_WP_lookAtHold_66 : decode prog_1_method_29_code 66 = .ok (.iload_n 3, 1) := by decide +kernel
theorem d_WP_lookAtHold_67 : decode prog_1_method_29_code 67 = .ok (.aaload, 1) := by decide +kernel
theorem d_WP_lookAtHold_68 : decode prog_1_method_29_code 68 = .ok (.getfield 227, 3) := by decide +kernel
theorem d_WP_lookAtHold_71 : decode prog_1_method_29_code 71 = .ok (.iload_n 2, 1) := by decide +kernel
theorem d_WP_lookAtHold_72 : decode prog_1_method_29_code 72 = .ok (.iload_n 3, 1) := by decide +kernel
theorem d_WP_lookAtHold_73 : decode prog_1_method_29_code 73 = .ok (.invokestatic 101, 3) := by decide +kernel
theorem d_WP_lookAtHold_76 : decode prog_1_method_29_code 76 = .ok (.invokevirtual 232, 3) := by decide +kernel
theorem d_WP_lookAtHold_79 : decode prog_1_method_29_code 79 = .ok (.iinc 3 1, 3) := by decide +kernel
theorem d_WP_lookAtHold_82 : decode prog_1_method_29_code 82 = .ok (.goto (-59), 3) := by decide +kernel
theorem d_WP_lookAtHold_85 : decode prog_1_method_29_code 85 = .ok (.return_, 1) := by decide +kernel
theorem d_Hold_clear_0 : decode prog_3_method_2_code 0 = .ok (.aload_n 0, 1) := by decide +kernel
theorem d_Hold_clear_1 : decode prog_3_method_2_code 1 = .ok (.iconst 0, 1) := by decide +kernel
theorem d_Hold_clear_2 : decode prog_3_method_2_code 2 = .ok (.putfield 25, 3) := by decide +kernel
theorem d_Hold_clear_5 : decode prog_3_method_2_code 5 = .ok (.return_, 1) := by decide +kernel
theorem d_WP_isFree_0 : decode prog_1_method_30_code 0 = .ok (.iload_n 2, 1) := by decide +kernel
theorem d_WP_isFree_1 : decode prog_1_method_30_code 1 = .ok (.bipush 6, 2) := by decide +kernel
theorem d_WP_isFree_3 : decode prog_1_method_30_code 3 = .ok (.if_icmp .lt 12, 3) := by decide +kernel
theorem d_WP_isFree_6 : decode prog_1_method_30_code 6 = .ok (.aload_n 0, 1) := by decide +kernel
theorem d_WP_isFree_7 : decode prog_1_method_30_code 7 = .ok (.getfield 45, 3) := by decide +kernel
theorem d_WP_isFree_10 : decode prog_1_method_30_code 10 = .ok (.iload_n 2, 1) := by decide +kernel
theorem d_WP_isFree_11 : decode prog_1_method_30_code 11 = .ok (.invokestatic 101, 3) := by decide +kernel
theorem d_WP_isFree_14 : decode prog_1_method_30_code 14 = .ok (.ireturn, 1) := by decide +kernel
theorem d_WP_isFree_15 : decode prog_1_method_30_code 15 = .ok (.aload_n 0, 1) := by decide +kernel
theorem d_WP_isFree_16 : decode prog_1_method_30_code 16 = .ok (.getfield 57, 3) := by decide +kernel
theorem d_WP_isFree_19 : decode prog_1_method_30_code 19 = .ok (.iload_n 1, 1) := by decide +kernel
theorem d_WP_isFree_20 : decode prog_1_method_30_code 20 = .ok (.iload_n 2, 1) := by decide +kernel
theorem d_WP_isFree_21 : decode prog_1_method_30_code 21 = .ok (.invokevirtual 167, 3) := by decide +kernel
theorem d_WP_isFree_24 : decode prog_1_method_30_code 24 = .ok (.istore_n 3, 1) := by decide +kernel
theorem d_WP_isFree_25 : decode prog_1_method_30_code 25 = .ok (.iload_n 3, 1) := by decide +kernel
theorem d_WP_isFree_26 : decode prog_1_method_30_code 26 = .ok (.iconst (-1), 1) := by decide +kernel
theorem d_WP_isFree_27 : decode prog_1_method_30_code 27 = .ok (.if_icmp .eq 16, 3) := by decide +kernel
theorem d_WP_isFree_30 : decode prog_1_method_30_code 30 = .ok (.aload_n 0, 1) := by decide +kernel
theorem d_WP_isFree_31 : decode prog_1_method_30_code 31 = .ok (.getfield 27, 3) := by decide +kernel
theorem d_WP_isFree_34 : decode prog_1_method_30_code 34 = .ok (.iload_n 3, 1) := by decide +kernel
theorem d_WP_isFree_35 : decode prog_1_method_30_code 35 = .ok (.baload, 1) := by decide +kernel
theorem d_WP_isFree_36 : decode prog_1_method_30_code 36 = .ok (.ifCond .eq 7, 3) := by decide +kernel
theorem d_WP_isFree_39 : decode prog_1_method_30_code 39 = .ok (.iconst 1, 1) := by decide +kernel
theorem d_WP_isFree_40 : decode prog_1_method_30_code 40 = .ok (.goto 4, 3) := by decide +kernel
theorem d_WP_isFree_43 : decode prog_1_method_30_code 43 = .ok (.iconst 0, 1) := by decide +kernel
theorem d_WP_isFree_44 : decode prog_1_method_30_code 44 = .ok (.ireturn, 1) := by decide +kernel
theorem d_Rock_neighbour_0 : decode prog_6_method_6_code 0 = .ok (.aload_n 0, 1) := by decide +kernel
theorem d_Rock_neighbour_1 : decode prog_6_method_6_code 1 = .ok (.getfield 28, 3) := by decide +kernel
theorem d_Rock_neighbour_4 : decode prog_6_method_6_code 4 = .ok (.iload_n 1, 1) := by decide +kernel
theorem d_Rock_neighbour_5 : decode prog_6_method_6_code 5 = .ok (.iaload, 1) := by decide +kernel
theorem d_Rock_neighbour_6 : decode prog_6_method_6_code 6 = .ok (.iload_n 2, 1) := by decide +kernel
theorem d_Rock_neighbour_7 : decode prog_6_method_6_code 7 = .ok (.invokestatic 107, 3) := by decide +kernel
theorem d_Rock_neighbour_10 : decode prog_6_method_6_code 10 = .ok (.ifCond .eq 21, 3) := by decide +kernel
theorem d_Rock_neighbour_13 : decode prog_6_method_6_code 13 = .ok (.aload_n 0, 1) := by decide +kernel
theorem d_Rock_neighbour_14 : decode prog_6_method_6_code 14 = .ok (.getfield 34, 3) := by decide +kernel
theorem d_Rock_neighbour_17 : decode prog_6_method_6_code 17 = .ok (.aload_n 0, 1) := by decide +kernel
theorem d_Rock_neighbour_18 : decode prog_6_method_6_code 18 = .ok (.getfield 24, 3) := by decide +kernel
theorem d_Rock_neighbour_21 : decode prog_6_method_6_code 21 = .ok (.iload_n 1, 1) := by decide +kernel
theorem d_Rock_neighbour_22 : decode prog_6_method_6_code 22 = .ok (.iaload, 1) := by decide +kernel
theorem d_Rock_neighbour_23 : decode prog_6_method_6_code 23 = .ok (.iconst 1, 1) := by decide +kernel
theorem d_Rock_neighbour_24 : decode prog_6_method_6_code 24 = .ok (.iload_n 2, 1) := by decide +kernel
theorem d_Rock_neighbour_25 : decode prog_6_method_6_code 25 = .ok (.ishl, 1) := by decide +kernel
theorem d_Rock_neighbour_26 : decode prog_6_method_6_code 26 = .ok (.ixor, 1) := by decide +kernel
theorem d_Rock_neighbour_27 : decode prog_6_method_6_code 27 = .ok (.iaload, 1) := by decide +kernel
theorem d_Rock_neighbour_28 : decode prog_6_method_6_code 28 = .ok (.goto 4, 3) := by decide +kernel
theorem d_Rock_neighbour_31 : decode prog_6_method_6_code 31 = .ok (.iconst (-1), 1) := by decide +kernel
theorem d_Rock_neighbour_32 : decode prog_6_method_6_code 32 = .ok (.ireturn, 1) := by decide +kernel
theorem d_Hold_add_0 : decode prog_3_method_3_code 0 = .ok (.aload_n 0, 1) := by decide +kernel
theorem d_Hold_add_1 : decode prog_3_method_3_code 1 = .ok (.dup, 1) := by decide +kernel
theorem d_Hold_add_2 : decode prog_3_method_3_code 2 = .ok (.getfield 25, 3) := by decide +kernel
theorem d_Hold_add_5 : decode prog_3_method_3_code 5 = .ok (.iconst 1, 1) := by decide +kernel
theorem d_Hold_add_6 : decode prog_3_method_3_code 6 = .ok (.iload_n 1, 1) := by decide +kernel
theorem d_Hold_add_7 : decode prog_3_method_3_code 7 = .ok (.ishl, 1) := by decide +kernel
theorem d_Hold_add_8 : decode prog_3_method_3_code 8 = .ok (.ior, 1) := by decide +kernel
theorem d_Hold_add_9 : decode prog_3_method_3_code 9 = .ok (.putfield 25, 3) := by decide +kernel
theorem d_Hold_add_12 : decode prog_3_method_3_code 12 = .ok (.aload_n 0, 1) := by decide +kernel
theorem d_Hold_add_13 : decode prog_3_method_3_code 13 = .ok (.getfield 11, 3) := by decide +kernel
theorem d_Hold_add_16 : decode prog_3_method_3_code 16 = .ok (.iload_n 1, 1) := by decide +kernel
theorem d_Hold_add_17 : decode prog_3_method_3_code 17 = .ok (.aaload, 1) := by decide +kernel
theorem d_Hold_add_18 : decode prog_3_method_3_code 18 = .ok (.aload_n 2, 1) := by decide +kernel
theorem d_Hold_add_19 : decode prog_3_method_3_code 19 = .ok (.iload_n 3, 1) := by decide +kernel
theorem d_Hold_add_20 : decode prog_3_method_3_code 20 = .ok (.ifCond .eq 7, 3) := by decide +kernel
theorem d_Hold_add_23 : decode prog_3_method_3_code 23 = .ok (.iconst 1, 1) := by decide +kernel
theorem d_Hold_add_24 : decode prog_3_method_3_code 24 = .ok (.goto 4, 3) := by decide +kernel
theorem d_Hold_add_27 : decode prog_3_method_3_code 27 = .ok (.iconst (-1), 1) := by decide +kernel
theorem d_Hold_add_28 : decode prog_3_method_3_code 28 = .ok (.invokevirtual 29, 3) := by decide +kernel
theorem d_Hold_add_31 : decode prog_3_method_3_code 31 = .ok (.return_, 1) := by decide +kernel
theorem d_Arrow_setScaled_0 : decode prog_2_method_3_code 0 = .ok (.aload_n 0, 1) := by decide +kernel
theorem d_Arrow_setScaled_1 : decode prog_2_method_3_code 1 = .ok (.aload_n 1, 1) := by decide +kernel
theorem d_Arrow_setScaled_2 : decode prog_2_method_3_code 2 = .ok (.getfield 7, 3) := by decide +kernel
theorem d_Arrow_setScaled_5 : decode prog_2_method_3_code 5 = .ok (.iload_n 2, 1) := by decide +kernel
theorem d_Arrow_setScaled_6 : decode prog_2_method_3_code 6 = .ok (.imul, 1) := by decide +kernel
theorem d_Arrow_setScaled_7 : decode prog_2_method_3_code 7 = .ok (.aload_n 1, 1) := by decide +kernel
theorem d_Arrow_setScaled_8 : decode prog_2_method_3_code 8 = .ok (.getfield 13, 3) := by decide +kernel
theorem d_Arrow_setScaled_11 : decode prog_2_method_3_code 11 = .ok (.iload_n 2, 1) := by decide +kernel
theorem d_Arrow_setScaled_12 : decode prog_2_method_3_code 12 = .ok (.imul, 1) := by decide +kernel
theorem d_Arrow_setScaled_13 : decode prog_2_method_3_code 13 = .ok (.aload_n 1, 1) := by decide +kernel
theorem d_Arrow_setScaled_14 : decode prog_2_method_3_code 14 = .ok (.getfield 16, 3) := by decide +kernel
theorem d_Arrow_setScaled_17 : decode prog_2_method_3_code 17 = .ok (.iload_n 2, 1) := by decide +kernel
theorem d_Arrow_setScaled_18 : decode prog_2_method_3_code 18 = .ok (.imul, 1) := by decide +kernel
theorem d_Arrow_setScaled_19 : decode prog_2_method_3_code 19 = .ok (.invokevirtual 19, 3) := by decide +kernel
theorem d_Arrow_setScaled_22 : decode prog_2_method_3_code 22 = .ok (.return_, 1) := by decide +kernel
theorem d_Hold_lets_0 : decode prog_3_method_4_code 0 = .ok (.aload_n 1, 1) := by decide +kernel
theorem d_Hold_lets_1 : decode prog_3_method_4_code 1 = .ok (.invokevirtual 33, 3) := by decide +kernel
theorem d_Hold_lets_4 : decode prog_3_method_4_code 4 = .ok (.ifCond .eq 5, 3) := by decide +kernel
theorem d_Hold_lets_7 : decode prog_3_method_4_code 7 = .ok (.iconst 0, 1) := by decide +kernel
theorem d_Hold_lets_8 : decode prog_3_method_4_code 8 = .ok (.ireturn, 1) := by decide +kernel
theorem d_Hold_lets_9 : decode prog_3_method_4_code 9 = .ok (.iconst 0, 1) := by decide +kernel
theorem d_Hold_lets_10 : decode prog_3_method_4_code 10 = .ok (.istore_n 2, 1) := by decide +kernel
theorem d_Hold_lets_11 : decode prog_3_method_4_code 11 = .ok (.iload_n 2, 1) := by decide +kernel
theorem d_Hold_lets_12 : decode prog_3_method_4_code 12 = .ok (.bipush 12, 2) := by decide +kernel
theorem d_Hold_lets_14 : decode prog_3_method_4_code 14 = .ok (.if_icmp .ge 35, 3) := by decide +kernel
theorem d_Hold_lets_17 : decode prog_3_method_4_code 17 = .ok (.aload_n 0, 1) := by decide +kernel
theorem d_Hold_lets_18 : decode prog_3_method_4_code 18 = .ok (.getfield 25, 3) := by decide +kernel
theorem d_Hold_lets_21 : decode prog_3_method_4_code 21 = .ok (.iload_n 2, 1) := by decide +kernel
theorem d_Hold_lets_22 : decode prog_3_method_4_code 22 = .ok (.invokestatic 37, 3) := by decide +kernel
theorem d_Hold_lets_25 : decode prog_3_method_4_code 25 = .ok (.ifCond .eq 18, 3) := by decide +kernel
theorem d_Hold_lets_28 : decode prog_3_method_4_code 28 = .ok (.aload_n 1, 1) := by decide +kernel
theorem d_Hold_lets_29 : decode prog_3_method_4_code 29 = .ok (.aload_n 0, 1) := by decide +kernel
theorem d_Hold_lets_30 : decode prog_3_method_4_code 30 = .ok (.getfield 11, 3) := by decide +kernel
theorem d_Hold_lets_33 : decode prog_3_method_4_code 33 = .ok (.iload_n 2, 1) := by decide +kernel
theorem d_Hold_lets_34 : decode prog_3_method_4_code 34 = .ok (.aaload, 1) := by decide +kernel
theorem d_Hold_lets_35 : decode prog_3_method_4_code 35 = .ok (.invokevirtual 41, 3) := by decide +kernel
theorem d_Hold_lets_38 : decode prog_3_method_4_code 38 = .ok (.ifCond .ge 5, 3) := by decide +kernel
theorem d_Hold_lets_41 : decode prog_3_method_4_code 41 = .ok (.iconst 0, 1) := by decide +kernel
theorem d_Hold_lets_42 : decode prog_3_method_4_code 42 = .ok (.ireturn, 1) := by decide +kernel
theorem d_Hold_lets_43 : decode prog_3_method_4_code 43 = .ok (.iinc 2 1, 3) := by decide +kernel
theorem d_Hold_lets_46 : decode prog_3_method_4_code 46 = .ok (.goto (-35), 3) := by decide +kernel
theorem d_Hold_lets_49 : decode prog_3_method_4_code 49 = .ok (.iconst 1, 1) := by decide +kernel
theorem d_Hold_lets_50 : decode prog_3_method_4_code 50 = .ok (.ireturn, 1) := by decide +kernel
theorem d_Arrow_isZero_0 : decode prog_2_method_7_code 0 = .ok (.aload_n 0, 1) := by decide +kernel
theorem d_Arrow_isZero_1 : decode prog_2_method_7_code 1 = .ok (.getfield 7, 3) := by decide +kernel
theorem d_Arrow_isZero_4 : decode prog_2_method_7_code 4 = .ok (.ifCond .ne 21, 3) := by decide +kernel
theorem d_Arrow_isZero_7 : decode prog_2_method_7_code 7 = .ok (.aload_n 0, 1) := by decide +kernel
theorem d_Arrow_isZero_8 : decode prog_2_method_7_code 8 = .ok (.getfield 13, 3) := by decide +kernel
theorem d_Arrow_isZero_11 : decode prog_2_method_7_code 11 = .ok (.ifCond .ne 14, 3) := by decide +kernel
theorem d_Arrow_isZero_14 : decode prog_2_method_7_code 14 = .ok (.aload_n 0, 1) := by decide +kernel
theorem d_Arrow_isZero_15 : decode prog_2_method_7_code 15 = .ok (.getfield 16, 3) := by decide +kernel
theorem d_Arrow_isZero_18 : decode prog_2_method_7_code 18 = .ok (.ifCond .ne 7, 3) := by decide +kernel
theorem d_Arrow_isZero_21 : decode prog_2_method_7_code 21 = .ok (.iconst 1, 1) := by decide +kernel
theorem d_Arrow_isZero_22 : decode prog_2_method_7_code 22 = .ok (.goto 4, 3) := by decide +kernel
theorem d_Arrow_isZero_25 : decode prog_2_method_7_code 25 = .ok (.iconst 0, 1) := by decide +kernel
theorem d_Arrow_isZero_26 : decode prog_2_method_7_code 26 = .ok (.ireturn, 1) := by decide +kernel
theorem d_WP_putAway_0 : decode prog_1_method_26_code 0 = .ok (.aload_n 0, 1) := by decide +kernel
theorem d_WP_putAway_1 : decode prog_1_method_26_code 1 = .ok (.getfield 38, 3) := by decide +kernel
theorem d_WP_putAway_4 : decode prog_1_method_26_code 4 = .ok (.bipush 64, 2) := by decide +kernel
theorem d_WP_putAway_6 : decode prog_1_method_26_code 6 = .ok (.if_icmp .ge 40, 3) := by decide +kernel
theorem d_WP_putAway_9 : decode prog_1_method_26_code 9 = .ok (.aload_n 0, 1) := by decide +kernel
theorem d_WP_putAway_10 : decode prog_1_method_26_code 10 = .ok (.getfield 27, 3) := by decide +kernel
theorem d_WP_putAway_13 : decode prog_1_method_26_code 13 = .ok (.iload_n 1, 1) := by decide +kernel
theorem d_WP_putAway_14 : decode prog_1_method_26_code 14 = .ok (.iconst 1, 1) := by decide +kernel
theorem d_WP_putAway_15 : decode prog_1_method_26_code 15 = .ok (.bastore, 1) := by decide +kernel
theorem d_WP_putAway_16 : decode prog_1_method_26_code 16 = .ok (.aload_n 0, 1) := by decide +kernel
theorem d_WP_putAway_17 : decode prog_1_method_26_code 17 = .ok (.getfield 31, 3) := by decide +kernel
theorem d_WP_putAway_20 : decode prog_1_method_26_code 20 = .ok (.aload_n 0, 1) := by decide +kernel
theorem d_WP_putAway_21 : decode prog_1_method_26_code 21 = .ok (.getfield 38, 3) := by decide +kernel
theorem d_WP_putAway_24 : decode prog_1_method_26_code 24 = .ok (.iload_n 1, 1) := by decide +kernel
theorem d_WP_putAway_25 : decode prog_1_method_26_code 25 = .ok (.iastore, 1) := by decide +kernel
theorem d_WP_putAway_26 : decode prog_1_method_26_code 26 = .ok (.aload_n 0, 1) := by decide +kernel
theorem d_WP_putAway_27 : decode prog_1_method_26_code 27 = .ok (.getfield 35, 3) := by decide +kernel
theorem d_WP_putAway_30 : decode prog_1_method_26_code 30 = .ok (.aload_n 0, 1) := by decide +kernel
theorem d_WP_putAway_31 : decode prog_1_method_26_code 31 = .ok (.getfield 38, 3) := by decide +kernel
theorem d_WP_putAway_34 : decode prog_1_method_26_code 34 = .ok (.iload_n 2, 1) := by decide +kernel
theorem d_WP_putAway_35 : decode prog_1_method_26_code 35 = .ok (.iastore, 1) := by decide +kernel
theorem d_WP_putAway_36 : decode prog_1_method_26_code 36 = .ok (.aload_n 0, 1) := by decide +kernel
theorem d_WP_putAway_37 : decode prog_1_method_26_code 37 = .ok (.dup, 1) := by decide +kernel
theorem d_WP_putAway_38 : decode prog_1_method_26_code 38 = .ok (.getfield 38, 3) := by decide +kernel
theorem d_WP_putAway_41 : decode prog_1_method_26_code 41 = .ok (.iconst 1, 1) := by decide +kernel
theorem d_WP_putAway_42 : decode prog_1_method_26_code 42 = .ok (.iadd, 1) := by decide +kernel
theorem d_WP_putAway_43 : decode prog_1_method_26_code 43 = .ok (.putfield 38, 3) := by decide +kernel
theorem d_WP_putAway_46 : decode prog_1_method_26_code 46 = .ok (.return_, 1) := by decide +kernel
theorem d_WP_back_0 : decode prog_1_method_16_code 0 = .ok (.aload_n 0, 1) := by decide +kernel
theorem d_WP_back_1 : decode prog_1_method_16_code 1 = .ok (.getfield 38, 3) := by decide +kernel
theorem d_WP_back_4 : decode prog_1_method_16_code 4 = .ok (.istore_n 1, 1) := by decide +kernel
theorem d_WP_back_5 : decode prog_1_method_16_code 5 = .ok (.aload_n 0, 1) := by decide +kernel
theorem d_WP_back_6 : decode prog_1_method_16_code 6 = .ok (.invokevirtual 86, 3) := by decide +kernel
theorem d_WP_back_9 : decode prog_1_method_16_code 9 = .ok (.iload_n 1, 1) := by decide +kernel
theorem d_WP_back_10 : decode prog_1_method_16_code 10 = .ok (.ireturn, 1) := by decide +kernel
theorem d_Law_cell_0 : decode method_2_code 0 = .ok (.iload_n 1, 1) := by decide +kernel
theorem d_Law_cell_1 : decode method_2_code 1 = .ok (.aload_n 0, 1) := by decide +kernel
theorem d_Law_cell_2 : decode method_2_code 2 = .ok (.arraylength, 1) := by decide +kernel
theorem d_Law_cell_3 : decode method_2_code 3 = .ok (.if_icmp .ge 9, 3) := by decide +kernel
theorem d_Law_cell_6 : decode method_2_code 6 = .ok (.aload_n 0, 1) := by decide +kernel
theorem d_Law_cell_7 : decode method_2_code 7 = .ok (.iload_n 1, 1) := by decide +kernel
theorem d_Law_cell_8 : decode method_2_code 8 = .ok (.iaload, 1) := by decide +kernel
theorem d_Law_cell_9 : decode method_2_code 9 = .ok (.goto 4, 3) := by decide +kernel
theorem d_Law_cell_12 : decode method_2_code 12 = .ok (.iconst 0, 1) := by decide +kernel
theorem d_Law_cell_13 : decode method_2_code 13 = .ok (.ireturn, 1) := by decide +kernel
theorem d_Law_joint_0 : decode method_3_code 0 = .ok (.aload 5, 2) := by decide +kernel
theorem d_Law_joint_2 : decode method_3_code 2 = .ok (.iconst 0, 1) := by decide +kernel
theorem d_Law_joint_3 : decode method_3_code 3 = .ok (.aload_n 0, 1) := by decide +kernel
theorem d_Law_joint_4 : decode method_3_code 4 = .ok (.iload_n 1, 1) := by decide +kernel
theorem d_Law_joint_5 : decode method_3_code 5 = .ok (.iload_n 2, 1) := by decide +kernel
theorem d_Law_joint_6 : decode method_3_code 6 = .ok (.iload_n 3, 1) := by decide +kernel
theorem d_Law_joint_7 : decode method_3_code 7 = .ok (.iload 4, 2) := by decide +kernel
theorem d_Law_joint_9 : decode method_3_code 9 = .ok (.invokevirtual 7, 3) := by decide +kernel
theorem d_Law_joint_12 : decode method_3_code 12 = .ok (.i2l, 1) := by decide +kernel
theorem d_Law_joint_13 : decode method_3_code 13 = .ok (.lastore, 1) := by decide +kernel
theorem d_Law_joint_14 : decode method_3_code 14 = .ok (.goto 11, 3) := by decide +kernel
theorem d_Law_joint_17 : decode method_3_code 17 = .ok (.astore 6, 2) := by decide +kernel
theorem d_Law_joint_19 : decode method_3_code 19 = .ok (.iconst 1, 1) := by decide +kernel
theorem d_Law_joint_20 : decode method_3_code 20 = .ok (.ireturn, 1) := by decide +kernel
theorem d_Law_joint_21 : decode method_3_code 21 = .ok (.astore 6, 2) := by decide +kernel
theorem d_Law_joint_23 : decode method_3_code 23 = .ok (.iconst 2, 1) := by decide +kernel
theorem d_Law_joint_24 : decode method_3_code 24 = .ok (.ireturn, 1) := by decide +kernel
theorem d_Law_joint_25 : decode method_3_code 25 = .ok (.iconst 0, 1) := by decide +kernel
theorem d_Law_joint_26 : decode method_3_code 26 = .ok (.ireturn, 1) := by decide +kernel
theorem d_WP_joint_0 : decode prog_1_method_2_code 0 = .ok (.aload_n 0, 1) := by decide +kernel
theorem d_WP_joint_1 : decode prog_1_method_2_code 1 = .ok (.iload_n 1, 1) := by decide +kernel
theorem d_WP_joint_2 : decode prog_1_method_2_code 2 = .ok (.iload_n 2, 1) := by decide +kernel
theorem d_WP_joint_3 : decode prog_1_method_2_code 3 = .ok (.iload_n 3, 1) := by decide +kernel
theorem d_WP_joint_4 : decode prog_1_method_2_code 4 = .ok (.iload 4, 2) := by decide +kernel
theorem d_WP_joint_6 : decode prog_1_method_2_code 6 = .ok (.invokevirtual 64, 3) := by decide +kernel
theorem d_WP_joint_9 : decode prog_1_method_2_code 9 = .ok (.ifCond .eq 18, 3) := by decide +kernel
theorem d_WP_joint_12 : decode prog_1_method_2_code 12 = .ok (.aload_n 0, 1) := by decide +kernel
theorem d_WP_joint_13 : decode prog_1_method_2_code 13 = .ok (.getfield 57, 3) := by decide +kernel
theorem d_WP_joint_16 : decode prog_1_method_2_code 16 = .ok (.iload_n 1, 1) := by decide +kernel
theorem d_WP_joint_17 : decode prog_1_method_2_code 17 = .ok (.iload_n 2, 1) := by decide +kernel
theorem d_WP_joint_18 : decode prog_1_method_2_code 18 = .ok (.iload_n 3, 1) := by decide +kernel
theorem d_WP_joint_19 : decode prog_1_method_2_code 19 = .ok (.iload 4, 2) := by decide +kernel
theorem d_WP_joint_21 : decode prog_1_method_2_code 21 = .ok (.invokevirtual 68, 3) := by decide +kernel
theorem d_WP_joint_24 : decode prog_1_method_2_code 24 = .ok (.ifCond .eq 13, 3) := by decide +kernel
theorem d_WP_joint_27 : decode prog_1_method_2_code 27 = .ok (.new 71, 3) := by decide +kernel
theorem d_WP_joint_30 : decode prog_1_method_2_code 30 = .ok (.dup, 1) := by decide +kernel
theorem d_WP_joint_31 : decode prog_1_method_2_code 31 = .ok (.ldc 73, 2) := by decide +kernel
theorem d_WP_joint_33 : decode prog_1_method_2_code 33 = .ok (.invokespecial 75, 3) := by decide +kernel
theorem d_WP_joint_36 : decode prog_1_method_2_code 36 = .ok (.athrow, 1) := by decide +kernel
theorem d_WP_joint_37 : decode prog_1_method_2_code 37 = .ok (.aload_n 0, 1) := by decide +kernel
theorem d_WP_joint_38 : decode prog_1_method_2_code 38 = .ok (.getfield 57, 3) := by decide +kernel
theorem d_WP_joint_41 : decode prog_1_method_2_code 41 = .ok (.getfield 78, 3) := by decide +kernel
theorem d_WP_joint_44 : decode prog_1_method_2_code 44 = .ok (.bipush 6, 2) := by decide +kernel
theorem d_WP_joint_46 : decode prog_1_method_2_code 46 = .ok (.if_icmp .lt 13, 3) := by decide +kernel
theorem d_WP_joint_49 : decode prog_1_method_2_code 49 = .ok (.new 81, 3) := by decide +kernel
theorem d_WP_joint_52 : decode prog_1_method_2_code 52 = .ok (.dup, 1) := by decide +kernel
theorem d_WP_joint_53 : decode prog_1_method_2_code 53 = .ok (.ldc 83, 2) := by decide +kernel
theorem d_WP_joint_55 : decode prog_1_method_2_code 55 = .ok (.invokespecial 85, 3) := by decide +kernel
theorem d_WP_joint_58 : decode prog_1_method_2_code 58 = .ok (.athrow, 1) := by decide +kernel
theorem d_WP_joint_59 : decode prog_1_method_2_code 59 = .ok (.aload_n 0, 1) := by decide +kernel
theorem d_WP_joint_60 : decode prog_1_method_2_code 60 = .ok (.invokevirtual 86, 3) := by decide +kernel
theorem d_WP_joint_63 : decode prog_1_method_2_code 63 = .ok (.aload_n 0, 1) := by decide +kernel
theorem d_WP_joint_64 : decode prog_1_method_2_code 64 = .ok (.getfield 57, 3) := by decide +kernel
theorem d_WP_joint_67 : decode prog_1_method_2_code 67 = .ok (.iload_n 1, 1) := by decide +kernel
theorem d_WP_joint_68 : decode prog_1_method_2_code 68 = .ok (.iload_n 2, 1) := by decide +kernel
theorem d_WP_joint_69 : decode prog_1_method_2_code 69 = .ok (.iload_n 3, 1) := by decide +kernel
theorem d_WP_joint_70 : decode prog_1_method_2_code 70 = .ok (.iload 4, 2) := by decide +kernel
theorem d_WP_joint_72 : decode prog_1_method_2_code 72 = .ok (.invokevirtual 89, 3) := by decide +kernel
theorem d_WP_joint_75 : decode prog_1_method_2_code 75 = .ok (.aload_n 0, 1) := by decide +kernel
theorem d_WP_joint_76 : decode prog_1_method_2_code 76 = .ok (.getfield 57, 3) := by decide +kernel
theorem d_WP_joint_79 : decode prog_1_method_2_code 79 = .ok (.getfield 78, 3) := by decide +kernel
theorem d_WP_joint_82 : decode prog_1_method_2_code 82 = .ok (.iconst 1, 1) := by decide +kernel
theorem d_WP_joint_83 : decode prog_1_method_2_code 83 = .ok (.isub, 1) := by decide +kernel
theorem d_WP_joint_84 : decode prog_1_method_2_code 84 = .ok (.ireturn, 1) := by decide +kernel
theorem d_WP_isJoint_0 : decode prog_1_method_23_code 0 = .ok (.iload_n 1, 1) := by decide +kernel
theorem d_WP_isJoint_1 : decode prog_1_method_23_code 1 = .ok (.bipush 6, 2) := by decide +kernel
theorem d_WP_isJoint_3 : decode prog_1_method_23_code 3 = .ok (.invokestatic 209, 3) := by decide +kernel
end
section
theorem d_WP_isJoint_6 : decode prog_1_method_23_code 6 = .ok (.ifCond .eq 50, 3) := by decide +kernel
theorem d_WP_isJoint_9 : decode prog_1_method_23_code 9 = .ok (.iload_n 2, 1) := by decide +kernel
theorem d_WP_isJoint_10 : decode prog_1_method_23_code 10 = .ok (.bipush 6, 2) := by decide +kernel
theorem d_WP_isJoint_12 : decode prog_1_method_23_code 12 = .ok (.invokestatic 209, 3) := by decide +kernel
theorem d_WP_isJoint_15 : decode prog_1_method_23_code 15 = .ok (.ifCond .eq 41, 3) := by decide +kernel
theorem d_WP_isJoint_18 : decode prog_1_method_23_code 18 = .ok (.iload_n 3, 1) := by decide +kernel
theorem d_WP_isJoint_19 : decode prog_1_method_23_code 19 = .ok (.bipush 6, 2) := by decide +kernel
theorem d_WP_isJoint_21 : decode prog_1_method_23_code 21 = .ok (.invokestatic 209, 3) := by decide +kernel
theorem d_WP_isJoint_24 : decode prog_1_method_23_code 24 = .ok (.ifCond .eq 32, 3) := by decide +kernel
theorem d_WP_isJoint_27 : decode prog_1_method_23_code 27 = .ok (.iload 4, 2) := by decide +kernel
theorem d_WP_isJoint_29 : decode prog_1_method_23_code 29 = .ok (.bipush 100, 2) := by decide +kernel
theorem d_WP_isJoint_31 : decode prog_1_method_23_code 31 = .ok (.invokestatic 209, 3) := by decide +kernel
theorem d_WP_isJoint_34 : decode prog_1_method_23_code 34 = .ok (.ifCond .eq 22, 3) := by decide +kernel
theorem d_WP_isJoint_37 : decode prog_1_method_23_code 37 = .ok (.aload_n 0, 1) := by decide +kernel
theorem d_WP_isJoint_38 : decode prog_1_method_23_code 38 = .ok (.getfield 57, 3) := by decide +kernel
theorem d_WP_isJoint_41 : decode prog_1_method_23_code 41 = .ok (.iload_n 1, 1) := by decide +kernel
theorem d_WP_isJoint_42 : decode prog_1_method_23_code 42 = .ok (.iload_n 2, 1) := by decide +kernel
theorem d_WP_isJoint_43 : decode prog_1_method_23_code 43 = .ok (.iload_n 3, 1) := by decide +kernel
theorem d_WP_isJoint_44 : decode prog_1_method_23_code 44 = .ok (.iload 4, 2) := by decide +kernel
theorem d_WP_isJoint_46 : decode prog_1_method_23_code 46 = .ok (.invokevirtual 212, 3) := by decide +kernel
theorem d_WP_isJoint_49 : decode prog_1_method_23_code 49 = .ok (.ifCond .eq 7, 3) := by decide +kernel
theorem d_WP_isJoint_52 : decode prog_1_method_23_code 52 = .ok (.iconst 1, 1) := by decide +kernel
theorem d_WP_isJoint_53 : decode prog_1_method_23_code 53 = .ok (.goto 4, 3) := by decide +kernel
theorem d_WP_isJoint_56 : decode prog_1_method_23_code 56 = .ok (.iconst 0, 1) := by decide +kernel
theorem d_WP_isJoint_57 : decode prog_1_method_23_code 57 = .ok (.ireturn, 1) := by decide +kernel
theorem d_WP_isWithin_0 : decode prog_1_method_21_code 0 = .ok (.iload_n 0, 1) := by decide +kernel
theorem d_WP_isWithin_1 : decode prog_1_method_21_code 1 = .ok (.iload_n 1, 1) := by decide +kernel
theorem d_WP_isWithin_2 : decode prog_1_method_21_code 2 = .ok (.ineg, 1) := by decide +kernel
theorem d_WP_isWithin_3 : decode prog_1_method_21_code 3 = .ok (.if_icmp .lt 12, 3) := by decide +kernel
theorem d_WP_isWithin_6 : decode prog_1_method_21_code 6 = .ok (.iload_n 0, 1) := by decide +kernel
theorem d_WP_isWithin_7 : decode prog_1_method_21_code 7 = .ok (.iload_n 1, 1) := by decide +kernel
theorem d_WP_isWithin_8 : decode prog_1_method_21_code 8 = .ok (.if_icmp .gt 7, 3) := by decide +kernel
theorem d_WP_isWithin_11 : decode prog_1_method_21_code 11 = .ok (.iconst 1, 1) := by decide +kernel
theorem d_WP_isWithin_12 : decode prog_1_method_21_code 12 = .ok (.goto 4, 3) := by decide +kernel
theorem d_WP_isWithin_15 : decode prog_1_method_21_code 15 = .ok (.iconst 0, 1) := by decide +kernel
theorem d_WP_isWithin_16 : decode prog_1_method_21_code 16 = .ok (.ireturn, 1) := by decide +kernel
theorem d_Rock_isCutBy_0 : decode prog_6_method_2_code 0 = .ok (.iconst 0, 1) := by decide +kernel
theorem d_Rock_isCutBy_1 : decode prog_6_method_2_code 1 = .ok (.iload_n 1, 1) := by decide +kernel
theorem d_Rock_isCutBy_2 : decode prog_6_method_2_code 2 = .ok (.aload_n 0, 1) := by decide +kernel
theorem d_Rock_isCutBy_3 : decode prog_6_method_2_code 3 = .ok (.getfield 66, 3) := by decide +kernel
theorem d_Rock_isCutBy_6 : decode prog_6_method_2_code 6 = .ok (.imul, 1) := by decide +kernel
theorem d_Rock_isCutBy_7 : decode prog_6_method_2_code 7 = .ok (.invokestatic 87, 3) := by decide +kernel
theorem d_Rock_isCutBy_10 : decode prog_6_method_2_code 10 = .ok (.iconst 0, 1) := by decide +kernel
theorem d_Rock_isCutBy_11 : decode prog_6_method_2_code 11 = .ok (.iload_n 2, 1) := by decide +kernel
theorem d_Rock_isCutBy_12 : decode prog_6_method_2_code 12 = .ok (.aload_n 0, 1) := by decide +kernel
theorem d_Rock_isCutBy_13 : decode prog_6_method_2_code 13 = .ok (.getfield 69, 3) := by decide +kernel
theorem d_Rock_isCutBy_16 : decode prog_6_method_2_code 16 = .ok (.imul, 1) := by decide +kernel
theorem d_Rock_isCutBy_17 : decode prog_6_method_2_code 17 = .ok (.invokestatic 87, 3) := by decide +kernel
theorem d_Rock_isCutBy_20 : decode prog_6_method_2_code 20 = .ok (.iadd, 1) := by decide +kernel
theorem d_Rock_isCutBy_21 : decode prog_6_method_2_code 21 = .ok (.iconst 0, 1) := by decide +kernel
theorem d_Rock_isCutBy_22 : decode prog_6_method_2_code 22 = .ok (.iload_n 3, 1) := by decide +kernel
theorem d_Rock_isCutBy_23 : decode prog_6_method_2_code 23 = .ok (.aload_n 0, 1) := by decide +kernel
theorem d_Rock_isCutBy_24 : decode prog_6_method_2_code 24 = .ok (.getfield 72, 3) := by decide +kernel
theorem d_Rock_isCutBy_27 : decode prog_6_method_2_code 27 = .ok (.imul, 1) := by decide +kernel
theorem d_Rock_isCutBy_28 : decode prog_6_method_2_code 28 = .ok (.invokestatic 87, 3) := by decide +kernel
theorem d_Rock_isCutBy_31 : decode prog_6_method_2_code 31 = .ok (.iadd, 1) := by decide +kernel
theorem d_Rock_isCutBy_32 : decode prog_6_method_2_code 32 = .ok (.istore 5, 2) := by decide +kernel
theorem d_Rock_isCutBy_34 : decode prog_6_method_2_code 34 = .ok (.iconst 0, 1) := by decide +kernel
theorem d_Rock_isCutBy_35 : decode prog_6_method_2_code 35 = .ok (.iload_n 1, 1) := by decide +kernel
theorem d_Rock_isCutBy_36 : decode prog_6_method_2_code 36 = .ok (.aload_n 0, 1) := by decide +kernel
theorem d_Rock_isCutBy_37 : decode prog_6_method_2_code 37 = .ok (.getfield 66, 3) := by decide +kernel
theorem d_Rock_isCutBy_40 : decode prog_6_method_2_code 40 = .ok (.imul, 1) := by decide +kernel
theorem d_Rock_isCutBy_41 : decode prog_6_method_2_code 41 = .ok (.invokestatic 93, 3) := by decide +kernel
theorem d_Rock_isCutBy_44 : decode prog_6_method_2_code 44 = .ok (.iconst 0, 1) := by decide +kernel
theorem d_Rock_isCutBy_45 : decode prog_6_method_2_code 45 = .ok (.iload_n 2, 1) := by decide +kernel
theorem d_Rock_isCutBy_46 : decode prog_6_method_2_code 46 = .ok (.aload_n 0, 1) := by decide +kernel
theorem d_Rock_isCutBy_47 : decode prog_6_method_2_code 47 = .ok (.getfield 69, 3) := by decide +kernel
theorem d_Rock_isCutBy_50 : decode prog_6_method_2_code 50 = .ok (.imul, 1) := by decide +kernel
theorem d_Rock_isCutBy_51 : decode prog_6_method_2_code 51 = .ok (.invokestatic 93, 3) := by decide +kernel
theorem d_Rock_isCutBy_54 : decode prog_6_method_2_code 54 = .ok (.iadd, 1) := by decide +kernel
theorem d_Rock_isCutBy_55 : decode prog_6_method_2_code 55 = .ok (.iconst 0, 1) := by decide +kernel
theorem d_Rock_isCutBy_56 : decode prog_6_method_2_code 56 = .ok (.iload_n 3, 1) := by decide +kernel
theorem d_Rock_isCutBy_57 : decode prog_6_method_2_code 57 = .ok (.aload_n 0, 1) := by decide +kernel
theorem d_Rock_isCutBy_58 : decode prog_6_method_2_code 58 = .ok (.getfield 72, 3) := by decide +kernel
theorem d_Rock_isCutBy_61 : decode prog_6_method_2_code 61 = .ok (.imul, 1) := by decide +kernel
theorem d_Rock_isCutBy_62 : decode prog_6_method_2_code 62 = .ok (.invokestatic 93, 3) := by decide +kernel
theorem d_Rock_isCutBy_65 : decode prog_6_method_2_code 65 = .ok (.iadd, 1) := by decide +kernel
theorem d_Rock_isCutBy_66 : decode prog_6_method_2_code 66 = .ok (.istore 6, 2) := by decide +kernel
theorem d_Rock_isCutBy_68 : decode prog_6_method_2_code 68 = .ok (.iload 5, 2) := by decide +kernel
theorem d_Rock_isCutBy_70 : decode prog_6_method_2_code 70 = .ok (.iload 4, 2) := by decide +kernel
theorem d_Rock_isCutBy_72 : decode prog_6_method_2_code 72 = .ok (.if_icmp .ge 14, 3) := by decide +kernel
theorem d_Rock_isCutBy_75 : decode prog_6_method_2_code 75 = .ok (.iload 4, 2) := by decide +kernel
theorem d_Rock_isCutBy_77 : decode prog_6_method_2_code 77 = .ok (.iload 6, 2) := by decide +kernel
theorem d_Rock_isCutBy_79 : decode prog_6_method_2_code 79 = .ok (.if_icmp .ge 7, 3) := by decide +kernel
theorem d_Rock_isCutBy_82 : decode prog_6_method_2_code 82 = .ok (.iconst 1, 1) := by decide +kernel
theorem d_Rock_isCutBy_83 : decode prog_6_method_2_code 83 = .ok (.goto 4, 3) := by decide +kernel
theorem d_Rock_isCutBy_86 : decode prog_6_method_2_code 86 = .ok (.iconst 0, 1) := by decide +kernel
theorem d_Rock_isCutBy_87 : decode prog_6_method_2_code 87 = .ok (.ireturn, 1) := by decide +kernel
theorem d_Rock_hasJoint_0 : decode prog_6_method_3_code 0 = .ok (.iconst 0, 1) := by decide +kernel
theorem d_Rock_hasJoint_1 : decode prog_6_method_3_code 1 = .ok (.istore 5, 2) := by decide +kernel
theorem d_Rock_hasJoint_3 : decode prog_6_method_3_code 3 = .ok (.iload 5, 2) := by decide +kernel
theorem d_Rock_hasJoint_5 : decode prog_6_method_3_code 5 = .ok (.aload_n 0, 1) := by decide +kernel
theorem d_Rock_hasJoint_6 : decode prog_6_method_3_code 6 = .ok (.getfield 37, 3) := by decide +kernel
theorem d_Rock_hasJoint_9 : decode prog_6_method_3_code 9 = .ok (.if_icmp .ge 29, 3) := by decide +kernel
theorem d_Rock_hasJoint_12 : decode prog_6_method_3_code 12 = .ok (.aload_n 0, 1) := by decide +kernel
theorem d_Rock_hasJoint_13 : decode prog_6_method_3_code 13 = .ok (.getfield 11, 3) := by decide +kernel
theorem d_Rock_hasJoint_16 : decode prog_6_method_3_code 16 = .ok (.iload 5, 2) := by decide +kernel
theorem d_Rock_hasJoint_18 : decode prog_6_method_3_code 18 = .ok (.aaload, 1) := by decide +kernel
theorem d_Rock_hasJoint_19 : decode prog_6_method_3_code 19 = .ok (.iload_n 1, 1) := by decide +kernel
theorem d_Rock_hasJoint_20 : decode prog_6_method_3_code 20 = .ok (.iload_n 2, 1) := by decide +kernel
theorem d_Rock_hasJoint_21 : decode prog_6_method_3_code 21 = .ok (.iload_n 3, 1) := by decide +kernel
theorem d_Rock_hasJoint_22 : decode prog_6_method_3_code 22 = .ok (.iload 4, 2) := by decide +kernel
theorem d_Rock_hasJoint_24 : decode prog_6_method_3_code 24 = .ok (.invokevirtual 96, 3) := by decide +kernel
theorem d_Rock_hasJoint_27 : decode prog_6_method_3_code 27 = .ok (.ifCond .eq 5, 3) := by decide +kernel
theorem d_Rock_hasJoint_30 : decode prog_6_method_3_code 30 = .ok (.iconst 1, 1) := by decide +kernel
theorem d_Rock_hasJoint_31 : decode prog_6_method_3_code 31 = .ok (.ireturn, 1) := by decide +kernel
theorem d_Rock_hasJoint_32 : decode prog_6_method_3_code 32 = .ok (.iinc 5 1, 3) := by decide +kernel
theorem d_Rock_hasJoint_35 : decode prog_6_method_3_code 35 = .ok (.goto (-32), 3) := by decide +kernel
theorem d_Rock_hasJoint_38 : decode prog_6_method_3_code 38 = .ok (.iconst 0, 1) := by decide +kernel
theorem d_Rock_hasJoint_39 : decode prog_6_method_3_code 39 = .ok (.ireturn, 1) := by decide +kernel
theorem d_Plane_isSame_0 : decode prog_4_method_4_code 0 = .ok (.aload_n 0, 1) := by decide +kernel
theorem d_Plane_isSame_1 : decode prog_4_method_4_code 1 = .ok (.getfield 10, 3) := by decide +kernel
theorem d_Plane_isSame_4 : decode prog_4_method_4_code 4 = .ok (.getfield 24, 3) := by decide +kernel
theorem d_Plane_isSame_7 : decode prog_4_method_4_code 7 = .ok (.iload_n 2, 1) := by decide +kernel
theorem d_Plane_isSame_8 : decode prog_4_method_4_code 8 = .ok (.imul, 1) := by decide +kernel
theorem d_Plane_isSame_9 : decode prog_4_method_4_code 9 = .ok (.aload_n 0, 1) := by decide +kernel
theorem d_Plane_isSame_10 : decode prog_4_method_4_code 10 = .ok (.getfield 10, 3) := by decide +kernel
theorem d_Plane_isSame_13 : decode prog_4_method_4_code 13 = .ok (.getfield 27, 3) := by decide +kernel
theorem d_Plane_isSame_16 : decode prog_4_method_4_code 16 = .ok (.iload_n 1, 1) := by decide +kernel
theorem d_Plane_isSame_17 : decode prog_4_method_4_code 17 = .ok (.imul, 1) := by decide +kernel
theorem d_Plane_isSame_18 : decode prog_4_method_4_code 18 = .ok (.if_icmp .ne 106, 3) := by decide +kernel
theorem d_Plane_isSame_21 : decode prog_4_method_4_code 21 = .ok (.aload_n 0, 1) := by decide +kernel
theorem d_Plane_isSame_22 : decode prog_4_method_4_code 22 = .ok (.getfield 10, 3) := by decide +kernel
theorem d_Plane_isSame_25 : decode prog_4_method_4_code 25 = .ok (.getfield 24, 3) := by decide +kernel
theorem d_Plane_isSame_28 : decode prog_4_method_4_code 28 = .ok (.iload_n 3, 1) := by decide +kernel
theorem d_Plane_isSame_29 : decode prog_4_method_4_code 29 = .ok (.imul, 1) := by decide +kernel
theorem d_Plane_isSame_30 : decode prog_4_method_4_code 30 = .ok (.aload_n 0, 1) := by decide +kernel
theorem d_Plane_isSame_31 : decode prog_4_method_4_code 31 = .ok (.getfield 10, 3) := by decide +kernel
theorem d_Plane_isSame_34 : decode prog_4_method_4_code 34 = .ok (.getfield 30, 3) := by decide +kernel
theorem d_Plane_isSame_37 : decode prog_4_method_4_code 37 = .ok (.iload_n 1, 1) := by decide +kernel
theorem d_Plane_isSame_38 : decode prog_4_method_4_code 38 = .ok (.imul, 1) := by decide +kernel
theorem d_Plane_isSame_39 : decode prog_4_method_4_code 39 = .ok (.if_icmp .ne 85, 3) := by decide +kernel
theorem d_Plane_isSame_42 : decode prog_4_method_4_code 42 = .ok (.aload_n 0, 1) := by decide +kernel
theorem d_Plane_isSame_43 : decode prog_4_method_4_code 43 = .ok (.getfield 10, 3) := by decide +kernel
theorem d_Plane_isSame_46 : decode prog_4_method_4_code 46 = .ok (.getfield 27, 3) := by decide +kernel
theorem d_Plane_isSame_49 : decode prog_4_method_4_code 49 = .ok (.iload_n 3, 1) := by decide +kernel
theorem d_Plane_isSame_50 : decode prog_4_method_4_code 50 = .ok (.imul, 1) := by decide +kernel
theorem d_Plane_isSame_51 : decode prog_4_method_4_code 51 = .ok (.aload_n 0, 1) := by decide +kernel
theorem d_Plane_isSame_52 : decode prog_4_method_4_code 52 = .ok (.getfield 10, 3) := by decide +kernel
theorem d_Plane_isSame_55 : decode prog_4_method_4_code 55 = .ok (.getfield 30, 3) := by decide +kernel
theorem d_Plane_isSame_58 : decode prog_4_method_4_code 58 = .ok (.iload_n 2, 1) := by decide +kernel
theorem d_Plane_isSame_59 : decode prog_4_method_4_code 59 = .ok (.imul, 1) := by decide +kernel
theorem d_Plane_isSame_60 : decode prog_4_method_4_code 60 = .ok (.if_icmp .ne 64, 3) := by decide +kernel
theorem d_Plane_isSame_63 : decode prog_4_method_4_code 63 = .ok (.aload_n 0, 1) := by decide +kernel
theorem d_Plane_isSame_64 : decode prog_4_method_4_code 64 = .ok (.getfield 10, 3) := by decide +kernel
theorem d_Plane_isSame_67 : decode prog_4_method_4_code 67 = .ok (.getfield 24, 3) := by decide +kernel
theorem d_Plane_isSame_70 : decode prog_4_method_4_code 70 = .ok (.iload 4, 2) := by decide +kernel
theorem d_Plane_isSame_72 : decode prog_4_method_4_code 72 = .ok (.imul, 1) := by decide +kernel
theorem d_Plane_isSame_73 : decode prog_4_method_4_code 73 = .ok (.aload_n 0, 1) := by decide +kernel
theorem d_Plane_isSame_74 : decode prog_4_method_4_code 74 = .ok (.getfield 16, 3) := by decide +kernel
theorem d_Plane_isSame_77 : decode prog_4_method_4_code 77 = .ok (.iload_n 1, 1) := by decide +kernel
theorem d_Plane_isSame_78 : decode prog_4_method_4_code 78 = .ok (.imul, 1) := by decide +kernel
theorem d_Plane_isSame_79 : decode prog_4_method_4_code 79 = .ok (.if_icmp .ne 45, 3) := by decide +kernel
theorem d_Plane_isSame_82 : decode prog_4_method_4_code 82 = .ok (.aload_n 0, 1) := by decide +kernel
theorem d_Plane_isSame_83 : decode prog_4_method_4_code 83 = .ok (.getfield 10, 3) := by decide +kernel
theorem d_Plane_isSame_86 : decode prog_4_method_4_code 86 = .ok (.getfield 27, 3) := by decide +kernel
theorem d_Plane_isSame_89 : decode prog_4_method_4_code 89 = .ok (.iload 4, 2) := by decide +kernel
theorem d_Plane_isSame_91 : decode prog_4_method_4_code 91 = .ok (.imul, 1) := by decide +kernel
theorem d_Plane_isSame_92 : decode prog_4_method_4_code 92 = .ok (.aload_n 0, 1) := by decide +kernel
theorem d_Plane_isSame_93 : decode prog_4_method_4_code 93 = .ok (.getfield 16, 3) := by decide +kernel
theorem d_Plane_isSame_96 : decode prog_4_method_4_code 96 = .ok (.iload_n 2, 1) := by decide +kernel
theorem d_Plane_isSame_97 : decode prog_4_method_4_code 97 = .ok (.imul, 1) := by decide +kernel
theorem d_Plane_isSame_98 : decode prog_4_method_4_code 98 = .ok (.if_icmp .ne 26, 3) := by decide +kernel
theorem d_Plane_isSame_101 : decode prog_4_method_4_code 101 = .ok (.aload_n 0, 1) := by decide +kernel
theorem d_Plane_isSame_102 : decode prog_4_method_4_code 102 = .ok (.getfield 10, 3) := by decide +kernel
theorem d_Plane_isSame_105 : decode prog_4_method_4_code 105 = .ok (.getfield 30, 3) := by decide +kernel
theorem d_Plane_isSame_108 : decode prog_4_method_4_code 108 = .ok (.iload 4, 2) := by decide +kernel
theorem d_Plane_isSame_110 : decode prog_4_method_4_code 110 = .ok (.imul, 1) := by decide +kernel
theorem d_Plane_isSame_111 : decode prog_4_method_4_code 111 = .ok (.aload_n 0, 1) := by decide +kernel
theorem d_Plane_isSame_112 : decode prog_4_method_4_code 112 = .ok (.getfield 16, 3) := by decide +kernel
theorem d_Plane_isSame_115 : decode prog_4_method_4_code 115 = .ok (.iload_n 3, 1) := by decide +kernel
theorem d_Plane_isSame_116 : decode prog_4_method_4_code 116 = .ok (.imul, 1) := by decide +kernel
theorem d_Plane_isSame_117 : decode prog_4_method_4_code 117 = .ok (.if_icmp .ne 7, 3) := by decide +kernel
theorem d_Plane_isSame_120 : decode prog_4_method_4_code 120 = .ok (.iconst 1, 1) := by decide +kernel
theorem d_Plane_isSame_121 : decode prog_4_method_4_code 121 = .ok (.goto 4, 3) := by decide +kernel
theorem d_Plane_isSame_124 : decode prog_4_method_4_code 124 = .ok (.iconst 0, 1) := by decide +kernel
theorem d_Plane_isSame_125 : decode prog_4_method_4_code 125 = .ok (.ireturn, 1) := by decide +kernel
theorem d_Rock_addJoint_0 : decode prog_6_method_4_code 0 = .ok (.aload_n 0, 1) := by decide +kernel
theorem d_Rock_addJoint_1 : decode prog_6_method_4_code 1 = .ok (.getfield 37, 3) := by decide +kernel
theorem d_Rock_addJoint_4 : decode prog_6_method_4_code 4 = .ok (.bipush 6, 2) := by decide +kernel
theorem d_Rock_addJoint_6 : decode prog_6_method_4_code 6 = .ok (.if_icmp .ge 58, 3) := by decide +kernel
theorem d_Rock_addJoint_9 : decode prog_6_method_4_code 9 = .ok (.aload_n 0, 1) := by decide +kernel
theorem d_Rock_addJoint_10 : decode prog_6_method_4_code 10 = .ok (.getfield 11, 3) := by decide +kernel
theorem d_Rock_addJoint_13 : decode prog_6_method_4_code 13 = .ok (.aload_n 0, 1) := by decide +kernel
theorem d_Rock_addJoint_14 : decode prog_6_method_4_code 14 = .ok (.getfield 37, 3) := by decide +kernel
theorem d_Rock_addJoint_17 : decode prog_6_method_4_code 17 = .ok (.aaload, 1) := by decide +kernel
theorem d_Rock_addJoint_18 : decode prog_6_method_4_code 18 = .ok (.iload_n 1, 1) := by decide +kernel
theorem d_Rock_addJoint_19 : decode prog_6_method_4_code 19 = .ok (.iload_n 2, 1) := by decide +kernel
theorem d_Rock_addJoint_20 : decode prog_6_method_4_code 20 = .ok (.iload_n 3, 1) := by decide +kernel
theorem d_Rock_addJoint_21 : decode prog_6_method_4_code 21 = .ok (.iload 4, 2) := by decide +kernel
theorem d_Rock_addJoint_23 : decode prog_6_method_4_code 23 = .ok (.invokevirtual 76, 3) := by decide +kernel
theorem d_Rock_addJoint_26 : decode prog_6_method_4_code 26 = .ok (.aload_n 0, 1) := by decide +kernel
theorem d_Rock_addJoint_27 : decode prog_6_method_4_code 27 = .ok (.getfield 44, 3) := by decide +kernel
theorem d_Rock_addJoint_30 : decode prog_6_method_4_code 30 = .ok (.aload_n 0, 1) := by decide +kernel
theorem d_Rock_addJoint_31 : decode prog_6_method_4_code 31 = .ok (.getfield 37, 3) := by decide +kernel
theorem d_Rock_addJoint_34 : decode prog_6_method_4_code 34 = .ok (.aload_n 0, 1) := by decide +kernel
theorem d_Rock_addJoint_35 : decode prog_6_method_4_code 35 = .ok (.getfield 20, 3) := by decide +kernel
theorem d_Rock_addJoint_38 : decode prog_6_method_4_code 38 = .ok (.getfield 100, 3) := by decide +kernel
theorem d_Rock_addJoint_41 : decode prog_6_method_4_code 41 = .ok (.iastore, 1) := by decide +kernel
theorem d_Rock_addJoint_42 : decode prog_6_method_4_code 42 = .ok (.aload_n 0, 1) := by decide +kernel
theorem d_Rock_addJoint_43 : decode prog_6_method_4_code 43 = .ok (.aload_n 0, 1) := by decide +kernel
theorem d_Rock_addJoint_44 : decode prog_6_method_4_code 44 = .ok (.getfield 37, 3) := by decide +kernel
theorem d_Rock_addJoint_47 : decode prog_6_method_4_code 47 = .ok (.invokevirtual 80, 3) := by decide +kernel
theorem d_Rock_addJoint_50 : decode prog_6_method_4_code 50 = .ok (.aload_n 0, 1) := by decide +kernel
theorem d_Rock_addJoint_51 : decode prog_6_method_4_code 51 = .ok (.dup, 1) := by decide +kernel
theorem d_Rock_addJoint_52 : decode prog_6_method_4_code 52 = .ok (.getfield 37, 3) := by decide +kernel
theorem d_Rock_addJoint_55 : decode prog_6_method_4_code 55 = .ok (.iconst 1, 1) := by decide +kernel
theorem d_Rock_addJoint_56 : decode prog_6_method_4_code 56 = .ok (.iadd, 1) := by decide +kernel
theorem d_Rock_addJoint_57 : decode prog_6_method_4_code 57 = .ok (.putfield 37, 3) := by decide +kernel
theorem d_Rock_addJoint_60 : decode prog_6_method_4_code 60 = .ok (.aload_n 0, 1) := by decide +kernel
theorem d_Rock_addJoint_61 : decode prog_6_method_4_code 61 = .ok (.invokevirtual 84, 3) := by decide +kernel
theorem d_Rock_addJoint_64 : decode prog_6_method_4_code 64 = .ok (.return_, 1) := by decide +kernel
theorem d_Law_open_0 : decode method_4_code 0 = .ok (.aload_n 3, 1) := by decide +kernel
theorem d_Law_open_1 : decode method_4_code 1 = .ok (.iconst 0, 1) := by decide +kernel
theorem d_Law_open_2 : decode method_4_code 2 = .ok (.aload_n 0, 1) := by decide +kernel
theorem d_Law_open_3 : decode method_4_code 3 = .ok (.iload_n 1, 1) := by decide +kernel
theorem d_Law_open_4 : decode method_4_code 4 = .ok (.iload_n 2, 1) := by decide +kernel
theorem d_Law_open_5 : decode method_4_code 5 = .ok (.invokevirtual 17, 3) := by decide +kernel
theorem d_Law_open_8 : decode method_4_code 8 = .ok (.ifCond .eq 7, 3) := by decide +kernel
theorem d_Law_open_11 : decode method_4_code 11 = .ok (.lconst 1, 1) := by decide +kernel
theorem d_Law_open_12 : decode method_4_code 12 = .ok (.goto 4, 3) := by decide +kernel
theorem d_Law_open_15 : decode method_4_code 15 = .ok (.lconst 0, 1) := by decide +kernel
theorem d_Law_open_16 : decode method_4_code 16 = .ok (.lastore, 1) := by decide +kernel
theorem d_Law_open_17 : decode method_4_code 17 = .ok (.goto 7, 3) := by decide +kernel
theorem d_Law_open_20 : decode method_4_code 20 = .ok (.astore 4, 2) := by decide +kernel
theorem d_Law_open_22 : decode method_4_code 22 = .ok (.iconst 1, 1) := by decide +kernel
theorem d_Law_open_23 : decode method_4_code 23 = .ok (.ireturn, 1) := by decide +kernel
theorem d_Law_open_24 : decode method_4_code 24 = .ok (.iconst 0, 1) := by decide +kernel
theorem d_Law_open_25 : decode method_4_code 25 = .ok (.ireturn, 1) := by decide +kernel
theorem d_WP_open_0 : decode prog_1_method_4_code 0 = .ok (.iload_n 1, 1) := by decide +kernel
theorem d_WP_open_1 : decode prog_1_method_4_code 1 = .ok (.bipush 6, 2) := by decide +kernel
theorem d_WP_open_3 : decode prog_1_method_4_code 3 = .ok (.if_icmp .lt 9, 3) := by decide +kernel
theorem d_WP_open_6 : decode prog_1_method_4_code 6 = .ok (.iload_n 1, 1) := by decide +kernel
theorem d_WP_open_7 : decode prog_1_method_4_code 7 = .ok (.bipush 12, 2) := by decide +kernel
theorem d_WP_open_9 : decode prog_1_method_4_code 9 = .ok (.if_icmp .lt 13, 3) := by decide +kernel
theorem d_WP_open_12 : decode prog_1_method_4_code 12 = .ok (.new 96, 3) := by decide +kernel
theorem d_WP_open_15 : decode prog_1_method_4_code 15 = .ok (.dup, 1) := by decide +kernel
theorem d_WP_open_16 : decode prog_1_method_4_code 16 = .ok (.ldc 98, 2) := by decide +kernel
theorem d_WP_open_18 : decode prog_1_method_4_code 18 = .ok (.invokespecial 100, 3) := by decide +kernel
theorem d_WP_open_21 : decode prog_1_method_4_code 21 = .ok (.athrow, 1) := by decide +kernel
theorem d_WP_open_22 : decode prog_1_method_4_code 22 = .ok (.aload_n 0, 1) := by decide +kernel
theorem d_WP_open_23 : decode prog_1_method_4_code 23 = .ok (.getfield 45, 3) := by decide +kernel
theorem d_WP_open_26 : decode prog_1_method_4_code 26 = .ok (.iload_n 1, 1) := by decide +kernel
theorem d_WP_open_27 : decode prog_1_method_4_code 27 = .ok (.invokestatic 101, 3) := by decide +kernel
theorem d_WP_open_30 : decode prog_1_method_4_code 30 = .ok (.iload_n 2, 1) := by decide +kernel
theorem d_WP_open_31 : decode prog_1_method_4_code 31 = .ok (.if_icmp .eq 7, 3) := by decide +kernel
theorem d_WP_open_34 : decode prog_1_method_4_code 34 = .ok (.iconst 1, 1) := by decide +kernel
theorem d_WP_open_35 : decode prog_1_method_4_code 35 = .ok (.goto 4, 3) := by decide +kernel
theorem d_WP_open_38 : decode prog_1_method_4_code 38 = .ok (.iconst 0, 1) := by decide +kernel
theorem d_WP_open_39 : decode prog_1_method_4_code 39 = .ok (.istore_n 3, 1) := by decide +kernel
theorem d_WP_open_40 : decode prog_1_method_4_code 40 = .ok (.iload_n 3, 1) := by decide +kernel
theorem d_WP_open_41 : decode prog_1_method_4_code 41 = .ok (.ifCond .eq 15, 3) := by decide +kernel
theorem d_WP_open_44 : decode prog_1_method_4_code 44 = .ok (.aload_n 0, 1) := by decide +kernel
theorem d_WP_open_45 : decode prog_1_method_4_code 45 = .ok (.dup, 1) := by decide +kernel
theorem d_WP_open_46 : decode prog_1_method_4_code 46 = .ok (.getfield 45, 3) := by decide +kernel
theorem d_WP_open_49 : decode prog_1_method_4_code 49 = .ok (.iconst 1, 1) := by decide +kernel
theorem d_WP_open_50 : decode prog_1_method_4_code 50 = .ok (.iload_n 1, 1) := by decide +kernel
theorem d_WP_open_51 : decode prog_1_method_4_code 51 = .ok (.ishl, 1) := by decide +kernel
theorem d_WP_open_52 : decode prog_1_method_4_code 52 = .ok (.ixor, 1) := by decide +kernel
theorem d_WP_open_53 : decode prog_1_method_4_code 53 = .ok (.putfield 45, 3) := by decide +kernel
theorem d_WP_open_56 : decode prog_1_method_4_code 56 = .ok (.iload_n 3, 1) := by decide +kernel
theorem d_WP_open_57 : decode prog_1_method_4_code 57 = .ok (.ireturn, 1) := by decide +kernel
theorem d_Law_direction_0 : decode method_5_code 0 = .ok (.aload 4, 2) := by decide +kernel
theorem d_Law_direction_2 : decode method_5_code 2 = .ok (.iconst 0, 1) := by decide +kernel
theorem d_Law_direction_3 : decode method_5_code 3 = .ok (.aload_n 0, 1) := by decide +kernel
theorem d_Law_direction_4 : decode method_5_code 4 = .ok (.iload_n 1, 1) := by decide +kernel
theorem d_Law_direction_5 : decode method_5_code 5 = .ok (.iload_n 2, 1) := by decide +kernel
theorem d_Law_direction_6 : decode method_5_code 6 = .ok (.iload_n 3, 1) := by decide +kernel
theorem d_Law_direction_7 : decode method_5_code 7 = .ok (.invokevirtual 23, 3) := by decide +kernel
theorem d_Law_direction_10 : decode method_5_code 10 = .ok (.i2l, 1) := by decide +kernel
theorem d_Law_direction_11 : decode method_5_code 11 = .ok (.lastore, 1) := by decide +kernel
theorem d_Law_direction_12 : decode method_5_code 12 = .ok (.goto 11, 3) := by decide +kernel
theorem d_Law_direction_15 : decode method_5_code 15 = .ok (.astore 5, 2) := by decide +kernel
theorem d_Law_direction_17 : decode method_5_code 17 = .ok (.iconst 1, 1) := by decide +kernel
theorem d_Law_direction_18 : decode method_5_code 18 = .ok (.ireturn, 1) := by decide +kernel
theorem d_Law_direction_19 : decode method_5_code 19 = .ok (.astore 5, 2) := by decide +kernel
theorem d_Law_direction_21 : decode method_5_code 21 = .ok (.iconst 2, 1) := by decide +kernel
theorem d_Law_direction_22 : decode method_5_code 22 = .ok (.ireturn, 1) := by decide +kernel
theorem d_Law_direction_23 : decode method_5_code 23 = .ok (.iconst 0, 1) := by decide +kernel
theorem d_Law_direction_24 : decode method_5_code 24 = .ok (.ireturn, 1) := by decide +kernel
theorem d_WP_direction_0 : decode prog_1_method_5_code 0 = .ok (.iload_n 1, 1) := by decide +kernel
theorem d_WP_direction_1 : decode prog_1_method_5_code 1 = .ok (.iload_n 2, 1) := by decide +kernel
theorem d_WP_direction_2 : decode prog_1_method_5_code 2 = .ok (.iload_n 3, 1) := by decide +kernel
theorem d_WP_direction_3 : decode prog_1_method_5_code 3 = .ok (.invokestatic 105, 3) := by decide +kernel
theorem d_WP_direction_6 : decode prog_1_method_5_code 6 = .ok (.ifCond .eq 15, 3) := by decide +kernel
theorem d_WP_direction_9 : decode prog_1_method_5_code 9 = .ok (.iload_n 1, 1) := by decide +kernel
theorem d_WP_direction_10 : decode prog_1_method_5_code 10 = .ok (.ifCond .ne 21, 3) := by decide +kernel
theorem d_WP_direction_13 : decode prog_1_method_5_code 13 = .ok (.iload_n 2, 1) := by decide +kernel
theorem d_WP_direction_14 : decode prog_1_method_5_code 14 = .ok (.ifCond .ne 17, 3) := by decide +kernel
theorem d_WP_direction_17 : decode prog_1_method_5_code 17 = .ok (.iload_n 3, 1) := by decide +kernel
theorem d_WP_direction_18 : decode prog_1_method_5_code 18 = .ok (.ifCond .ne 13, 3) := by decide +kernel
theorem d_WP_direction_21 : decode prog_1_method_5_code 21 = .ok (.new 71, 3) := by decide +kernel
theorem d_WP_direction_24 : decode prog_1_method_5_code 24 = .ok (.dup, 1) := by decide +kernel
theorem d_WP_direction_25 : decode prog_1_method_5_code 25 = .ok (.ldc 109, 2) := by decide +kernel
theorem d_WP_direction_27 : decode prog_1_method_5_code 27 = .ok (.invokespecial 75, 3) := by decide +kernel
theorem d_WP_direction_30 : decode prog_1_method_5_code 30 = .ok (.athrow, 1) := by decide +kernel
theorem d_WP_direction_31 : decode prog_1_method_5_code 31 = .ok (.aload_n 0, 1) := by decide +kernel
theorem d_WP_direction_32 : decode prog_1_method_5_code 32 = .ok (.getfield 42, 3) := by decide +kernel
theorem d_WP_direction_35 : decode prog_1_method_5_code 35 = .ok (.bipush 8, 2) := by decide +kernel
theorem d_WP_direction_37 : decode prog_1_method_5_code 37 = .ok (.if_icmp .lt 13, 3) := by decide +kernel
theorem d_WP_direction_40 : decode prog_1_method_5_code 40 = .ok (.new 81, 3) := by decide +kernel
theorem d_WP_direction_43 : decode prog_1_method_5_code 43 = .ok (.dup, 1) := by decide +kernel
theorem d_WP_direction_44 : decode prog_1_method_5_code 44 = .ok (.ldc 111, 2) := by decide +kernel
theorem d_WP_direction_46 : decode prog_1_method_5_code 46 = .ok (.invokespecial 85, 3) := by decide +kernel
theorem d_WP_direction_49 : decode prog_1_method_5_code 49 = .ok (.athrow, 1) := by decide +kernel
theorem d_WP_direction_50 : decode prog_1_method_5_code 50 = .ok (.aload_n 0, 1) := by decide +kernel
theorem d_WP_direction_51 : decode prog_1_method_5_code 51 = .ok (.getfield 18, 3) := by decide +kernel
theorem d_WP_direction_54 : decode prog_1_method_5_code 54 = .ok (.aload_n 0, 1) := by decide +kernel
theorem d_WP_direction_55 : decode prog_1_method_5_code 55 = .ok (.getfield 42, 3) := by decide +kernel
theorem d_WP_direction_58 : decode prog_1_method_5_code 58 = .ok (.aaload, 1) := by decide +kernel
theorem d_WP_direction_59 : decode prog_1_method_5_code 59 = .ok (.iload_n 1, 1) := by decide +kernel
theorem d_WP_direction_60 : decode prog_1_method_5_code 60 = .ok (.iload_n 2, 1) := by decide +kernel
theorem d_WP_direction_61 : decode prog_1_method_5_code 61 = .ok (.iload_n 3, 1) := by decide +kernel
theorem d_WP_direction_62 : decode prog_1_method_5_code 62 = .ok (.invokevirtual 61, 3) := by decide +kernel
theorem d_WP_direction_65 : decode prog_1_method_5_code 65 = .ok (.aload_n 0, 1) := by decide +kernel
theorem d_WP_direction_66 : decode prog_1_method_5_code 66 = .ok (.dup, 1) := by decide +kernel
theorem d_WP_direction_67 : decode prog_1_method_5_code 67 = .ok (.getfield 42, 3) := by decide +kernel
theorem d_WP_direction_70 : decode prog_1_method_5_code 70 = .ok (.iconst 1, 1) := by decide +kernel
theorem d_WP_direction_71 : decode prog_1_method_5_code 71 = .ok (.iadd, 1) := by decide +kernel
theorem d_WP_direction_72 : decode prog_1_method_5_code 72 = .ok (.putfield 42, 3) := by decide +kernel
theorem d_WP_direction_75 : decode prog_1_method_5_code 75 = .ok (.aload_n 0, 1) := by decide +kernel
theorem d_WP_direction_76 : decode prog_1_method_5_code 76 = .ok (.getfield 42, 3) := by decide +kernel
theorem d_WP_direction_79 : decode prog_1_method_5_code 79 = .ok (.iconst 1, 1) := by decide +kernel
theorem d_WP_direction_80 : decode prog_1_method_5_code 80 = .ok (.isub, 1) := by decide +kernel
theorem d_WP_direction_81 : decode prog_1_method_5_code 81 = .ok (.ireturn, 1) := by decide +kernel
theorem d_WP_isStep_0 : decode prog_1_method_22_code 0 = .ok (.iload_n 0, 1) := by decide +kernel
theorem d_WP_isStep_1 : decode prog_1_method_22_code 1 = .ok (.bipush 9, 2) := by decide +kernel
theorem d_WP_isStep_3 : decode prog_1_method_22_code 3 = .ok (.invokestatic 209, 3) := by decide +kernel
theorem d_WP_isStep_6 : decode prog_1_method_22_code 6 = .ok (.ifCond .eq 25, 3) := by decide +kernel
theorem d_WP_isStep_9 : decode prog_1_method_22_code 9 = .ok (.iload_n 1, 1) := by decide +kernel
theorem d_WP_isStep_10 : decode prog_1_method_22_code 10 = .ok (.bipush 9, 2) := by decide +kernel
theorem d_WP_isStep_12 : decode prog_1_method_22_code 12 = .ok (.invokestatic 209, 3) := by decide +kernel
theorem d_WP_isStep_15 : decode prog_1_method_22_code 15 = .ok (.ifCond .eq 16, 3) := by decide +kernel
theorem d_WP_isStep_18 : decode prog_1_method_22_code 18 = .ok (.iload_n 2, 1) := by decide +kernel
theorem d_WP_isStep_19 : decode prog_1_method_22_code 19 = .ok (.bipush 9, 2) := by decide +kernel
theorem d_WP_isStep_21 : decode prog_1_method_22_code 21 = .ok (.invokestatic 209, 3) := by decide +kernel
theorem d_WP_isStep_24 : decode prog_1_method_22_code 24 = .ok (.ifCond .eq 7, 3) := by decide +kernel
theorem d_WP_isStep_27 : decode prog_1_method_22_code 27 = .ok (.iconst 1, 1) := by decide +kernel
theorem d_WP_isStep_28 : decode prog_1_method_22_code 28 = .ok (.goto 4, 3) := by decide +kernel
theorem d_WP_isStep_31 : decode prog_1_method_22_code 31 = .ok (.iconst 0, 1) := by decide +kernel
theorem d_WP_isStep_32 : decode prog_1_method_22_code 32 = .ok (.ireturn, 1) := by decide +kernel
theorem d_Law_pull_0 : decode method_6_code 0 = .ok (.aload_n 0, 1) := by decide +kernel
theorem d_Law_pull_1 : decode method_6_code 1 = .ok (.iload_n 1, 1) := by decide +kernel
theorem d_Law_pull_2 : decode method_6_code 2 = .ok (.iload_n 2, 1) := by decide +kernel
theorem d_Law_pull_3 : decode method_6_code 3 = .ok (.iload_n 3, 1) := by decide +kernel
theorem d_Law_pull_4 : decode method_6_code 4 = .ok (.invokevirtual 27, 3) := by decide +kernel
theorem d_Law_pull_7 : decode method_6_code 7 = .ok (.goto 7, 3) := by decide +kernel
theorem d_Law_pull_10 : decode method_6_code 10 = .ok (.astore 4, 2) := by decide +kernel
theorem d_Law_pull_12 : decode method_6_code 12 = .ok (.iconst 1, 1) := by decide +kernel
theorem d_Law_pull_13 : decode method_6_code 13 = .ok (.ireturn, 1) := by decide +kernel
theorem d_Law_pull_14 : decode method_6_code 14 = .ok (.iconst 0, 1) := by decide +kernel
theorem d_Law_pull_15 : decode method_6_code 15 = .ok (.ireturn, 1) := by decide +kernel
theorem d_WP_pull_0 : decode prog_1_method_6_code 0 = .ok (.iload_n 1, 1) := by decide +kernel
theorem d_WP_pull_1 : decode prog_1_method_6_code 1 = .ok (.iload_n 2, 1) := by decide +kernel
theorem d_WP_pull_2 : decode prog_1_method_6_code 2 = .ok (.iload_n 3, 1) := by decide +kernel
theorem d_WP_pull_3 : decode prog_1_method_6_code 3 = .ok (.invokestatic 105, 3) := by decide +kernel
theorem d_WP_pull_6 : decode prog_1_method_6_code 6 = .ok (.ifCond .ne 13, 3) := by decide +kernel
theorem d_WP_pull_9 : decode prog_1_method_6_code 9 = .ok (.new 71, 3) := by decide +kernel
theorem d_WP_pull_12 : decode prog_1_method_6_code 12 = .ok (.dup, 1) := by decide +kernel
theorem d_WP_pull_13 : decode prog_1_method_6_code 13 = .ok (.ldc 113, 2) := by decide +kernel
theorem d_WP_pull_15 : decode prog_1_method_6_code 15 = .ok (.invokespecial 75, 3) := by decide +kernel
theorem d_WP_pull_18 : decode prog_1_method_6_code 18 = .ok (.athrow, 1) := by decide +kernel
theorem d_WP_pull_19 : decode prog_1_method_6_code 19 = .ok (.aload_n 0, 1) := by decide +kernel
theorem d_WP_pull_20 : decode prog_1_method_6_code 20 = .ok (.getfield 23, 3) := by decide +kernel
theorem d_WP_pull_23 : decode prog_1_method_6_code 23 = .ok (.iload_n 1, 1) := by decide +kernel
theorem d_WP_pull_24 : decode prog_1_method_6_code 24 = .ok (.iload_n 2, 1) := by decide +kernel
theorem d_WP_pull_25 : decode prog_1_method_6_code 25 = .ok (.iload_n 3, 1) := by decide +kernel
theorem d_WP_pull_26 : decode prog_1_method_6_code 26 = .ok (.invokevirtual 61, 3) := by decide +kernel
theorem d_WP_pull_29 : decode prog_1_method_6_code 29 = .ok (.return_, 1) := by decide +kernel
theorem d_Law_block_0 : decode method_7_code 0 = .ok (.aload_n 3, 1) := by decide +kernel
theorem d_Law_block_1 : decode method_7_code 1 = .ok (.iconst 0, 1) := by decide +kernel
theorem d_Law_block_2 : decode method_7_code 2 = .ok (.aload_n 0, 1) := by decide +kernel
theorem d_Law_block_3 : decode method_7_code 3 = .ok (.iload_n 1, 1) := by decide +kernel
theorem d_Law_block_4 : decode method_7_code 4 = .ok (.iload_n 2, 1) := by decide +kernel
theorem d_Law_block_5 : decode method_7_code 5 = .ok (.invokevirtual 31, 3) := by decide +kernel
theorem d_Law_block_8 : decode method_7_code 8 = .ok (.i2l, 1) := by decide +kernel
theorem d_Law_block_9 : decode method_7_code 9 = .ok (.lastore, 1) := by decide +kernel
theorem d_Law_block_10 : decode method_7_code 10 = .ok (.goto 7, 3) := by decide +kernel
theorem d_Law_block_13 : decode method_7_code 13 = .ok (.astore 4, 2) := by decide +kernel
theorem d_Law_block_15 : decode method_7_code 15 = .ok (.iconst 1, 1) := by decide +kernel
theorem d_Law_block_16 : decode method_7_code 16 = .ok (.ireturn, 1) := by decide +kernel
theorem d_Law_block_17 : decode method_7_code 17 = .ok (.iconst 0, 1) := by decide +kernel
theorem d_Law_block_18 : decode method_7_code 18 = .ok (.ireturn, 1) := by decide +kernel
theorem d_WP_block_0 : decode prog_1_method_8_code 0 = .ok (.aload_n 0, 1) := by decide +kernel
theorem d_WP_block_1 : decode prog_1_method_8_code 1 = .ok (.iload_n 1, 1) := by decide +kernel
theorem d_WP_block_2 : decode prog_1_method_8_code 2 = .ok (.invokevirtual 118, 3) := by decide +kernel
theorem d_WP_block_5 : decode prog_1_method_8_code 5 = .ok (.iload_n 2, 1) := by decide +kernel
theorem d_WP_block_6 : decode prog_1_method_8_code 6 = .ok (.tableswitch 88 0 4 #[34, 44, 54, 64, 73], 34) := by decide +kernel
theorem d_WP_block_40 : decode prog_1_method_8_code 40 = .ok (.aload_n 0, 1) := by decide +kernel
theorem d_WP_block_41 : decode prog_1_method_8_code 41 = .ok (.getfield 57, 3) := by decide +kernel
theorem d_WP_block_44 : decode prog_1_method_8_code 44 = .ok (.getfield 122, 3) := by decide +kernel
theorem d_WP_block_47 : decode prog_1_method_8_code 47 = .ok (.iload_n 1, 1) := by decide +kernel
theorem d_WP_block_48 : decode prog_1_method_8_code 48 = .ok (.iaload, 1) := by decide +kernel
theorem d_WP_block_49 : decode prog_1_method_8_code 49 = .ok (.ireturn, 1) := by decide +kernel
theorem d_WP_block_50 : decode prog_1_method_8_code 50 = .ok (.aload_n 0, 1) := by decide +kernel
theorem d_WP_block_51 : decode prog_1_method_8_code 51 = .ok (.getfield 57, 3) := by decide +kernel
theorem d_WP_block_54 : decode prog_1_method_8_code 54 = .ok (.getfield 125, 3) := by decide +kernel
theorem d_WP_block_57 : decode prog_1_method_8_code 57 = .ok (.iload_n 1, 1) := by decide +kernel
theorem d_WP_block_58 : decode prog_1_method_8_code 58 = .ok (.iaload, 1) := by decide +kernel
theorem d_WP_block_59 : decode prog_1_method_8_code 59 = .ok (.ireturn, 1) := by decide +kernel
theorem d_WP_block_60 : decode prog_1_method_8_code 60 = .ok (.aload_n 0, 1) := by decide +kernel
theorem d_WP_block_61 : decode prog_1_method_8_code 61 = .ok (.getfield 57, 3) := by decide +kernel
theorem d_WP_block_64 : decode prog_1_method_8_code 64 = .ok (.getfield 128, 3) := by decide +kernel
theorem d_WP_block_67 : decode prog_1_method_8_code 67 = .ok (.iload_n 1, 1) := by decide +kernel
theorem d_WP_block_68 : decode prog_1_method_8_code 68 = .ok (.iaload, 1) := by decide +kernel
theorem d_WP_block_69 : decode prog_1_method_8_code 69 = .ok (.ireturn, 1) := by decide +kernel
theorem d_WP_block_70 : decode prog_1_method_8_code 70 = .ok (.aload_n 0, 1) := by decide +kernel
theorem d_WP_block_71 : decode prog_1_method_8_code 71 = .ok (.getfield 57, 3) := by decide +kernel
theorem d_WP_block_74 : decode prog_1_method_8_code 74 = .ok (.iload_n 1, 1) := by decide +kernel
theorem d_WP_block_75 : decode prog_1_method_8_code 75 = .ok (.invokevirtual 131, 3) := by decide +kernel
theorem d_WP_block_78 : decode prog_1_method_8_code 78 = .ok (.ireturn, 1) := by decide +kernel
theorem d_WP_block_79 : decode prog_1_method_8_code 79 = .ok (.aload_n 0, 1) := by decide +kernel
theorem d_WP_block_80 : decode prog_1_method_8_code 80 = .ok (.getfield 27, 3) := by decide +kernel
theorem d_WP_block_83 : decode prog_1_method_8_code 83 = .ok (.iload_n 1, 1) := by decide +kernel
theorem d_WP_block_84 : decode prog_1_method_8_code 84 = .ok (.baload, 1) := by decide +kernel
theorem d_WP_block_85 : decode prog_1_method_8_code 85 = .ok (.ifCond .eq 7, 3) := by decide +kernel
theorem d_WP_block_88 : decode prog_1_method_8_code 88 = .ok (.iconst 1, 1) := by decide +kernel
theorem d_WP_block_89 : decode prog_1_method_8_code 89 = .ok (.goto 4, 3) := by decide +kernel
theorem d_WP_block_92 : decode prog_1_method_8_code 92 = .ok (.iconst 0, 1) := by decide +kernel
theorem d_WP_block_93 : decode prog_1_method_8_code 93 = .ok (.ireturn, 1) := by decide +kernel
theorem d_WP_block_94 : decode prog_1_method_8_code 94 = .ok (.new 96, 3) := by decide +kernel
theorem d_WP_block_97 : decode prog_1_method_8_code 97 = .ok (.dup, 1) := by decide +kernel
theorem d_WP_block_98 : decode prog_1_method_8_code 98 = .ok (.ldc 134, 2) := by decide +kernel
theorem d_WP_block_100 : decode prog_1_method_8_code 100 = .ok (.invokespecial 100, 3) := by decide +kernel
theorem d_WP_block_103 : decode prog_1_method_8_code 103 = .ok (.athrow, 1) := by decide +kernel
theorem d_WP_needBlock_0 : decode prog_1_method_24_code 0 = .ok (.iload_n 1, 1) := by decide +kernel
theorem d_WP_needBlock_1 : decode prog_1_method_24_code 1 = .ok (.ifCond .lt 14, 3) := by decide +kernel
theorem d_WP_needBlock_4 : decode prog_1_method_24_code 4 = .ok (.iload_n 1, 1) := by decide +kernel
theorem d_WP_needBlock_5 : decode prog_1_method_24_code 5 = .ok (.aload_n 0, 1) := by decide +kernel
theorem d_WP_needBlock_6 : decode prog_1_method_24_code 6 = .ok (.getfield 57, 3) := by decide +kernel
theorem d_WP_needBlock_9 : decode prog_1_method_24_code 9 = .ok (.getfield 115, 3) := by decide +kernel
theorem d_WP_needBlock_12 : decode prog_1_method_24_code 12 = .ok (.if_icmp .lt 13, 3) := by decide +kernel
theorem d_WP_needBlock_15 : decode prog_1_method_24_code 15 = .ok (.new 96, 3) := by decide +kernel
theorem d_WP_needBlock_18 : decode prog_1_method_24_code 18 = .ok (.dup, 1) := by decide +kernel
theorem d_WP_needBlock_19 : decode prog_1_method_24_code 19 = .ok (.ldc 215, 2) := by decide +kernel
theorem d_WP_needBlock_21 : decode prog_1_method_24_code 21 = .ok (.invokespecial 100, 3) := by decide +kernel
theorem d_WP_needBlock_24 : decode prog_1_method_24_code 24 = .ok (.athrow, 1) := by decide +kernel
theorem d_WP_needBlock_25 : decode prog_1_method_24_code 25 = .ok (.return_, 1) := by decide +kernel
theorem d_Rock_countWholePoints_0 : decode prog_6_method_8_code 0 = .ok (.iconst 0, 1) := by decide +kernel
theorem d_Rock_countWholePoints_1 : decode prog_6_method_8_code 1 = .ok (.istore_n 2, 1) := by decide +kernel
theorem d_Rock_countWholePoints_2 : decode prog_6_method_8_code 2 = .ok (.iconst 1, 1) := by decide +kernel
theorem d_Rock_countWholePoints_3 : decode prog_6_method_8_code 3 = .ok (.istore_n 3, 1) := by decide +kernel
theorem d_Rock_countWholePoints_4 : decode prog_6_method_8_code 4 = .ok (.iload_n 3, 1) := by decide +kernel
theorem d_Rock_countWholePoints_5 : decode prog_6_method_8_code 5 = .ok (.aload_n 0, 1) := by decide +kernel
theorem d_Rock_countWholePoints_6 : decode prog_6_method_8_code 6 = .ok (.getfield 66, 3) := by decide +kernel
theorem d_Rock_countWholePoints_9 : decode prog_6_method_8_code 9 = .ok (.if_icmp .ge 66, 3) := by decide +kernel
theorem d_Rock_countWholePoints_12 : decode prog_6_method_8_code 12 = .ok (.iconst 1, 1) := by decide +kernel
theorem d_Rock_countWholePoints_13 : decode prog_6_method_8_code 13 = .ok (.istore 4, 2) := by decide +kernel
theorem d_Rock_countWholePoints_15 : decode prog_6_method_8_code 15 = .ok (.iload 4, 2) := by decide +kernel
theorem d_Rock_countWholePoints_17 : decode prog_6_method_8_code 17 = .ok (.aload_n 0, 1) := by decide +kernel
theorem d_Rock_countWholePoints_18 : decode prog_6_method_8_code 18 = .ok (.getfield 69, 3) := by decide +kernel
theorem d_Rock_countWholePoints_21 : decode prog_6_method_8_code 21 = .ok (.if_icmp .ge 48, 3) := by decide +kernel
theorem d_Rock_countWholePoints_24 : decode prog_6_method_8_code 24 = .ok (.iconst 1, 1) := by decide +kernel
theorem d_Rock_countWholePoints_25 : decode prog_6_method_8_code 25 = .ok (.istore 5, 2) := by decide +kernel
theorem d_Rock_countWholePoints_27 : decode prog_6_method_8_code 27 = .ok (.iload 5, 2) := by decide +kernel
theorem d_Rock_countWholePoints_29 : decode prog_6_method_8_code 29 = .ok (.aload_n 0, 1) := by decide +kernel
theorem d_Rock_countWholePoints_30 : decode prog_6_method_8_code 30 = .ok (.getfield 72, 3) := by decide +kernel
theorem d_Rock_countWholePoints_33 : decode prog_6_method_8_code 33 = .ok (.if_icmp .ge 30, 3) := by decide +kernel
theorem d_Rock_countWholePoints_36 : decode prog_6_method_8_code 36 = .ok (.aload_n 0, 1) := by decide +kernel
theorem d_Rock_countWholePoints_37 : decode prog_6_method_8_code 37 = .ok (.aload_n 0, 1) := by decide +kernel
theorem d_Rock_countWholePoints_38 : decode prog_6_method_8_code 38 = .ok (.getfield 24, 3) := by decide +kernel
theorem d_Rock_countWholePoints_41 : decode prog_6_method_8_code 41 = .ok (.iload_n 1, 1) := by decide +kernel
theorem d_Rock_countWholePoints_42 : decode prog_6_method_8_code 42 = .ok (.iaload, 1) := by decide +kernel
theorem d_Rock_countWholePoints_43 : decode prog_6_method_8_code 43 = .ok (.iload_n 3, 1) := by decide +kernel
theorem d_Rock_countWholePoints_44 : decode prog_6_method_8_code 44 = .ok (.iload 4, 2) := by decide +kernel
theorem d_Rock_countWholePoints_46 : decode prog_6_method_8_code 46 = .ok (.iload 5, 2) := by decide +kernel
theorem d_Rock_countWholePoints_48 : decode prog_6_method_8_code 48 = .ok (.invokevirtual 117, 3) := by decide +kernel
theorem d_Rock_countWholePoints_51 : decode prog_6_method_8_code 51 = .ok (.ifCond .eq 6, 3) := by decide +kernel
theorem d_Rock_countWholePoints_54 : decode prog_6_method_8_code 54 = .ok (.iinc 2 1, 3) := by decide +kernel
theorem d_Rock_countWholePoints_57 : decode prog_6_method_8_code 57 = .ok (.iinc 5 1, 3) := by decide +kernel
theorem d_Rock_countWholePoints_60 : decode prog_6_method_8_code 60 = .ok (.goto (-33), 3) := by decide +kernel
theorem d_Rock_countWholePoints_63 : decode prog_6_method_8_code 63 = .ok (.iinc 4 1, 3) := by decide +kernel
theorem d_Rock_countWholePoints_66 : decode prog_6_method_8_code 66 = .ok (.goto (-51), 3) := by decide +kernel
theorem d_Rock_countWholePoints_69 : decode prog_6_method_8_code 69 = .ok (.iinc 3 1, 3) := by decide +kernel
theorem d_Rock_countWholePoints_72 : decode prog_6_method_8_code 72 = .ok (.goto (-68), 3) := by decide +kernel
theorem d_Rock_countWholePoints_75 : decode prog_6_method_8_code 75 = .ok (.iload_n 2, 1) := by decide +kernel
theorem d_Rock_countWholePoints_76 : decode prog_6_method_8_code 76 = .ok (.ireturn, 1) := by decide +kernel
theorem d_Rock_isOnSides_0 : decode prog_6_method_9_code 0 = .ok (.iconst 0, 1) := by decide +kernel
theorem d_Rock_isOnSides_1 : decode prog_6_method_9_code 1 = .ok (.istore 5, 2) := by decide +kernel
theorem d_Rock_isOnSides_3 : decode prog_6_method_9_code 3 = .ok (.iload 5, 2) := by decide +kernel
theorem d_Rock_isOnSides_5 : decode prog_6_method_9_code 5 = .ok (.aload_n 0, 1) := by decide +kernel
theorem d_Rock_isOnSides_6 : decode prog_6_method_9_code 6 = .ok (.getfield 37, 3) := by decide +kernel
theorem d_Rock_isOnSides_9 : decode prog_6_method_9_code 9 = .ok (.if_icmp .ge 52, 3) := by decide +kernel
theorem d_Rock_isOnSides_12 : decode prog_6_method_9_code 12 = .ok (.aload_n 0, 1) := by decide +kernel
theorem d_Rock_isOnSides_13 : decode prog_6_method_9_code 13 = .ok (.getfield 11, 3) := by decide +kernel
theorem d_Rock_isOnSides_16 : decode prog_6_method_9_code 16 = .ok (.iload 5, 2) := by decide +kernel
theorem d_Rock_isOnSides_18 : decode prog_6_method_9_code 18 = .ok (.aaload, 1) := by decide +kernel
theorem d_Rock_isOnSides_19 : decode prog_6_method_9_code 19 = .ok (.iload_n 2, 1) := by decide +kernel
theorem d_Rock_isOnSides_20 : decode prog_6_method_9_code 20 = .ok (.iload_n 3, 1) := by decide +kernel
theorem d_Rock_isOnSides_21 : decode prog_6_method_9_code 21 = .ok (.iload 4, 2) := by decide +kernel
theorem d_Rock_isOnSides_23 : decode prog_6_method_9_code 23 = .ok (.iconst 1, 1) := by decide +kernel
theorem d_Rock_isOnSides_24 : decode prog_6_method_9_code 24 = .ok (.invokevirtual 120, 3) := by decide +kernel
theorem d_Rock_isOnSides_27 : decode prog_6_method_9_code 27 = .ok (.istore 6, 2) := by decide +kernel
theorem d_Rock_isOnSides_29 : decode prog_6_method_9_code 29 = .ok (.iload 6, 2) := by decide +kernel
theorem d_Rock_isOnSides_31 : decode prog_6_method_9_code 31 = .ok (.ifCond .eq 22, 3) := by decide +kernel
theorem d_Rock_isOnSides_34 : decode prog_6_method_9_code 34 = .ok (.iload 6, 2) := by decide +kernel
theorem d_Rock_isOnSides_36 : decode prog_6_method_9_code 36 = .ok (.ifCond .le 7, 3) := by decide +kernel
theorem d_Rock_isOnSides_39 : decode prog_6_method_9_code 39 = .ok (.iconst 1, 1) := by decide +kernel
theorem d_Rock_isOnSides_40 : decode prog_6_method_9_code 40 = .ok (.goto 4, 3) := by decide +kernel
theorem d_Rock_isOnSides_43 : decode prog_6_method_9_code 43 = .ok (.iconst 0, 1) := by decide +kernel
theorem d_Rock_isOnSides_44 : decode prog_6_method_9_code 44 = .ok (.iload_n 1, 1) := by decide +kernel
theorem d_Rock_isOnSides_45 : decode prog_6_method_9_code 45 = .ok (.iload 5, 2) := by decide +kernel
theorem d_Rock_isOnSides_47 : decode prog_6_method_9_code 47 = .ok (.invokestatic 107, 3) := by decide +kernel
theorem d_Rock_isOnSides_50 : decode prog_6_method_9_code 50 = .ok (.if_icmp .eq 5, 3) := by decide +kernel
theorem d_Rock_isOnSides_53 : decode prog_6_method_9_code 53 = .ok (.iconst 0, 1) := by decide +kernel
theorem d_Rock_isOnSides_54 : decode prog_6_method_9_code 54 = .ok (.ireturn, 1) := by decide +kernel
theorem d_Rock_isOnSides_55 : decode prog_6_method_9_code 55 = .ok (.iinc 5 1, 3) := by decide +kernel
theorem d_Rock_isOnSides_58 : decode prog_6_method_9_code 58 = .ok (.goto (-55), 3) := by decide +kernel
theorem d_Rock_isOnSides_61 : decode prog_6_method_9_code 61 = .ok (.iconst 1, 1) := by decide +kernel
theorem d_Rock_isOnSides_62 : decode prog_6_method_9_code 62 = .ok (.ireturn, 1) := by decide +kernel
theorem d_Law_corner_0 : decode method_8_code 0 = .ok (.aload 4, 2) := by decide +kernel
theorem d_Law_corner_2 : decode method_8_code 2 = .ok (.iconst 0, 1) := by decide +kernel
theorem d_Law_corner_3 : decode method_8_code 3 = .ok (.aload_n 0, 1) := by decide +kernel
theorem d_Law_corner_4 : decode method_8_code 4 = .ok (.iload_n 1, 1) := by decide +kernel
theorem d_Law_corner_5 : decode method_8_code 5 = .ok (.iload_n 2, 1) := by decide +kernel
theorem d_Law_corner_6 : decode method_8_code 6 = .ok (.iload_n 3, 1) := by decide +kernel
theorem d_Law_corner_7 : decode method_8_code 7 = .ok (.invokevirtual 35, 3) := by decide +kernel
theorem d_Law_corner_10 : decode method_8_code 10 = .ok (.i2l, 1) := by decide +kernel
theorem d_Law_corner_11 : decode method_8_code 11 = .ok (.lastore, 1) := by decide +kernel
theorem d_Law_corner_12 : decode method_8_code 12 = .ok (.goto 7, 3) := by decide +kernel
theorem d_Law_corner_15 : decode method_8_code 15 = .ok (.astore 5, 2) := by decide +kernel
theorem d_Law_corner_17 : decode method_8_code 17 = .ok (.iconst 1, 1) := by decide +kernel
theorem d_Law_corner_18 : decode method_8_code 18 = .ok (.ireturn, 1) := by decide +kernel
theorem d_Law_corner_19 : decode method_8_code 19 = .ok (.iconst 0, 1) := by decide +kernel
theorem d_Law_corner_20 : decode method_8_code 20 = .ok (.ireturn, 1) := by decide +kernel
theorem d_WP_corner_0 : decode prog_1_method_9_code 0 = .ok (.aload_n 0, 1) := by decide +kernel
theorem d_WP_corner_1 : decode prog_1_method_9_code 1 = .ok (.iload_n 1, 1) := by decide +kernel
theorem d_WP_corner_2 : decode prog_1_method_9_code 2 = .ok (.invokevirtual 118, 3) := by decide +kernel
theorem d_WP_corner_5 : decode prog_1_method_9_code 5 = .ok (.iload_n 2, 1) := by decide +kernel
theorem d_WP_corner_6 : decode prog_1_method_9_code 6 = .ok (.ifCond .lt 16, 3) := by decide +kernel
theorem d_WP_corner_9 : decode prog_1_method_9_code 9 = .ok (.iload_n 2, 1) := by decide +kernel
theorem d_WP_corner_10 : decode prog_1_method_9_code 10 = .ok (.aload_n 0, 1) := by decide +kernel
theorem d_WP_corner_11 : decode prog_1_method_9_code 11 = .ok (.getfield 57, 3) := by decide +kernel
theorem d_WP_corner_14 : decode prog_1_method_9_code 14 = .ok (.getfield 128, 3) := by decide +kernel
theorem d_WP_corner_17 : decode prog_1_method_9_code 17 = .ok (.iload_n 1, 1) := by decide +kernel
theorem d_WP_corner_18 : decode prog_1_method_9_code 18 = .ok (.iaload, 1) := by decide +kernel
theorem d_WP_corner_19 : decode prog_1_method_9_code 19 = .ok (.if_icmp .lt 13, 3) := by decide +kernel
theorem d_WP_corner_22 : decode prog_1_method_9_code 22 = .ok (.new 96, 3) := by decide +kernel
theorem d_WP_corner_25 : decode prog_1_method_9_code 25 = .ok (.dup, 1) := by decide +kernel
theorem d_WP_corner_26 : decode prog_1_method_9_code 26 = .ok (.ldc 136, 2) := by decide +kernel
theorem d_WP_corner_28 : decode prog_1_method_9_code 28 = .ok (.invokespecial 100, 3) := by decide +kernel
theorem d_WP_corner_31 : decode prog_1_method_9_code 31 = .ok (.athrow, 1) := by decide +kernel
theorem d_WP_corner_32 : decode prog_1_method_9_code 32 = .ok (.aload_n 0, 1) := by decide +kernel
theorem d_WP_corner_33 : decode prog_1_method_9_code 33 = .ok (.getfield 57, 3) := by decide +kernel
theorem d_WP_corner_36 : decode prog_1_method_9_code 36 = .ok (.iload_n 1, 1) := by decide +kernel
theorem d_WP_corner_37 : decode prog_1_method_9_code 37 = .ok (.iload_n 2, 1) := by decide +kernel
theorem d_WP_corner_38 : decode prog_1_method_9_code 38 = .ok (.invokevirtual 138, 3) := by decide +kernel
theorem d_WP_corner_41 : decode prog_1_method_9_code 41 = .ok (.istore 4, 2) := by decide +kernel
theorem d_WP_corner_43 : decode prog_1_method_9_code 43 = .ok (.iload_n 3, 1) := by decide +kernel
theorem d_WP_corner_44 : decode prog_1_method_9_code 44 = .ok (.tableswitch 88 0 3 #[32, 46, 60, 74], 32) := by decide +kernel
theorem d_WP_corner_76 : decode prog_1_method_9_code 76 = .ok (.aload_n 0, 1) := by decide +kernel
theorem d_WP_corner_77 : decode prog_1_method_9_code 77 = .ok (.getfield 57, 3) := by decide +kernel
theorem d_WP_corner_80 : decode prog_1_method_9_code 80 = .ok (.getfield 142, 3) := by decide +kernel
theorem d_WP_corner_83 : decode prog_1_method_9_code 83 = .ok (.getfield 146, 3) := by decide +kernel
theorem d_WP_corner_86 : decode prog_1_method_9_code 86 = .ok (.iload 4, 2) := by decide +kernel
theorem d_WP_corner_88 : decode prog_1_method_9_code 88 = .ok (.iaload, 1) := by decide +kernel
theorem d_WP_corner_89 : decode prog_1_method_9_code 89 = .ok (.ireturn, 1) := by decide +kernel
theorem d_WP_corner_90 : decode prog_1_method_9_code 90 = .ok (.aload_n 0, 1) := by decide +kernel
theorem d_WP_corner_91 : decode prog_1_method_9_code 91 = .ok (.getfield 57, 3) := by decide +kernel
theorem d_WP_corner_94 : decode prog_1_method_9_code 94 = .ok (.getfield 142, 3) := by decide +kernel
theorem d_WP_corner_97 : decode prog_1_method_9_code 97 = .ok (.getfield 151, 3) := by decide +kernel
theorem d_WP_corner_100 : decode prog_1_method_9_code 100 = .ok (.iload 4, 2) := by decide +kernel
theorem d_WP_corner_102 : decode prog_1_method_9_code 102 = .ok (.iaload, 1) := by decide +kernel
theorem d_WP_corner_103 : decode prog_1_method_9_code 103 = .ok (.ireturn, 1) := by decide +kernel
theorem d_WP_corner_104 : decode prog_1_method_9_code 104 = .ok (.aload_n 0, 1) := by decide +kernel
theorem d_WP_corner_105 : decode prog_1_method_9_code 105 = .ok (.getfield 57, 3) := by decide +kernel
theorem d_WP_corner_108 : decode prog_1_method_9_code 108 = .ok (.getfield 142, 3) := by decide +kernel
theorem d_WP_corner_111 : decode prog_1_method_9_code 111 = .ok (.getfield 154, 3) := by decide +kernel
theorem d_WP_corner_114 : decode prog_1_method_9_code 114 = .ok (.iload 4, 2) := by decide +kernel
theorem d_WP_corner_116 : decode prog_1_method_9_code 116 = .ok (.iaload, 1) := by decide +kernel
theorem d_WP_corner_117 : decode prog_1_method_9_code 117 = .ok (.ireturn, 1) := by decide +kernel
theorem d_WP_corner_118 : decode prog_1_method_9_code 118 = .ok (.aload_n 0, 1) := by decide +kernel
theorem d_WP_corner_119 : decode prog_1_method_9_code 119 = .ok (.getfield 57, 3) := by decide +kernel
theorem d_WP_corner_122 : decode prog_1_method_9_code 122 = .ok (.getfield 142, 3) := by decide +kernel
theorem d_WP_corner_125 : decode prog_1_method_9_code 125 = .ok (.getfield 157, 3) := by decide +kernel
theorem d_WP_corner_128 : decode prog_1_method_9_code 128 = .ok (.iload 4, 2) := by decide +kernel
theorem d_WP_corner_130 : decode prog_1_method_9_code 130 = .ok (.iaload, 1) := by decide +kernel
theorem d_WP_corner_131 : decode prog_1_method_9_code 131 = .ok (.ireturn, 1) := by decide +kernel
theorem d_WP_corner_132 : decode prog_1_method_9_code 132 = .ok (.new 96, 3) := by decide +kernel
theorem d_WP_corner_135 : decode prog_1_method_9_code 135 = .ok (.dup, 1) := by decide +kernel
theorem d_WP_corner_136 : decode prog_1_method_9_code 136 = .ok (.ldc 160, 2) := by decide +kernel
theorem d_WP_corner_138 : decode prog_1_method_9_code 138 = .ok (.invokespecial 100, 3) := by decide +kernel
theorem d_WP_corner_141 : decode prog_1_method_9_code 141 = .ok (.athrow, 1) := by decide +kernel
theorem d_Rock_cornerPoint_0 : decode prog_6_method_7_code 0 = .ok (.aload_n 0, 1) := by decide +kernel
theorem d_Rock_cornerPoint_1 : decode prog_6_method_7_code 1 = .ok (.getfield 24, 3) := by decide +kernel
theorem d_Rock_cornerPoint_4 : decode prog_6_method_7_code 4 = .ok (.iload_n 1, 1) := by decide +kernel
theorem d_Rock_cornerPoint_5 : decode prog_6_method_7_code 5 = .ok (.iaload, 1) := by decide +kernel
theorem d_Rock_cornerPoint_6 : decode prog_6_method_7_code 6 = .ok (.sipush 1344, 3) := by decide +kernel
theorem d_Rock_cornerPoint_9 : decode prog_6_method_7_code 9 = .ok (.ior, 1) := by decide +kernel
theorem d_Rock_cornerPoint_10 : decode prog_6_method_7_code 10 = .ok (.istore_n 3, 1) := by decide +kernel
theorem d_Rock_cornerPoint_11 : decode prog_6_method_7_code 11 = .ok (.iconst 0, 1) := by decide +kernel
theorem d_Rock_cornerPoint_12 : decode prog_6_method_7_code 12 = .ok (.istore 4, 2) := by decide +kernel
theorem d_Rock_cornerPoint_14 : decode prog_6_method_7_code 14 = .ok (.iconst 0, 1) := by decide +kernel
theorem d_Rock_cornerPoint_15 : decode prog_6_method_7_code 15 = .ok (.istore 5, 2) := by decide +kernel
theorem d_Rock_cornerPoint_17 : decode prog_6_method_7_code 17 = .ok (.iload 5, 2) := by decide +kernel
theorem d_Rock_cornerPoint_19 : decode prog_6_method_7_code 19 = .ok (.aload_n 0, 1) := by decide +kernel
theorem d_Rock_cornerPoint_20 : decode prog_6_method_7_code 20 = .ok (.getfield 20, 3) := by decide +kernel
theorem d_Rock_cornerPoint_23 : decode prog_6_method_7_code 23 = .ok (.getfield 100, 3) := by decide +kernel
theorem d_Rock_cornerPoint_26 : decode prog_6_method_7_code 26 = .ok (.if_icmp .ge 33, 3) := by decide +kernel
theorem d_Rock_cornerPoint_29 : decode prog_6_method_7_code 29 = .ok (.aload_n 0, 1) := by decide +kernel
theorem d_Rock_cornerPoint_30 : decode prog_6_method_7_code 30 = .ok (.getfield 20, 3) := by decide +kernel
theorem d_Rock_cornerPoint_33 : decode prog_6_method_7_code 33 = .ok (.iload 5, 2) := by decide +kernel
theorem d_Rock_cornerPoint_35 : decode prog_6_method_7_code 35 = .ok (.iload_n 3, 1) := by decide +kernel
theorem d_Rock_cornerPoint_36 : decode prog_6_method_7_code 36 = .ok (.invokevirtual 111, 3) := by decide +kernel
theorem d_Rock_cornerPoint_39 : decode prog_6_method_7_code 39 = .ok (.ifCond .eq 14, 3) := by decide +kernel
theorem d_Rock_cornerPoint_42 : decode prog_6_method_7_code 42 = .ok (.aload_n 0, 1) := by decide +kernel
theorem d_Rock_cornerPoint_43 : decode prog_6_method_7_code 43 = .ok (.iload 5, 2) := by decide +kernel
theorem d_Rock_cornerPoint_45 : decode prog_6_method_7_code 45 = .ok (.iload 4, 2) := by decide +kernel
theorem d_Rock_cornerPoint_47 : decode prog_6_method_7_code 47 = .ok (.invokevirtual 114, 3) := by decide +kernel
theorem d_Rock_cornerPoint_50 : decode prog_6_method_7_code 50 = .ok (.iinc 4 1, 3) := by decide +kernel
theorem d_Rock_cornerPoint_53 : decode prog_6_method_7_code 53 = .ok (.iinc 5 1, 3) := by decide +kernel
theorem d_Rock_cornerPoint_56 : decode prog_6_method_7_code 56 = .ok (.goto (-39), 3) := by decide +kernel
theorem d_Rock_cornerPoint_59 : decode prog_6_method_7_code 59 = .ok (.aload_n 0, 1) := by decide +kernel
theorem d_Rock_cornerPoint_60 : decode prog_6_method_7_code 60 = .ok (.getfield 47, 3) := by decide +kernel
theorem d_Rock_cornerPoint_63 : decode prog_6_method_7_code 63 = .ok (.iload_n 2, 1) := by decide +kernel
theorem d_Rock_cornerPoint_64 : decode prog_6_method_7_code 64 = .ok (.iaload, 1) := by decide +kernel
theorem d_Rock_cornerPoint_65 : decode prog_6_method_7_code 65 = .ok (.ireturn, 1) := by decide +kernel
theorem d_Rock_sortIn_0 : decode prog_6_method_10_code 0 = .ok (.iload_n 2, 1) := by decide +kernel
theorem d_Rock_sortIn_1 : decode prog_6_method_10_code 1 = .ok (.istore_n 3, 1) := by decide +kernel
theorem d_Rock_sortIn_2 : decode prog_6_method_10_code 2 = .ok (.iload_n 3, 1) := by decide +kernel
theorem d_Rock_sortIn_3 : decode prog_6_method_10_code 3 = .ok (.ifCond .le 42, 3) := by decide +kernel
theorem d_Rock_sortIn_6 : decode prog_6_method_10_code 6 = .ok (.aload_n 0, 1) := by decide +kernel
theorem d_Rock_sortIn_7 : decode prog_6_method_10_code 7 = .ok (.getfield 20, 3) := by decide +kernel
theorem d_Rock_sortIn_10 : decode prog_6_method_10_code 10 = .ok (.iload_n 1, 1) := by decide +kernel
theorem d_Rock_sortIn_11 : decode prog_6_method_10_code 11 = .ok (.aload_n 0, 1) := by decide +kernel
theorem d_Rock_sortIn_12 : decode prog_6_method_10_code 12 = .ok (.getfield 47, 3) := by decide +kernel
theorem d_Rock_sortIn_15 : decode prog_6_method_10_code 15 = .ok (.iload_n 3, 1) := by decide +kernel
theorem d_Rock_sortIn_16 : decode prog_6_method_10_code 16 = .ok (.iconst 1, 1) := by decide +kernel
theorem d_Rock_sortIn_17 : decode prog_6_method_10_code 17 = .ok (.isub, 1) := by decide +kernel
theorem d_Rock_sortIn_18 : decode prog_6_method_10_code 18 = .ok (.iaload, 1) := by decide +kernel
theorem d_Rock_sortIn_19 : decode prog_6_method_10_code 19 = .ok (.invokevirtual 124, 3) := by decide +kernel
theorem d_Rock_sortIn_22 : decode prog_6_method_10_code 22 = .ok (.ifCond .eq 23, 3) := by decide +kernel
theorem d_Rock_sortIn_25 : decode prog_6_method_10_code 25 = .ok (.aload_n 0, 1) := by decide +kernel
theorem d_Rock_sortIn_26 : decode prog_6_method_10_code 26 = .ok (.getfield 47, 3) := by decide +kernel
theorem d_Rock_sortIn_29 : decode prog_6_method_10_code 29 = .ok (.iload_n 3, 1) := by decide +kernel
theorem d_Rock_sortIn_30 : decode prog_6_method_10_code 30 = .ok (.aload_n 0, 1) := by decide +kernel
theorem d_Rock_sortIn_31 : decode prog_6_method_10_code 31 = .ok (.getfield 47, 3) := by decide +kernel
theorem d_Rock_sortIn_34 : decode prog_6_method_10_code 34 = .ok (.iload_n 3, 1) := by decide +kernel
theorem d_Rock_sortIn_35 : decode prog_6_method_10_code 35 = .ok (.iconst 1, 1) := by decide +kernel
theorem d_Rock_sortIn_36 : decode prog_6_method_10_code 36 = .ok (.isub, 1) := by decide +kernel
theorem d_Rock_sortIn_37 : decode prog_6_method_10_code 37 = .ok (.iaload, 1) := by decide +kernel
theorem d_Rock_sortIn_38 : decode prog_6_method_10_code 38 = .ok (.iastore, 1) := by decide +kernel
theorem d_Rock_sortIn_39 : decode prog_6_method_10_code 39 = .ok (.iinc 3 (-1), 3) := by decide +kernel
theorem d_Rock_sortIn_42 : decode prog_6_method_10_code 42 = .ok (.goto (-40), 3) := by decide +kernel
theorem d_Rock_sortIn_45 : decode prog_6_method_10_code 45 = .ok (.aload_n 0, 1) := by decide +kernel
theorem d_Rock_sortIn_46 : decode prog_6_method_10_code 46 = .ok (.getfield 47, 3) := by decide +kernel
theorem d_Rock_sortIn_49 : decode prog_6_method_10_code 49 = .ok (.iload_n 3, 1) := by decide +kernel
theorem d_Rock_sortIn_50 : decode prog_6_method_10_code 50 = .ok (.iload_n 1, 1) := by decide +kernel
theorem d_Rock_sortIn_51 : decode prog_6_method_10_code 51 = .ok (.iastore, 1) := by decide +kernel
theorem d_Rock_sortIn_52 : decode prog_6_method_10_code 52 = .ok (.return_, 1) := by decide +kernel
theorem d_Points_isBefore_0 : decode prog_5_method_7_code 0 = .ok (.aload_n 0, 1) := by decide +kernel
theorem d_Points_isBefore_1 : decode prog_5_method_7_code 1 = .ok (.getfield 9, 3) := by decide +kernel
theorem d_Points_isBefore_4 : decode prog_5_method_7_code 4 = .ok (.iload_n 1, 1) := by decide +kernel
theorem d_Points_isBefore_5 : decode prog_5_method_7_code 5 = .ok (.iaload, 1) := by decide +kernel
theorem d_Points_isBefore_6 : decode prog_5_method_7_code 6 = .ok (.aload_n 0, 1) := by decide +kernel
theorem d_Points_isBefore_7 : decode prog_5_method_7_code 7 = .ok (.getfield 19, 3) := by decide +kernel
theorem d_Points_isBefore_10 : decode prog_5_method_7_code 10 = .ok (.iload_n 2, 1) := by decide +kernel
theorem d_Points_isBefore_11 : decode prog_5_method_7_code 11 = .ok (.iaload, 1) := by decide +kernel
theorem d_Points_isBefore_12 : decode prog_5_method_7_code 12 = .ok (.imul, 1) := by decide +kernel
theorem d_Points_isBefore_13 : decode prog_5_method_7_code 13 = .ok (.aload_n 0, 1) := by decide +kernel
theorem d_Points_isBefore_14 : decode prog_5_method_7_code 14 = .ok (.getfield 9, 3) := by decide +kernel
theorem d_Points_isBefore_17 : decode prog_5_method_7_code 17 = .ok (.iload_n 2, 1) := by decide +kernel
theorem d_Points_isBefore_18 : decode prog_5_method_7_code 18 = .ok (.iaload, 1) := by decide +kernel
theorem d_Points_isBefore_19 : decode prog_5_method_7_code 19 = .ok (.aload_n 0, 1) := by decide +kernel
theorem d_Points_isBefore_20 : decode prog_5_method_7_code 20 = .ok (.getfield 19, 3) := by decide +kernel
theorem d_Points_isBefore_23 : decode prog_5_method_7_code 23 = .ok (.iload_n 1, 1) := by decide +kernel
theorem d_Points_isBefore_24 : decode prog_5_method_7_code 24 = .ok (.iaload, 1) := by decide +kernel
theorem d_Points_isBefore_25 : decode prog_5_method_7_code 25 = .ok (.imul, 1) := by decide +kernel
theorem d_Points_isBefore_26 : decode prog_5_method_7_code 26 = .ok (.invokestatic 38, 3) := by decide +kernel
theorem d_Points_isBefore_29 : decode prog_5_method_7_code 29 = .ok (.istore_n 3, 1) := by decide +kernel
theorem d_Points_isBefore_30 : decode prog_5_method_7_code 30 = .ok (.aload_n 0, 1) := by decide +kernel
theorem d_Points_isBefore_31 : decode prog_5_method_7_code 31 = .ok (.getfield 13, 3) := by decide +kernel
theorem d_Points_isBefore_34 : decode prog_5_method_7_code 34 = .ok (.iload_n 1, 1) := by decide +kernel
theorem d_Points_isBefore_35 : decode prog_5_method_7_code 35 = .ok (.iaload, 1) := by decide +kernel
theorem d_Points_isBefore_36 : decode prog_5_method_7_code 36 = .ok (.aload_n 0, 1) := by decide +kernel
theorem d_Points_isBefore_37 : decode prog_5_method_7_code 37 = .ok (.getfield 19, 3) := by decide +kernel
theorem d_Points_isBefore_40 : decode prog_5_method_7_code 40 = .ok (.iload_n 2, 1) := by decide +kernel
theorem d_Points_isBefore_41 : decode prog_5_method_7_code 41 = .ok (.iaload, 1) := by decide +kernel
theorem d_Points_isBefore_42 : decode prog_5_method_7_code 42 = .ok (.imul, 1) := by decide +kernel
theorem d_Points_isBefore_43 : decode prog_5_method_7_code 43 = .ok (.aload_n 0, 1) := by decide +kernel
theorem d_Points_isBefore_44 : decode prog_5_method_7_code 44 = .ok (.getfield 13, 3) := by decide +kernel
theorem d_Points_isBefore_47 : decode prog_5_method_7_code 47 = .ok (.iload_n 2, 1) := by decide +kernel
theorem d_Points_isBefore_48 : decode prog_5_method_7_code 48 = .ok (.iaload, 1) := by decide +kernel
theorem d_Points_isBefore_49 : decode prog_5_method_7_code 49 = .ok (.aload_n 0, 1) := by decide +kernel
theorem d_Points_isBefore_50 : decode prog_5_method_7_code 50 = .ok (.getfield 19, 3) := by decide +kernel
theorem d_Points_isBefore_53 : decode prog_5_method_7_code 53 = .ok (.iload_n 1, 1) := by decide +kernel
theorem d_Points_isBefore_54 : decode prog_5_method_7_code 54 = .ok (.iaload, 1) := by decide +kernel
theorem d_Points_isBefore_55 : decode prog_5_method_7_code 55 = .ok (.imul, 1) := by decide +kernel
theorem d_Points_isBefore_56 : decode prog_5_method_7_code 56 = .ok (.invokestatic 38, 3) := by decide +kernel
theorem d_Points_isBefore_59 : decode prog_5_method_7_code 59 = .ok (.istore 4, 2) := by decide +kernel
theorem d_Points_isBefore_61 : decode prog_5_method_7_code 61 = .ok (.aload_n 0, 1) := by decide +kernel
theorem d_Points_isBefore_62 : decode prog_5_method_7_code 62 = .ok (.getfield 16, 3) := by decide +kernel
theorem d_Points_isBefore_65 : decode prog_5_method_7_code 65 = .ok (.iload_n 1, 1) := by decide +kernel
theorem d_Points_isBefore_66 : decode prog_5_method_7_code 66 = .ok (.iaload, 1) := by decide +kernel
theorem d_Points_isBefore_67 : decode prog_5_method_7_code 67 = .ok (.aload_n 0, 1) := by decide +kernel
theorem d_Points_isBefore_68 : decode prog_5_method_7_code 68 = .ok (.getfield 19, 3) := by decide +kernel
theorem d_Points_isBefore_71 : decode prog_5_method_7_code 71 = .ok (.iload_n 2, 1) := by decide +kernel
theorem d_Points_isBefore_72 : decode prog_5_method_7_code 72 = .ok (.iaload, 1) := by decide +kernel
theorem d_Points_isBefore_73 : decode prog_5_method_7_code 73 = .ok (.imul, 1) := by decide +kernel
theorem d_Points_isBefore_74 : decode prog_5_method_7_code 74 = .ok (.aload_n 0, 1) := by decide +kernel
theorem d_Points_isBefore_75 : decode prog_5_method_7_code 75 = .ok (.getfield 16, 3) := by decide +kernel
theorem d_Points_isBefore_78 : decode prog_5_method_7_code 78 = .ok (.iload_n 2, 1) := by decide +kernel
theorem d_Points_isBefore_79 : decode prog_5_method_7_code 79 = .ok (.iaload, 1) := by decide +kernel
theorem d_Points_isBefore_80 : decode prog_5_method_7_code 80 = .ok (.aload_n 0, 1) := by decide +kernel
theorem d_Points_isBefore_81 : decode prog_5_method_7_code 81 = .ok (.getfield 19, 3) := by decide +kernel
theorem d_Points_isBefore_84 : decode prog_5_method_7_code 84 = .ok (.iload_n 1, 1) := by decide +kernel
theorem d_Points_isBefore_85 : decode prog_5_method_7_code 85 = .ok (.iaload, 1) := by decide +kernel
theorem d_Points_isBefore_86 : decode prog_5_method_7_code 86 = .ok (.imul, 1) := by decide +kernel
theorem d_Points_isBefore_87 : decode prog_5_method_7_code 87 = .ok (.invokestatic 38, 3) := by decide +kernel
theorem d_Points_isBefore_90 : decode prog_5_method_7_code 90 = .ok (.istore 5, 2) := by decide +kernel
theorem d_Points_isBefore_92 : decode prog_5_method_7_code 92 = .ok (.iload_n 3, 1) := by decide +kernel
theorem d_Points_isBefore_93 : decode prog_5_method_7_code 93 = .ok (.ifCond .lt 22, 3) := by decide +kernel
theorem d_Points_isBefore_96 : decode prog_5_method_7_code 96 = .ok (.iload_n 3, 1) := by decide +kernel
theorem d_Points_isBefore_97 : decode prog_5_method_7_code 97 = .ok (.ifCond .ne 22, 3) := by decide +kernel
theorem d_Points_isBefore_100 : decode prog_5_method_7_code 100 = .ok (.iload 4, 2) := by decide +kernel
theorem d_Points_isBefore_102 : decode prog_5_method_7_code 102 = .ok (.ifCond .lt 13, 3) := by decide +kernel
theorem d_Points_isBefore_105 : decode prog_5_method_7_code 105 = .ok (.iload 4, 2) := by decide +kernel
theorem d_Points_isBefore_107 : decode prog_5_method_7_code 107 = .ok (.ifCond .ne 12, 3) := by decide +kernel
theorem d_Points_isBefore_110 : decode prog_5_method_7_code 110 = .ok (.iload 5, 2) := by decide +kernel
theorem d_Points_isBefore_112 : decode prog_5_method_7_code 112 = .ok (.ifCond .ge 7, 3) := by decide +kernel
theorem d_Points_isBefore_115 : decode prog_5_method_7_code 115 = .ok (.iconst 1, 1) := by decide +kernel
theorem d_Points_isBefore_116 : decode prog_5_method_7_code 116 = .ok (.goto 4, 3) := by decide +kernel
theorem d_Points_isBefore_119 : decode prog_5_method_7_code 119 = .ok (.iconst 0, 1) := by decide +kernel
theorem d_Points_isBefore_120 : decode prog_5_method_7_code 120 = .ok (.ireturn, 1) := by decide +kernel
theorem d_Integer_compare_0 : decode prog_13_method_40_code 0 = .ok (.iload_n 0, 1) := by decide +kernel
theorem d_Integer_compare_1 : decode prog_13_method_40_code 1 = .ok (.iload_n 1, 1) := by decide +kernel
theorem d_Integer_compare_2 : decode prog_13_method_40_code 2 = .ok (.if_icmp .ge 7, 3) := by decide +kernel
theorem d_Integer_compare_5 : decode prog_13_method_40_code 5 = .ok (.iconst (-1), 1) := by decide +kernel
theorem d_Integer_compare_6 : decode prog_13_method_40_code 6 = .ok (.goto 13, 3) := by decide +kernel
theorem d_Integer_compare_9 : decode prog_13_method_40_code 9 = .ok (.iload_n 0, 1) := by decide +kernel
theorem d_Integer_compare_10 : decode prog_13_method_40_code 10 = .ok (.iload_n 1, 1) := by decide +kernel
theorem d_Integer_compare_11 : decode prog_13_method_40_code 11 = .ok (.if_icmp .ne 7, 3) := by decide +kernel
theorem d_Integer_compare_14 : decode prog_13_method_40_code 14 = .ok (.iconst 0, 1) := by decide +kernel
theorem d_Integer_compare_15 : decode prog_13_method_40_code 15 = .ok (.goto 4, 3) := by decide +kernel
theorem d_Integer_compare_18 : decode prog_13_method_40_code 18 = .ok (.iconst 1, 1) := by decide +kernel
theorem d_Integer_compare_19 : decode prog_13_method_40_code 19 = .ok (.ireturn, 1) := by decide +kernel
theorem d_Law_beside_0 : decode method_9_code 0 = .ok (.aload_n 3, 1) := by decide +kernel
theorem d_Law_beside_1 : decode method_9_code 1 = .ok (.iconst 0, 1) := by decide +kernel
theorem d_Law_beside_2 : decode method_9_code 2 = .ok (.aload_n 0, 1) := by decide +kernel
theorem d_Law_beside_3 : decode method_9_code 3 = .ok (.iload_n 1, 1) := by decide +kernel
theorem d_Law_beside_4 : decode method_9_code 4 = .ok (.iload_n 2, 1) := by decide +kernel
theorem d_Law_beside_5 : decode method_9_code 5 = .ok (.invokevirtual 38, 3) := by decide +kernel
theorem d_Law_beside_8 : decode method_9_code 8 = .ok (.i2l, 1) := by decide +kernel
theorem d_Law_beside_9 : decode method_9_code 9 = .ok (.lastore, 1) := by decide +kernel
theorem d_Law_beside_10 : decode method_9_code 10 = .ok (.goto 7, 3) := by decide +kernel
theorem d_Law_beside_13 : decode method_9_code 13 = .ok (.astore 4, 2) := by decide +kernel
theorem d_Law_beside_15 : decode method_9_code 15 = .ok (.iconst 1, 1) := by decide +kernel
theorem d_Law_beside_16 : decode method_9_code 16 = .ok (.ireturn, 1) := by decide +kernel
theorem d_Law_beside_17 : decode method_9_code 17 = .ok (.iconst 0, 1) := by decide +kernel
theorem d_Law_beside_18 : decode method_9_code 18 = .ok (.ireturn, 1) := by decide +kernel
theorem d_WP_beside_0 : decode prog_1_method_11_code 0 = .ok (.aload_n 0, 1) := by decide +kernel
theorem d_WP_beside_1 : decode prog_1_method_11_code 1 = .ok (.iload_n 1, 1) := by decide +kernel
theorem d_WP_beside_2 : decode prog_1_method_11_code 2 = .ok (.invokevirtual 118, 3) := by decide +kernel
theorem d_WP_beside_5 : decode prog_1_method_11_code 5 = .ok (.iload_n 2, 1) := by decide +kernel
theorem d_WP_beside_6 : decode prog_1_method_11_code 6 = .ok (.ifCond .lt 14, 3) := by decide +kernel
theorem d_WP_beside_9 : decode prog_1_method_11_code 9 = .ok (.iload_n 2, 1) := by decide +kernel
theorem d_WP_beside_10 : decode prog_1_method_11_code 10 = .ok (.aload_n 0, 1) := by decide +kernel
theorem d_WP_beside_11 : decode prog_1_method_11_code 11 = .ok (.getfield 57, 3) := by decide +kernel
theorem d_WP_beside_14 : decode prog_1_method_11_code 14 = .ok (.getfield 78, 3) := by decide +kernel
theorem d_WP_beside_17 : decode prog_1_method_11_code 17 = .ok (.if_icmp .lt 13, 3) := by decide +kernel
theorem d_WP_beside_20 : decode prog_1_method_11_code 20 = .ok (.new 96, 3) := by decide +kernel
theorem d_WP_beside_23 : decode prog_1_method_11_code 23 = .ok (.dup, 1) := by decide +kernel
theorem d_WP_beside_24 : decode prog_1_method_11_code 24 = .ok (.ldc 165, 2) := by decide +kernel
theorem d_WP_beside_26 : decode prog_1_method_11_code 26 = .ok (.invokespecial 100, 3) := by decide +kernel
theorem d_WP_beside_29 : decode prog_1_method_11_code 29 = .ok (.athrow, 1) := by decide +kernel
theorem d_WP_beside_30 : decode prog_1_method_11_code 30 = .ok (.aload_n 0, 1) := by decide +kernel
theorem d_WP_beside_31 : decode prog_1_method_11_code 31 = .ok (.getfield 57, 3) := by decide +kernel
theorem d_WP_beside_34 : decode prog_1_method_11_code 34 = .ok (.iload_n 1, 1) := by decide +kernel
theorem d_WP_beside_35 : decode prog_1_method_11_code 35 = .ok (.iload_n 2, 1) := by decide +kernel
theorem d_WP_beside_36 : decode prog_1_method_11_code 36 = .ok (.invokevirtual 167, 3) := by decide +kernel
theorem d_WP_beside_39 : decode prog_1_method_11_code 39 = .ok (.ireturn, 1) := by decide +kernel
theorem d_Law_goes_0 : decode method_10_code 0 = .ok (.aload_n 3, 1) := by decide +kernel
theorem d_Law_goes_1 : decode method_10_code 1 = .ok (.iconst 0, 1) := by decide +kernel
theorem d_Law_goes_2 : decode method_10_code 2 = .ok (.aload_n 0, 1) := by decide +kernel
theorem d_Law_goes_3 : decode method_10_code 3 = .ok (.iload_n 1, 1) := by decide +kernel
theorem d_Law_goes_4 : decode method_10_code 4 = .ok (.iload_n 2, 1) := by decide +kernel
theorem d_Law_goes_5 : decode method_10_code 5 = .ok (.invokevirtual 41, 3) := by decide +kernel
theorem d_Law_goes_8 : decode method_10_code 8 = .ok (.ifCond .eq 7, 3) := by decide +kernel
theorem d_Law_goes_11 : decode method_10_code 11 = .ok (.lconst 1, 1) := by decide +kernel
theorem d_Law_goes_12 : decode method_10_code 12 = .ok (.goto 4, 3) := by decide +kernel
theorem d_Law_goes_15 : decode method_10_code 15 = .ok (.lconst 0, 1) := by decide +kernel
theorem d_Law_goes_16 : decode method_10_code 16 = .ok (.lastore, 1) := by decide +kernel
theorem d_Law_goes_17 : decode method_10_code 17 = .ok (.goto 7, 3) := by decide +kernel
theorem d_Law_goes_20 : decode method_10_code 20 = .ok (.astore 4, 2) := by decide +kernel
theorem d_Law_goes_22 : decode method_10_code 22 = .ok (.iconst 1, 1) := by decide +kernel
theorem d_Law_goes_23 : decode method_10_code 23 = .ok (.ireturn, 1) := by decide +kernel
theorem d_Law_goes_24 : decode method_10_code 24 = .ok (.iconst 0, 1) := by decide +kernel
theorem d_Law_goes_25 : decode method_10_code 25 = .ok (.ireturn, 1) := by decide +kernel
theorem d_WP_goes_0 : decode prog_1_method_12_code 0 = .ok (.aload_n 0, 1) := by decide +kernel
theorem d_WP_goes_1 : decode prog_1_method_12_code 1 = .ok (.iload_n 1, 1) := by decide +kernel
theorem d_WP_goes_2 : decode prog_1_method_12_code 2 = .ok (.invokevirtual 118, 3) := by decide +kernel
theorem d_WP_goes_5 : decode prog_1_method_12_code 5 = .ok (.iload_n 2, 1) := by decide +kernel
theorem d_WP_goes_6 : decode prog_1_method_12_code 6 = .ok (.ifCond .lt 11, 3) := by decide +kernel
theorem d_WP_goes_9 : decode prog_1_method_12_code 9 = .ok (.iload_n 2, 1) := by decide +kernel
theorem d_WP_goes_10 : decode prog_1_method_12_code 10 = .ok (.aload_n 0, 1) := by decide +kernel
theorem d_WP_goes_11 : decode prog_1_method_12_code 11 = .ok (.getfield 42, 3) := by decide +kernel
theorem d_WP_goes_14 : decode prog_1_method_12_code 14 = .ok (.if_icmp .lt 13, 3) := by decide +kernel
theorem d_WP_goes_17 : decode prog_1_method_12_code 17 = .ok (.new 96, 3) := by decide +kernel
theorem d_WP_goes_20 : decode prog_1_method_12_code 20 = .ok (.dup, 1) := by decide +kernel
theorem d_WP_goes_21 : decode prog_1_method_12_code 21 = .ok (.ldc 170, 2) := by decide +kernel
theorem d_WP_goes_23 : decode prog_1_method_12_code 23 = .ok (.invokespecial 100, 3) := by decide +kernel
theorem d_WP_goes_26 : decode prog_1_method_12_code 26 = .ok (.athrow, 1) := by decide +kernel
theorem d_WP_goes_27 : decode prog_1_method_12_code 27 = .ok (.aload_n 0, 1) := by decide +kernel
theorem d_WP_goes_28 : decode prog_1_method_12_code 28 = .ok (.getfield 27, 3) := by decide +kernel
theorem d_WP_goes_31 : decode prog_1_method_12_code 31 = .ok (.iload_n 1, 1) := by decide +kernel
theorem d_WP_goes_32 : decode prog_1_method_12_code 32 = .ok (.baload, 1) := by decide +kernel
theorem d_WP_goes_33 : decode prog_1_method_12_code 33 = .ok (.ifCond .eq 5, 3) := by decide +kernel
theorem d_WP_goes_36 : decode prog_1_method_12_code 36 = .ok (.iconst 0, 1) := by decide +kernel
theorem d_WP_goes_37 : decode prog_1_method_12_code 37 = .ok (.ireturn, 1) := by decide +kernel
theorem d_WP_goes_38 : decode prog_1_method_12_code 38 = .ok (.aload_n 0, 1) := by decide +kernel
theorem d_WP_goes_39 : decode prog_1_method_12_code 39 = .ok (.iload_n 1, 1) := by decide +kernel
theorem d_WP_goes_40 : decode prog_1_method_12_code 40 = .ok (.invokevirtual 172, 3) := by decide +kernel
theorem d_WP_goes_43 : decode prog_1_method_12_code 43 = .ok (.aload_n 0, 1) := by decide +kernel
theorem d_WP_goes_44 : decode prog_1_method_12_code 44 = .ok (.getfield 12, 3) := by decide +kernel
theorem d_WP_goes_47 : decode prog_1_method_12_code 47 = .ok (.aload_n 0, 1) := by decide +kernel
theorem d_WP_goes_48 : decode prog_1_method_12_code 48 = .ok (.getfield 18, 3) := by decide +kernel
theorem d_WP_goes_51 : decode prog_1_method_12_code 51 = .ok (.iload_n 2, 1) := by decide +kernel
theorem d_WP_goes_52 : decode prog_1_method_12_code 52 = .ok (.aaload, 1) := by decide +kernel
theorem d_WP_goes_53 : decode prog_1_method_12_code 53 = .ok (.invokevirtual 175, 3) := by decide +kernel
theorem d_WP_goes_56 : decode prog_1_method_12_code 56 = .ok (.ireturn, 1) := by decide +kernel
theorem d_Law_take_0 : decode method_11_code 0 = .ok (.aload_n 2, 1) := by decide +kernel
theorem d_Law_take_1 : decode method_11_code 1 = .ok (.iconst 0, 1) := by decide +kernel
theorem d_Law_take_2 : decode method_11_code 2 = .ok (.aload_n 0, 1) := by decide +kernel
theorem d_Law_take_3 : decode method_11_code 3 = .ok (.iload_n 1, 1) := by decide +kernel
theorem d_Law_take_4 : decode method_11_code 4 = .ok (.invokevirtual 45, 3) := by decide +kernel
theorem d_Law_take_7 : decode method_11_code 7 = .ok (.i2l, 1) := by decide +kernel
theorem d_Law_take_8 : decode method_11_code 8 = .ok (.lastore, 1) := by decide +kernel
theorem d_Law_take_9 : decode method_11_code 9 = .ok (.goto 6, 3) := by decide +kernel
theorem d_Law_take_12 : decode method_11_code 12 = .ok (.astore_n 3, 1) := by decide +kernel
theorem d_Law_take_13 : decode method_11_code 13 = .ok (.iconst 1, 1) := by decide +kernel
theorem d_Law_take_14 : decode method_11_code 14 = .ok (.ireturn, 1) := by decide +kernel
theorem d_Law_take_15 : decode method_11_code 15 = .ok (.iconst 0, 1) := by decide +kernel
theorem d_Law_take_16 : decode method_11_code 16 = .ok (.ireturn, 1) := by decide +kernel
theorem d_WP_take_0 : decode prog_1_method_13_code 0 = .ok (.aload_n 0, 1) := by decide +kernel
theorem d_WP_take_1 : decode prog_1_method_13_code 1 = .ok (.iload_n 1, 1) := by decide +kernel
theorem d_WP_take_2 : decode prog_1_method_13_code 2 = .ok (.invokevirtual 118, 3) := by decide +kernel
theorem d_WP_take_5 : decode prog_1_method_13_code 5 = .ok (.aload_n 0, 1) := by decide +kernel
theorem d_WP_take_6 : decode prog_1_method_13_code 6 = .ok (.iload_n 1, 1) := by decide +kernel
theorem d_WP_take_7 : decode prog_1_method_13_code 7 = .ok (.invokevirtual 179, 3) := by decide +kernel
theorem d_WP_take_10 : decode prog_1_method_13_code 10 = .ok (.istore_n 2, 1) := by decide +kernel
theorem d_WP_take_11 : decode prog_1_method_13_code 11 = .ok (.iload_n 2, 1) := by decide +kernel
theorem d_WP_take_12 : decode prog_1_method_13_code 12 = .ok (.iconst (-1), 1) := by decide +kernel
theorem d_WP_take_13 : decode prog_1_method_13_code 13 = .ok (.if_icmp .eq 9, 3) := by decide +kernel
theorem d_WP_take_16 : decode prog_1_method_13_code 16 = .ok (.aload_n 0, 1) := by decide +kernel
theorem d_WP_take_17 : decode prog_1_method_13_code 17 = .ok (.iload_n 1, 1) := by decide +kernel
theorem d_WP_take_18 : decode prog_1_method_13_code 18 = .ok (.iload_n 2, 1) := by decide +kernel
theorem d_WP_take_19 : decode prog_1_method_13_code 19 = .ok (.invokevirtual 182, 3) := by decide +kernel
theorem d_WP_take_22 : decode prog_1_method_13_code 22 = .ok (.iload_n 2, 1) := by decide +kernel
theorem d_WP_take_23 : decode prog_1_method_13_code 23 = .ok (.ireturn, 1) := by decide +kernel
theorem d_Law_taken_0 : decode method_12_code 0 = .ok (.aload_n 3, 1) := by decide +kernel
theorem d_Law_taken_1 : decode method_12_code 1 = .ok (.iconst 0, 1) := by decide +kernel
theorem d_Law_taken_2 : decode method_12_code 2 = .ok (.aload_n 0, 1) := by decide +kernel
theorem d_Law_taken_3 : decode method_12_code 3 = .ok (.iload_n 1, 1) := by decide +kernel
theorem d_Law_taken_4 : decode method_12_code 4 = .ok (.iload_n 2, 1) := by decide +kernel
theorem d_Law_taken_5 : decode method_12_code 5 = .ok (.invokevirtual 49, 3) := by decide +kernel
theorem d_Law_taken_8 : decode method_12_code 8 = .ok (.i2l, 1) := by decide +kernel
theorem d_Law_taken_9 : decode method_12_code 9 = .ok (.lastore, 1) := by decide +kernel
theorem d_Law_taken_10 : decode method_12_code 10 = .ok (.goto 7, 3) := by decide +kernel
theorem d_Law_taken_13 : decode method_12_code 13 = .ok (.astore 4, 2) := by decide +kernel
theorem d_Law_taken_15 : decode method_12_code 15 = .ok (.iconst 1, 1) := by decide +kernel
theorem d_Law_taken_16 : decode method_12_code 16 = .ok (.ireturn, 1) := by decide +kernel
theorem d_Law_taken_17 : decode method_12_code 17 = .ok (.iconst 0, 1) := by decide +kernel
theorem d_Law_taken_18 : decode method_12_code 18 = .ok (.ireturn, 1) := by decide +kernel
theorem d_WP_taken_0 : decode prog_1_method_15_code 0 = .ok (.iload_n 1, 1) := by decide +kernel
theorem d_WP_taken_1 : decode prog_1_method_15_code 1 = .ok (.ifCond .lt 11, 3) := by decide +kernel
theorem d_WP_taken_4 : decode prog_1_method_15_code 4 = .ok (.iload_n 1, 1) := by decide +kernel
theorem d_WP_taken_5 : decode prog_1_method_15_code 5 = .ok (.aload_n 0, 1) := by decide +kernel
theorem d_WP_taken_6 : decode prog_1_method_15_code 6 = .ok (.getfield 38, 3) := by decide +kernel
theorem d_WP_taken_9 : decode prog_1_method_15_code 9 = .ok (.if_icmp .lt 13, 3) := by decide +kernel
theorem d_WP_taken_12 : decode prog_1_method_15_code 12 = .ok (.new 96, 3) := by decide +kernel
theorem d_WP_taken_15 : decode prog_1_method_15_code 15 = .ok (.dup, 1) := by decide +kernel
theorem d_WP_taken_16 : decode prog_1_method_15_code 16 = .ok (.ldc 190, 2) := by decide +kernel
theorem d_WP_taken_18 : decode prog_1_method_15_code 18 = .ok (.invokespecial 100, 3) := by decide +kernel
theorem d_WP_taken_21 : decode prog_1_method_15_code 21 = .ok (.athrow, 1) := by decide +kernel
theorem d_WP_taken_22 : decode prog_1_method_15_code 22 = .ok (.iload_n 2, 1) := by decide +kernel
theorem d_WP_taken_23 : decode prog_1_method_15_code 23 = .ok (.ifCond .lt 8, 3) := by decide +kernel
theorem d_WP_taken_26 : decode prog_1_method_15_code 26 = .ok (.iload_n 2, 1) := by decide +kernel
theorem d_WP_taken_27 : decode prog_1_method_15_code 27 = .ok (.iconst 1, 1) := by decide +kernel
theorem d_WP_taken_28 : decode prog_1_method_15_code 28 = .ok (.if_icmp .le 13, 3) := by decide +kernel
theorem d_WP_taken_31 : decode prog_1_method_15_code 31 = .ok (.new 96, 3) := by decide +kernel
theorem d_WP_taken_34 : decode prog_1_method_15_code 34 = .ok (.dup, 1) := by decide +kernel
theorem d_WP_taken_35 : decode prog_1_method_15_code 35 = .ok (.ldc 192, 2) := by decide +kernel
theorem d_WP_taken_37 : decode prog_1_method_15_code 37 = .ok (.invokespecial 100, 3) := by decide +kernel
theorem d_WP_taken_40 : decode prog_1_method_15_code 40 = .ok (.athrow, 1) := by decide +kernel
theorem d_WP_taken_41 : decode prog_1_method_15_code 41 = .ok (.iload_n 2, 1) := by decide +kernel
theorem d_WP_taken_42 : decode prog_1_method_15_code 42 = .ok (.ifCond .ne 12, 3) := by decide +kernel
theorem d_WP_taken_45 : decode prog_1_method_15_code 45 = .ok (.aload_n 0, 1) := by decide +kernel
theorem d_WP_taken_46 : decode prog_1_method_15_code 46 = .ok (.getfield 31, 3) := by decide +kernel
theorem d_WP_taken_49 : decode prog_1_method_15_code 49 = .ok (.iload_n 1, 1) := by decide +kernel
theorem d_WP_taken_50 : decode prog_1_method_15_code 50 = .ok (.iaload, 1) := by decide +kernel
theorem d_WP_taken_51 : decode prog_1_method_15_code 51 = .ok (.goto 9, 3) := by decide +kernel
theorem d_WP_taken_54 : decode prog_1_method_15_code 54 = .ok (.aload_n 0, 1) := by decide +kernel
theorem d_WP_taken_55 : decode prog_1_method_15_code 55 = .ok (.getfield 35, 3) := by decide +kernel
theorem d_WP_taken_58 : decode prog_1_method_15_code 58 = .ok (.iload_n 1, 1) := by decide +kernel
theorem d_WP_taken_59 : decode prog_1_method_15_code 59 = .ok (.iaload, 1) := by decide +kernel
theorem d_WP_taken_60 : decode prog_1_method_15_code 60 = .ok (.ireturn, 1) := by decide +kernel
theorem d_Law_mode_0 : decode method_13_code 0 = .ok (.aload_n 2, 1) := by decide +kernel
theorem d_Law_mode_1 : decode method_13_code 1 = .ok (.iconst 0, 1) := by decide +kernel
theorem d_Law_mode_2 : decode method_13_code 2 = .ok (.aload_n 0, 1) := by decide +kernel
theorem d_Law_mode_3 : decode method_13_code 3 = .ok (.iload_n 1, 1) := by decide +kernel
theorem d_Law_mode_4 : decode method_13_code 4 = .ok (.invokevirtual 52, 3) := by decide +kernel
theorem d_Law_mode_7 : decode method_13_code 7 = .ok (.i2l, 1) := by decide +kernel
theorem d_Law_mode_8 : decode method_13_code 8 = .ok (.lastore, 1) := by decide +kernel
theorem d_Law_mode_9 : decode method_13_code 9 = .ok (.goto 6, 3) := by decide +kernel
theorem d_Law_mode_12 : decode method_13_code 12 = .ok (.astore_n 3, 1) := by decide +kernel
theorem d_Law_mode_13 : decode method_13_code 13 = .ok (.iconst 1, 1) := by decide +kernel
theorem d_Law_mode_14 : decode method_13_code 14 = .ok (.ireturn, 1) := by decide +kernel
theorem d_Law_mode_15 : decode method_13_code 15 = .ok (.iconst 0, 1) := by decide +kernel
theorem d_Law_mode_16 : decode method_13_code 16 = .ok (.ireturn, 1) := by decide +kernel
theorem d_WP_mode_0 : decode prog_1_method_17_code 0 = .ok (.aload_n 0, 1) := by decide +kernel
theorem d_WP_mode_1 : decode prog_1_method_17_code 1 = .ok (.iload_n 1, 1) := by decide +kernel
theorem d_WP_mode_2 : decode prog_1_method_17_code 2 = .ok (.invokevirtual 118, 3) := by decide +kernel
theorem d_WP_mode_5 : decode prog_1_method_17_code 5 = .ok (.aload_n 0, 1) := by decide +kernel
theorem d_WP_mode_6 : decode prog_1_method_17_code 6 = .ok (.getfield 27, 3) := by decide +kernel
theorem d_WP_mode_9 : decode prog_1_method_17_code 9 = .ok (.iload_n 1, 1) := by decide +kernel
theorem d_WP_mode_10 : decode prog_1_method_17_code 10 = .ok (.baload, 1) := by decide +kernel
theorem d_WP_mode_11 : decode prog_1_method_17_code 11 = .ok (.ifCond .eq 5, 3) := by decide +kernel
theorem d_WP_mode_14 : decode prog_1_method_17_code 14 = .ok (.iconst (-1), 1) := by decide +kernel
theorem d_WP_mode_15 : decode prog_1_method_17_code 15 = .ok (.ireturn, 1) := by decide +kernel
theorem d_WP_mode_16 : decode prog_1_method_17_code 16 = .ok (.aload_n 0, 1) := by decide +kernel
theorem d_WP_mode_17 : decode prog_1_method_17_code 17 = .ok (.iload_n 1, 1) := by decide +kernel
theorem d_WP_mode_18 : decode prog_1_method_17_code 18 = .ok (.invokevirtual 172, 3) := by decide +kernel
theorem d_WP_mode_21 : decode prog_1_method_17_code 21 = .ok (.aload_n 0, 1) := by decide +kernel
theorem d_WP_mode_22 : decode prog_1_method_17_code 22 = .ok (.getfield 12, 3) := by decide +kernel
theorem d_WP_mode_25 : decode prog_1_method_17_code 25 = .ok (.aload_n 0, 1) := by decide +kernel
theorem d_WP_mode_26 : decode prog_1_method_17_code 26 = .ok (.getfield 23, 3) := by decide +kernel
theorem d_WP_mode_29 : decode prog_1_method_17_code 29 = .ok (.invokevirtual 194, 3) := by decide +kernel
theorem d_WP_mode_32 : decode prog_1_method_17_code 32 = .ok (.ireturn, 1) := by decide +kernel
theorem d_Hold_answerTo_0 : decode prog_3_method_5_code 0 = .ok (.aload_n 0, 1) := by decide +kernel
theorem d_Hold_answerTo_1 : decode prog_3_method_5_code 1 = .ok (.aload_n 1, 1) := by decide +kernel
theorem d_Hold_answerTo_2 : decode prog_3_method_5_code 2 = .ok (.invokevirtual 45, 3) := by decide +kernel
theorem d_Hold_answerTo_5 : decode prog_3_method_5_code 5 = .ok (.ifCond .eq 5, 3) := by decide +kernel
theorem d_Hold_answerTo_8 : decode prog_3_method_5_code 8 = .ok (.iconst 1, 1) := by decide +kernel
theorem d_Hold_answerTo_9 : decode prog_3_method_5_code 9 = .ok (.ireturn, 1) := by decide +kernel
theorem d_Hold_answerTo_10 : decode prog_3_method_5_code 10 = .ok (.iconst 0, 1) := by decide +kernel
theorem d_Hold_answerTo_11 : decode prog_3_method_5_code 11 = .ok (.istore_n 2, 1) := by decide +kernel
theorem d_Hold_answerTo_12 : decode prog_3_method_5_code 12 = .ok (.iload_n 2, 1) := by decide +kernel
theorem d_Hold_answerTo_13 : decode prog_3_method_5_code 13 = .ok (.bipush 12, 2) := by decide +kernel
theorem d_Hold_answerTo_15 : decode prog_3_method_5_code 15 = .ok (.if_icmp .ge 36, 3) := by decide +kernel
theorem d_Hold_answerTo_18 : decode prog_3_method_5_code 18 = .ok (.aload_n 0, 1) := by decide +kernel
theorem d_Hold_answerTo_19 : decode prog_3_method_5_code 19 = .ok (.getfield 25, 3) := by decide +kernel
theorem d_Hold_answerTo_22 : decode prog_3_method_5_code 22 = .ok (.iload_n 2, 1) := by decide +kernel
theorem d_Hold_answerTo_23 : decode prog_3_method_5_code 23 = .ok (.invokestatic 37, 3) := by decide +kernel
theorem d_Hold_answerTo_26 : decode prog_3_method_5_code 26 = .ok (.ifCond .eq 19, 3) := by decide +kernel
theorem d_Hold_answerTo_29 : decode prog_3_method_5_code 29 = .ok (.aload_n 0, 1) := by decide +kernel
theorem d_Hold_answerTo_30 : decode prog_3_method_5_code 30 = .ok (.getfield 17, 3) := by decide +kernel
theorem d_Hold_answerTo_33 : decode prog_3_method_5_code 33 = .ok (.iload_n 2, 1) := by decide +kernel
theorem d_Hold_answerTo_34 : decode prog_3_method_5_code 34 = .ok (.aaload, 1) := by decide +kernel
theorem d_Hold_answerTo_35 : decode prog_3_method_5_code 35 = .ok (.aload_n 1, 1) := by decide +kernel
theorem d_Hold_answerTo_36 : decode prog_3_method_5_code 36 = .ok (.aload_n 0, 1) := by decide +kernel
theorem d_Hold_answerTo_37 : decode prog_3_method_5_code 37 = .ok (.getfield 11, 3) := by decide +kernel
theorem d_Hold_answerTo_40 : decode prog_3_method_5_code 40 = .ok (.iload_n 2, 1) := by decide +kernel
theorem d_Hold_answerTo_41 : decode prog_3_method_5_code 41 = .ok (.aaload, 1) := by decide +kernel
theorem d_Hold_answerTo_42 : decode prog_3_method_5_code 42 = .ok (.invokevirtual 49, 3) := by decide +kernel
theorem d_Hold_answerTo_45 : decode prog_3_method_5_code 45 = .ok (.iinc 2 1, 3) := by decide +kernel
theorem d_Hold_answerTo_48 : decode prog_3_method_5_code 48 = .ok (.goto (-36), 3) := by decide +kernel
theorem d_Hold_answerTo_51 : decode prog_3_method_5_code 51 = .ok (.aload_n 0, 1) := by decide +kernel
theorem d_Hold_answerTo_52 : decode prog_3_method_5_code 52 = .ok (.aload_n 1, 1) := by decide +kernel
theorem d_Hold_answerTo_53 : decode prog_3_method_5_code 53 = .ok (.invokevirtual 53, 3) := by decide +kernel
theorem d_Hold_answerTo_56 : decode prog_3_method_5_code 56 = .ok (.istore_n 2, 1) := by decide +kernel
theorem d_Hold_answerTo_57 : decode prog_3_method_5_code 57 = .ok (.iload_n 2, 1) := by decide +kernel
theorem d_Hold_answerTo_58 : decode prog_3_method_5_code 58 = .ok (.ifCond .eq 7, 3) := by decide +kernel
theorem d_Hold_answerTo_61 : decode prog_3_method_5_code 61 = .ok (.iload_n 2, 1) := by decide +kernel
theorem d_Hold_answerTo_62 : decode prog_3_method_5_code 62 = .ok (.goto 8, 3) := by decide +kernel
theorem d_Hold_answerTo_65 : decode prog_3_method_5_code 65 = .ok (.aload_n 0, 1) := by decide +kernel
theorem d_Hold_answerTo_66 : decode prog_3_method_5_code 66 = .ok (.aload_n 1, 1) := by decide +kernel
theorem d_Hold_answerTo_67 : decode prog_3_method_5_code 67 = .ok (.invokevirtual 56, 3) := by decide +kernel
theorem d_Hold_answerTo_70 : decode prog_3_method_5_code 70 = .ok (.ireturn, 1) := by decide +kernel
theorem d_Arrow_setSlide_0 : decode prog_2_method_5_code 0 = .ok (.aload_n 2, 1) := by decide +kernel
theorem d_Arrow_setSlide_1 : decode prog_2_method_5_code 1 = .ok (.aload_n 2, 1) := by decide +kernel
theorem d_Arrow_setSlide_2 : decode prog_2_method_5_code 2 = .ok (.invokevirtual 23, 3) := by decide +kernel
theorem d_Arrow_setSlide_5 : decode prog_2_method_5_code 5 = .ok (.istore_n 3, 1) := by decide +kernel
theorem d_Arrow_setSlide_6 : decode prog_2_method_5_code 6 = .ok (.aload_n 1, 1) := by decide +kernel
theorem d_Arrow_setSlide_7 : decode prog_2_method_5_code 7 = .ok (.aload_n 2, 1) := by decide +kernel
theorem d_Arrow_setSlide_8 : decode prog_2_method_5_code 8 = .ok (.invokevirtual 23, 3) := by decide +kernel
theorem d_Arrow_setSlide_11 : decode prog_2_method_5_code 11 = .ok (.istore 4, 2) := by decide +kernel
theorem d_Arrow_setSlide_13 : decode prog_2_method_5_code 13 = .ok (.aload_n 0, 1) := by decide +kernel
theorem d_Arrow_setSlide_14 : decode prog_2_method_5_code 14 = .ok (.aload_n 1, 1) := by decide +kernel
theorem d_Arrow_setSlide_15 : decode prog_2_method_5_code 15 = .ok (.getfield 7, 3) := by decide +kernel
theorem d_Arrow_setSlide_18 : decode prog_2_method_5_code 18 = .ok (.iload_n 3, 1) := by decide +kernel
theorem d_Arrow_setSlide_19 : decode prog_2_method_5_code 19 = .ok (.imul, 1) := by decide +kernel
theorem d_Arrow_setSlide_20 : decode prog_2_method_5_code 20 = .ok (.aload_n 2, 1) := by decide +kernel
theorem d_Arrow_setSlide_21 : decode prog_2_method_5_code 21 = .ok (.getfield 7, 3) := by decide +kernel
theorem d_Arrow_setSlide_24 : decode prog_2_method_5_code 24 = .ok (.iload 4, 2) := by decide +kernel
theorem d_Arrow_setSlide_26 : decode prog_2_method_5_code 26 = .ok (.imul, 1) := by decide +kernel
theorem d_Arrow_setSlide_27 : decode prog_2_method_5_code 27 = .ok (.isub, 1) := by decide +kernel
theorem d_Arrow_setSlide_28 : decode prog_2_method_5_code 28 = .ok (.aload_n 1, 1) := by decide +kernel
theorem d_Arrow_setSlide_29 : decode prog_2_method_5_code 29 = .ok (.getfield 13, 3) := by decide +kernel
theorem d_Arrow_setSlide_32 : decode prog_2_method_5_code 32 = .ok (.iload_n 3, 1) := by decide +kernel
theorem d_Arrow_setSlide_33 : decode prog_2_method_5_code 33 = .ok (.imul, 1) := by decide +kernel
theorem d_Arrow_setSlide_34 : decode prog_2_method_5_code 34 = .ok (.aload_n 2, 1) := by decide +kernel
theorem d_Arrow_setSlide_35 : decode prog_2_method_5_code 35 = .ok (.getfield 13, 3) := by decide +kernel
theorem d_Arrow_setSlide_38 : decode prog_2_method_5_code 38 = .ok (.iload 4, 2) := by decide +kernel
theorem d_Arrow_setSlide_40 : decode prog_2_method_5_code 40 = .ok (.imul, 1) := by decide +kernel
theorem d_Arrow_setSlide_41 : decode prog_2_method_5_code 41 = .ok (.isub, 1) := by decide +kernel
theorem d_Arrow_setSlide_42 : decode prog_2_method_5_code 42 = .ok (.aload_n 1, 1) := by decide +kernel
theorem d_Arrow_setSlide_43 : decode prog_2_method_5_code 43 = .ok (.getfield 16, 3) := by decide +kernel
theorem d_Arrow_setSlide_46 : decode prog_2_method_5_code 46 = .ok (.iload_n 3, 1) := by decide +kernel
theorem d_Arrow_setSlide_47 : decode prog_2_method_5_code 47 = .ok (.imul, 1) := by decide +kernel
theorem d_Arrow_setSlide_48 : decode prog_2_method_5_code 48 = .ok (.aload_n 2, 1) := by decide +kernel
theorem d_Arrow_setSlide_49 : decode prog_2_method_5_code 49 = .ok (.getfield 16, 3) := by decide +kernel
theorem d_Arrow_setSlide_52 : decode prog_2_method_5_code 52 = .ok (.iload 4, 2) := by decide +kernel
theorem d_Arrow_setSlide_54 : decode prog_2_method_5_code 54 = .ok (.imul, 1) := by decide +kernel
theorem d_Arrow_setSlide_55 : decode prog_2_method_5_code 55 = .ok (.isub, 1) := by decide +kernel
theorem d_Arrow_setSlide_56 : decode prog_2_method_5_code 56 = .ok (.invokevirtual 19, 3) := by decide +kernel
theorem d_Arrow_setSlide_59 : decode prog_2_method_5_code 59 = .ok (.return_, 1) := by decide +kernel
theorem d_Hold_slideOnOne_0 : decode prog_3_method_6_code 0 = .ok (.iconst 0, 1) := by decide +kernel
theorem d_Hold_slideOnOne_1 : decode prog_3_method_6_code 1 = .ok (.istore_n 2, 1) := by decide +kernel
theorem d_Hold_slideOnOne_2 : decode prog_3_method_6_code 2 = .ok (.iload_n 2, 1) := by decide +kernel
theorem d_Hold_slideOnOne_3 : decode prog_3_method_6_code 3 = .ok (.bipush 12, 2) := by decide +kernel
theorem d_Hold_slideOnOne_5 : decode prog_3_method_6_code 5 = .ok (.if_icmp .ge 51, 3) := by decide +kernel
theorem d_Hold_slideOnOne_8 : decode prog_3_method_6_code 8 = .ok (.aload_n 0, 1) := by decide +kernel
theorem d_Hold_slideOnOne_9 : decode prog_3_method_6_code 9 = .ok (.getfield 25, 3) := by decide +kernel
theorem d_Hold_slideOnOne_12 : decode prog_3_method_6_code 12 = .ok (.iload_n 2, 1) := by decide +kernel
theorem d_Hold_slideOnOne_13 : decode prog_3_method_6_code 13 = .ok (.invokestatic 37, 3) := by decide +kernel
theorem d_Hold_slideOnOne_16 : decode prog_3_method_6_code 16 = .ok (.ifCond .eq 34, 3) := by decide +kernel
theorem d_Hold_slideOnOne_19 : decode prog_3_method_6_code 19 = .ok (.aload_n 1, 1) := by decide +kernel
theorem d_Hold_slideOnOne_20 : decode prog_3_method_6_code 20 = .ok (.aload_n 0, 1) := by decide +kernel
theorem d_Hold_slideOnOne_21 : decode prog_3_method_6_code 21 = .ok (.getfield 11, 3) := by decide +kernel
theorem d_Hold_slideOnOne_24 : decode prog_3_method_6_code 24 = .ok (.iload_n 2, 1) := by decide +kernel
theorem d_Hold_slideOnOne_25 : decode prog_3_method_6_code 25 = .ok (.aaload, 1) := by decide +kernel
theorem d_Hold_slideOnOne_26 : decode prog_3_method_6_code 26 = .ok (.invokevirtual 41, 3) := by decide +kernel
theorem d_Hold_slideOnOne_29 : decode prog_3_method_6_code 29 = .ok (.ifCond .ge 21, 3) := by decide +kernel
theorem d_Hold_slideOnOne_32 : decode prog_3_method_6_code 32 = .ok (.aload_n 0, 1) := by decide +kernel
theorem d_Hold_slideOnOne_33 : decode prog_3_method_6_code 33 = .ok (.aload_n 0, 1) := by decide +kernel
theorem d_Hold_slideOnOne_34 : decode prog_3_method_6_code 34 = .ok (.getfield 17, 3) := by decide +kernel
theorem d_Hold_slideOnOne_37 : decode prog_3_method_6_code 37 = .ok (.iload_n 2, 1) := by decide +kernel
theorem d_Hold_slideOnOne_38 : decode prog_3_method_6_code 38 = .ok (.aaload, 1) := by decide +kernel
theorem d_Hold_slideOnOne_39 : decode prog_3_method_6_code 39 = .ok (.invokevirtual 45, 3) := by decide +kernel
theorem d_Hold_slideOnOne_42 : decode prog_3_method_6_code 42 = .ok (.ifCond .eq 8, 3) := by decide +kernel
theorem d_Hold_slideOnOne_45 : decode prog_3_method_6_code 45 = .ok (.bipush 10, 2) := by decide +kernel
theorem d_Hold_slideOnOne_47 : decode prog_3_method_6_code 47 = .ok (.iload_n 2, 1) := by decide +kernel
theorem d_Hold_slideOnOne_48 : decode prog_3_method_6_code 48 = .ok (.iadd, 1) := by decide +kernel
theorem d_Hold_slideOnOne_49 : decode prog_3_method_6_code 49 = .ok (.ireturn, 1) := by decide +kernel
theorem d_Hold_slideOnOne_50 : decode prog_3_method_6_code 50 = .ok (.iinc 2 1, 3) := by decide +kernel
theorem d_Hold_slideOnOne_53 : decode prog_3_method_6_code 53 = .ok (.goto (-51), 3) := by decide +kernel
theorem d_Hold_slideOnOne_56 : decode prog_3_method_6_code 56 = .ok (.iconst 0, 1) := by decide +kernel
theorem d_Hold_slideOnOne_57 : decode prog_3_method_6_code 57 = .ok (.ireturn, 1) := by decide +kernel
theorem d_Hold_slideOnTwo_0 : decode prog_3_method_7_code 0 = .ok (.iconst 0, 1) := by decide +kernel
theorem d_Hold_slideOnTwo_1 : decode prog_3_method_7_code 1 = .ok (.istore_n 2, 1) := by decide +kernel
theorem d_Hold_slideOnTwo_2 : decode prog_3_method_7_code 2 = .ok (.iload_n 2, 1) := by decide +kernel
theorem d_Hold_slideOnTwo_3 : decode prog_3_method_7_code 3 = .ok (.bipush 12, 2) := by decide +kernel
theorem d_Hold_slideOnTwo_5 : decode prog_3_method_7_code 5 = .ok (.if_icmp .ge 67, 3) := by decide +kernel
theorem d_Hold_slideOnTwo_8 : decode prog_3_method_7_code 8 = .ok (.iload_n 2, 1) := by decide +kernel
theorem d_Hold_slideOnTwo_9 : decode prog_3_method_7_code 9 = .ok (.iconst 1, 1) := by decide +kernel
theorem d_Hold_slideOnTwo_10 : decode prog_3_method_7_code 10 = .ok (.iadd, 1) := by decide +kernel
theorem d_Hold_slideOnTwo_11 : decode prog_3_method_7_code 11 = .ok (.istore_n 3, 1) := by decide +kernel
theorem d_Hold_slideOnTwo_12 : decode prog_3_method_7_code 12 = .ok (.iload_n 3, 1) := by decide +kernel
theorem d_Hold_slideOnTwo_13 : decode prog_3_method_7_code 13 = .ok (.bipush 12, 2) := by decide +kernel
theorem d_Hold_slideOnTwo_15 : decode prog_3_method_7_code 15 = .ok (.if_icmp .ge 51, 3) := by decide +kernel
theorem d_Hold_slideOnTwo_18 : decode prog_3_method_7_code 18 = .ok (.aload_n 0, 1) := by decide +kernel
theorem d_Hold_slideOnTwo_19 : decode prog_3_method_7_code 19 = .ok (.getfield 25, 3) := by decide +kernel
theorem d_Hold_slideOnTwo_22 : decode prog_3_method_7_code 22 = .ok (.iload_n 2, 1) := by decide +kernel
theorem d_Hold_slideOnTwo_23 : decode prog_3_method_7_code 23 = .ok (.invokestatic 37, 3) := by decide +kernel
theorem d_Hold_slideOnTwo_26 : decode prog_3_method_7_code 26 = .ok (.ifCond .eq 34, 3) := by decide +kernel
theorem d_Hold_slideOnTwo_29 : decode prog_3_method_7_code 29 = .ok (.aload_n 0, 1) := by decide +kernel
theorem d_Hold_slideOnTwo_30 : decode prog_3_method_7_code 30 = .ok (.getfield 25, 3) := by decide +kernel
theorem d_Hold_slideOnTwo_33 : decode prog_3_method_7_code 33 = .ok (.iload_n 3, 1) := by decide +kernel
theorem d_Hold_slideOnTwo_34 : decode prog_3_method_7_code 34 = .ok (.invokestatic 37, 3) := by decide +kernel
theorem d_Hold_slideOnTwo_37 : decode prog_3_method_7_code 37 = .ok (.ifCond .eq 23, 3) := by decide +kernel
theorem d_Hold_slideOnTwo_40 : decode prog_3_method_7_code 40 = .ok (.aload_n 0, 1) := by decide +kernel
theorem d_Hold_slideOnTwo_41 : decode prog_3_method_7_code 41 = .ok (.iload_n 2, 1) := by decide +kernel
theorem d_Hold_slideOnTwo_42 : decode prog_3_method_7_code 42 = .ok (.iload_n 3, 1) := by decide +kernel
theorem d_Hold_slideOnTwo_43 : decode prog_3_method_7_code 43 = .ok (.aload_n 1, 1) := by decide +kernel
theorem d_Hold_slideOnTwo_44 : decode prog_3_method_7_code 44 = .ok (.invokevirtual 59, 3) := by decide +kernel
theorem d_Hold_slideOnTwo_47 : decode prog_3_method_7_code 47 = .ok (.ifCond .eq 13, 3) := by decide +kernel
theorem d_Hold_slideOnTwo_50 : decode prog_3_method_7_code 50 = .ok (.bipush 100, 2) := by decide +kernel
theorem d_Hold_slideOnTwo_52 : decode prog_3_method_7_code 52 = .ok (.bipush 12, 2) := by decide +kernel
theorem d_Hold_slideOnTwo_54 : decode prog_3_method_7_code 54 = .ok (.iload_n 2, 1) := by decide +kernel
theorem d_Hold_slideOnTwo_55 : decode prog_3_method_7_code 55 = .ok (.imul, 1) := by decide +kernel
theorem d_Hold_slideOnTwo_56 : decode prog_3_method_7_code 56 = .ok (.iadd, 1) := by decide +kernel
theorem d_Hold_slideOnTwo_57 : decode prog_3_method_7_code 57 = .ok (.iload_n 3, 1) := by decide +kernel
theorem d_Hold_slideOnTwo_58 : decode prog_3_method_7_code 58 = .ok (.iadd, 1) := by decide +kernel
theorem d_Hold_slideOnTwo_59 : decode prog_3_method_7_code 59 = .ok (.ireturn, 1) := by decide +kernel
theorem d_Hold_slideOnTwo_60 : decode prog_3_method_7_code 60 = .ok (.iinc 3 1, 3) := by decide +kernel
theorem d_Hold_slideOnTwo_63 : decode prog_3_method_7_code 63 = .ok (.goto (-51), 3) := by decide +kernel
theorem d_Hold_slideOnTwo_66 : decode prog_3_method_7_code 66 = .ok (.iinc 2 1, 3) := by decide +kernel
theorem d_Hold_slideOnTwo_69 : decode prog_3_method_7_code 69 = .ok (.goto (-67), 3) := by decide +kernel
theorem d_Hold_slideOnTwo_72 : decode prog_3_method_7_code 72 = .ok (.iconst 0, 1) := by decide +kernel
theorem d_Hold_slideOnTwo_73 : decode prog_3_method_7_code 73 = .ok (.ireturn, 1) := by decide +kernel
theorem d_Hold_slidesAlong_0 : decode prog_3_method_8_code 0 = .ok (.aload_n 0, 1) := by decide +kernel
theorem d_Hold_slidesAlong_1 : decode prog_3_method_8_code 1 = .ok (.getfield 21, 3) := by decide +kernel
theorem d_Hold_slidesAlong_4 : decode prog_3_method_8_code 4 = .ok (.aload_n 0, 1) := by decide +kernel
theorem d_Hold_slidesAlong_5 : decode prog_3_method_8_code 5 = .ok (.getfield 11, 3) := by decide +kernel
theorem d_Hold_slidesAlong_8 : decode prog_3_method_8_code 8 = .ok (.iload_n 1, 1) := by decide +kernel
theorem d_Hold_slidesAlong_9 : decode prog_3_method_8_code 9 = .ok (.aaload, 1) := by decide +kernel
theorem d_Hold_slidesAlong_10 : decode prog_3_method_8_code 10 = .ok (.aload_n 0, 1) := by decide +kernel
theorem d_Hold_slidesAlong_11 : decode prog_3_method_8_code 11 = .ok (.getfield 11, 3) := by decide +kernel
theorem d_Hold_slidesAlong_14 : decode prog_3_method_8_code 14 = .ok (.iload_n 2, 1) := by decide +kernel
theorem d_Hold_slidesAlong_15 : decode prog_3_method_8_code 15 = .ok (.aaload, 1) := by decide +kernel
theorem d_Hold_slidesAlong_16 : decode prog_3_method_8_code 16 = .ok (.invokevirtual 63, 3) := by decide +kernel
theorem d_Hold_slidesAlong_19 : decode prog_3_method_8_code 19 = .ok (.aload_n 3, 1) := by decide +kernel
theorem d_Hold_slidesAlong_20 : decode prog_3_method_8_code 20 = .ok (.aload_n 0, 1) := by decide +kernel
theorem d_Hold_slidesAlong_21 : decode prog_3_method_8_code 21 = .ok (.getfield 21, 3) := by decide +kernel
theorem d_Hold_slidesAlong_24 : decode prog_3_method_8_code 24 = .ok (.invokevirtual 41, 3) := by decide +kernel
theorem d_Hold_slidesAlong_27 : decode prog_3_method_8_code 27 = .ok (.ifCond .ge 15, 3) := by decide +kernel
theorem d_Hold_slidesAlong_30 : decode prog_3_method_8_code 30 = .ok (.aload_n 0, 1) := by decide +kernel
theorem d_Hold_slidesAlong_31 : decode prog_3_method_8_code 31 = .ok (.getfield 21, 3) := by decide +kernel
theorem d_Hold_slidesAlong_34 : decode prog_3_method_8_code 34 = .ok (.aload_n 0, 1) := by decide +kernel
theorem d_Hold_slidesAlong_35 : decode prog_3_method_8_code 35 = .ok (.getfield 21, 3) := by decide +kernel
theorem d_Hold_slidesAlong_38 : decode prog_3_method_8_code 38 = .ok (.iconst (-1), 1) := by decide +kernel
theorem d_Hold_slidesAlong_39 : decode prog_3_method_8_code 39 = .ok (.invokevirtual 29, 3) := by decide +kernel
theorem d_Hold_slidesAlong_42 : decode prog_3_method_8_code 42 = .ok (.aload_n 3, 1) := by decide +kernel
theorem d_Hold_slidesAlong_43 : decode prog_3_method_8_code 43 = .ok (.aload_n 0, 1) := by decide +kernel
theorem d_Hold_slidesAlong_44 : decode prog_3_method_8_code 44 = .ok (.getfield 21, 3) := by decide +kernel
theorem d_Hold_slidesAlong_47 : decode prog_3_method_8_code 47 = .ok (.invokevirtual 41, 3) := by decide +kernel
theorem d_Hold_slidesAlong_50 : decode prog_3_method_8_code 50 = .ok (.ifCond .le 54, 3) := by decide +kernel
theorem d_Hold_slidesAlong_53 : decode prog_3_method_8_code 53 = .ok (.aload_n 0, 1) := by decide +kernel
theorem d_Hold_slidesAlong_54 : decode prog_3_method_8_code 54 = .ok (.aload_n 0, 1) := by decide +kernel
theorem d_Hold_slidesAlong_55 : decode prog_3_method_8_code 55 = .ok (.getfield 21, 3) := by decide +kernel
theorem d_Hold_slidesAlong_58 : decode prog_3_method_8_code 58 = .ok (.invokevirtual 45, 3) := by decide +kernel
theorem d_Hold_slidesAlong_61 : decode prog_3_method_8_code 61 = .ok (.ifCond .eq 43, 3) := by decide +kernel
theorem d_Hold_slidesAlong_64 : decode prog_3_method_8_code 64 = .ok (.aload_n 0, 1) := by decide +kernel
theorem d_Hold_slidesAlong_65 : decode prog_3_method_8_code 65 = .ok (.getfield 17, 3) := by decide +kernel
theorem d_Hold_slidesAlong_68 : decode prog_3_method_8_code 68 = .ok (.iload_n 1, 1) := by decide +kernel
theorem d_Hold_slidesAlong_69 : decode prog_3_method_8_code 69 = .ok (.aaload, 1) := by decide +kernel
theorem d_Hold_slidesAlong_70 : decode prog_3_method_8_code 70 = .ok (.aload_n 0, 1) := by decide +kernel
theorem d_Hold_slidesAlong_71 : decode prog_3_method_8_code 71 = .ok (.getfield 11, 3) := by decide +kernel
theorem d_Hold_slidesAlong_74 : decode prog_3_method_8_code 74 = .ok (.iload_n 2, 1) := by decide +kernel
theorem d_Hold_slidesAlong_75 : decode prog_3_method_8_code 75 = .ok (.aaload, 1) := by decide +kernel
theorem d_Hold_slidesAlong_76 : decode prog_3_method_8_code 76 = .ok (.invokevirtual 41, 3) := by decide +kernel
theorem d_Hold_slidesAlong_79 : decode prog_3_method_8_code 79 = .ok (.ifCond .ge 25, 3) := by decide +kernel
theorem d_Hold_slidesAlong_82 : decode prog_3_method_8_code 82 = .ok (.aload_n 0, 1) := by decide +kernel
theorem d_Hold_slidesAlong_83 : decode prog_3_method_8_code 83 = .ok (.getfield 17, 3) := by decide +kernel
theorem d_Hold_slidesAlong_86 : decode prog_3_method_8_code 86 = .ok (.iload_n 2, 1) := by decide +kernel
theorem d_Hold_slidesAlong_87 : decode prog_3_method_8_code 87 = .ok (.aaload, 1) := by decide +kernel
theorem d_Hold_slidesAlong_88 : decode prog_3_method_8_code 88 = .ok (.aload_n 0, 1) := by decide +kernel
theorem d_Hold_slidesAlong_89 : decode prog_3_method_8_code 89 = .ok (.getfield 11, 3) := by decide +kernel
theorem d_Hold_slidesAlong_92 : decode prog_3_method_8_code 92 = .ok (.iload_n 1, 1) := by decide +kernel
theorem d_Hold_slidesAlong_93 : decode prog_3_method_8_code 93 = .ok (.aaload, 1) := by decide +kernel
theorem d_Hold_slidesAlong_94 : decode prog_3_method_8_code 94 = .ok (.invokevirtual 41, 3) := by decide +kernel
theorem d_Hold_slidesAlong_97 : decode prog_3_method_8_code 97 = .ok (.ifCond .ge 7, 3) := by decide +kernel
theorem d_Hold_slidesAlong_100 : decode prog_3_method_8_code 100 = .ok (.iconst 1, 1) := by decide +kernel
theorem d_Hold_slidesAlong_101 : decode prog_3_method_8_code 101 = .ok (.goto 4, 3) := by decide +kernel
theorem d_Hold_slidesAlong_104 : decode prog_3_method_8_code 104 = .ok (.iconst 0, 1) := by decide +kernel
theorem d_Hold_slidesAlong_105 : decode prog_3_method_8_code 105 = .ok (.ireturn, 1) := by decide +kernel
theorem d_Law_told_0 : decode method_14_code 0 = .ok (.aload_n 2, 1) := by decide +kernel
theorem d_Law_told_1 : decode method_14_code 1 = .ok (.iconst 0, 1) := by decide +kernel
theorem d_Law_told_2 : decode method_14_code 2 = .ok (.aload_n 0, 1) := by decide +kernel
theorem d_Law_told_3 : decode method_14_code 3 = .ok (.iload_n 1, 1) := by decide +kernel
theorem d_Law_told_4 : decode method_14_code 4 = .ok (.invokevirtual 55, 3) := by decide +kernel
theorem d_Law_told_7 : decode method_14_code 7 = .ok (.i2l, 1) := by decide +kernel
theorem d_Law_told_8 : decode method_14_code 8 = .ok (.lastore, 1) := by decide +kernel
theorem d_Law_told_9 : decode method_14_code 9 = .ok (.goto 6, 3) := by decide +kernel
theorem d_Law_told_12 : decode method_14_code 12 = .ok (.astore_n 3, 1) := by decide +kernel
theorem d_Law_told_13 : decode method_14_code 13 = .ok (.iconst 1, 1) := by decide +kernel
theorem d_Law_told_14 : decode method_14_code 14 = .ok (.ireturn, 1) := by decide +kernel
theorem d_Law_told_15 : decode method_14_code 15 = .ok (.iconst 0, 1) := by decide +kernel
theorem d_Law_told_16 : decode method_14_code 16 = .ok (.ireturn, 1) := by decide +kernel
theorem d_WP_told_0 : decode prog_1_method_18_code 0 = .ok (.iload_n 1, 1) := by decide +kernel
theorem d_WP_told_1 : decode prog_1_method_18_code 1 = .ok (.tableswitch 60 0 3 #[31, 39, 44, 49], 31) := by decide +kernel
theorem d_WP_told_32 : decode prog_1_method_18_code 32 = .ok (.aload_n 0, 1) := by decide +kernel
theorem d_WP_told_33 : decode prog_1_method_18_code 33 = .ok (.getfield 57, 3) := by decide +kernel
theorem d_WP_told_36 : decode prog_1_method_18_code 36 = .ok (.getfield 78, 3) := by decide +kernel
theorem d_WP_told_39 : decode prog_1_method_18_code 39 = .ok (.ireturn, 1) := by decide +kernel
theorem d_WP_told_40 : decode prog_1_method_18_code 40 = .ok (.aload_n 0, 1) := by decide +kernel
theorem d_WP_told_41 : decode prog_1_method_18_code 41 = .ok (.getfield 42, 3) := by decide +kernel
theorem d_WP_told_44 : decode prog_1_method_18_code 44 = .ok (.ireturn, 1) := by decide +kernel
theorem d_WP_told_45 : decode prog_1_method_18_code 45 = .ok (.aload_n 0, 1) := by decide +kernel
theorem d_WP_told_46 : decode prog_1_method_18_code 46 = .ok (.getfield 38, 3) := by decide +kernel
theorem d_WP_told_49 : decode prog_1_method_18_code 49 = .ok (.ireturn, 1) := by decide +kernel
theorem d_WP_told_50 : decode prog_1_method_18_code 50 = .ok (.aload_n 0, 1) := by decide +kernel
theorem d_WP_told_51 : decode prog_1_method_18_code 51 = .ok (.getfield 57, 3) := by decide +kernel
theorem d_WP_told_54 : decode prog_1_method_18_code 54 = .ok (.getfield 142, 3) := by decide +kernel
theorem d_WP_told_57 : decode prog_1_method_18_code 57 = .ok (.getfield 198, 3) := by decide +kernel
theorem d_WP_told_60 : decode prog_1_method_18_code 60 = .ok (.ireturn, 1) := by decide +kernel
theorem d_WP_told_61 : decode prog_1_method_18_code 61 = .ok (.new 96, 3) := by decide +kernel
theorem d_WP_told_64 : decode prog_1_method_18_code 64 = .ok (.dup, 1) := by decide +kernel
theorem d_WP_told_65 : decode prog_1_method_18_code 65 = .ok (.ldc 160, 2) := by decide +kernel
theorem d_WP_told_67 : decode prog_1_method_18_code 67 = .ok (.invokespecial 100, 3) := by decide +kernel
theorem d_WP_told_70 : decode prog_1_method_18_code 70 = .ok (.athrow, 1) := by decide +kernel
theorem d_Md_init_0 : decode prog_8_method_1_code 0 = .ok (.aload_n 0, 1) := by decide +kernel
theorem d_Md_init_1 : decode prog_8_method_1_code 1 = .ok (.invokespecial 1, 3) := by decide +kernel
theorem d_Md_init_4 : decode prog_8_method_1_code 4 = .ok (.aload_n 0, 1) := by decide +kernel
theorem d_Md_init_5 : decode prog_8_method_1_code 5 = .ok (.iconst 3, 1) := by decide +kernel
theorem d_Md_init_6 : decode prog_8_method_1_code 6 = .ok (.newarray .int, 2) := by decide +kernel
theorem d_Md_init_8 : decode prog_8_method_1_code 8 = .ok (.putfield 7, 3) := by decide +kernel
theorem d_Md_init_11 : decode prog_8_method_1_code 11 = .ok (.aload_n 0, 1) := by decide +kernel
theorem d_Md_init_12 : decode prog_8_method_1_code 12 = .ok (.bipush 48, 2) := by decide +kernel
theorem d_Md_init_14 : decode prog_8_method_1_code 14 = .ok (.newarray .int, 2) := by decide +kernel
theorem d_Md_init_16 : decode prog_8_method_1_code 16 = .ok (.putfield 13, 3) := by decide +kernel
theorem d_Md_init_19 : decode prog_8_method_1_code 19 = .ok (.aload_n 0, 1) := by decide +kernel
theorem d_Md_init_20 : decode prog_8_method_1_code 20 = .ok (.bipush 12, 2) := by decide +kernel
theorem d_Md_init_22 : decode prog_8_method_1_code 22 = .ok (.newarray .boolean, 2) := by decide +kernel
theorem d_Md_init_24 : decode prog_8_method_1_code 24 = .ok (.putfield 16, 3) := by decide +kernel
theorem d_Md_init_27 : decode prog_8_method_1_code 27 = .ok (.aload_n 0, 1) := by decide +kernel
theorem d_Md_init_28 : decode prog_8_method_1_code 28 = .ok (.bipush 24, 2) := by decide +kernel
theorem d_Md_init_30 : decode prog_8_method_1_code 30 = .ok (.newarray .int, 2) := by decide +kernel
theorem d_Md_init_32 : decode prog_8_method_1_code 32 = .ok (.putfield 20, 3) := by decide +kernel
theorem d_Md_init_35 : decode prog_8_method_1_code 35 = .ok (.aload_n 0, 1) := by decide +kernel
theorem d_Md_init_36 : decode prog_8_method_1_code 36 = .ok (.iconst 3, 1) := by decide +kernel
theorem d_Md_init_37 : decode prog_8_method_1_code 37 = .ok (.newarray .int, 2) := by decide +kernel
theorem d_Md_init_39 : decode prog_8_method_1_code 39 = .ok (.putfield 23, 3) := by decide +kernel
theorem d_Md_init_42 : decode prog_8_method_1_code 42 = .ok (.aload_n 0, 1) := by decide +kernel
theorem d_Md_init_43 : decode prog_8_method_1_code 43 = .ok (.sipush 880, 3) := by decide +kernel
theorem d_Md_init_46 : decode prog_8_method_1_code 46 = .ok (.newarray .int, 2) := by decide +kernel
theorem d_Md_init_48 : decode prog_8_method_1_code 48 = .ok (.putfield 26, 3) := by decide +kernel
theorem d_Md_init_51 : decode prog_8_method_1_code 51 = .ok (.aload_n 0, 1) := by decide +kernel
theorem d_Md_init_52 : decode prog_8_method_1_code 52 = .ok (.sipush 220, 3) := by decide +kernel
theorem d_Md_init_55 : decode prog_8_method_1_code 55 = .ok (.newarray .int, 2) := by decide +kernel
theorem d_Md_init_57 : decode prog_8_method_1_code 57 = .ok (.putfield 29, 3) := by decide +kernel
theorem d_Md_init_60 : decode prog_8_method_1_code 60 = .ok (.aload_n 0, 1) := by decide +kernel
theorem d_Md_init_61 : decode prog_8_method_1_code 61 = .ok (.sipush 220, 3) := by decide +kernel
theorem d_Md_init_64 : decode prog_8_method_1_code 64 = .ok (.newarray .int, 2) := by decide +kernel
theorem d_Md_init_66 : decode prog_8_method_1_code 66 = .ok (.putfield 32, 3) := by decide +kernel
theorem d_Md_init_69 : decode prog_8_method_1_code 69 = .ok (.aload_n 0, 1) := by decide +kernel
theorem d_Md_init_70 : decode prog_8_method_1_code 70 = .ok (.sipush 220, 3) := by decide +kernel
theorem d_Md_init_73 : decode prog_8_method_1_code 73 = .ok (.newarray .int, 2) := by decide +kernel
theorem d_Md_init_75 : decode prog_8_method_1_code 75 = .ok (.putfield 35, 3) := by decide +kernel
theorem d_Md_init_78 : decode prog_8_method_1_code 78 = .ok (.aload_n 0, 1) := by decide +kernel
theorem d_Md_init_79 : decode prog_8_method_1_code 79 = .ok (.iconst 4, 1) := by decide +kernel
theorem d_Md_init_80 : decode prog_8_method_1_code 80 = .ok (.newarray .int, 2) := by decide +kernel
theorem d_Md_init_82 : decode prog_8_method_1_code 82 = .ok (.putfield 38, 3) := by decide +kernel
theorem d_Md_init_85 : decode prog_8_method_1_code 85 = .ok (.aload_n 0, 1) := by decide +kernel
theorem d_Md_init_86 : decode prog_8_method_1_code 86 = .ok (.bipush 64, 2) := by decide +kernel
theorem d_Md_init_88 : decode prog_8_method_1_code 88 = .ok (.newarray .int, 2) := by decide +kernel
theorem d_Md_init_90 : decode prog_8_method_1_code 90 = .ok (.putfield 41, 3) := by decide +kernel
theorem d_Md_init_93 : decode prog_8_method_1_code 93 = .ok (.aload_n 0, 1) := by decide +kernel
theorem d_Md_init_94 : decode prog_8_method_1_code 94 = .ok (.bipush 64, 2) := by decide +kernel
theorem d_Md_init_96 : decode prog_8_method_1_code 96 = .ok (.newarray .int, 2) := by decide +kernel
theorem d_Md_init_98 : decode prog_8_method_1_code 98 = .ok (.putfield 44, 3) := by decide +kernel
theorem d_Md_init_101 : decode prog_8_method_1_code 101 = .ok (.aload_n 0, 1) := by decide +kernel
theorem d_Md_init_102 : decode prog_8_method_1_code 102 = .ok (.bipush 64, 2) := by decide +kernel
theorem d_Md_init_104 : decode prog_8_method_1_code 104 = .ok (.newarray .boolean, 2) := by decide +kernel
theorem d_Md_init_106 : decode prog_8_method_1_code 106 = .ok (.putfield 47, 3) := by decide +kernel
theorem d_Md_init_109 : decode prog_8_method_1_code 109 = .ok (.aload_n 0, 1) := by decide +kernel
theorem d_Md_init_110 : decode prog_8_method_1_code 110 = .ok (.bipush 64, 2) := by decide +kernel
theorem d_Md_init_112 : decode prog_8_method_1_code 112 = .ok (.newarray .int, 2) := by decide +kernel
theorem d_Md_init_114 : decode prog_8_method_1_code 114 = .ok (.putfield 50, 3) := by decide +kernel
theorem d_Md_init_117 : decode prog_8_method_1_code 117 = .ok (.aload_n 0, 1) := by decide +kernel
theorem d_Md_init_118 : decode prog_8_method_1_code 118 = .ok (.bipush 64, 2) := by decide +kernel
theorem d_Md_init_120 : decode prog_8_method_1_code 120 = .ok (.newarray .int, 2) := by decide +kernel
theorem d_Md_init_122 : decode prog_8_method_1_code 122 = .ok (.putfield 53, 3) := by decide +kernel
theorem d_Md_init_125 : decode prog_8_method_1_code 125 = .ok (.aload_n 0, 1) := by decide +kernel
theorem d_Md_init_126 : decode prog_8_method_1_code 126 = .ok (.iconst 3, 1) := by decide +kernel
theorem d_Md_init_127 : decode prog_8_method_1_code 127 = .ok (.newarray .int, 2) := by decide +kernel
theorem d_Md_init_129 : decode prog_8_method_1_code 129 = .ok (.putfield 56, 3) := by decide +kernel
theorem d_Md_init_132 : decode prog_8_method_1_code 132 = .ok (.aload_n 0, 1) := by decide +kernel
theorem d_Md_init_133 : decode prog_8_method_1_code 133 = .ok (.iconst 3, 1) := by decide +kernel
theorem d_Md_init_134 : decode prog_8_method_1_code 134 = .ok (.newarray .int, 2) := by decide +kernel
theorem d_Md_init_136 : decode prog_8_method_1_code 136 = .ok (.putfield 59, 3) := by decide +kernel
theorem d_Md_init_139 : decode prog_8_method_1_code 139 = .ok (.aload_n 0, 1) := by decide +kernel
theorem d_Md_init_140 : decode prog_8_method_1_code 140 = .ok (.iconst 3, 1) := by decide +kernel
theorem d_Md_init_141 : decode prog_8_method_1_code 141 = .ok (.newarray .int, 2) := by decide +kernel
theorem d_Md_init_143 : decode prog_8_method_1_code 143 = .ok (.putfield 62, 3) := by decide +kernel
theorem d_Md_init_146 : decode prog_8_method_1_code 146 = .ok (.aload_n 0, 1) := by decide +kernel
theorem d_Md_init_147 : decode prog_8_method_1_code 147 = .ok (.iconst 3, 1) := by decide +kernel
theorem d_Md_init_148 : decode prog_8_method_1_code 148 = .ok (.newarray .int, 2) := by decide +kernel
theorem d_Md_init_150 : decode prog_8_method_1_code 150 = .ok (.putfield 65, 3) := by decide +kernel
theorem d_Md_init_153 : decode prog_8_method_1_code 153 = .ok (.aload_n 0, 1) := by decide +kernel
theorem d_Md_init_154 : decode prog_8_method_1_code 154 = .ok (.getfield 7, 3) := by decide +kernel
theorem d_Md_init_157 : decode prog_8_method_1_code 157 = .ok (.iconst 0, 1) := by decide +kernel
theorem d_Md_init_158 : decode prog_8_method_1_code 158 = .ok (.iload_n 1, 1) := by decide +kernel
theorem d_Md_init_159 : decode prog_8_method_1_code 159 = .ok (.invokestatic 68, 3) := by decide +kernel
theorem d_Md_init_162 : decode prog_8_method_1_code 162 = .ok (.iastore, 1) := by decide +kernel
theorem d_Md_init_163 : decode prog_8_method_1_code 163 = .ok (.aload_n 0, 1) := by decide +kernel
theorem d_Md_init_164 : decode prog_8_method_1_code 164 = .ok (.getfield 7, 3) := by decide +kernel
theorem d_Md_init_167 : decode prog_8_method_1_code 167 = .ok (.iconst 1, 1) := by decide +kernel
theorem d_Md_init_168 : decode prog_8_method_1_code 168 = .ok (.iload_n 2, 1) := by decide +kernel
theorem d_Md_init_169 : decode prog_8_method_1_code 169 = .ok (.invokestatic 68, 3) := by decide +kernel
theorem d_Md_init_172 : decode prog_8_method_1_code 172 = .ok (.iastore, 1) := by decide +kernel
theorem d_Md_init_173 : decode prog_8_method_1_code 173 = .ok (.aload_n 0, 1) := by decide +kernel
theorem d_Md_init_174 : decode prog_8_method_1_code 174 = .ok (.getfield 7, 3) := by decide +kernel
theorem d_Md_init_177 : decode prog_8_method_1_code 177 = .ok (.iconst 2, 1) := by decide +kernel
theorem d_Md_init_178 : decode prog_8_method_1_code 178 = .ok (.iload_n 3, 1) := by decide +kernel
theorem d_Md_init_179 : decode prog_8_method_1_code 179 = .ok (.invokestatic 68, 3) := by decide +kernel
theorem d_Md_init_182 : decode prog_8_method_1_code 182 = .ok (.iastore, 1) := by decide +kernel
theorem d_Md_init_183 : decode prog_8_method_1_code 183 = .ok (.iconst 0, 1) := by decide +kernel
theorem d_Md_init_184 : decode prog_8_method_1_code 184 = .ok (.istore 4, 2) := by decide +kernel
theorem d_Md_init_186 : decode prog_8_method_1_code 186 = .ok (.iload 4, 2) := by decide +kernel
theorem d_Md_init_188 : decode prog_8_method_1_code 188 = .ok (.bipush 6, 2) := by decide +kernel
theorem d_Md_init_190 : decode prog_8_method_1_code 190 = .ok (.if_icmp .ge 62, 3) := by decide +kernel
theorem d_Md_init_193 : decode prog_8_method_1_code 193 = .ok (.aload_n 0, 1) := by decide +kernel
theorem d_Md_init_194 : decode prog_8_method_1_code 194 = .ok (.getfield 13, 3) := by decide +kernel
theorem d_Md_init_197 : decode prog_8_method_1_code 197 = .ok (.iconst 4, 1) := by decide +kernel
theorem d_Md_init_198 : decode prog_8_method_1_code 198 = .ok (.bipush 6, 2) := by decide +kernel
theorem d_Md_init_200 : decode prog_8_method_1_code 200 = .ok (.iload 4, 2) := by decide +kernel
theorem d_Md_init_202 : decode prog_8_method_1_code 202 = .ok (.iadd, 1) := by decide +kernel
theorem d_Md_init_203 : decode prog_8_method_1_code 203 = .ok (.imul, 1) := by decide +kernel
theorem d_Md_init_204 : decode prog_8_method_1_code 204 = .ok (.iload 4, 2) := by decide +kernel
theorem d_Md_init_206 : decode prog_8_method_1_code 206 = .ok (.iconst 2, 1) := by decide +kernel
theorem d_Md_init_207 : decode prog_8_method_1_code 207 = .ok (.idiv, 1) := by decide +kernel
theorem d_Md_init_208 : decode prog_8_method_1_code 208 = .ok (.iadd, 1) := by decide +kernel
theorem d_Md_init_209 : decode prog_8_method_1_code 209 = .ok (.iconst 1, 1) := by decide +kernel
theorem d_Md_init_210 : decode prog_8_method_1_code 210 = .ok (.iastore, 1) := by decide +kernel
theorem d_Md_init_211 : decode prog_8_method_1_code 211 = .ok (.aload_n 0, 1) := by decide +kernel
theorem d_Md_init_212 : decode prog_8_method_1_code 212 = .ok (.getfield 13, 3) := by decide +kernel
theorem d_Md_init_215 : decode prog_8_method_1_code 215 = .ok (.iconst 4, 1) := by decide +kernel
theorem d_Md_init_216 : decode prog_8_method_1_code 216 = .ok (.bipush 6, 2) := by decide +kernel
theorem d_Md_init_218 : decode prog_8_method_1_code 218 = .ok (.iload 4, 2) := by decide +kernel
theorem d_Md_init_220 : decode prog_8_method_1_code 220 = .ok (.iadd, 1) := by decide +kernel
theorem d_Md_init_221 : decode prog_8_method_1_code 221 = .ok (.imul, 1) := by decide +kernel
theorem d_Md_init_222 : decode prog_8_method_1_code 222 = .ok (.iconst 3, 1) := by decide +kernel
theorem d_Md_init_223 : decode prog_8_method_1_code 223 = .ok (.iadd, 1) := by decide +kernel
theorem d_Md_init_224 : decode prog_8_method_1_code 224 = .ok (.iload 4, 2) := by decide +kernel
theorem d_Md_init_226 : decode prog_8_method_1_code 226 = .ok (.iconst 2, 1) := by decide +kernel
theorem d_Md_init_227 : decode prog_8_method_1_code 227 = .ok (.irem, 1) := by decide +kernel
theorem d_Md_init_228 : decode prog_8_method_1_code 228 = .ok (.iconst 1, 1) := by decide +kernel
theorem d_Md_init_229 : decode prog_8_method_1_code 229 = .ok (.if_icmp .ne 15, 3) := by decide +kernel
theorem d_Md_init_232 : decode prog_8_method_1_code 232 = .ok (.aload_n 0, 1) := by decide +kernel
theorem d_Md_init_233 : decode prog_8_method_1_code 233 = .ok (.getfield 7, 3) := by decide +kernel
theorem d_Md_init_236 : decode prog_8_method_1_code 236 = .ok (.iload 4, 2) := by decide +kernel
theorem d_Md_init_238 : decode prog_8_method_1_code 238 = .ok (.iconst 2, 1) := by decide +kernel
theorem d_Md_init_239 : decode prog_8_method_1_code 239 = .ok (.idiv, 1) := by decide +kernel
theorem d_Md_init_240 : decode prog_8_method_1_code 240 = .ok (.iaload, 1) := by decide +kernel
theorem d_Md_init_241 : decode prog_8_method_1_code 241 = .ok (.goto 4, 3) := by decide +kernel
theorem d_Md_init_244 : decode prog_8_method_1_code 244 = .ok (.iconst 0, 1) := by decide +kernel
theorem d_Md_init_245 : decode prog_8_method_1_code 245 = .ok (.iastore, 1) := by decide +kernel
theorem d_Md_init_246 : decode prog_8_method_1_code 246 = .ok (.iinc 4 1, 3) := by decide +kernel
theorem d_Md_init_249 : decode prog_8_method_1_code 249 = .ok (.goto (-63), 3) := by decide +kernel
theorem d_Md_init_252 : decode prog_8_method_1_code 252 = .ok (.aload_n 0, 1) := by decide +kernel
theorem d_Md_init_253 : decode prog_8_method_1_code 253 = .ok (.getfield 23, 3) := by decide +kernel
theorem d_Md_init_256 : decode prog_8_method_1_code 256 = .ok (.iconst 2, 1) := by decide +kernel
theorem d_Md_init_257 : decode prog_8_method_1_code 257 = .ok (.iconst (-1), 1) := by decide +kernel
theorem d_Md_init_258 : decode prog_8_method_1_code 258 = .ok (.iastore, 1) := by decide +kernel
theorem d_Md_init_259 : decode prog_8_method_1_code 259 = .ok (.aload_n 0, 1) := by decide +kernel
theorem d_Md_init_260 : decode prog_8_method_1_code 260 = .ok (.invokevirtual 72, 3) := by decide +kernel
theorem d_Md_init_263 : decode prog_8_method_1_code 263 = .ok (.return_, 1) := by decide +kernel
theorem d_Md_within_0 : decode prog_8_method_3_code 0 = .ok (.iload_n 0, 1) := by decide +kernel
theorem d_Md_within_1 : decode prog_8_method_3_code 1 = .ok (.iconst 1, 1) := by decide +kernel
theorem d_Md_within_2 : decode prog_8_method_3_code 2 = .ok (.if_icmp .ge 7, 3) := by decide +kernel
theorem d_Md_within_5 : decode prog_8_method_3_code 5 = .ok (.iconst 1, 1) := by decide +kernel
theorem d_Md_within_6 : decode prog_8_method_3_code 6 = .ok (.goto 15, 3) := by decide +kernel
theorem d_Md_within_9 : decode prog_8_method_3_code 9 = .ok (.iload_n 0, 1) := by decide +kernel
theorem d_Md_within_10 : decode prog_8_method_3_code 10 = .ok (.bipush 8, 2) := by decide +kernel
theorem d_Md_within_12 : decode prog_8_method_3_code 12 = .ok (.if_icmp .le 8, 3) := by decide +kernel
theorem d_Md_within_15 : decode prog_8_method_3_code 15 = .ok (.bipush 8, 2) := by decide +kernel
theorem d_Md_within_17 : decode prog_8_method_3_code 17 = .ok (.goto 4, 3) := by decide +kernel
theorem d_Md_within_20 : decode prog_8_method_3_code 20 = .ok (.iload_n 0, 1) := by decide +kernel
theorem d_Md_within_21 : decode prog_8_method_3_code 21 = .ok (.ireturn, 1) := by decide +kernel
theorem d_Md_cut_0 : decode prog_8_method_12_code 0 = .ok (.aload_n 0, 1) := by decide +kernel
theorem d_Md_cut_1 : decode prog_8_method_12_code 1 = .ok (.iconst 0, 1) := by decide +kernel
theorem d_Md_cut_2 : decode prog_8_method_12_code 2 = .ok (.putfield 94, 3) := by decide +kernel
theorem d_Md_cut_5 : decode prog_8_method_12_code 5 = .ok (.iconst 0, 1) := by decide +kernel
theorem d_Md_cut_6 : decode prog_8_method_12_code 6 = .ok (.istore_n 1, 1) := by decide +kernel
theorem d_Md_cut_7 : decode prog_8_method_12_code 7 = .ok (.iload_n 1, 1) := by decide +kernel
theorem d_Md_cut_8 : decode prog_8_method_12_code 8 = .ok (.bipush 12, 2) := by decide +kernel
theorem d_Md_cut_10 : decode prog_8_method_12_code 10 = .ok (.if_icmp .ge 72, 3) := by decide +kernel
theorem d_Md_cut_13 : decode prog_8_method_12_code 13 = .ok (.iload_n 1, 1) := by decide +kernel
theorem d_Md_cut_14 : decode prog_8_method_12_code 14 = .ok (.iconst 1, 1) := by decide +kernel
theorem d_Md_cut_15 : decode prog_8_method_12_code 15 = .ok (.iadd, 1) := by decide +kernel
theorem d_Md_cut_16 : decode prog_8_method_12_code 16 = .ok (.istore_n 2, 1) := by decide +kernel
theorem d_Md_cut_17 : decode prog_8_method_12_code 17 = .ok (.iload_n 2, 1) := by decide +kernel
theorem d_Md_cut_18 : decode prog_8_method_12_code 18 = .ok (.bipush 12, 2) := by decide +kernel
theorem d_Md_cut_20 : decode prog_8_method_12_code 20 = .ok (.if_icmp .ge 56, 3) := by decide +kernel
theorem d_Md_cut_23 : decode prog_8_method_12_code 23 = .ok (.iload_n 2, 1) := by decide +kernel
theorem d_Md_cut_24 : decode prog_8_method_12_code 24 = .ok (.iconst 1, 1) := by decide +kernel
theorem d_Md_cut_25 : decode prog_8_method_12_code 25 = .ok (.iadd, 1) := by decide +kernel
theorem d_Md_cut_26 : decode prog_8_method_12_code 26 = .ok (.istore_n 3, 1) := by decide +kernel
theorem d_Md_cut_27 : decode prog_8_method_12_code 27 = .ok (.iload_n 3, 1) := by decide +kernel
theorem d_Md_cut_28 : decode prog_8_method_12_code 28 = .ok (.bipush 12, 2) := by decide +kernel
theorem d_Md_cut_30 : decode prog_8_method_12_code 30 = .ok (.if_icmp .ge 40, 3) := by decide +kernel
theorem d_Md_cut_33 : decode prog_8_method_12_code 33 = .ok (.aload_n 0, 1) := by decide +kernel
theorem d_Md_cut_34 : decode prog_8_method_12_code 34 = .ok (.iload_n 1, 1) := by decide +kernel
theorem d_Md_cut_35 : decode prog_8_method_12_code 35 = .ok (.invokevirtual 100, 3) := by decide +kernel
theorem d_Md_cut_38 : decode prog_8_method_12_code 38 = .ok (.ifCond .eq 26, 3) := by decide +kernel
theorem d_Md_cut_41 : decode prog_8_method_12_code 41 = .ok (.aload_n 0, 1) := by decide +kernel
theorem d_Md_cut_42 : decode prog_8_method_12_code 42 = .ok (.iload_n 2, 1) := by decide +kernel
theorem d_Md_cut_43 : decode prog_8_method_12_code 43 = .ok (.invokevirtual 100, 3) := by decide +kernel
theorem d_Md_cut_46 : decode prog_8_method_12_code 46 = .ok (.ifCond .eq 18, 3) := by decide +kernel
theorem d_Md_cut_49 : decode prog_8_method_12_code 49 = .ok (.aload_n 0, 1) := by decide +kernel
theorem d_Md_cut_50 : decode prog_8_method_12_code 50 = .ok (.iload_n 3, 1) := by decide +kernel
theorem d_Md_cut_51 : decode prog_8_method_12_code 51 = .ok (.invokevirtual 100, 3) := by decide +kernel
theorem d_Md_cut_54 : decode prog_8_method_12_code 54 = .ok (.ifCond .eq 10, 3) := by decide +kernel
theorem d_Md_cut_57 : decode prog_8_method_12_code 57 = .ok (.aload_n 0, 1) := by decide +kernel
theorem d_Md_cut_58 : decode prog_8_method_12_code 58 = .ok (.iload_n 1, 1) := by decide +kernel
theorem d_Md_cut_59 : decode prog_8_method_12_code 59 = .ok (.iload_n 2, 1) := by decide +kernel
theorem d_Md_cut_60 : decode prog_8_method_12_code 60 = .ok (.iload_n 3, 1) := by decide +kernel
theorem d_Md_cut_61 : decode prog_8_method_12_code 61 = .ok (.invokevirtual 104, 3) := by decide +kernel
theorem d_Md_cut_64 : decode prog_8_method_12_code 64 = .ok (.iinc 3 1, 3) := by decide +kernel
theorem d_Md_cut_67 : decode prog_8_method_12_code 67 = .ok (.goto (-40), 3) := by decide +kernel
theorem d_Md_cut_70 : decode prog_8_method_12_code 70 = .ok (.iinc 2 1, 3) := by decide +kernel
theorem d_Md_cut_73 : decode prog_8_method_12_code 73 = .ok (.goto (-56), 3) := by decide +kernel
theorem d_Md_cut_76 : decode prog_8_method_12_code 76 = .ok (.iinc 1 1, 3) := by decide +kernel
theorem d_Md_cut_79 : decode prog_8_method_12_code 79 = .ok (.goto (-72), 3) := by decide +kernel
theorem d_Md_cut_82 : decode prog_8_method_12_code 82 = .ok (.iconst 0, 1) := by decide +kernel
theorem d_Md_cut_83 : decode prog_8_method_12_code 83 = .ok (.istore_n 1, 1) := by decide +kernel
theorem d_Md_cut_84 : decode prog_8_method_12_code 84 = .ok (.iload_n 1, 1) := by decide +kernel
theorem d_Md_cut_85 : decode prog_8_method_12_code 85 = .ok (.aload_n 0, 1) := by decide +kernel
theorem d_Md_cut_86 : decode prog_8_method_12_code 86 = .ok (.getfield 94, 3) := by decide +kernel
theorem d_Md_cut_89 : decode prog_8_method_12_code 89 = .ok (.if_icmp .ge 166, 3) := by decide +kernel
theorem d_Md_cut_92 : decode prog_8_method_12_code 92 = .ok (.aload_n 0, 1) := by decide +kernel
theorem d_Md_cut_93 : decode prog_8_method_12_code 93 = .ok (.getfield 29, 3) := by decide +kernel
theorem d_Md_cut_96 : decode prog_8_method_12_code 96 = .ok (.iload_n 1, 1) := by decide +kernel
theorem d_Md_cut_97 : decode prog_8_method_12_code 97 = .ok (.iconst 0, 1) := by decide +kernel
theorem d_Md_cut_98 : decode prog_8_method_12_code 98 = .ok (.iastore, 1) := by decide +kernel
theorem d_Md_cut_99 : decode prog_8_method_12_code 99 = .ok (.aload_n 0, 1) := by decide +kernel
theorem d_Md_cut_100 : decode prog_8_method_12_code 100 = .ok (.getfield 32, 3) := by decide +kernel
theorem d_Md_cut_103 : decode prog_8_method_12_code 103 = .ok (.iload_n 1, 1) := by decide +kernel
theorem d_Md_cut_104 : decode prog_8_method_12_code 104 = .ok (.iconst 0, 1) := by decide +kernel
theorem d_Md_cut_105 : decode prog_8_method_12_code 105 = .ok (.iastore, 1) := by decide +kernel
theorem d_Md_cut_106 : decode prog_8_method_12_code 106 = .ok (.aload_n 0, 1) := by decide +kernel
theorem d_Md_cut_107 : decode prog_8_method_12_code 107 = .ok (.getfield 35, 3) := by decide +kernel
theorem d_Md_cut_110 : decode prog_8_method_12_code 110 = .ok (.iload_n 1, 1) := by decide +kernel
theorem d_Md_cut_111 : decode prog_8_method_12_code 111 = .ok (.iconst 0, 1) := by decide +kernel
theorem d_Md_cut_112 : decode prog_8_method_12_code 112 = .ok (.iastore, 1) := by decide +kernel
theorem d_Md_cut_113 : decode prog_8_method_12_code 113 = .ok (.iconst 0, 1) := by decide +kernel
theorem d_Md_cut_114 : decode prog_8_method_12_code 114 = .ok (.istore_n 2, 1) := by decide +kernel
theorem d_Md_cut_115 : decode prog_8_method_12_code 115 = .ok (.iload_n 2, 1) := by decide +kernel
theorem d_Md_cut_116 : decode prog_8_method_12_code 116 = .ok (.bipush 12, 2) := by decide +kernel
theorem d_Md_cut_118 : decode prog_8_method_12_code 118 = .ok (.if_icmp .ge 131, 3) := by decide +kernel
theorem d_Md_cut_121 : decode prog_8_method_12_code 121 = .ok (.aload_n 0, 1) := by decide +kernel
theorem d_Md_cut_122 : decode prog_8_method_12_code 122 = .ok (.iload_n 2, 1) := by decide +kernel
theorem d_Md_cut_123 : decode prog_8_method_12_code 123 = .ok (.invokevirtual 100, 3) := by decide +kernel
theorem d_Md_cut_126 : decode prog_8_method_12_code 126 = .ok (.ifCond .eq 12, 3) := by decide +kernel
theorem d_Md_cut_129 : decode prog_8_method_12_code 129 = .ok (.aload_n 0, 1) := by decide +kernel
theorem d_Md_cut_130 : decode prog_8_method_12_code 130 = .ok (.iload_n 1, 1) := by decide +kernel
theorem d_Md_cut_131 : decode prog_8_method_12_code 131 = .ok (.iload_n 2, 1) := by decide +kernel
theorem d_Md_cut_132 : decode prog_8_method_12_code 132 = .ok (.invokevirtual 108, 3) := by decide +kernel
theorem d_Md_cut_135 : decode prog_8_method_12_code 135 = .ok (.goto 4, 3) := by decide +kernel
theorem d_Md_cut_138 : decode prog_8_method_12_code 138 = .ok (.iconst 1, 1) := by decide +kernel
theorem d_Md_cut_139 : decode prog_8_method_12_code 139 = .ok (.istore_n 3, 1) := by decide +kernel
theorem d_Md_cut_140 : decode prog_8_method_12_code 140 = .ok (.aload_n 0, 1) := by decide +kernel
theorem d_Md_cut_141 : decode prog_8_method_12_code 141 = .ok (.getfield 29, 3) := by decide +kernel
theorem d_Md_cut_144 : decode prog_8_method_12_code 144 = .ok (.iload_n 1, 1) := by decide +kernel
theorem d_Md_cut_145 : decode prog_8_method_12_code 145 = .ok (.iload_n 3, 1) := by decide +kernel
theorem d_Md_cut_146 : decode prog_8_method_12_code 146 = .ok (.ifCond .ne 16, 3) := by decide +kernel
theorem d_Md_cut_149 : decode prog_8_method_12_code 149 = .ok (.aload_n 0, 1) := by decide +kernel
theorem d_Md_cut_150 : decode prog_8_method_12_code 150 = .ok (.getfield 29, 3) := by decide +kernel
theorem d_Md_cut_153 : decode prog_8_method_12_code 153 = .ok (.iload_n 1, 1) := by decide +kernel
theorem d_Md_cut_154 : decode prog_8_method_12_code 154 = .ok (.iaload, 1) := by decide +kernel
theorem d_Md_cut_155 : decode prog_8_method_12_code 155 = .ok (.iconst 1, 1) := by decide +kernel
theorem d_Md_cut_156 : decode prog_8_method_12_code 156 = .ok (.iload_n 2, 1) := by decide +kernel
theorem d_Md_cut_157 : decode prog_8_method_12_code 157 = .ok (.ishl, 1) := by decide +kernel
theorem d_Md_cut_158 : decode prog_8_method_12_code 158 = .ok (.ior, 1) := by decide +kernel
theorem d_Md_cut_159 : decode prog_8_method_12_code 159 = .ok (.goto 9, 3) := by decide +kernel
theorem d_Md_cut_162 : decode prog_8_method_12_code 162 = .ok (.aload_n 0, 1) := by decide +kernel
theorem d_Md_cut_163 : decode prog_8_method_12_code 163 = .ok (.getfield 29, 3) := by decide +kernel
theorem d_Md_cut_166 : decode prog_8_method_12_code 166 = .ok (.iload_n 1, 1) := by decide +kernel
theorem d_Md_cut_167 : decode prog_8_method_12_code 167 = .ok (.iaload, 1) := by decide +kernel
theorem d_Md_cut_168 : decode prog_8_method_12_code 168 = .ok (.iastore, 1) := by decide +kernel
theorem d_Md_cut_169 : decode prog_8_method_12_code 169 = .ok (.aload_n 0, 1) := by decide +kernel
theorem d_Md_cut_170 : decode prog_8_method_12_code 170 = .ok (.getfield 32, 3) := by decide +kernel
theorem d_Md_cut_173 : decode prog_8_method_12_code 173 = .ok (.iload_n 1, 1) := by decide +kernel
theorem d_Md_cut_174 : decode prog_8_method_12_code 174 = .ok (.iload_n 3, 1) := by decide +kernel
theorem d_Md_cut_175 : decode prog_8_method_12_code 175 = .ok (.ifCond .le 24, 3) := by decide +kernel
theorem d_Md_cut_178 : decode prog_8_method_12_code 178 = .ok (.iload_n 2, 1) := by decide +kernel
theorem d_Md_cut_179 : decode prog_8_method_12_code 179 = .ok (.aload_n 0, 1) := by decide +kernel
theorem d_Md_cut_180 : decode prog_8_method_12_code 180 = .ok (.getfield 83, 3) := by decide +kernel
theorem d_Md_cut_183 : decode prog_8_method_12_code 183 = .ok (.if_icmp .ge 16, 3) := by decide +kernel
theorem d_Md_cut_186 : decode prog_8_method_12_code 186 = .ok (.aload_n 0, 1) := by decide +kernel
theorem d_Md_cut_187 : decode prog_8_method_12_code 187 = .ok (.getfield 32, 3) := by decide +kernel
theorem d_Md_cut_190 : decode prog_8_method_12_code 190 = .ok (.iload_n 1, 1) := by decide +kernel
theorem d_Md_cut_191 : decode prog_8_method_12_code 191 = .ok (.iaload, 1) := by decide +kernel
theorem d_Md_cut_192 : decode prog_8_method_12_code 192 = .ok (.iconst 1, 1) := by decide +kernel
theorem d_Md_cut_193 : decode prog_8_method_12_code 193 = .ok (.iload_n 2, 1) := by decide +kernel
theorem d_Md_cut_194 : decode prog_8_method_12_code 194 = .ok (.ishl, 1) := by decide +kernel
theorem d_Md_cut_195 : decode prog_8_method_12_code 195 = .ok (.ior, 1) := by decide +kernel
theorem d_Md_cut_196 : decode prog_8_method_12_code 196 = .ok (.goto 9, 3) := by decide +kernel
theorem d_Md_cut_199 : decode prog_8_method_12_code 199 = .ok (.aload_n 0, 1) := by decide +kernel
theorem d_Md_cut_200 : decode prog_8_method_12_code 200 = .ok (.getfield 32, 3) := by decide +kernel
theorem d_Md_cut_203 : decode prog_8_method_12_code 203 = .ok (.iload_n 1, 1) := by decide +kernel
theorem d_Md_cut_204 : decode prog_8_method_12_code 204 = .ok (.iaload, 1) := by decide +kernel
theorem d_Md_cut_205 : decode prog_8_method_12_code 205 = .ok (.iastore, 1) := by decide +kernel
theorem d_Md_cut_206 : decode prog_8_method_12_code 206 = .ok (.aload_n 0, 1) := by decide +kernel
theorem d_Md_cut_207 : decode prog_8_method_12_code 207 = .ok (.getfield 35, 3) := by decide +kernel
theorem d_Md_cut_210 : decode prog_8_method_12_code 210 = .ok (.iload_n 1, 1) := by decide +kernel
theorem d_Md_cut_211 : decode prog_8_method_12_code 211 = .ok (.iload_n 3, 1) := by decide +kernel
theorem d_Md_cut_212 : decode prog_8_method_12_code 212 = .ok (.ifCond .ge 24, 3) := by decide +kernel
theorem d_Md_cut_215 : decode prog_8_method_12_code 215 = .ok (.iload_n 2, 1) := by decide +kernel
theorem d_Md_cut_216 : decode prog_8_method_12_code 216 = .ok (.aload_n 0, 1) := by decide +kernel
theorem d_Md_cut_217 : decode prog_8_method_12_code 217 = .ok (.getfield 83, 3) := by decide +kernel
theorem d_Md_cut_220 : decode prog_8_method_12_code 220 = .ok (.if_icmp .ge 16, 3) := by decide +kernel
theorem d_Md_cut_223 : decode prog_8_method_12_code 223 = .ok (.aload_n 0, 1) := by decide +kernel
theorem d_Md_cut_224 : decode prog_8_method_12_code 224 = .ok (.getfield 35, 3) := by decide +kernel
theorem d_Md_cut_227 : decode prog_8_method_12_code 227 = .ok (.iload_n 1, 1) := by decide +kernel
theorem d_Md_cut_228 : decode prog_8_method_12_code 228 = .ok (.iaload, 1) := by decide +kernel
theorem d_Md_cut_229 : decode prog_8_method_12_code 229 = .ok (.iconst 1, 1) := by decide +kernel
theorem d_Md_cut_230 : decode prog_8_method_12_code 230 = .ok (.iload_n 2, 1) := by decide +kernel
theorem d_Md_cut_231 : decode prog_8_method_12_code 231 = .ok (.ishl, 1) := by decide +kernel
theorem d_Md_cut_232 : decode prog_8_method_12_code 232 = .ok (.ior, 1) := by decide +kernel
theorem d_Md_cut_233 : decode prog_8_method_12_code 233 = .ok (.goto 9, 3) := by decide +kernel
theorem d_Md_cut_236 : decode prog_8_method_12_code 236 = .ok (.aload_n 0, 1) := by decide +kernel
theorem d_Md_cut_237 : decode prog_8_method_12_code 237 = .ok (.getfield 35, 3) := by decide +kernel
theorem d_Md_cut_240 : decode prog_8_method_12_code 240 = .ok (.iload_n 1, 1) := by decide +kernel
theorem d_Md_cut_241 : decode prog_8_method_12_code 241 = .ok (.iaload, 1) := by decide +kernel
theorem d_Md_cut_242 : decode prog_8_method_12_code 242 = .ok (.iastore, 1) := by decide +kernel
theorem d_Md_cut_243 : decode prog_8_method_12_code 243 = .ok (.iinc 2 1, 3) := by decide +kernel
theorem d_Md_cut_246 : decode prog_8_method_12_code 246 = .ok (.goto (-131), 3) := by decide +kernel
theorem d_Md_cut_249 : decode prog_8_method_12_code 249 = .ok (.iinc 1 1, 3) := by decide +kernel
theorem d_Md_cut_252 : decode prog_8_method_12_code 252 = .ok (.goto (-168), 3) := by decide +kernel
theorem d_Md_cut_255 : decode prog_8_method_12_code 255 = .ok (.aload_n 0, 1) := by decide +kernel
theorem d_Md_cut_256 : decode prog_8_method_12_code 256 = .ok (.iconst 0, 1) := by decide +kernel
theorem d_Md_cut_257 : decode prog_8_method_12_code 257 = .ok (.putfield 111, 3) := by decide +kernel
theorem d_Md_cut_260 : decode prog_8_method_12_code 260 = .ok (.aload_n 0, 1) := by decide +kernel
theorem d_Md_cut_261 : decode prog_8_method_12_code 261 = .ok (.iconst 0, 1) := by decide +kernel
theorem d_Md_cut_262 : decode prog_8_method_12_code 262 = .ok (.putfield 114, 3) := by decide +kernel
theorem d_Md_cut_265 : decode prog_8_method_12_code 265 = .ok (.iconst 0, 1) := by decide +kernel
theorem d_Md_cut_266 : decode prog_8_method_12_code 266 = .ok (.istore_n 1, 1) := by decide +kernel
theorem d_Md_cut_267 : decode prog_8_method_12_code 267 = .ok (.iload_n 1, 1) := by decide +kernel
theorem d_Md_cut_268 : decode prog_8_method_12_code 268 = .ok (.iconst 1, 1) := by decide +kernel
theorem d_Md_cut_269 : decode prog_8_method_12_code 269 = .ok (.aload_n 0, 1) := by decide +kernel
theorem d_Md_cut_270 : decode prog_8_method_12_code 270 = .ok (.getfield 83, 3) := by decide +kernel
theorem d_Md_cut_273 : decode prog_8_method_12_code 273 = .ok (.ishl, 1) := by decide +kernel
theorem d_Md_cut_274 : decode prog_8_method_12_code 274 = .ok (.if_icmp .ge 66, 3) := by decide +kernel
theorem d_Md_cut_277 : decode prog_8_method_12_code 277 = .ok (.aload_n 0, 1) := by decide +kernel
theorem d_Md_cut_278 : decode prog_8_method_12_code 278 = .ok (.getfield 47, 3) := by decide +kernel
theorem d_Md_cut_281 : decode prog_8_method_12_code 281 = .ok (.aload_n 0, 1) := by decide +kernel
theorem d_Md_cut_282 : decode prog_8_method_12_code 282 = .ok (.getfield 111, 3) := by decide +kernel
theorem d_Md_cut_285 : decode prog_8_method_12_code 285 = .ok (.iconst 0, 1) := by decide +kernel
end
section
theorem d_Md_cut_286 : decode prog_8_method_12_code 286 = .ok (.bastore, 1) := by decide +kernel
theorem d_Md_cut_287 : decode prog_8_method_12_code 287 = .ok (.aload_n 0, 1) := by decide +kernel
theorem d_Md_cut_288 : decode prog_8_method_12_code 288 = .ok (.iload_n 1, 1) := by decide +kernel
theorem d_Md_cut_289 : decode prog_8_method_12_code 289 = .ok (.iconst 0, 1) := by decide +kernel
theorem d_Md_cut_290 : decode prog_8_method_12_code 290 = .ok (.invokevirtual 117, 3) := by decide +kernel
theorem d_Md_cut_293 : decode prog_8_method_12_code 293 = .ok (.aload_n 0, 1) := by decide +kernel
theorem d_Md_cut_294 : decode prog_8_method_12_code 294 = .ok (.invokevirtual 120, 3) := by decide +kernel
theorem d_Md_cut_297 : decode prog_8_method_12_code 297 = .ok (.if_icmp .ne 37, 3) := by decide +kernel
theorem d_Md_cut_300 : decode prog_8_method_12_code 300 = .ok (.aload_n 0, 1) := by decide +kernel
theorem d_Md_cut_301 : decode prog_8_method_12_code 301 = .ok (.getfield 41, 3) := by decide +kernel
theorem d_Md_cut_304 : decode prog_8_method_12_code 304 = .ok (.aload_n 0, 1) := by decide +kernel
theorem d_Md_cut_305 : decode prog_8_method_12_code 305 = .ok (.getfield 111, 3) := by decide +kernel
theorem d_Md_cut_308 : decode prog_8_method_12_code 308 = .ok (.iload_n 1, 1) := by decide +kernel
theorem d_Md_cut_309 : decode prog_8_method_12_code 309 = .ok (.iastore, 1) := by decide +kernel
theorem d_Md_cut_310 : decode prog_8_method_12_code 310 = .ok (.aload_n 0, 1) := by decide +kernel
theorem d_Md_cut_311 : decode prog_8_method_12_code 311 = .ok (.getfield 44, 3) := by decide +kernel
theorem d_Md_cut_314 : decode prog_8_method_12_code 314 = .ok (.aload_n 0, 1) := by decide +kernel
theorem d_Md_cut_315 : decode prog_8_method_12_code 315 = .ok (.getfield 111, 3) := by decide +kernel
theorem d_Md_cut_318 : decode prog_8_method_12_code 318 = .ok (.aload_n 0, 1) := by decide +kernel
theorem d_Md_cut_319 : decode prog_8_method_12_code 319 = .ok (.iload_n 1, 1) := by decide +kernel
theorem d_Md_cut_320 : decode prog_8_method_12_code 320 = .ok (.invokevirtual 124, 3) := by decide +kernel
theorem d_Md_cut_323 : decode prog_8_method_12_code 323 = .ok (.iastore, 1) := by decide +kernel
theorem d_Md_cut_324 : decode prog_8_method_12_code 324 = .ok (.aload_n 0, 1) := by decide +kernel
theorem d_Md_cut_325 : decode prog_8_method_12_code 325 = .ok (.dup, 1) := by decide +kernel
theorem d_Md_cut_326 : decode prog_8_method_12_code 326 = .ok (.getfield 111, 3) := by decide +kernel
theorem d_Md_cut_329 : decode prog_8_method_12_code 329 = .ok (.iconst 1, 1) := by decide +kernel
theorem d_Md_cut_330 : decode prog_8_method_12_code 330 = .ok (.iadd, 1) := by decide +kernel
theorem d_Md_cut_331 : decode prog_8_method_12_code 331 = .ok (.putfield 111, 3) := by decide +kernel
theorem d_Md_cut_334 : decode prog_8_method_12_code 334 = .ok (.iinc 1 1, 3) := by decide +kernel
theorem d_Md_cut_337 : decode prog_8_method_12_code 337 = .ok (.goto (-70), 3) := by decide +kernel
theorem d_Md_cut_340 : decode prog_8_method_12_code 340 = .ok (.return_, 1) := by decide +kernel
theorem d_Md_isThere_0 : decode prog_8_method_8_code 0 = .ok (.iload_n 1, 1) := by decide +kernel
theorem d_Md_isThere_1 : decode prog_8_method_8_code 1 = .ok (.bipush 6, 2) := by decide +kernel
theorem d_Md_isThere_3 : decode prog_8_method_8_code 3 = .ok (.if_icmp .ge 11, 3) := by decide +kernel
theorem d_Md_isThere_6 : decode prog_8_method_8_code 6 = .ok (.iload_n 1, 1) := by decide +kernel
theorem d_Md_isThere_7 : decode prog_8_method_8_code 7 = .ok (.aload_n 0, 1) := by decide +kernel
theorem d_Md_isThere_8 : decode prog_8_method_8_code 8 = .ok (.getfield 83, 3) := by decide +kernel
theorem d_Md_isThere_11 : decode prog_8_method_8_code 11 = .ok (.if_icmp .ge 7, 3) := by decide +kernel
theorem d_Md_isThere_14 : decode prog_8_method_8_code 14 = .ok (.iconst 1, 1) := by decide +kernel
theorem d_Md_isThere_15 : decode prog_8_method_8_code 15 = .ok (.goto 4, 3) := by decide +kernel
theorem d_Md_isThere_18 : decode prog_8_method_8_code 18 = .ok (.iconst 0, 1) := by decide +kernel
theorem d_Md_isThere_19 : decode prog_8_method_8_code 19 = .ok (.ireturn, 1) := by decide +kernel
theorem d_Md_make_0 : decode prog_8_method_11_code 0 = .ok (.aload_n 0, 1) := by decide +kernel
theorem d_Md_make_1 : decode prog_8_method_11_code 1 = .ok (.iload_n 1, 1) := by decide +kernel
theorem d_Md_make_2 : decode prog_8_method_11_code 2 = .ok (.iload_n 2, 1) := by decide +kernel
theorem d_Md_make_3 : decode prog_8_method_11_code 3 = .ok (.iload_n 3, 1) := by decide +kernel
theorem d_Md_make_4 : decode prog_8_method_11_code 4 = .ok (.iconst 3, 1) := by decide +kernel
theorem d_Md_make_5 : decode prog_8_method_11_code 5 = .ok (.invokevirtual 86, 3) := by decide +kernel
theorem d_Md_make_8 : decode prog_8_method_11_code 8 = .ok (.istore 4, 2) := by decide +kernel
theorem d_Md_make_10 : decode prog_8_method_11_code 10 = .ok (.iload 4, 2) := by decide +kernel
theorem d_Md_make_12 : decode prog_8_method_11_code 12 = .ok (.ifCond .ne 4, 3) := by decide +kernel
theorem d_Md_make_15 : decode prog_8_method_11_code 15 = .ok (.return_, 1) := by decide +kernel
theorem d_Md_make_16 : decode prog_8_method_11_code 16 = .ok (.iload 4, 2) := by decide +kernel
theorem d_Md_make_18 : decode prog_8_method_11_code 18 = .ok (.ifCond .ge 7, 3) := by decide +kernel
theorem d_Md_make_21 : decode prog_8_method_11_code 21 = .ok (.iconst (-1), 1) := by decide +kernel
theorem d_Md_make_22 : decode prog_8_method_11_code 22 = .ok (.goto 4, 3) := by decide +kernel
theorem d_Md_make_25 : decode prog_8_method_11_code 25 = .ok (.iconst 1, 1) := by decide +kernel
theorem d_Md_make_26 : decode prog_8_method_11_code 26 = .ok (.istore 5, 2) := by decide +kernel
theorem d_Md_make_28 : decode prog_8_method_11_code 28 = .ok (.iload 4, 2) := by decide +kernel
theorem d_Md_make_30 : decode prog_8_method_11_code 30 = .ok (.istore 6, 2) := by decide +kernel
theorem d_Md_make_32 : decode prog_8_method_11_code 32 = .ok (.iconst 0, 1) := by decide +kernel
theorem d_Md_make_33 : decode prog_8_method_11_code 33 = .ok (.istore 7, 2) := by decide +kernel
theorem d_Md_make_35 : decode prog_8_method_11_code 35 = .ok (.iload 7, 2) := by decide +kernel
theorem d_Md_make_37 : decode prog_8_method_11_code 37 = .ok (.iconst 3, 1) := by decide +kernel
theorem d_Md_make_38 : decode prog_8_method_11_code 38 = .ok (.if_icmp .ge 39, 3) := by decide +kernel
theorem d_Md_make_41 : decode prog_8_method_11_code 41 = .ok (.aload_n 0, 1) := by decide +kernel
theorem d_Md_make_42 : decode prog_8_method_11_code 42 = .ok (.getfield 38, 3) := by decide +kernel
theorem d_Md_make_45 : decode prog_8_method_11_code 45 = .ok (.iload 7, 2) := by decide +kernel
theorem d_Md_make_47 : decode prog_8_method_11_code 47 = .ok (.aload_n 0, 1) := by decide +kernel
theorem d_Md_make_48 : decode prog_8_method_11_code 48 = .ok (.iload_n 1, 1) := by decide +kernel
theorem d_Md_make_49 : decode prog_8_method_11_code 49 = .ok (.iload_n 2, 1) := by decide +kernel
theorem d_Md_make_50 : decode prog_8_method_11_code 50 = .ok (.iload_n 3, 1) := by decide +kernel
theorem d_Md_make_51 : decode prog_8_method_11_code 51 = .ok (.iload 7, 2) := by decide +kernel
theorem d_Md_make_53 : decode prog_8_method_11_code 53 = .ok (.invokevirtual 86, 3) := by decide +kernel
theorem d_Md_make_56 : decode prog_8_method_11_code 56 = .ok (.iastore, 1) := by decide +kernel
theorem d_Md_make_57 : decode prog_8_method_11_code 57 = .ok (.iload 6, 2) := by decide +kernel
theorem d_Md_make_59 : decode prog_8_method_11_code 59 = .ok (.aload_n 0, 1) := by decide +kernel
theorem d_Md_make_60 : decode prog_8_method_11_code 60 = .ok (.getfield 38, 3) := by decide +kernel
theorem d_Md_make_63 : decode prog_8_method_11_code 63 = .ok (.iload 7, 2) := by decide +kernel
theorem d_Md_make_65 : decode prog_8_method_11_code 65 = .ok (.iaload, 1) := by decide +kernel
theorem d_Md_make_66 : decode prog_8_method_11_code 66 = .ok (.invokestatic 90, 3) := by decide +kernel
theorem d_Md_make_69 : decode prog_8_method_11_code 69 = .ok (.istore 6, 2) := by decide +kernel
theorem d_Md_make_71 : decode prog_8_method_11_code 71 = .ok (.iinc 7 1, 3) := by decide +kernel
theorem d_Md_make_74 : decode prog_8_method_11_code 74 = .ok (.goto (-39), 3) := by decide +kernel
theorem d_Md_make_77 : decode prog_8_method_11_code 77 = .ok (.aload_n 0, 1) := by decide +kernel
theorem d_Md_make_78 : decode prog_8_method_11_code 78 = .ok (.getfield 38, 3) := by decide +kernel
theorem d_Md_make_81 : decode prog_8_method_11_code 81 = .ok (.iconst 3, 1) := by decide +kernel
theorem d_Md_make_82 : decode prog_8_method_11_code 82 = .ok (.iload 5, 2) := by decide +kernel
theorem d_Md_make_84 : decode prog_8_method_11_code 84 = .ok (.iload 4, 2) := by decide +kernel
theorem d_Md_make_86 : decode prog_8_method_11_code 86 = .ok (.imul, 1) := by decide +kernel
theorem d_Md_make_87 : decode prog_8_method_11_code 87 = .ok (.iload 6, 2) := by decide +kernel
theorem d_Md_make_89 : decode prog_8_method_11_code 89 = .ok (.idiv, 1) := by decide +kernel
theorem d_Md_make_90 : decode prog_8_method_11_code 90 = .ok (.iastore, 1) := by decide +kernel
theorem d_Md_make_91 : decode prog_8_method_11_code 91 = .ok (.iconst 0, 1) := by decide +kernel
theorem d_Md_make_92 : decode prog_8_method_11_code 92 = .ok (.istore 7, 2) := by decide +kernel
theorem d_Md_make_94 : decode prog_8_method_11_code 94 = .ok (.iload 7, 2) := by decide +kernel
theorem d_Md_make_96 : decode prog_8_method_11_code 96 = .ok (.iconst 3, 1) := by decide +kernel
theorem d_Md_make_97 : decode prog_8_method_11_code 97 = .ok (.if_icmp .ge 64, 3) := by decide +kernel
theorem d_Md_make_100 : decode prog_8_method_11_code 100 = .ok (.aload_n 0, 1) := by decide +kernel
theorem d_Md_make_101 : decode prog_8_method_11_code 101 = .ok (.getfield 38, 3) := by decide +kernel
theorem d_Md_make_104 : decode prog_8_method_11_code 104 = .ok (.iload 7, 2) := by decide +kernel
theorem d_Md_make_106 : decode prog_8_method_11_code 106 = .ok (.iload 5, 2) := by decide +kernel
theorem d_Md_make_108 : decode prog_8_method_11_code 108 = .ok (.aload_n 0, 1) := by decide +kernel
theorem d_Md_make_109 : decode prog_8_method_11_code 109 = .ok (.getfield 38, 3) := by decide +kernel
theorem d_Md_make_112 : decode prog_8_method_11_code 112 = .ok (.iload 7, 2) := by decide +kernel
theorem d_Md_make_114 : decode prog_8_method_11_code 114 = .ok (.iaload, 1) := by decide +kernel
theorem d_Md_make_115 : decode prog_8_method_11_code 115 = .ok (.imul, 1) := by decide +kernel
theorem d_Md_make_116 : decode prog_8_method_11_code 116 = .ok (.iload 6, 2) := by decide +kernel
theorem d_Md_make_118 : decode prog_8_method_11_code 118 = .ok (.idiv, 1) := by decide +kernel
theorem d_Md_make_119 : decode prog_8_method_11_code 119 = .ok (.iastore, 1) := by decide +kernel
theorem d_Md_make_120 : decode prog_8_method_11_code 120 = .ok (.aload_n 0, 1) := by decide +kernel
theorem d_Md_make_121 : decode prog_8_method_11_code 121 = .ok (.getfield 38, 3) := by decide +kernel
theorem d_Md_make_124 : decode prog_8_method_11_code 124 = .ok (.iload 7, 2) := by decide +kernel
theorem d_Md_make_126 : decode prog_8_method_11_code 126 = .ok (.iaload, 1) := by decide +kernel
theorem d_Md_make_127 : decode prog_8_method_11_code 127 = .ok (.ifCond .lt 27, 3) := by decide +kernel
theorem d_Md_make_130 : decode prog_8_method_11_code 130 = .ok (.aload_n 0, 1) := by decide +kernel
theorem d_Md_make_131 : decode prog_8_method_11_code 131 = .ok (.getfield 38, 3) := by decide +kernel
theorem d_Md_make_134 : decode prog_8_method_11_code 134 = .ok (.iload 7, 2) := by decide +kernel
theorem d_Md_make_136 : decode prog_8_method_11_code 136 = .ok (.iaload, 1) := by decide +kernel
theorem d_Md_make_137 : decode prog_8_method_11_code 137 = .ok (.aload_n 0, 1) := by decide +kernel
theorem d_Md_make_138 : decode prog_8_method_11_code 138 = .ok (.getfield 7, 3) := by decide +kernel
theorem d_Md_make_141 : decode prog_8_method_11_code 141 = .ok (.iload 7, 2) := by decide +kernel
theorem d_Md_make_143 : decode prog_8_method_11_code 143 = .ok (.iaload, 1) := by decide +kernel
theorem d_Md_make_144 : decode prog_8_method_11_code 144 = .ok (.aload_n 0, 1) := by decide +kernel
theorem d_Md_make_145 : decode prog_8_method_11_code 145 = .ok (.getfield 38, 3) := by decide +kernel
theorem d_Md_make_148 : decode prog_8_method_11_code 148 = .ok (.iconst 3, 1) := by decide +kernel
theorem d_Md_make_149 : decode prog_8_method_11_code 149 = .ok (.iaload, 1) := by decide +kernel
theorem d_Md_make_150 : decode prog_8_method_11_code 150 = .ok (.imul, 1) := by decide +kernel
theorem d_Md_make_151 : decode prog_8_method_11_code 151 = .ok (.if_icmp .le 4, 3) := by decide +kernel
theorem d_Md_make_154 : decode prog_8_method_11_code 154 = .ok (.return_, 1) := by decide +kernel
theorem d_Md_make_155 : decode prog_8_method_11_code 155 = .ok (.iinc 7 1, 3) := by decide +kernel
theorem d_Md_make_158 : decode prog_8_method_11_code 158 = .ok (.goto (-64), 3) := by decide +kernel
theorem d_Md_make_161 : decode prog_8_method_11_code 161 = .ok (.aload_n 0, 1) := by decide +kernel
theorem d_Md_make_162 : decode prog_8_method_11_code 162 = .ok (.getfield 94, 3) := by decide +kernel
theorem d_Md_make_165 : decode prog_8_method_11_code 165 = .ok (.istore 7, 2) := by decide +kernel
theorem d_Md_make_167 : decode prog_8_method_11_code 167 = .ok (.iload 7, 2) := by decide +kernel
theorem d_Md_make_169 : decode prog_8_method_11_code 169 = .ok (.ifCond .le 20, 3) := by decide +kernel
theorem d_Md_make_172 : decode prog_8_method_11_code 172 = .ok (.aload_n 0, 1) := by decide +kernel
theorem d_Md_make_173 : decode prog_8_method_11_code 173 = .ok (.iload 7, 2) := by decide +kernel
theorem d_Md_make_175 : decode prog_8_method_11_code 175 = .ok (.iconst 1, 1) := by decide +kernel
theorem d_Md_make_176 : decode prog_8_method_11_code 176 = .ok (.isub, 1) := by decide +kernel
theorem d_Md_make_177 : decode prog_8_method_11_code 177 = .ok (.invokevirtual 97, 3) := by decide +kernel
theorem d_Md_make_180 : decode prog_8_method_11_code 180 = .ok (.ifCond .ge 9, 3) := by decide +kernel
theorem d_Md_make_183 : decode prog_8_method_11_code 183 = .ok (.iinc 7 (-1), 3) := by decide +kernel
theorem d_Md_make_186 : decode prog_8_method_11_code 186 = .ok (.goto (-19), 3) := by decide +kernel
theorem d_Md_make_189 : decode prog_8_method_11_code 189 = .ok (.iload 7, 2) := by decide +kernel
theorem d_Md_make_191 : decode prog_8_method_11_code 191 = .ok (.ifCond .le 15, 3) := by decide +kernel
theorem d_Md_make_194 : decode prog_8_method_11_code 194 = .ok (.aload_n 0, 1) := by decide +kernel
theorem d_Md_make_195 : decode prog_8_method_11_code 195 = .ok (.iload 7, 2) := by decide +kernel
theorem d_Md_make_197 : decode prog_8_method_11_code 197 = .ok (.iconst 1, 1) := by decide +kernel
theorem d_Md_make_198 : decode prog_8_method_11_code 198 = .ok (.isub, 1) := by decide +kernel
theorem d_Md_make_199 : decode prog_8_method_11_code 199 = .ok (.invokevirtual 97, 3) := by decide +kernel
theorem d_Md_make_202 : decode prog_8_method_11_code 202 = .ok (.ifCond .ne 4, 3) := by decide +kernel
theorem d_Md_make_205 : decode prog_8_method_11_code 205 = .ok (.return_, 1) := by decide +kernel
theorem d_Md_make_206 : decode prog_8_method_11_code 206 = .ok (.iconst 4, 1) := by decide +kernel
theorem d_Md_make_207 : decode prog_8_method_11_code 207 = .ok (.aload_n 0, 1) := by decide +kernel
theorem d_Md_make_208 : decode prog_8_method_11_code 208 = .ok (.getfield 94, 3) := by decide +kernel
theorem d_Md_make_211 : decode prog_8_method_11_code 211 = .ok (.imul, 1) := by decide +kernel
theorem d_Md_make_212 : decode prog_8_method_11_code 212 = .ok (.iconst 1, 1) := by decide +kernel
theorem d_Md_make_213 : decode prog_8_method_11_code 213 = .ok (.isub, 1) := by decide +kernel
theorem d_Md_make_214 : decode prog_8_method_11_code 214 = .ok (.istore 8, 2) := by decide +kernel
theorem d_Md_make_216 : decode prog_8_method_11_code 216 = .ok (.iload 8, 2) := by decide +kernel
theorem d_Md_make_218 : decode prog_8_method_11_code 218 = .ok (.iconst 4, 1) := by decide +kernel
theorem d_Md_make_219 : decode prog_8_method_11_code 219 = .ok (.iload 7, 2) := by decide +kernel
theorem d_Md_make_221 : decode prog_8_method_11_code 221 = .ok (.imul, 1) := by decide +kernel
theorem d_Md_make_222 : decode prog_8_method_11_code 222 = .ok (.if_icmp .lt 25, 3) := by decide +kernel
theorem d_Md_make_225 : decode prog_8_method_11_code 225 = .ok (.aload_n 0, 1) := by decide +kernel
theorem d_Md_make_226 : decode prog_8_method_11_code 226 = .ok (.getfield 26, 3) := by decide +kernel
theorem d_Md_make_229 : decode prog_8_method_11_code 229 = .ok (.iload 8, 2) := by decide +kernel
theorem d_Md_make_231 : decode prog_8_method_11_code 231 = .ok (.iconst 4, 1) := by decide +kernel
theorem d_Md_make_232 : decode prog_8_method_11_code 232 = .ok (.iadd, 1) := by decide +kernel
theorem d_Md_make_233 : decode prog_8_method_11_code 233 = .ok (.aload_n 0, 1) := by decide +kernel
theorem d_Md_make_234 : decode prog_8_method_11_code 234 = .ok (.getfield 26, 3) := by decide +kernel
theorem d_Md_make_237 : decode prog_8_method_11_code 237 = .ok (.iload 8, 2) := by decide +kernel
theorem d_Md_make_239 : decode prog_8_method_11_code 239 = .ok (.iaload, 1) := by decide +kernel
theorem d_Md_make_240 : decode prog_8_method_11_code 240 = .ok (.iastore, 1) := by decide +kernel
theorem d_Md_make_241 : decode prog_8_method_11_code 241 = .ok (.iinc 8 (-1), 3) := by decide +kernel
theorem d_Md_make_244 : decode prog_8_method_11_code 244 = .ok (.goto (-28), 3) := by decide +kernel
theorem d_Md_make_247 : decode prog_8_method_11_code 247 = .ok (.iconst 0, 1) := by decide +kernel
theorem d_Md_make_248 : decode prog_8_method_11_code 248 = .ok (.istore 8, 2) := by decide +kernel
theorem d_Md_make_250 : decode prog_8_method_11_code 250 = .ok (.iload 8, 2) := by decide +kernel
theorem d_Md_make_252 : decode prog_8_method_11_code 252 = .ok (.iconst 4, 1) := by decide +kernel
theorem d_Md_make_253 : decode prog_8_method_11_code 253 = .ok (.if_icmp .ge 28, 3) := by decide +kernel
theorem d_Md_make_256 : decode prog_8_method_11_code 256 = .ok (.aload_n 0, 1) := by decide +kernel
theorem d_Md_make_257 : decode prog_8_method_11_code 257 = .ok (.getfield 26, 3) := by decide +kernel
theorem d_Md_make_260 : decode prog_8_method_11_code 260 = .ok (.iconst 4, 1) := by decide +kernel
theorem d_Md_make_261 : decode prog_8_method_11_code 261 = .ok (.iload 7, 2) := by decide +kernel
theorem d_Md_make_263 : decode prog_8_method_11_code 263 = .ok (.imul, 1) := by decide +kernel
theorem d_Md_make_264 : decode prog_8_method_11_code 264 = .ok (.iload 8, 2) := by decide +kernel
theorem d_Md_make_266 : decode prog_8_method_11_code 266 = .ok (.iadd, 1) := by decide +kernel
theorem d_Md_make_267 : decode prog_8_method_11_code 267 = .ok (.aload_n 0, 1) := by decide +kernel
theorem d_Md_make_268 : decode prog_8_method_11_code 268 = .ok (.getfield 38, 3) := by decide +kernel
theorem d_Md_make_271 : decode prog_8_method_11_code 271 = .ok (.iload 8, 2) := by decide +kernel
theorem d_Md_make_273 : decode prog_8_method_11_code 273 = .ok (.iaload, 1) := by decide +kernel
theorem d_Md_make_274 : decode prog_8_method_11_code 274 = .ok (.iastore, 1) := by decide +kernel
theorem d_Md_make_275 : decode prog_8_method_11_code 275 = .ok (.iinc 8 1, 3) := by decide +kernel
theorem d_Md_make_278 : decode prog_8_method_11_code 278 = .ok (.goto (-28), 3) := by decide +kernel
theorem d_Md_make_281 : decode prog_8_method_11_code 281 = .ok (.aload_n 0, 1) := by decide +kernel
theorem d_Md_make_282 : decode prog_8_method_11_code 282 = .ok (.dup, 1) := by decide +kernel
theorem d_Md_make_283 : decode prog_8_method_11_code 283 = .ok (.getfield 94, 3) := by decide +kernel
theorem d_Md_make_286 : decode prog_8_method_11_code 286 = .ok (.iconst 1, 1) := by decide +kernel
theorem d_Md_make_287 : decode prog_8_method_11_code 287 = .ok (.iadd, 1) := by decide +kernel
theorem d_Md_make_288 : decode prog_8_method_11_code 288 = .ok (.putfield 94, 3) := by decide +kernel
theorem d_Md_make_291 : decode prog_8_method_11_code 291 = .ok (.return_, 1) := by decide +kernel
theorem d_Md_determinant_0 : decode prog_8_method_7_code 0 = .ok (.aload_n 0, 1) := by decide +kernel
theorem d_Md_determinant_1 : decode prog_8_method_7_code 1 = .ok (.iload_n 1, 1) := by decide +kernel
theorem d_Md_determinant_2 : decode prog_8_method_7_code 2 = .ok (.iconst 0, 1) := by decide +kernel
theorem d_Md_determinant_3 : decode prog_8_method_7_code 3 = .ok (.iload 4, 2) := by decide +kernel
theorem d_Md_determinant_5 : decode prog_8_method_7_code 5 = .ok (.invokevirtual 79, 3) := by decide +kernel
theorem d_Md_determinant_8 : decode prog_8_method_7_code 8 = .ok (.aload_n 0, 1) := by decide +kernel
theorem d_Md_determinant_9 : decode prog_8_method_7_code 9 = .ok (.iload_n 2, 1) := by decide +kernel
theorem d_Md_determinant_10 : decode prog_8_method_7_code 10 = .ok (.iconst 1, 1) := by decide +kernel
theorem d_Md_determinant_11 : decode prog_8_method_7_code 11 = .ok (.iload 4, 2) := by decide +kernel
theorem d_Md_determinant_13 : decode prog_8_method_7_code 13 = .ok (.invokevirtual 79, 3) := by decide +kernel
theorem d_Md_determinant_16 : decode prog_8_method_7_code 16 = .ok (.aload_n 0, 1) := by decide +kernel
theorem d_Md_determinant_17 : decode prog_8_method_7_code 17 = .ok (.iload_n 3, 1) := by decide +kernel
theorem d_Md_determinant_18 : decode prog_8_method_7_code 18 = .ok (.iconst 2, 1) := by decide +kernel
theorem d_Md_determinant_19 : decode prog_8_method_7_code 19 = .ok (.iload 4, 2) := by decide +kernel
theorem d_Md_determinant_21 : decode prog_8_method_7_code 21 = .ok (.invokevirtual 79, 3) := by decide +kernel
theorem d_Md_determinant_24 : decode prog_8_method_7_code 24 = .ok (.imul, 1) := by decide +kernel
theorem d_Md_determinant_25 : decode prog_8_method_7_code 25 = .ok (.aload_n 0, 1) := by decide +kernel
theorem d_Md_determinant_26 : decode prog_8_method_7_code 26 = .ok (.iload_n 2, 1) := by decide +kernel
theorem d_Md_determinant_27 : decode prog_8_method_7_code 27 = .ok (.iconst 2, 1) := by decide +kernel
theorem d_Md_determinant_28 : decode prog_8_method_7_code 28 = .ok (.iload 4, 2) := by decide +kernel
theorem d_Md_determinant_30 : decode prog_8_method_7_code 30 = .ok (.invokevirtual 79, 3) := by decide +kernel
theorem d_Md_determinant_33 : decode prog_8_method_7_code 33 = .ok (.aload_n 0, 1) := by decide +kernel
theorem d_Md_determinant_34 : decode prog_8_method_7_code 34 = .ok (.iload_n 3, 1) := by decide +kernel
theorem d_Md_determinant_35 : decode prog_8_method_7_code 35 = .ok (.iconst 1, 1) := by decide +kernel
theorem d_Md_determinant_36 : decode prog_8_method_7_code 36 = .ok (.iload 4, 2) := by decide +kernel
theorem d_Md_determinant_38 : decode prog_8_method_7_code 38 = .ok (.invokevirtual 79, 3) := by decide +kernel
theorem d_Md_determinant_41 : decode prog_8_method_7_code 41 = .ok (.imul, 1) := by decide +kernel
theorem d_Md_determinant_42 : decode prog_8_method_7_code 42 = .ok (.isub, 1) := by decide +kernel
theorem d_Md_determinant_43 : decode prog_8_method_7_code 43 = .ok (.imul, 1) := by decide +kernel
theorem d_Md_determinant_44 : decode prog_8_method_7_code 44 = .ok (.istore 5, 2) := by decide +kernel
theorem d_Md_determinant_46 : decode prog_8_method_7_code 46 = .ok (.aload_n 0, 1) := by decide +kernel
theorem d_Md_determinant_47 : decode prog_8_method_7_code 47 = .ok (.iload_n 1, 1) := by decide +kernel
theorem d_Md_determinant_48 : decode prog_8_method_7_code 48 = .ok (.iconst 1, 1) := by decide +kernel
theorem d_Md_determinant_49 : decode prog_8_method_7_code 49 = .ok (.iload 4, 2) := by decide +kernel
theorem d_Md_determinant_51 : decode prog_8_method_7_code 51 = .ok (.invokevirtual 79, 3) := by decide +kernel
theorem d_Md_determinant_54 : decode prog_8_method_7_code 54 = .ok (.aload_n 0, 1) := by decide +kernel
theorem d_Md_determinant_55 : decode prog_8_method_7_code 55 = .ok (.iload_n 2, 1) := by decide +kernel
theorem d_Md_determinant_56 : decode prog_8_method_7_code 56 = .ok (.iconst 0, 1) := by decide +kernel
theorem d_Md_determinant_57 : decode prog_8_method_7_code 57 = .ok (.iload 4, 2) := by decide +kernel
theorem d_Md_determinant_59 : decode prog_8_method_7_code 59 = .ok (.invokevirtual 79, 3) := by decide +kernel
theorem d_Md_determinant_62 : decode prog_8_method_7_code 62 = .ok (.aload_n 0, 1) := by decide +kernel
theorem d_Md_determinant_63 : decode prog_8_method_7_code 63 = .ok (.iload_n 3, 1) := by decide +kernel
theorem d_Md_determinant_64 : decode prog_8_method_7_code 64 = .ok (.iconst 2, 1) := by decide +kernel
theorem d_Md_determinant_65 : decode prog_8_method_7_code 65 = .ok (.iload 4, 2) := by decide +kernel
theorem d_Md_determinant_67 : decode prog_8_method_7_code 67 = .ok (.invokevirtual 79, 3) := by decide +kernel
theorem d_Md_determinant_70 : decode prog_8_method_7_code 70 = .ok (.imul, 1) := by decide +kernel
theorem d_Md_determinant_71 : decode prog_8_method_7_code 71 = .ok (.aload_n 0, 1) := by decide +kernel
theorem d_Md_determinant_72 : decode prog_8_method_7_code 72 = .ok (.iload_n 2, 1) := by decide +kernel
theorem d_Md_determinant_73 : decode prog_8_method_7_code 73 = .ok (.iconst 2, 1) := by decide +kernel
theorem d_Md_determinant_74 : decode prog_8_method_7_code 74 = .ok (.iload 4, 2) := by decide +kernel
theorem d_Md_determinant_76 : decode prog_8_method_7_code 76 = .ok (.invokevirtual 79, 3) := by decide +kernel
theorem d_Md_determinant_79 : decode prog_8_method_7_code 79 = .ok (.aload_n 0, 1) := by decide +kernel
theorem d_Md_determinant_80 : decode prog_8_method_7_code 80 = .ok (.iload_n 3, 1) := by decide +kernel
theorem d_Md_determinant_81 : decode prog_8_method_7_code 81 = .ok (.iconst 0, 1) := by decide +kernel
theorem d_Md_determinant_82 : decode prog_8_method_7_code 82 = .ok (.iload 4, 2) := by decide +kernel
theorem d_Md_determinant_84 : decode prog_8_method_7_code 84 = .ok (.invokevirtual 79, 3) := by decide +kernel
theorem d_Md_determinant_87 : decode prog_8_method_7_code 87 = .ok (.imul, 1) := by decide +kernel
theorem d_Md_determinant_88 : decode prog_8_method_7_code 88 = .ok (.isub, 1) := by decide +kernel
theorem d_Md_determinant_89 : decode prog_8_method_7_code 89 = .ok (.imul, 1) := by decide +kernel
theorem d_Md_determinant_90 : decode prog_8_method_7_code 90 = .ok (.istore 6, 2) := by decide +kernel
theorem d_Md_determinant_92 : decode prog_8_method_7_code 92 = .ok (.aload_n 0, 1) := by decide +kernel
theorem d_Md_determinant_93 : decode prog_8_method_7_code 93 = .ok (.iload_n 1, 1) := by decide +kernel
theorem d_Md_determinant_94 : decode prog_8_method_7_code 94 = .ok (.iconst 2, 1) := by decide +kernel
theorem d_Md_determinant_95 : decode prog_8_method_7_code 95 = .ok (.iload 4, 2) := by decide +kernel
theorem d_Md_determinant_97 : decode prog_8_method_7_code 97 = .ok (.invokevirtual 79, 3) := by decide +kernel
theorem d_Md_determinant_100 : decode prog_8_method_7_code 100 = .ok (.aload_n 0, 1) := by decide +kernel
theorem d_Md_determinant_101 : decode prog_8_method_7_code 101 = .ok (.iload_n 2, 1) := by decide +kernel
theorem d_Md_determinant_102 : decode prog_8_method_7_code 102 = .ok (.iconst 0, 1) := by decide +kernel
theorem d_Md_determinant_103 : decode prog_8_method_7_code 103 = .ok (.iload 4, 2) := by decide +kernel
theorem d_Md_determinant_105 : decode prog_8_method_7_code 105 = .ok (.invokevirtual 79, 3) := by decide +kernel
theorem d_Md_determinant_108 : decode prog_8_method_7_code 108 = .ok (.aload_n 0, 1) := by decide +kernel
theorem d_Md_determinant_109 : decode prog_8_method_7_code 109 = .ok (.iload_n 3, 1) := by decide +kernel
theorem d_Md_determinant_110 : decode prog_8_method_7_code 110 = .ok (.iconst 1, 1) := by decide +kernel
theorem d_Md_determinant_111 : decode prog_8_method_7_code 111 = .ok (.iload 4, 2) := by decide +kernel
theorem d_Md_determinant_113 : decode prog_8_method_7_code 113 = .ok (.invokevirtual 79, 3) := by decide +kernel
theorem d_Md_determinant_116 : decode prog_8_method_7_code 116 = .ok (.imul, 1) := by decide +kernel
theorem d_Md_determinant_117 : decode prog_8_method_7_code 117 = .ok (.aload_n 0, 1) := by decide +kernel
theorem d_Md_determinant_118 : decode prog_8_method_7_code 118 = .ok (.iload_n 2, 1) := by decide +kernel
theorem d_Md_determinant_119 : decode prog_8_method_7_code 119 = .ok (.iconst 1, 1) := by decide +kernel
theorem d_Md_determinant_120 : decode prog_8_method_7_code 120 = .ok (.iload 4, 2) := by decide +kernel
theorem d_Md_determinant_122 : decode prog_8_method_7_code 122 = .ok (.invokevirtual 79, 3) := by decide +kernel
theorem d_Md_determinant_125 : decode prog_8_method_7_code 125 = .ok (.aload_n 0, 1) := by decide +kernel
theorem d_Md_determinant_126 : decode prog_8_method_7_code 126 = .ok (.iload_n 3, 1) := by decide +kernel
theorem d_Md_determinant_127 : decode prog_8_method_7_code 127 = .ok (.iconst 0, 1) := by decide +kernel
theorem d_Md_determinant_128 : decode prog_8_method_7_code 128 = .ok (.iload 4, 2) := by decide +kernel
theorem d_Md_determinant_130 : decode prog_8_method_7_code 130 = .ok (.invokevirtual 79, 3) := by decide +kernel
theorem d_Md_determinant_133 : decode prog_8_method_7_code 133 = .ok (.imul, 1) := by decide +kernel
theorem d_Md_determinant_134 : decode prog_8_method_7_code 134 = .ok (.isub, 1) := by decide +kernel
theorem d_Md_determinant_135 : decode prog_8_method_7_code 135 = .ok (.imul, 1) := by decide +kernel
theorem d_Md_determinant_136 : decode prog_8_method_7_code 136 = .ok (.istore 7, 2) := by decide +kernel
theorem d_Md_determinant_138 : decode prog_8_method_7_code 138 = .ok (.iload 5, 2) := by decide +kernel
theorem d_Md_determinant_140 : decode prog_8_method_7_code 140 = .ok (.iload 6, 2) := by decide +kernel
theorem d_Md_determinant_142 : decode prog_8_method_7_code 142 = .ok (.isub, 1) := by decide +kernel
theorem d_Md_determinant_143 : decode prog_8_method_7_code 143 = .ok (.iload 7, 2) := by decide +kernel
theorem d_Md_determinant_145 : decode prog_8_method_7_code 145 = .ok (.iadd, 1) := by decide +kernel
theorem d_Md_determinant_146 : decode prog_8_method_7_code 146 = .ok (.ireturn, 1) := by decide +kernel
theorem d_Md_part_0 : decode prog_8_method_6_code 0 = .ok (.aload_n 0, 1) := by decide +kernel
theorem d_Md_part_1 : decode prog_8_method_6_code 1 = .ok (.getfield 13, 3) := by decide +kernel
theorem d_Md_part_4 : decode prog_8_method_6_code 4 = .ok (.iconst 4, 1) := by decide +kernel
theorem d_Md_part_5 : decode prog_8_method_6_code 5 = .ok (.iload_n 1, 1) := by decide +kernel
theorem d_Md_part_6 : decode prog_8_method_6_code 6 = .ok (.imul, 1) := by decide +kernel
theorem d_Md_part_7 : decode prog_8_method_6_code 7 = .ok (.iload_n 2, 1) := by decide +kernel
theorem d_Md_part_8 : decode prog_8_method_6_code 8 = .ok (.iload_n 3, 1) := by decide +kernel
theorem d_Md_part_9 : decode prog_8_method_6_code 9 = .ok (.if_icmp .ne 7, 3) := by decide +kernel
theorem d_Md_part_12 : decode prog_8_method_6_code 12 = .ok (.iconst 3, 1) := by decide +kernel
theorem d_Md_part_13 : decode prog_8_method_6_code 13 = .ok (.goto 4, 3) := by decide +kernel
theorem d_Md_part_16 : decode prog_8_method_6_code 16 = .ok (.iload_n 2, 1) := by decide +kernel
theorem d_Md_part_17 : decode prog_8_method_6_code 17 = .ok (.iadd, 1) := by decide +kernel
theorem d_Md_part_18 : decode prog_8_method_6_code 18 = .ok (.iaload, 1) := by decide +kernel
theorem d_Md_part_19 : decode prog_8_method_6_code 19 = .ok (.ireturn, 1) := by decide +kernel
theorem d_Md_common_0 : decode prog_8_method_5_code 0 = .ok (.iload_n 0, 1) := by decide +kernel
theorem d_Md_common_1 : decode prog_8_method_5_code 1 = .ok (.ifCond .ge 8, 3) := by decide +kernel
theorem d_Md_common_4 : decode prog_8_method_5_code 4 = .ok (.iload_n 0, 1) := by decide +kernel
theorem d_Md_common_5 : decode prog_8_method_5_code 5 = .ok (.ineg, 1) := by decide +kernel
theorem d_Md_common_6 : decode prog_8_method_5_code 6 = .ok (.goto 4, 3) := by decide +kernel
theorem d_Md_common_9 : decode prog_8_method_5_code 9 = .ok (.iload_n 0, 1) := by decide +kernel
theorem d_Md_common_10 : decode prog_8_method_5_code 10 = .ok (.istore_n 2, 1) := by decide +kernel
theorem d_Md_common_11 : decode prog_8_method_5_code 11 = .ok (.iload_n 1, 1) := by decide +kernel
theorem d_Md_common_12 : decode prog_8_method_5_code 12 = .ok (.ifCond .ge 8, 3) := by decide +kernel
theorem d_Md_common_15 : decode prog_8_method_5_code 15 = .ok (.iload_n 1, 1) := by decide +kernel
theorem d_Md_common_16 : decode prog_8_method_5_code 16 = .ok (.ineg, 1) := by decide +kernel
theorem d_Md_common_17 : decode prog_8_method_5_code 17 = .ok (.goto 4, 3) := by decide +kernel
theorem d_Md_common_20 : decode prog_8_method_5_code 20 = .ok (.iload_n 1, 1) := by decide +kernel
theorem d_Md_common_21 : decode prog_8_method_5_code 21 = .ok (.istore_n 3, 1) := by decide +kernel
theorem d_Md_common_22 : decode prog_8_method_5_code 22 = .ok (.iload_n 3, 1) := by decide +kernel
theorem d_Md_common_23 : decode prog_8_method_5_code 23 = .ok (.ifCond .eq 16, 3) := by decide +kernel
theorem d_Md_common_26 : decode prog_8_method_5_code 26 = .ok (.iload_n 2, 1) := by decide +kernel
theorem d_Md_common_27 : decode prog_8_method_5_code 27 = .ok (.iload_n 3, 1) := by decide +kernel
theorem d_Md_common_28 : decode prog_8_method_5_code 28 = .ok (.irem, 1) := by decide +kernel
theorem d_Md_common_29 : decode prog_8_method_5_code 29 = .ok (.istore 4, 2) := by decide +kernel
theorem d_Md_common_31 : decode prog_8_method_5_code 31 = .ok (.iload_n 3, 1) := by decide +kernel
theorem d_Md_common_32 : decode prog_8_method_5_code 32 = .ok (.istore_n 2, 1) := by decide +kernel
theorem d_Md_common_33 : decode prog_8_method_5_code 33 = .ok (.iload 4, 2) := by decide +kernel
theorem d_Md_common_35 : decode prog_8_method_5_code 35 = .ok (.istore_n 3, 1) := by decide +kernel
theorem d_Md_common_36 : decode prog_8_method_5_code 36 = .ok (.goto (-14), 3) := by decide +kernel
theorem d_Md_common_39 : decode prog_8_method_5_code 39 = .ok (.iload_n 2, 1) := by decide +kernel
theorem d_Md_common_40 : decode prog_8_method_5_code 40 = .ok (.ireturn, 1) := by decide +kernel
theorem d_Md_orderP_0 : decode prog_8_method_10_code 0 = .ok (.iconst 0, 1) := by decide +kernel
theorem d_Md_orderP_1 : decode prog_8_method_10_code 1 = .ok (.istore_n 2, 1) := by decide +kernel
theorem d_Md_orderP_2 : decode prog_8_method_10_code 2 = .ok (.iload_n 2, 1) := by decide +kernel
theorem d_Md_orderP_3 : decode prog_8_method_10_code 3 = .ok (.iconst 3, 1) := by decide +kernel
theorem d_Md_orderP_4 : decode prog_8_method_10_code 4 = .ok (.if_icmp .ge 59, 3) := by decide +kernel
theorem d_Md_orderP_7 : decode prog_8_method_10_code 7 = .ok (.aload_n 0, 1) := by decide +kernel
theorem d_Md_orderP_8 : decode prog_8_method_10_code 8 = .ok (.getfield 38, 3) := by decide +kernel
theorem d_Md_orderP_11 : decode prog_8_method_10_code 11 = .ok (.iload_n 2, 1) := by decide +kernel
theorem d_Md_orderP_12 : decode prog_8_method_10_code 12 = .ok (.iaload, 1) := by decide +kernel
theorem d_Md_orderP_13 : decode prog_8_method_10_code 13 = .ok (.aload_n 0, 1) := by decide +kernel
theorem d_Md_orderP_14 : decode prog_8_method_10_code 14 = .ok (.getfield 26, 3) := by decide +kernel
theorem d_Md_orderP_17 : decode prog_8_method_10_code 17 = .ok (.iconst 4, 1) := by decide +kernel
theorem d_Md_orderP_18 : decode prog_8_method_10_code 18 = .ok (.iload_n 1, 1) := by decide +kernel
theorem d_Md_orderP_19 : decode prog_8_method_10_code 19 = .ok (.imul, 1) := by decide +kernel
theorem d_Md_orderP_20 : decode prog_8_method_10_code 20 = .ok (.iconst 3, 1) := by decide +kernel
theorem d_Md_orderP_21 : decode prog_8_method_10_code 21 = .ok (.iadd, 1) := by decide +kernel
theorem d_Md_orderP_22 : decode prog_8_method_10_code 22 = .ok (.iaload, 1) := by decide +kernel
theorem d_Md_orderP_23 : decode prog_8_method_10_code 23 = .ok (.imul, 1) := by decide +kernel
theorem d_Md_orderP_24 : decode prog_8_method_10_code 24 = .ok (.aload_n 0, 1) := by decide +kernel
theorem d_Md_orderP_25 : decode prog_8_method_10_code 25 = .ok (.getfield 26, 3) := by decide +kernel
theorem d_Md_orderP_28 : decode prog_8_method_10_code 28 = .ok (.iconst 4, 1) := by decide +kernel
theorem d_Md_orderP_29 : decode prog_8_method_10_code 29 = .ok (.iload_n 1, 1) := by decide +kernel
theorem d_Md_orderP_30 : decode prog_8_method_10_code 30 = .ok (.imul, 1) := by decide +kernel
theorem d_Md_orderP_31 : decode prog_8_method_10_code 31 = .ok (.iload_n 2, 1) := by decide +kernel
theorem d_Md_orderP_32 : decode prog_8_method_10_code 32 = .ok (.iadd, 1) := by decide +kernel
theorem d_Md_orderP_33 : decode prog_8_method_10_code 33 = .ok (.iaload, 1) := by decide +kernel
theorem d_Md_orderP_34 : decode prog_8_method_10_code 34 = .ok (.aload_n 0, 1) := by decide +kernel
theorem d_Md_orderP_35 : decode prog_8_method_10_code 35 = .ok (.getfield 38, 3) := by decide +kernel
theorem d_Md_orderP_38 : decode prog_8_method_10_code 38 = .ok (.iconst 3, 1) := by decide +kernel
theorem d_Md_orderP_39 : decode prog_8_method_10_code 39 = .ok (.iaload, 1) := by decide +kernel
theorem d_Md_orderP_40 : decode prog_8_method_10_code 40 = .ok (.imul, 1) := by decide +kernel
theorem d_Md_orderP_41 : decode prog_8_method_10_code 41 = .ok (.isub, 1) := by decide +kernel
theorem d_Md_orderP_42 : decode prog_8_method_10_code 42 = .ok (.istore_n 3, 1) := by decide +kernel
theorem d_Md_orderP_43 : decode prog_8_method_10_code 43 = .ok (.iload_n 3, 1) := by decide +kernel
theorem d_Md_orderP_44 : decode prog_8_method_10_code 44 = .ok (.ifCond .eq 13, 3) := by decide +kernel
theorem d_Md_orderP_47 : decode prog_8_method_10_code 47 = .ok (.iload_n 3, 1) := by decide +kernel
theorem d_Md_orderP_48 : decode prog_8_method_10_code 48 = .ok (.ifCond .ge 7, 3) := by decide +kernel
theorem d_Md_orderP_51 : decode prog_8_method_10_code 51 = .ok (.iconst (-1), 1) := by decide +kernel
theorem d_Md_orderP_52 : decode prog_8_method_10_code 52 = .ok (.goto 4, 3) := by decide +kernel
theorem d_Md_orderP_55 : decode prog_8_method_10_code 55 = .ok (.iconst 1, 1) := by decide +kernel
theorem d_Md_orderP_56 : decode prog_8_method_10_code 56 = .ok (.ireturn, 1) := by decide +kernel
theorem d_Md_orderP_57 : decode prog_8_method_10_code 57 = .ok (.iinc 2 1, 3) := by decide +kernel
theorem d_Md_orderP_60 : decode prog_8_method_10_code 60 = .ok (.goto (-58), 3) := by decide +kernel
theorem d_Md_orderP_63 : decode prog_8_method_10_code 63 = .ok (.iconst 0, 1) := by decide +kernel
theorem d_Md_orderP_64 : decode prog_8_method_10_code 64 = .ok (.ireturn, 1) := by decide +kernel
theorem d_Md_more_0 : decode prog_8_method_9_code 0 = .ok (.aload_n 0, 1) := by decide +kernel
theorem d_Md_more_1 : decode prog_8_method_9_code 1 = .ok (.getfield 13, 3) := by decide +kernel
theorem d_Md_more_4 : decode prog_8_method_9_code 4 = .ok (.iconst 4, 1) := by decide +kernel
theorem d_Md_more_5 : decode prog_8_method_9_code 5 = .ok (.iload_n 2, 1) := by decide +kernel
theorem d_Md_more_6 : decode prog_8_method_9_code 6 = .ok (.imul, 1) := by decide +kernel
theorem d_Md_more_7 : decode prog_8_method_9_code 7 = .ok (.iaload, 1) := by decide +kernel
theorem d_Md_more_8 : decode prog_8_method_9_code 8 = .ok (.aload_n 0, 1) := by decide +kernel
theorem d_Md_more_9 : decode prog_8_method_9_code 9 = .ok (.getfield 26, 3) := by decide +kernel
theorem d_Md_more_12 : decode prog_8_method_9_code 12 = .ok (.iconst 4, 1) := by decide +kernel
theorem d_Md_more_13 : decode prog_8_method_9_code 13 = .ok (.iload_n 1, 1) := by decide +kernel
theorem d_Md_more_14 : decode prog_8_method_9_code 14 = .ok (.imul, 1) := by decide +kernel
theorem d_Md_more_15 : decode prog_8_method_9_code 15 = .ok (.iaload, 1) := by decide +kernel
theorem d_Md_more_16 : decode prog_8_method_9_code 16 = .ok (.imul, 1) := by decide +kernel
theorem d_Md_more_17 : decode prog_8_method_9_code 17 = .ok (.aload_n 0, 1) := by decide +kernel
theorem d_Md_more_18 : decode prog_8_method_9_code 18 = .ok (.getfield 13, 3) := by decide +kernel
theorem d_Md_more_21 : decode prog_8_method_9_code 21 = .ok (.iconst 4, 1) := by decide +kernel
theorem d_Md_more_22 : decode prog_8_method_9_code 22 = .ok (.iload_n 2, 1) := by decide +kernel
theorem d_Md_more_23 : decode prog_8_method_9_code 23 = .ok (.imul, 1) := by decide +kernel
theorem d_Md_more_24 : decode prog_8_method_9_code 24 = .ok (.iconst 1, 1) := by decide +kernel
theorem d_Md_more_25 : decode prog_8_method_9_code 25 = .ok (.iadd, 1) := by decide +kernel
theorem d_Md_more_26 : decode prog_8_method_9_code 26 = .ok (.iaload, 1) := by decide +kernel
theorem d_Md_more_27 : decode prog_8_method_9_code 27 = .ok (.aload_n 0, 1) := by decide +kernel
theorem d_Md_more_28 : decode prog_8_method_9_code 28 = .ok (.getfield 26, 3) := by decide +kernel
theorem d_Md_more_31 : decode prog_8_method_9_code 31 = .ok (.iconst 4, 1) := by decide +kernel
theorem d_Md_more_32 : decode prog_8_method_9_code 32 = .ok (.iload_n 1, 1) := by decide +kernel
theorem d_Md_more_33 : decode prog_8_method_9_code 33 = .ok (.imul, 1) := by decide +kernel
theorem d_Md_more_34 : decode prog_8_method_9_code 34 = .ok (.iconst 1, 1) := by decide +kernel
theorem d_Md_more_35 : decode prog_8_method_9_code 35 = .ok (.iadd, 1) := by decide +kernel
theorem d_Md_more_36 : decode prog_8_method_9_code 36 = .ok (.iaload, 1) := by decide +kernel
theorem d_Md_more_37 : decode prog_8_method_9_code 37 = .ok (.imul, 1) := by decide +kernel
theorem d_Md_more_38 : decode prog_8_method_9_code 38 = .ok (.iadd, 1) := by decide +kernel
theorem d_Md_more_39 : decode prog_8_method_9_code 39 = .ok (.aload_n 0, 1) := by decide +kernel
theorem d_Md_more_40 : decode prog_8_method_9_code 40 = .ok (.getfield 13, 3) := by decide +kernel
theorem d_Md_more_43 : decode prog_8_method_9_code 43 = .ok (.iconst 4, 1) := by decide +kernel
theorem d_Md_more_44 : decode prog_8_method_9_code 44 = .ok (.iload_n 2, 1) := by decide +kernel
theorem d_Md_more_45 : decode prog_8_method_9_code 45 = .ok (.imul, 1) := by decide +kernel
theorem d_Md_more_46 : decode prog_8_method_9_code 46 = .ok (.iconst 2, 1) := by decide +kernel
theorem d_Md_more_47 : decode prog_8_method_9_code 47 = .ok (.iadd, 1) := by decide +kernel
theorem d_Md_more_48 : decode prog_8_method_9_code 48 = .ok (.iaload, 1) := by decide +kernel
theorem d_Md_more_49 : decode prog_8_method_9_code 49 = .ok (.aload_n 0, 1) := by decide +kernel
theorem d_Md_more_50 : decode prog_8_method_9_code 50 = .ok (.getfield 26, 3) := by decide +kernel
theorem d_Md_more_53 : decode prog_8_method_9_code 53 = .ok (.iconst 4, 1) := by decide +kernel
theorem d_Md_more_54 : decode prog_8_method_9_code 54 = .ok (.iload_n 1, 1) := by decide +kernel
theorem d_Md_more_55 : decode prog_8_method_9_code 55 = .ok (.imul, 1) := by decide +kernel
theorem d_Md_more_56 : decode prog_8_method_9_code 56 = .ok (.iconst 2, 1) := by decide +kernel
theorem d_Md_more_57 : decode prog_8_method_9_code 57 = .ok (.iadd, 1) := by decide +kernel
theorem d_Md_more_58 : decode prog_8_method_9_code 58 = .ok (.iaload, 1) := by decide +kernel
theorem d_Md_more_59 : decode prog_8_method_9_code 59 = .ok (.imul, 1) := by decide +kernel
theorem d_Md_more_60 : decode prog_8_method_9_code 60 = .ok (.iadd, 1) := by decide +kernel
theorem d_Md_more_61 : decode prog_8_method_9_code 61 = .ok (.aload_n 0, 1) := by decide +kernel
theorem d_Md_more_62 : decode prog_8_method_9_code 62 = .ok (.getfield 13, 3) := by decide +kernel
theorem d_Md_more_65 : decode prog_8_method_9_code 65 = .ok (.iconst 4, 1) := by decide +kernel
theorem d_Md_more_66 : decode prog_8_method_9_code 66 = .ok (.iload_n 2, 1) := by decide +kernel
theorem d_Md_more_67 : decode prog_8_method_9_code 67 = .ok (.imul, 1) := by decide +kernel
theorem d_Md_more_68 : decode prog_8_method_9_code 68 = .ok (.iconst 3, 1) := by decide +kernel
theorem d_Md_more_69 : decode prog_8_method_9_code 69 = .ok (.iadd, 1) := by decide +kernel
theorem d_Md_more_70 : decode prog_8_method_9_code 70 = .ok (.iaload, 1) := by decide +kernel
theorem d_Md_more_71 : decode prog_8_method_9_code 71 = .ok (.aload_n 0, 1) := by decide +kernel
theorem d_Md_more_72 : decode prog_8_method_9_code 72 = .ok (.getfield 26, 3) := by decide +kernel
theorem d_Md_more_75 : decode prog_8_method_9_code 75 = .ok (.iconst 4, 1) := by decide +kernel
theorem d_Md_more_76 : decode prog_8_method_9_code 76 = .ok (.iload_n 1, 1) := by decide +kernel
theorem d_Md_more_77 : decode prog_8_method_9_code 77 = .ok (.imul, 1) := by decide +kernel
theorem d_Md_more_78 : decode prog_8_method_9_code 78 = .ok (.iconst 3, 1) := by decide +kernel
theorem d_Md_more_79 : decode prog_8_method_9_code 79 = .ok (.iadd, 1) := by decide +kernel
theorem d_Md_more_80 : decode prog_8_method_9_code 80 = .ok (.iaload, 1) := by decide +kernel
theorem d_Md_more_81 : decode prog_8_method_9_code 81 = .ok (.imul, 1) := by decide +kernel
theorem d_Md_more_82 : decode prog_8_method_9_code 82 = .ok (.isub, 1) := by decide +kernel
theorem d_Md_more_83 : decode prog_8_method_9_code 83 = .ok (.ireturn, 1) := by decide +kernel
theorem d_Md_freeOf_0 : decode prog_8_method_15_code 0 = .ok (.iconst 0, 1) := by decide +kernel
theorem d_Md_freeOf_1 : decode prog_8_method_15_code 1 = .ok (.istore_n 3, 1) := by decide +kernel
theorem d_Md_freeOf_2 : decode prog_8_method_15_code 2 = .ok (.iconst 0, 1) := by decide +kernel
theorem d_Md_freeOf_3 : decode prog_8_method_15_code 3 = .ok (.istore 4, 2) := by decide +kernel
theorem d_Md_freeOf_5 : decode prog_8_method_15_code 5 = .ok (.iload 4, 2) := by decide +kernel
theorem d_Md_freeOf_7 : decode prog_8_method_15_code 7 = .ok (.aload_n 0, 1) := by decide +kernel
theorem d_Md_freeOf_8 : decode prog_8_method_15_code 8 = .ok (.getfield 94, 3) := by decide +kernel
theorem d_Md_freeOf_11 : decode prog_8_method_15_code 11 = .ok (.if_icmp .ge 48, 3) := by decide +kernel
theorem d_Md_freeOf_14 : decode prog_8_method_15_code 14 = .ok (.aload_n 0, 1) := by decide +kernel
theorem d_Md_freeOf_15 : decode prog_8_method_15_code 15 = .ok (.iload 4, 2) := by decide +kernel
theorem d_Md_freeOf_17 : decode prog_8_method_15_code 17 = .ok (.iload_n 1, 1) := by decide +kernel
theorem d_Md_freeOf_18 : decode prog_8_method_15_code 18 = .ok (.invokevirtual 127, 3) := by decide +kernel
theorem d_Md_freeOf_21 : decode prog_8_method_15_code 21 = .ok (.ifCond .eq 30, 3) := by decide +kernel
theorem d_Md_freeOf_24 : decode prog_8_method_15_code 24 = .ok (.aload_n 0, 1) := by decide +kernel
theorem d_Md_freeOf_25 : decode prog_8_method_15_code 25 = .ok (.getfield 29, 3) := by decide +kernel
theorem d_Md_freeOf_28 : decode prog_8_method_15_code 28 = .ok (.iload 4, 2) := by decide +kernel
theorem d_Md_freeOf_30 : decode prog_8_method_15_code 30 = .ok (.iaload, 1) := by decide +kernel
theorem d_Md_freeOf_31 : decode prog_8_method_15_code 31 = .ok (.iload_n 2, 1) := by decide +kernel
theorem d_Md_freeOf_32 : decode prog_8_method_15_code 32 = .ok (.iand, 1) := by decide +kernel
theorem d_Md_freeOf_33 : decode prog_8_method_15_code 33 = .ok (.iload_n 2, 1) := by decide +kernel
theorem d_Md_freeOf_34 : decode prog_8_method_15_code 34 = .ok (.if_icmp .ne 17, 3) := by decide +kernel
theorem d_Md_freeOf_37 : decode prog_8_method_15_code 37 = .ok (.iload_n 3, 1) := by decide +kernel
theorem d_Md_freeOf_38 : decode prog_8_method_15_code 38 = .ok (.aload_n 0, 1) := by decide +kernel
theorem d_Md_freeOf_39 : decode prog_8_method_15_code 39 = .ok (.getfield 29, 3) := by decide +kernel
theorem d_Md_freeOf_42 : decode prog_8_method_15_code 42 = .ok (.iload 4, 2) := by decide +kernel
theorem d_Md_freeOf_44 : decode prog_8_method_15_code 44 = .ok (.iaload, 1) := by decide +kernel
theorem d_Md_freeOf_45 : decode prog_8_method_15_code 45 = .ok (.iconst (-1), 1) := by decide +kernel
theorem d_Md_freeOf_46 : decode prog_8_method_15_code 46 = .ok (.ixor, 1) := by decide +kernel
theorem d_Md_freeOf_47 : decode prog_8_method_15_code 47 = .ok (.ior, 1) := by decide +kernel
theorem d_Md_freeOf_48 : decode prog_8_method_15_code 48 = .ok (.goto 4, 3) := by decide +kernel
theorem d_Md_freeOf_51 : decode prog_8_method_15_code 51 = .ok (.iload_n 3, 1) := by decide +kernel
theorem d_Md_freeOf_52 : decode prog_8_method_15_code 52 = .ok (.istore_n 3, 1) := by decide +kernel
theorem d_Md_freeOf_53 : decode prog_8_method_15_code 53 = .ok (.iinc 4 1, 3) := by decide +kernel
theorem d_Md_freeOf_56 : decode prog_8_method_15_code 56 = .ok (.goto (-51), 3) := by decide +kernel
theorem d_Md_freeOf_59 : decode prog_8_method_15_code 59 = .ok (.iload_n 3, 1) := by decide +kernel
theorem d_Md_freeOf_60 : decode prog_8_method_15_code 60 = .ok (.aload_n 0, 1) := by decide +kernel
theorem d_Md_freeOf_61 : decode prog_8_method_15_code 61 = .ok (.invokevirtual 120, 3) := by decide +kernel
theorem d_Md_freeOf_64 : decode prog_8_method_15_code 64 = .ok (.iand, 1) := by decide +kernel
theorem d_Md_freeOf_65 : decode prog_8_method_15_code 65 = .ok (.ireturn, 1) := by decide +kernel
theorem d_Md_isOf_0 : decode prog_8_method_14_code 0 = .ok (.aload_n 0, 1) := by decide +kernel
theorem d_Md_isOf_1 : decode prog_8_method_14_code 1 = .ok (.getfield 32, 3) := by decide +kernel
theorem d_Md_isOf_4 : decode prog_8_method_14_code 4 = .ok (.iload_n 1, 1) := by decide +kernel
theorem d_Md_isOf_5 : decode prog_8_method_14_code 5 = .ok (.iaload, 1) := by decide +kernel
theorem d_Md_isOf_6 : decode prog_8_method_14_code 6 = .ok (.iload_n 2, 1) := by decide +kernel
theorem d_Md_isOf_7 : decode prog_8_method_14_code 7 = .ok (.iconst (-1), 1) := by decide +kernel
theorem d_Md_isOf_8 : decode prog_8_method_14_code 8 = .ok (.ixor, 1) := by decide +kernel
theorem d_Md_isOf_9 : decode prog_8_method_14_code 9 = .ok (.iand, 1) := by decide +kernel
theorem d_Md_isOf_10 : decode prog_8_method_14_code 10 = .ok (.ifCond .ne 18, 3) := by decide +kernel
theorem d_Md_isOf_13 : decode prog_8_method_14_code 13 = .ok (.aload_n 0, 1) := by decide +kernel
theorem d_Md_isOf_14 : decode prog_8_method_14_code 14 = .ok (.getfield 35, 3) := by decide +kernel
theorem d_Md_isOf_17 : decode prog_8_method_14_code 17 = .ok (.iload_n 1, 1) := by decide +kernel
theorem d_Md_isOf_18 : decode prog_8_method_14_code 18 = .ok (.iaload, 1) := by decide +kernel
theorem d_Md_isOf_19 : decode prog_8_method_14_code 19 = .ok (.iload_n 2, 1) := by decide +kernel
theorem d_Md_isOf_20 : decode prog_8_method_14_code 20 = .ok (.iand, 1) := by decide +kernel
theorem d_Md_isOf_21 : decode prog_8_method_14_code 21 = .ok (.ifCond .ne 7, 3) := by decide +kernel
theorem d_Md_isOf_24 : decode prog_8_method_14_code 24 = .ok (.iconst 1, 1) := by decide +kernel
theorem d_Md_isOf_25 : decode prog_8_method_14_code 25 = .ok (.goto 4, 3) := by decide +kernel
theorem d_Md_isOf_28 : decode prog_8_method_14_code 28 = .ok (.iconst 0, 1) := by decide +kernel
theorem d_Md_isOf_29 : decode prog_8_method_14_code 29 = .ok (.ireturn, 1) := by decide +kernel
theorem d_Md_all_0 : decode prog_8_method_13_code 0 = .ok (.iconst 1, 1) := by decide +kernel
theorem d_Md_all_1 : decode prog_8_method_13_code 1 = .ok (.aload_n 0, 1) := by decide +kernel
theorem d_Md_all_2 : decode prog_8_method_13_code 2 = .ok (.getfield 83, 3) := by decide +kernel
theorem d_Md_all_5 : decode prog_8_method_13_code 5 = .ok (.ishl, 1) := by decide +kernel
theorem d_Md_all_6 : decode prog_8_method_13_code 6 = .ok (.iconst 1, 1) := by decide +kernel
theorem d_Md_all_7 : decode prog_8_method_13_code 7 = .ok (.isub, 1) := by decide +kernel
theorem d_Md_all_8 : decode prog_8_method_13_code 8 = .ok (.sipush 4032, 3) := by decide +kernel
theorem d_Md_all_11 : decode prog_8_method_13_code 11 = .ok (.iadd, 1) := by decide +kernel
theorem d_Md_all_12 : decode prog_8_method_13_code 12 = .ok (.ireturn, 1) := by decide +kernel
theorem d_Md_findFaces_0 : decode prog_8_method_16_code 0 = .ok (.iconst 0, 1) := by decide +kernel
theorem d_Md_findFaces_1 : decode prog_8_method_16_code 1 = .ok (.istore_n 2, 1) := by decide +kernel
theorem d_Md_findFaces_2 : decode prog_8_method_16_code 2 = .ok (.iconst 0, 1) := by decide +kernel
theorem d_Md_findFaces_3 : decode prog_8_method_16_code 3 = .ok (.istore_n 3, 1) := by decide +kernel
theorem d_Md_findFaces_4 : decode prog_8_method_16_code 4 = .ok (.iload_n 3, 1) := by decide +kernel
theorem d_Md_findFaces_5 : decode prog_8_method_16_code 5 = .ok (.bipush 12, 2) := by decide +kernel
theorem d_Md_findFaces_7 : decode prog_8_method_16_code 7 = .ok (.if_icmp .ge 44, 3) := by decide +kernel
theorem d_Md_findFaces_10 : decode prog_8_method_16_code 10 = .ok (.aload_n 0, 1) := by decide +kernel
theorem d_Md_findFaces_11 : decode prog_8_method_16_code 11 = .ok (.iload_n 3, 1) := by decide +kernel
theorem d_Md_findFaces_12 : decode prog_8_method_16_code 12 = .ok (.invokevirtual 100, 3) := by decide +kernel
theorem d_Md_findFaces_15 : decode prog_8_method_16_code 15 = .ok (.ifCond .eq 30, 3) := by decide +kernel
theorem d_Md_findFaces_18 : decode prog_8_method_16_code 18 = .ok (.aload_n 0, 1) := by decide +kernel
theorem d_Md_findFaces_19 : decode prog_8_method_16_code 19 = .ok (.iload_n 1, 1) := by decide +kernel
theorem d_Md_findFaces_20 : decode prog_8_method_16_code 20 = .ok (.iconst 1, 1) := by decide +kernel
theorem d_Md_findFaces_21 : decode prog_8_method_16_code 21 = .ok (.iload_n 3, 1) := by decide +kernel
theorem d_Md_findFaces_22 : decode prog_8_method_16_code 22 = .ok (.ishl, 1) := by decide +kernel
theorem d_Md_findFaces_23 : decode prog_8_method_16_code 23 = .ok (.invokevirtual 117, 3) := by decide +kernel
theorem d_Md_findFaces_26 : decode prog_8_method_16_code 26 = .ok (.aload_n 0, 1) := by decide +kernel
theorem d_Md_findFaces_27 : decode prog_8_method_16_code 27 = .ok (.invokevirtual 120, 3) := by decide +kernel
theorem d_Md_findFaces_30 : decode prog_8_method_16_code 30 = .ok (.iconst 1, 1) := by decide +kernel
theorem d_Md_findFaces_31 : decode prog_8_method_16_code 31 = .ok (.iload_n 3, 1) := by decide +kernel
theorem d_Md_findFaces_32 : decode prog_8_method_16_code 32 = .ok (.ishl, 1) := by decide +kernel
theorem d_Md_findFaces_33 : decode prog_8_method_16_code 33 = .ok (.iconst (-1), 1) := by decide +kernel
theorem d_Md_findFaces_34 : decode prog_8_method_16_code 34 = .ok (.ixor, 1) := by decide +kernel
theorem d_Md_findFaces_35 : decode prog_8_method_16_code 35 = .ok (.iand, 1) := by decide +kernel
theorem d_Md_findFaces_36 : decode prog_8_method_16_code 36 = .ok (.if_icmp .ne 9, 3) := by decide +kernel
theorem d_Md_findFaces_39 : decode prog_8_method_16_code 39 = .ok (.iload_n 2, 1) := by decide +kernel
theorem d_Md_findFaces_40 : decode prog_8_method_16_code 40 = .ok (.iconst 1, 1) := by decide +kernel
theorem d_Md_findFaces_41 : decode prog_8_method_16_code 41 = .ok (.iload_n 3, 1) := by decide +kernel
theorem d_Md_findFaces_42 : decode prog_8_method_16_code 42 = .ok (.ishl, 1) := by decide +kernel
theorem d_Md_findFaces_43 : decode prog_8_method_16_code 43 = .ok (.ior, 1) := by decide +kernel
theorem d_Md_findFaces_44 : decode prog_8_method_16_code 44 = .ok (.istore_n 2, 1) := by decide +kernel
theorem d_Md_findFaces_45 : decode prog_8_method_16_code 45 = .ok (.iinc 3 1, 3) := by decide +kernel
theorem d_Md_findFaces_48 : decode prog_8_method_16_code 48 = .ok (.goto (-44), 3) := by decide +kernel
theorem d_Md_findFaces_51 : decode prog_8_method_16_code 51 = .ok (.iload_n 2, 1) := by decide +kernel
theorem d_Md_findFaces_52 : decode prog_8_method_16_code 52 = .ok (.ireturn, 1) := by decide +kernel
theorem d_Md_thrown_0 : decode prog_8_method_2_code 0 = .ok (.aload_n 0, 1) := by decide +kernel
theorem d_Md_thrown_1 : decode prog_8_method_2_code 1 = .ok (.getfield 75, 3) := by decide +kernel
theorem d_Md_thrown_4 : decode prog_8_method_2_code 4 = .ok (.ireturn, 1) := by decide +kernel
theorem d_Md_joint_0 : decode prog_8_method_19_code 0 = .ok (.aload_n 0, 1) := by decide +kernel
theorem d_Md_joint_1 : decode prog_8_method_19_code 1 = .ok (.aload_n 0, 1) := by decide +kernel
theorem d_Md_joint_2 : decode prog_8_method_19_code 2 = .ok (.iload_n 1, 1) := by decide +kernel
theorem d_Md_joint_3 : decode prog_8_method_19_code 3 = .ok (.iload_n 2, 1) := by decide +kernel
theorem d_Md_joint_4 : decode prog_8_method_19_code 4 = .ok (.iload_n 3, 1) := by decide +kernel
theorem d_Md_joint_5 : decode prog_8_method_19_code 5 = .ok (.iload 4, 2) := by decide +kernel
theorem d_Md_joint_7 : decode prog_8_method_19_code 7 = .ok (.invokevirtual 139, 3) := by decide +kernel
theorem d_Md_joint_10 : decode prog_8_method_19_code 10 = .ok (.ifCond .ne 7, 3) := by decide +kernel
theorem d_Md_joint_13 : decode prog_8_method_19_code 13 = .ok (.iconst 1, 1) := by decide +kernel
theorem d_Md_joint_14 : decode prog_8_method_19_code 14 = .ok (.goto 17, 3) := by decide +kernel
theorem d_Md_joint_17 : decode prog_8_method_19_code 17 = .ok (.aload_n 0, 1) := by decide +kernel
theorem d_Md_joint_18 : decode prog_8_method_19_code 18 = .ok (.getfield 83, 3) := by decide +kernel
theorem d_Md_joint_21 : decode prog_8_method_19_code 21 = .ok (.bipush 6, 2) := by decide +kernel
theorem d_Md_joint_23 : decode prog_8_method_19_code 23 = .ok (.if_icmp .ne 7, 3) := by decide +kernel
theorem d_Md_joint_26 : decode prog_8_method_19_code 26 = .ok (.iconst 2, 1) := by decide +kernel
theorem d_Md_joint_27 : decode prog_8_method_19_code 27 = .ok (.goto 4, 3) := by decide +kernel
theorem d_Md_joint_30 : decode prog_8_method_19_code 30 = .ok (.iconst 0, 1) := by decide +kernel
theorem d_Md_joint_31 : decode prog_8_method_19_code 31 = .ok (.putfield 75, 3) := by decide +kernel
theorem d_Md_joint_34 : decode prog_8_method_19_code 34 = .ok (.aload_n 0, 1) := by decide +kernel
theorem d_Md_joint_35 : decode prog_8_method_19_code 35 = .ok (.getfield 75, 3) := by decide +kernel
theorem d_Md_joint_38 : decode prog_8_method_19_code 38 = .ok (.ifCond .le 5, 3) := by decide +kernel
theorem d_Md_joint_41 : decode prog_8_method_19_code 41 = .ok (.iconst 0, 1) := by decide +kernel
theorem d_Md_joint_42 : decode prog_8_method_19_code 42 = .ok (.ireturn, 1) := by decide +kernel
theorem d_Md_joint_43 : decode prog_8_method_19_code 43 = .ok (.aload_n 0, 1) := by decide +kernel
theorem d_Md_joint_44 : decode prog_8_method_19_code 44 = .ok (.getfield 13, 3) := by decide +kernel
theorem d_Md_joint_47 : decode prog_8_method_19_code 47 = .ok (.iconst 4, 1) := by decide +kernel
theorem d_Md_joint_48 : decode prog_8_method_19_code 48 = .ok (.aload_n 0, 1) := by decide +kernel
theorem d_Md_joint_49 : decode prog_8_method_19_code 49 = .ok (.getfield 83, 3) := by decide +kernel
theorem d_Md_joint_52 : decode prog_8_method_19_code 52 = .ok (.imul, 1) := by decide +kernel
theorem d_Md_joint_53 : decode prog_8_method_19_code 53 = .ok (.iload_n 1, 1) := by decide +kernel
theorem d_Md_joint_54 : decode prog_8_method_19_code 54 = .ok (.iastore, 1) := by decide +kernel
theorem d_Md_joint_55 : decode prog_8_method_19_code 55 = .ok (.aload_n 0, 1) := by decide +kernel
theorem d_Md_joint_56 : decode prog_8_method_19_code 56 = .ok (.getfield 13, 3) := by decide +kernel
theorem d_Md_joint_59 : decode prog_8_method_19_code 59 = .ok (.iconst 4, 1) := by decide +kernel
theorem d_Md_joint_60 : decode prog_8_method_19_code 60 = .ok (.aload_n 0, 1) := by decide +kernel
theorem d_Md_joint_61 : decode prog_8_method_19_code 61 = .ok (.getfield 83, 3) := by decide +kernel
theorem d_Md_joint_64 : decode prog_8_method_19_code 64 = .ok (.imul, 1) := by decide +kernel
theorem d_Md_joint_65 : decode prog_8_method_19_code 65 = .ok (.iconst 1, 1) := by decide +kernel
theorem d_Md_joint_66 : decode prog_8_method_19_code 66 = .ok (.iadd, 1) := by decide +kernel
theorem d_Md_joint_67 : decode prog_8_method_19_code 67 = .ok (.iload_n 2, 1) := by decide +kernel
theorem d_Md_joint_68 : decode prog_8_method_19_code 68 = .ok (.iastore, 1) := by decide +kernel
theorem d_Md_joint_69 : decode prog_8_method_19_code 69 = .ok (.aload_n 0, 1) := by decide +kernel
theorem d_Md_joint_70 : decode prog_8_method_19_code 70 = .ok (.getfield 13, 3) := by decide +kernel
theorem d_Md_joint_73 : decode prog_8_method_19_code 73 = .ok (.iconst 4, 1) := by decide +kernel
theorem d_Md_joint_74 : decode prog_8_method_19_code 74 = .ok (.aload_n 0, 1) := by decide +kernel
theorem d_Md_joint_75 : decode prog_8_method_19_code 75 = .ok (.getfield 83, 3) := by decide +kernel
theorem d_Md_joint_78 : decode prog_8_method_19_code 78 = .ok (.imul, 1) := by decide +kernel
theorem d_Md_joint_79 : decode prog_8_method_19_code 79 = .ok (.iconst 2, 1) := by decide +kernel
theorem d_Md_joint_80 : decode prog_8_method_19_code 80 = .ok (.iadd, 1) := by decide +kernel
theorem d_Md_joint_81 : decode prog_8_method_19_code 81 = .ok (.iload_n 3, 1) := by decide +kernel
theorem d_Md_joint_82 : decode prog_8_method_19_code 82 = .ok (.iastore, 1) := by decide +kernel
theorem d_Md_joint_83 : decode prog_8_method_19_code 83 = .ok (.aload_n 0, 1) := by decide +kernel
theorem d_Md_joint_84 : decode prog_8_method_19_code 84 = .ok (.getfield 13, 3) := by decide +kernel
theorem d_Md_joint_87 : decode prog_8_method_19_code 87 = .ok (.iconst 4, 1) := by decide +kernel
theorem d_Md_joint_88 : decode prog_8_method_19_code 88 = .ok (.aload_n 0, 1) := by decide +kernel
theorem d_Md_joint_89 : decode prog_8_method_19_code 89 = .ok (.getfield 83, 3) := by decide +kernel
theorem d_Md_joint_92 : decode prog_8_method_19_code 92 = .ok (.imul, 1) := by decide +kernel
theorem d_Md_joint_93 : decode prog_8_method_19_code 93 = .ok (.iconst 3, 1) := by decide +kernel
theorem d_Md_joint_94 : decode prog_8_method_19_code 94 = .ok (.iadd, 1) := by decide +kernel
theorem d_Md_joint_95 : decode prog_8_method_19_code 95 = .ok (.iload 4, 2) := by decide +kernel
theorem d_Md_joint_97 : decode prog_8_method_19_code 97 = .ok (.iastore, 1) := by decide +kernel
theorem d_Md_joint_98 : decode prog_8_method_19_code 98 = .ok (.aload_n 0, 1) := by decide +kernel
theorem d_Md_joint_99 : decode prog_8_method_19_code 99 = .ok (.dup, 1) := by decide +kernel
theorem d_Md_joint_100 : decode prog_8_method_19_code 100 = .ok (.getfield 83, 3) := by decide +kernel
theorem d_Md_joint_103 : decode prog_8_method_19_code 103 = .ok (.iconst 1, 1) := by decide +kernel
theorem d_Md_joint_104 : decode prog_8_method_19_code 104 = .ok (.iadd, 1) := by decide +kernel
theorem d_Md_joint_105 : decode prog_8_method_19_code 105 = .ok (.putfield 83, 3) := by decide +kernel
theorem d_Md_joint_108 : decode prog_8_method_19_code 108 = .ok (.aload_n 0, 1) := by decide +kernel
theorem d_Md_joint_109 : decode prog_8_method_19_code 109 = .ok (.invokevirtual 72, 3) := by decide +kernel
theorem d_Md_joint_112 : decode prog_8_method_19_code 112 = .ok (.aload_n 0, 1) := by decide +kernel
theorem d_Md_joint_113 : decode prog_8_method_19_code 113 = .ok (.getfield 83, 3) := by decide +kernel
theorem d_Md_joint_116 : decode prog_8_method_19_code 116 = .ok (.iconst 1, 1) := by decide +kernel
theorem d_Md_joint_117 : decode prog_8_method_19_code 117 = .ok (.isub, 1) := by decide +kernel
theorem d_Md_joint_118 : decode prog_8_method_19_code 118 = .ok (.ireturn, 1) := by decide +kernel
theorem d_Md_isRight_0 : decode prog_8_method_18_code 0 = .ok (.iload_n 1, 1) := by decide +kernel
theorem d_Md_isRight_1 : decode prog_8_method_18_code 1 = .ok (.bipush (-6), 2) := by decide +kernel
theorem d_Md_isRight_3 : decode prog_8_method_18_code 3 = .ok (.bipush 6, 2) := by decide +kernel
theorem d_Md_isRight_5 : decode prog_8_method_18_code 5 = .ok (.invokestatic 131, 3) := by decide +kernel
theorem d_Md_isRight_8 : decode prog_8_method_18_code 8 = .ok (.ifCond .eq 53, 3) := by decide +kernel
theorem d_Md_isRight_11 : decode prog_8_method_18_code 11 = .ok (.iload_n 2, 1) := by decide +kernel
theorem d_Md_isRight_12 : decode prog_8_method_18_code 12 = .ok (.bipush (-6), 2) := by decide +kernel
theorem d_Md_isRight_14 : decode prog_8_method_18_code 14 = .ok (.bipush 6, 2) := by decide +kernel
theorem d_Md_isRight_16 : decode prog_8_method_18_code 16 = .ok (.invokestatic 131, 3) := by decide +kernel
theorem d_Md_isRight_19 : decode prog_8_method_18_code 19 = .ok (.ifCond .eq 42, 3) := by decide +kernel
theorem d_Md_isRight_22 : decode prog_8_method_18_code 22 = .ok (.iload_n 3, 1) := by decide +kernel
theorem d_Md_isRight_23 : decode prog_8_method_18_code 23 = .ok (.bipush (-6), 2) := by decide +kernel
theorem d_Md_isRight_25 : decode prog_8_method_18_code 25 = .ok (.bipush 6, 2) := by decide +kernel
theorem d_Md_isRight_27 : decode prog_8_method_18_code 27 = .ok (.invokestatic 131, 3) := by decide +kernel
theorem d_Md_isRight_30 : decode prog_8_method_18_code 30 = .ok (.ifCond .eq 31, 3) := by decide +kernel
theorem d_Md_isRight_33 : decode prog_8_method_18_code 33 = .ok (.iload 4, 2) := by decide +kernel
theorem d_Md_isRight_35 : decode prog_8_method_18_code 35 = .ok (.bipush (-100), 2) := by decide +kernel
theorem d_Md_isRight_37 : decode prog_8_method_18_code 37 = .ok (.bipush 100, 2) := by decide +kernel
theorem d_Md_isRight_39 : decode prog_8_method_18_code 39 = .ok (.invokestatic 131, 3) := by decide +kernel
theorem d_Md_isRight_42 : decode prog_8_method_18_code 42 = .ok (.ifCond .eq 19, 3) := by decide +kernel
theorem d_Md_isRight_45 : decode prog_8_method_18_code 45 = .ok (.iload_n 1, 1) := by decide +kernel
theorem d_Md_isRight_46 : decode prog_8_method_18_code 46 = .ok (.ifCond .ne 11, 3) := by decide +kernel
theorem d_Md_isRight_49 : decode prog_8_method_18_code 49 = .ok (.iload_n 2, 1) := by decide +kernel
theorem d_Md_isRight_50 : decode prog_8_method_18_code 50 = .ok (.ifCond .ne 7, 3) := by decide +kernel
theorem d_Md_isRight_53 : decode prog_8_method_18_code 53 = .ok (.iload_n 3, 1) := by decide +kernel
theorem d_Md_isRight_54 : decode prog_8_method_18_code 54 = .ok (.ifCond .eq 7, 3) := by decide +kernel
theorem d_Md_isRight_57 : decode prog_8_method_18_code 57 = .ok (.iconst 1, 1) := by decide +kernel
theorem d_Md_isRight_58 : decode prog_8_method_18_code 58 = .ok (.goto 4, 3) := by decide +kernel
theorem d_Md_isRight_61 : decode prog_8_method_18_code 61 = .ok (.iconst 0, 1) := by decide +kernel
theorem d_Md_isRight_62 : decode prog_8_method_18_code 62 = .ok (.istore 5, 2) := by decide +kernel
theorem d_Md_isRight_64 : decode prog_8_method_18_code 64 = .ok (.iload 5, 2) := by decide +kernel
theorem d_Md_isRight_66 : decode prog_8_method_18_code 66 = .ok (.ifCond .ne 5, 3) := by decide +kernel
theorem d_Md_isRight_69 : decode prog_8_method_18_code 69 = .ok (.iconst 0, 1) := by decide +kernel
theorem d_Md_isRight_70 : decode prog_8_method_18_code 70 = .ok (.ireturn, 1) := by decide +kernel
theorem d_Md_isRight_71 : decode prog_8_method_18_code 71 = .ok (.iconst 0, 1) := by decide +kernel
theorem d_Md_isRight_72 : decode prog_8_method_18_code 72 = .ok (.istore 6, 2) := by decide +kernel
theorem d_Md_isRight_74 : decode prog_8_method_18_code 74 = .ok (.iconst 0, 1) := by decide +kernel
theorem d_Md_isRight_75 : decode prog_8_method_18_code 75 = .ok (.istore 7, 2) := by decide +kernel
theorem d_Md_isRight_77 : decode prog_8_method_18_code 77 = .ok (.iconst 0, 1) := by decide +kernel
theorem d_Md_isRight_78 : decode prog_8_method_18_code 78 = .ok (.istore 8, 2) := by decide +kernel
theorem d_Md_isRight_80 : decode prog_8_method_18_code 80 = .ok (.iload 8, 2) := by decide +kernel
theorem d_Md_isRight_82 : decode prog_8_method_18_code 82 = .ok (.iconst 3, 1) := by decide +kernel
theorem d_Md_isRight_83 : decode prog_8_method_18_code 83 = .ok (.if_icmp .ge 73, 3) := by decide +kernel
theorem d_Md_isRight_86 : decode prog_8_method_18_code 86 = .ok (.iload 8, 2) := by decide +kernel
theorem d_Md_isRight_88 : decode prog_8_method_18_code 88 = .ok (.ifCond .ne 7, 3) := by decide +kernel
theorem d_Md_isRight_91 : decode prog_8_method_18_code 91 = .ok (.iload_n 1, 1) := by decide +kernel
theorem d_Md_isRight_92 : decode prog_8_method_18_code 92 = .ok (.goto 14, 3) := by decide +kernel
theorem d_Md_isRight_95 : decode prog_8_method_18_code 95 = .ok (.iload 8, 2) := by decide +kernel
theorem d_Md_isRight_97 : decode prog_8_method_18_code 97 = .ok (.iconst 1, 1) := by decide +kernel
theorem d_Md_isRight_98 : decode prog_8_method_18_code 98 = .ok (.if_icmp .ne 7, 3) := by decide +kernel
theorem d_Md_isRight_101 : decode prog_8_method_18_code 101 = .ok (.iload_n 2, 1) := by decide +kernel
theorem d_Md_isRight_102 : decode prog_8_method_18_code 102 = .ok (.goto 4, 3) := by decide +kernel
theorem d_Md_isRight_105 : decode prog_8_method_18_code 105 = .ok (.iload_n 3, 1) := by decide +kernel
theorem d_Md_isRight_106 : decode prog_8_method_18_code 106 = .ok (.aload_n 0, 1) := by decide +kernel
theorem d_Md_isRight_107 : decode prog_8_method_18_code 107 = .ok (.getfield 7, 3) := by decide +kernel
theorem d_Md_isRight_110 : decode prog_8_method_18_code 110 = .ok (.iload 8, 2) := by decide +kernel
theorem d_Md_isRight_112 : decode prog_8_method_18_code 112 = .ok (.iaload, 1) := by decide +kernel
theorem d_Md_isRight_113 : decode prog_8_method_18_code 113 = .ok (.imul, 1) := by decide +kernel
theorem d_Md_isRight_114 : decode prog_8_method_18_code 114 = .ok (.istore 9, 2) := by decide +kernel
theorem d_Md_isRight_116 : decode prog_8_method_18_code 116 = .ok (.iload 9, 2) := by decide +kernel
theorem d_Md_isRight_118 : decode prog_8_method_18_code 118 = .ok (.ifCond .ge 11, 3) := by decide +kernel
theorem d_Md_isRight_121 : decode prog_8_method_18_code 121 = .ok (.iload 6, 2) := by decide +kernel
theorem d_Md_isRight_123 : decode prog_8_method_18_code 123 = .ok (.iload 9, 2) := by decide +kernel
theorem d_Md_isRight_125 : decode prog_8_method_18_code 125 = .ok (.iadd, 1) := by decide +kernel
theorem d_Md_isRight_126 : decode prog_8_method_18_code 126 = .ok (.goto 5, 3) := by decide +kernel
theorem d_Md_isRight_129 : decode prog_8_method_18_code 129 = .ok (.iload 6, 2) := by decide +kernel
theorem d_Md_isRight_131 : decode prog_8_method_18_code 131 = .ok (.istore 6, 2) := by decide +kernel
theorem d_Md_isRight_133 : decode prog_8_method_18_code 133 = .ok (.iload 9, 2) := by decide +kernel
theorem d_Md_isRight_135 : decode prog_8_method_18_code 135 = .ok (.ifCond .le 11, 3) := by decide +kernel
theorem d_Md_isRight_138 : decode prog_8_method_18_code 138 = .ok (.iload 7, 2) := by decide +kernel
theorem d_Md_isRight_140 : decode prog_8_method_18_code 140 = .ok (.iload 9, 2) := by decide +kernel
theorem d_Md_isRight_142 : decode prog_8_method_18_code 142 = .ok (.iadd, 1) := by decide +kernel
theorem d_Md_isRight_143 : decode prog_8_method_18_code 143 = .ok (.goto 5, 3) := by decide +kernel
theorem d_Md_isRight_146 : decode prog_8_method_18_code 146 = .ok (.iload 7, 2) := by decide +kernel
theorem d_Md_isRight_148 : decode prog_8_method_18_code 148 = .ok (.istore 7, 2) := by decide +kernel
theorem d_Md_isRight_150 : decode prog_8_method_18_code 150 = .ok (.iinc 8 1, 3) := by decide +kernel
theorem d_Md_isRight_153 : decode prog_8_method_18_code 153 = .ok (.goto (-73), 3) := by decide +kernel
theorem d_Md_isRight_156 : decode prog_8_method_18_code 156 = .ok (.iload 6, 2) := by decide +kernel
theorem d_Md_isRight_158 : decode prog_8_method_18_code 158 = .ok (.iload 4, 2) := by decide +kernel
theorem d_Md_isRight_160 : decode prog_8_method_18_code 160 = .ok (.if_icmp .ge 14, 3) := by decide +kernel
theorem d_Md_isRight_163 : decode prog_8_method_18_code 163 = .ok (.iload 4, 2) := by decide +kernel
theorem d_Md_isRight_165 : decode prog_8_method_18_code 165 = .ok (.iload 7, 2) := by decide +kernel
theorem d_Md_isRight_167 : decode prog_8_method_18_code 167 = .ok (.if_icmp .ge 7, 3) := by decide +kernel
theorem d_Md_isRight_170 : decode prog_8_method_18_code 170 = .ok (.iconst 1, 1) := by decide +kernel
theorem d_Md_isRight_171 : decode prog_8_method_18_code 171 = .ok (.goto 4, 3) := by decide +kernel
theorem d_Md_isRight_174 : decode prog_8_method_18_code 174 = .ok (.iconst 0, 1) := by decide +kernel
theorem d_Md_isRight_175 : decode prog_8_method_18_code 175 = .ok (.istore 5, 2) := by decide +kernel
theorem d_Md_isRight_177 : decode prog_8_method_18_code 177 = .ok (.iconst 0, 1) := by decide +kernel
theorem d_Md_isRight_178 : decode prog_8_method_18_code 178 = .ok (.istore 8, 2) := by decide +kernel
theorem d_Md_isRight_180 : decode prog_8_method_18_code 180 = .ok (.iload 8, 2) := by decide +kernel
theorem d_Md_isRight_182 : decode prog_8_method_18_code 182 = .ok (.aload_n 0, 1) := by decide +kernel
theorem d_Md_isRight_183 : decode prog_8_method_18_code 183 = .ok (.getfield 83, 3) := by decide +kernel
theorem d_Md_isRight_186 : decode prog_8_method_18_code 186 = .ok (.if_icmp .ge 35, 3) := by decide +kernel
theorem d_Md_isRight_189 : decode prog_8_method_18_code 189 = .ok (.iload 5, 2) := by decide +kernel
theorem d_Md_isRight_191 : decode prog_8_method_18_code 191 = .ok (.ifCond .eq 21, 3) := by decide +kernel
theorem d_Md_isRight_194 : decode prog_8_method_18_code 194 = .ok (.aload_n 0, 1) := by decide +kernel
theorem d_Md_isRight_195 : decode prog_8_method_18_code 195 = .ok (.iload_n 1, 1) := by decide +kernel
theorem d_Md_isRight_196 : decode prog_8_method_18_code 196 = .ok (.iload_n 2, 1) := by decide +kernel
theorem d_Md_isRight_197 : decode prog_8_method_18_code 197 = .ok (.iload_n 3, 1) := by decide +kernel
theorem d_Md_isRight_198 : decode prog_8_method_18_code 198 = .ok (.iload 4, 2) := by decide +kernel
theorem d_Md_isRight_200 : decode prog_8_method_18_code 200 = .ok (.iload 8, 2) := by decide +kernel
theorem d_Md_isRight_202 : decode prog_8_method_18_code 202 = .ok (.invokevirtual 135, 3) := by decide +kernel
theorem d_Md_isRight_205 : decode prog_8_method_18_code 205 = .ok (.ifCond .ne 7, 3) := by decide +kernel
theorem d_Md_isRight_208 : decode prog_8_method_18_code 208 = .ok (.iconst 1, 1) := by decide +kernel
theorem d_Md_isRight_209 : decode prog_8_method_18_code 209 = .ok (.goto 4, 3) := by decide +kernel
theorem d_Md_isRight_212 : decode prog_8_method_18_code 212 = .ok (.iconst 0, 1) := by decide +kernel
theorem d_Md_isRight_213 : decode prog_8_method_18_code 213 = .ok (.istore 5, 2) := by decide +kernel
theorem d_Md_isRight_215 : decode prog_8_method_18_code 215 = .ok (.iinc 8 1, 3) := by decide +kernel
theorem d_Md_isRight_218 : decode prog_8_method_18_code 218 = .ok (.goto (-38), 3) := by decide +kernel
theorem d_Md_isRight_221 : decode prog_8_method_18_code 221 = .ok (.iload 5, 2) := by decide +kernel
theorem d_Md_isRight_223 : decode prog_8_method_18_code 223 = .ok (.ireturn, 1) := by decide +kernel
theorem d_Md_in_0 : decode prog_8_method_4_code 0 = .ok (.iload_n 0, 1) := by decide +kernel
theorem d_Md_in_1 : decode prog_8_method_4_code 1 = .ok (.iload_n 1, 1) := by decide +kernel
theorem d_Md_in_2 : decode prog_8_method_4_code 2 = .ok (.if_icmp .lt 12, 3) := by decide +kernel
theorem d_Md_in_5 : decode prog_8_method_4_code 5 = .ok (.iload_n 0, 1) := by decide +kernel
theorem d_Md_in_6 : decode prog_8_method_4_code 6 = .ok (.iload_n 2, 1) := by decide +kernel
theorem d_Md_in_7 : decode prog_8_method_4_code 7 = .ok (.if_icmp .gt 7, 3) := by decide +kernel
theorem d_Md_in_10 : decode prog_8_method_4_code 10 = .ok (.iconst 1, 1) := by decide +kernel
theorem d_Md_in_11 : decode prog_8_method_4_code 11 = .ok (.goto 4, 3) := by decide +kernel
theorem d_Md_in_14 : decode prog_8_method_4_code 14 = .ok (.iconst 0, 1) := by decide +kernel
theorem d_Md_in_15 : decode prog_8_method_4_code 15 = .ok (.ireturn, 1) := by decide +kernel
theorem d_Md_isSame_0 : decode prog_8_method_17_code 0 = .ok (.aload_n 0, 1) := by decide +kernel
theorem d_Md_isSame_1 : decode prog_8_method_17_code 1 = .ok (.getfield 13, 3) := by decide +kernel
theorem d_Md_isSame_4 : decode prog_8_method_17_code 4 = .ok (.iconst 4, 1) := by decide +kernel
theorem d_Md_isSame_5 : decode prog_8_method_17_code 5 = .ok (.iload 5, 2) := by decide +kernel
theorem d_Md_isSame_7 : decode prog_8_method_17_code 7 = .ok (.imul, 1) := by decide +kernel
theorem d_Md_isSame_8 : decode prog_8_method_17_code 8 = .ok (.iaload, 1) := by decide +kernel
theorem d_Md_isSame_9 : decode prog_8_method_17_code 9 = .ok (.istore 6, 2) := by decide +kernel
theorem d_Md_isSame_11 : decode prog_8_method_17_code 11 = .ok (.aload_n 0, 1) := by decide +kernel
theorem d_Md_isSame_12 : decode prog_8_method_17_code 12 = .ok (.getfield 13, 3) := by decide +kernel
theorem d_Md_isSame_15 : decode prog_8_method_17_code 15 = .ok (.iconst 4, 1) := by decide +kernel
theorem d_Md_isSame_16 : decode prog_8_method_17_code 16 = .ok (.iload 5, 2) := by decide +kernel
theorem d_Md_isSame_18 : decode prog_8_method_17_code 18 = .ok (.imul, 1) := by decide +kernel
theorem d_Md_isSame_19 : decode prog_8_method_17_code 19 = .ok (.iconst 1, 1) := by decide +kernel
theorem d_Md_isSame_20 : decode prog_8_method_17_code 20 = .ok (.iadd, 1) := by decide +kernel
theorem d_Md_isSame_21 : decode prog_8_method_17_code 21 = .ok (.iaload, 1) := by decide +kernel
theorem d_Md_isSame_22 : decode prog_8_method_17_code 22 = .ok (.istore 7, 2) := by decide +kernel
theorem d_Md_isSame_24 : decode prog_8_method_17_code 24 = .ok (.aload_n 0, 1) := by decide +kernel
theorem d_Md_isSame_25 : decode prog_8_method_17_code 25 = .ok (.getfield 13, 3) := by decide +kernel
theorem d_Md_isSame_28 : decode prog_8_method_17_code 28 = .ok (.iconst 4, 1) := by decide +kernel
theorem d_Md_isSame_29 : decode prog_8_method_17_code 29 = .ok (.iload 5, 2) := by decide +kernel
theorem d_Md_isSame_31 : decode prog_8_method_17_code 31 = .ok (.imul, 1) := by decide +kernel
theorem d_Md_isSame_32 : decode prog_8_method_17_code 32 = .ok (.iconst 2, 1) := by decide +kernel
theorem d_Md_isSame_33 : decode prog_8_method_17_code 33 = .ok (.iadd, 1) := by decide +kernel
theorem d_Md_isSame_34 : decode prog_8_method_17_code 34 = .ok (.iaload, 1) := by decide +kernel
theorem d_Md_isSame_35 : decode prog_8_method_17_code 35 = .ok (.istore 8, 2) := by decide +kernel
theorem d_Md_isSame_37 : decode prog_8_method_17_code 37 = .ok (.aload_n 0, 1) := by decide +kernel
theorem d_Md_isSame_38 : decode prog_8_method_17_code 38 = .ok (.getfield 13, 3) := by decide +kernel
theorem d_Md_isSame_41 : decode prog_8_method_17_code 41 = .ok (.iconst 4, 1) := by decide +kernel
theorem d_Md_isSame_42 : decode prog_8_method_17_code 42 = .ok (.iload 5, 2) := by decide +kernel
theorem d_Md_isSame_44 : decode prog_8_method_17_code 44 = .ok (.imul, 1) := by decide +kernel
theorem d_Md_isSame_45 : decode prog_8_method_17_code 45 = .ok (.iconst 3, 1) := by decide +kernel
theorem d_Md_isSame_46 : decode prog_8_method_17_code 46 = .ok (.iadd, 1) := by decide +kernel
theorem d_Md_isSame_47 : decode prog_8_method_17_code 47 = .ok (.iaload, 1) := by decide +kernel
theorem d_Md_isSame_48 : decode prog_8_method_17_code 48 = .ok (.istore 9, 2) := by decide +kernel
theorem d_Md_isSame_50 : decode prog_8_method_17_code 50 = .ok (.iload_n 1, 1) := by decide +kernel
theorem d_Md_isSame_51 : decode prog_8_method_17_code 51 = .ok (.iload 7, 2) := by decide +kernel
theorem d_Md_isSame_53 : decode prog_8_method_17_code 53 = .ok (.imul, 1) := by decide +kernel
theorem d_Md_isSame_54 : decode prog_8_method_17_code 54 = .ok (.iload_n 2, 1) := by decide +kernel
theorem d_Md_isSame_55 : decode prog_8_method_17_code 55 = .ok (.iload 6, 2) := by decide +kernel
theorem d_Md_isSame_57 : decode prog_8_method_17_code 57 = .ok (.imul, 1) := by decide +kernel
theorem d_Md_isSame_58 : decode prog_8_method_17_code 58 = .ok (.if_icmp .ne 65, 3) := by decide +kernel
theorem d_Md_isSame_61 : decode prog_8_method_17_code 61 = .ok (.iload_n 1, 1) := by decide +kernel
theorem d_Md_isSame_62 : decode prog_8_method_17_code 62 = .ok (.iload 8, 2) := by decide +kernel
theorem d_Md_isSame_64 : decode prog_8_method_17_code 64 = .ok (.imul, 1) := by decide +kernel
theorem d_Md_isSame_65 : decode prog_8_method_17_code 65 = .ok (.iload_n 3, 1) := by decide +kernel
theorem d_Md_isSame_66 : decode prog_8_method_17_code 66 = .ok (.iload 6, 2) := by decide +kernel
theorem d_Md_isSame_68 : decode prog_8_method_17_code 68 = .ok (.imul, 1) := by decide +kernel
theorem d_Md_isSame_69 : decode prog_8_method_17_code 69 = .ok (.if_icmp .ne 54, 3) := by decide +kernel
theorem d_Md_isSame_72 : decode prog_8_method_17_code 72 = .ok (.iload_n 2, 1) := by decide +kernel
theorem d_Md_isSame_73 : decode prog_8_method_17_code 73 = .ok (.iload 8, 2) := by decide +kernel
theorem d_Md_isSame_75 : decode prog_8_method_17_code 75 = .ok (.imul, 1) := by decide +kernel
theorem d_Md_isSame_76 : decode prog_8_method_17_code 76 = .ok (.iload_n 3, 1) := by decide +kernel
theorem d_Md_isSame_77 : decode prog_8_method_17_code 77 = .ok (.iload 7, 2) := by decide +kernel
theorem d_Md_isSame_79 : decode prog_8_method_17_code 79 = .ok (.imul, 1) := by decide +kernel
theorem d_Md_isSame_80 : decode prog_8_method_17_code 80 = .ok (.if_icmp .ne 43, 3) := by decide +kernel
theorem d_Md_isSame_83 : decode prog_8_method_17_code 83 = .ok (.iload_n 1, 1) := by decide +kernel
theorem d_Md_isSame_84 : decode prog_8_method_17_code 84 = .ok (.iload 9, 2) := by decide +kernel
theorem d_Md_isSame_86 : decode prog_8_method_17_code 86 = .ok (.imul, 1) := by decide +kernel
theorem d_Md_isSame_87 : decode prog_8_method_17_code 87 = .ok (.iload 4, 2) := by decide +kernel
theorem d_Md_isSame_89 : decode prog_8_method_17_code 89 = .ok (.iload 6, 2) := by decide +kernel
theorem d_Md_isSame_91 : decode prog_8_method_17_code 91 = .ok (.imul, 1) := by decide +kernel
theorem d_Md_isSame_92 : decode prog_8_method_17_code 92 = .ok (.if_icmp .ne 31, 3) := by decide +kernel
theorem d_Md_isSame_95 : decode prog_8_method_17_code 95 = .ok (.iload_n 2, 1) := by decide +kernel
theorem d_Md_isSame_96 : decode prog_8_method_17_code 96 = .ok (.iload 9, 2) := by decide +kernel
theorem d_Md_isSame_98 : decode prog_8_method_17_code 98 = .ok (.imul, 1) := by decide +kernel
theorem d_Md_isSame_99 : decode prog_8_method_17_code 99 = .ok (.iload 4, 2) := by decide +kernel
theorem d_Md_isSame_101 : decode prog_8_method_17_code 101 = .ok (.iload 7, 2) := by decide +kernel
theorem d_Md_isSame_103 : decode prog_8_method_17_code 103 = .ok (.imul, 1) := by decide +kernel
theorem d_Md_isSame_104 : decode prog_8_method_17_code 104 = .ok (.if_icmp .ne 19, 3) := by decide +kernel
theorem d_Md_isSame_107 : decode prog_8_method_17_code 107 = .ok (.iload_n 3, 1) := by decide +kernel
theorem d_Md_isSame_108 : decode prog_8_method_17_code 108 = .ok (.iload 9, 2) := by decide +kernel
theorem d_Md_isSame_110 : decode prog_8_method_17_code 110 = .ok (.imul, 1) := by decide +kernel
theorem d_Md_isSame_111 : decode prog_8_method_17_code 111 = .ok (.iload 4, 2) := by decide +kernel
theorem d_Md_isSame_113 : decode prog_8_method_17_code 113 = .ok (.iload 8, 2) := by decide +kernel
theorem d_Md_isSame_115 : decode prog_8_method_17_code 115 = .ok (.imul, 1) := by decide +kernel
theorem d_Md_isSame_116 : decode prog_8_method_17_code 116 = .ok (.if_icmp .ne 7, 3) := by decide +kernel
theorem d_Md_isSame_119 : decode prog_8_method_17_code 119 = .ok (.iconst 1, 1) := by decide +kernel
theorem d_Md_isSame_120 : decode prog_8_method_17_code 120 = .ok (.goto 4, 3) := by decide +kernel
theorem d_Md_isSame_123 : decode prog_8_method_17_code 123 = .ok (.iconst 0, 1) := by decide +kernel
theorem d_Md_isSame_124 : decode prog_8_method_17_code 124 = .ok (.ireturn, 1) := by decide +kernel
theorem d_Md_unjoint_0 : decode prog_8_method_20_code 0 = .ok (.aload_n 0, 1) := by decide +kernel
theorem d_Md_unjoint_1 : decode prog_8_method_20_code 1 = .ok (.iconst 0, 1) := by decide +kernel
theorem d_Md_unjoint_2 : decode prog_8_method_20_code 2 = .ok (.putfield 75, 3) := by decide +kernel
theorem d_Md_unjoint_5 : decode prog_8_method_20_code 5 = .ok (.aload_n 0, 1) := by decide +kernel
theorem d_Md_unjoint_6 : decode prog_8_method_20_code 6 = .ok (.getfield 83, 3) := by decide +kernel
theorem d_Md_unjoint_9 : decode prog_8_method_20_code 9 = .ok (.ifCond .ne 5, 3) := by decide +kernel
theorem d_Md_unjoint_12 : decode prog_8_method_20_code 12 = .ok (.iconst (-1), 1) := by decide +kernel
theorem d_Md_unjoint_13 : decode prog_8_method_20_code 13 = .ok (.ireturn, 1) := by decide +kernel
theorem d_Md_unjoint_14 : decode prog_8_method_20_code 14 = .ok (.aload_n 0, 1) := by decide +kernel
theorem d_Md_unjoint_15 : decode prog_8_method_20_code 15 = .ok (.dup, 1) := by decide +kernel
theorem d_Md_unjoint_16 : decode prog_8_method_20_code 16 = .ok (.getfield 83, 3) := by decide +kernel
theorem d_Md_unjoint_19 : decode prog_8_method_20_code 19 = .ok (.iconst 1, 1) := by decide +kernel
theorem d_Md_unjoint_20 : decode prog_8_method_20_code 20 = .ok (.isub, 1) := by decide +kernel
theorem d_Md_unjoint_21 : decode prog_8_method_20_code 21 = .ok (.putfield 83, 3) := by decide +kernel
theorem d_Md_unjoint_24 : decode prog_8_method_20_code 24 = .ok (.aload_n 0, 1) := by decide +kernel
theorem d_Md_unjoint_25 : decode prog_8_method_20_code 25 = .ok (.invokevirtual 72, 3) := by decide +kernel
theorem d_Md_unjoint_28 : decode prog_8_method_20_code 28 = .ok (.aload_n 0, 1) := by decide +kernel
theorem d_Md_unjoint_29 : decode prog_8_method_20_code 29 = .ok (.getfield 83, 3) := by decide +kernel
theorem d_Md_unjoint_32 : decode prog_8_method_20_code 32 = .ok (.ireturn, 1) := by decide +kernel
theorem d_Md_open_0 : decode prog_8_method_21_code 0 = .ok (.aload_n 0, 1) := by decide +kernel
theorem d_Md_open_1 : decode prog_8_method_21_code 1 = .ok (.iload_n 1, 1) := by decide +kernel
theorem d_Md_open_2 : decode prog_8_method_21_code 2 = .ok (.bipush 6, 2) := by decide +kernel
theorem d_Md_open_4 : decode prog_8_method_21_code 4 = .ok (.bipush 11, 2) := by decide +kernel
theorem d_Md_open_6 : decode prog_8_method_21_code 6 = .ok (.invokestatic 131, 3) := by decide +kernel
theorem d_Md_open_9 : decode prog_8_method_21_code 9 = .ok (.ifCond .eq 7, 3) := by decide +kernel
theorem d_Md_open_12 : decode prog_8_method_21_code 12 = .ok (.iconst 0, 1) := by decide +kernel
theorem d_Md_open_13 : decode prog_8_method_21_code 13 = .ok (.goto 4, 3) := by decide +kernel
theorem d_Md_open_16 : decode prog_8_method_21_code 16 = .ok (.iconst 1, 1) := by decide +kernel
theorem d_Md_open_17 : decode prog_8_method_21_code 17 = .ok (.putfield 75, 3) := by decide +kernel
theorem d_Md_open_20 : decode prog_8_method_21_code 20 = .ok (.aload_n 0, 1) := by decide +kernel
theorem d_Md_open_21 : decode prog_8_method_21_code 21 = .ok (.getfield 75, 3) := by decide +kernel
theorem d_Md_open_24 : decode prog_8_method_21_code 24 = .ok (.ifCond .le 5, 3) := by decide +kernel
theorem d_Md_open_27 : decode prog_8_method_21_code 27 = .ok (.iconst 0, 1) := by decide +kernel
theorem d_Md_open_28 : decode prog_8_method_21_code 28 = .ok (.ireturn, 1) := by decide +kernel
theorem d_Md_open_29 : decode prog_8_method_21_code 29 = .ok (.aload_n 0, 1) := by decide +kernel
theorem d_Md_open_30 : decode prog_8_method_21_code 30 = .ok (.getfield 16, 3) := by decide +kernel
theorem d_Md_open_33 : decode prog_8_method_21_code 33 = .ok (.iload_n 1, 1) := by decide +kernel
theorem d_Md_open_34 : decode prog_8_method_21_code 34 = .ok (.baload, 1) := by decide +kernel
theorem d_Md_open_35 : decode prog_8_method_21_code 35 = .ok (.istore_n 3, 1) := by decide +kernel
theorem d_Md_open_36 : decode prog_8_method_21_code 36 = .ok (.aload_n 0, 1) := by decide +kernel
theorem d_Md_open_37 : decode prog_8_method_21_code 37 = .ok (.getfield 16, 3) := by decide +kernel
theorem d_Md_open_40 : decode prog_8_method_21_code 40 = .ok (.iload_n 1, 1) := by decide +kernel
theorem d_Md_open_41 : decode prog_8_method_21_code 41 = .ok (.iload_n 2, 1) := by decide +kernel
theorem d_Md_open_42 : decode prog_8_method_21_code 42 = .ok (.bastore, 1) := by decide +kernel
theorem d_Md_open_43 : decode prog_8_method_21_code 43 = .ok (.iload_n 3, 1) := by decide +kernel
theorem d_Md_open_44 : decode prog_8_method_21_code 44 = .ok (.iload_n 2, 1) := by decide +kernel
theorem d_Md_open_45 : decode prog_8_method_21_code 45 = .ok (.if_icmp .eq 7, 3) := by decide +kernel
theorem d_Md_open_48 : decode prog_8_method_21_code 48 = .ok (.iconst 1, 1) := by decide +kernel
theorem d_Md_open_49 : decode prog_8_method_21_code 49 = .ok (.goto 4, 3) := by decide +kernel
theorem d_Md_open_52 : decode prog_8_method_21_code 52 = .ok (.iconst 0, 1) := by decide +kernel
theorem d_Md_open_53 : decode prog_8_method_21_code 53 = .ok (.ireturn, 1) := by decide +kernel
theorem d_Md_direction_0 : decode prog_8_method_23_code 0 = .ok (.aload_n 0, 1) := by decide +kernel
theorem d_Md_direction_1 : decode prog_8_method_23_code 1 = .ok (.iload_n 1, 1) := by decide +kernel
theorem d_Md_direction_2 : decode prog_8_method_23_code 2 = .ok (.iload_n 2, 1) := by decide +kernel
theorem d_Md_direction_3 : decode prog_8_method_23_code 3 = .ok (.iload_n 3, 1) := by decide +kernel
theorem d_Md_direction_4 : decode prog_8_method_23_code 4 = .ok (.invokestatic 143, 3) := by decide +kernel
theorem d_Md_direction_7 : decode prog_8_method_23_code 7 = .ok (.ifCond .eq 15, 3) := by decide +kernel
theorem d_Md_direction_10 : decode prog_8_method_23_code 10 = .ok (.iload_n 1, 1) := by decide +kernel
theorem d_Md_direction_11 : decode prog_8_method_23_code 11 = .ok (.ifCond .ne 15, 3) := by decide +kernel
theorem d_Md_direction_14 : decode prog_8_method_23_code 14 = .ok (.iload_n 2, 1) := by decide +kernel
theorem d_Md_direction_15 : decode prog_8_method_23_code 15 = .ok (.ifCond .ne 11, 3) := by decide +kernel
theorem d_Md_direction_18 : decode prog_8_method_23_code 18 = .ok (.iload_n 3, 1) := by decide +kernel
theorem d_Md_direction_19 : decode prog_8_method_23_code 19 = .ok (.ifCond .ne 7, 3) := by decide +kernel
theorem d_Md_direction_22 : decode prog_8_method_23_code 22 = .ok (.iconst 1, 1) := by decide +kernel
theorem d_Md_direction_23 : decode prog_8_method_23_code 23 = .ok (.goto 17, 3) := by decide +kernel
theorem d_Md_direction_26 : decode prog_8_method_23_code 26 = .ok (.aload_n 0, 1) := by decide +kernel
theorem d_Md_direction_27 : decode prog_8_method_23_code 27 = .ok (.getfield 146, 3) := by decide +kernel
theorem d_Md_direction_30 : decode prog_8_method_23_code 30 = .ok (.bipush 8, 2) := by decide +kernel
theorem d_Md_direction_32 : decode prog_8_method_23_code 32 = .ok (.if_icmp .ne 7, 3) := by decide +kernel
theorem d_Md_direction_35 : decode prog_8_method_23_code 35 = .ok (.iconst 2, 1) := by decide +kernel
theorem d_Md_direction_36 : decode prog_8_method_23_code 36 = .ok (.goto 4, 3) := by decide +kernel
theorem d_Md_direction_39 : decode prog_8_method_23_code 39 = .ok (.iconst 0, 1) := by decide +kernel
theorem d_Md_direction_40 : decode prog_8_method_23_code 40 = .ok (.putfield 75, 3) := by decide +kernel
theorem d_Md_direction_43 : decode prog_8_method_23_code 43 = .ok (.aload_n 0, 1) := by decide +kernel
theorem d_Md_direction_44 : decode prog_8_method_23_code 44 = .ok (.getfield 75, 3) := by decide +kernel
theorem d_Md_direction_47 : decode prog_8_method_23_code 47 = .ok (.ifCond .le 5, 3) := by decide +kernel
theorem d_Md_direction_50 : decode prog_8_method_23_code 50 = .ok (.iconst 0, 1) := by decide +kernel
theorem d_Md_direction_51 : decode prog_8_method_23_code 51 = .ok (.ireturn, 1) := by decide +kernel
theorem d_Md_direction_52 : decode prog_8_method_23_code 52 = .ok (.aload_n 0, 1) := by decide +kernel
theorem d_Md_direction_53 : decode prog_8_method_23_code 53 = .ok (.getfield 20, 3) := by decide +kernel
theorem d_Md_direction_56 : decode prog_8_method_23_code 56 = .ok (.iconst 3, 1) := by decide +kernel
theorem d_Md_direction_57 : decode prog_8_method_23_code 57 = .ok (.aload_n 0, 1) := by decide +kernel
theorem d_Md_direction_58 : decode prog_8_method_23_code 58 = .ok (.getfield 146, 3) := by decide +kernel
theorem d_Md_direction_61 : decode prog_8_method_23_code 61 = .ok (.imul, 1) := by decide +kernel
theorem d_Md_direction_62 : decode prog_8_method_23_code 62 = .ok (.iload_n 1, 1) := by decide +kernel
theorem d_Md_direction_63 : decode prog_8_method_23_code 63 = .ok (.iastore, 1) := by decide +kernel
theorem d_Md_direction_64 : decode prog_8_method_23_code 64 = .ok (.aload_n 0, 1) := by decide +kernel
theorem d_Md_direction_65 : decode prog_8_method_23_code 65 = .ok (.getfield 20, 3) := by decide +kernel
theorem d_Md_direction_68 : decode prog_8_method_23_code 68 = .ok (.iconst 3, 1) := by decide +kernel
theorem d_Md_direction_69 : decode prog_8_method_23_code 69 = .ok (.aload_n 0, 1) := by decide +kernel
theorem d_Md_direction_70 : decode prog_8_method_23_code 70 = .ok (.getfield 146, 3) := by decide +kernel
theorem d_Md_direction_73 : decode prog_8_method_23_code 73 = .ok (.imul, 1) := by decide +kernel
theorem d_Md_direction_74 : decode prog_8_method_23_code 74 = .ok (.iconst 1, 1) := by decide +kernel
theorem d_Md_direction_75 : decode prog_8_method_23_code 75 = .ok (.iadd, 1) := by decide +kernel
theorem d_Md_direction_76 : decode prog_8_method_23_code 76 = .ok (.iload_n 2, 1) := by decide +kernel
theorem d_Md_direction_77 : decode prog_8_method_23_code 77 = .ok (.iastore, 1) := by decide +kernel
theorem d_Md_direction_78 : decode prog_8_method_23_code 78 = .ok (.aload_n 0, 1) := by decide +kernel
theorem d_Md_direction_79 : decode prog_8_method_23_code 79 = .ok (.getfield 20, 3) := by decide +kernel
theorem d_Md_direction_82 : decode prog_8_method_23_code 82 = .ok (.iconst 3, 1) := by decide +kernel
theorem d_Md_direction_83 : decode prog_8_method_23_code 83 = .ok (.aload_n 0, 1) := by decide +kernel
theorem d_Md_direction_84 : decode prog_8_method_23_code 84 = .ok (.getfield 146, 3) := by decide +kernel
theorem d_Md_direction_87 : decode prog_8_method_23_code 87 = .ok (.imul, 1) := by decide +kernel
theorem d_Md_direction_88 : decode prog_8_method_23_code 88 = .ok (.iconst 2, 1) := by decide +kernel
theorem d_Md_direction_89 : decode prog_8_method_23_code 89 = .ok (.iadd, 1) := by decide +kernel
theorem d_Md_direction_90 : decode prog_8_method_23_code 90 = .ok (.iload_n 3, 1) := by decide +kernel
theorem d_Md_direction_91 : decode prog_8_method_23_code 91 = .ok (.iastore, 1) := by decide +kernel
theorem d_Md_direction_92 : decode prog_8_method_23_code 92 = .ok (.aload_n 0, 1) := by decide +kernel
theorem d_Md_direction_93 : decode prog_8_method_23_code 93 = .ok (.dup, 1) := by decide +kernel
theorem d_Md_direction_94 : decode prog_8_method_23_code 94 = .ok (.getfield 146, 3) := by decide +kernel
theorem d_Md_direction_97 : decode prog_8_method_23_code 97 = .ok (.iconst 1, 1) := by decide +kernel
theorem d_Md_direction_98 : decode prog_8_method_23_code 98 = .ok (.iadd, 1) := by decide +kernel
theorem d_Md_direction_99 : decode prog_8_method_23_code 99 = .ok (.putfield 146, 3) := by decide +kernel
theorem d_Md_direction_102 : decode prog_8_method_23_code 102 = .ok (.aload_n 0, 1) := by decide +kernel
theorem d_Md_direction_103 : decode prog_8_method_23_code 103 = .ok (.getfield 146, 3) := by decide +kernel
theorem d_Md_direction_106 : decode prog_8_method_23_code 106 = .ok (.iconst 1, 1) := by decide +kernel
theorem d_Md_direction_107 : decode prog_8_method_23_code 107 = .ok (.isub, 1) := by decide +kernel
theorem d_Md_direction_108 : decode prog_8_method_23_code 108 = .ok (.ireturn, 1) := by decide +kernel
theorem d_Md_isVector_0 : decode prog_8_method_22_code 0 = .ok (.iload_n 0, 1) := by decide +kernel
theorem d_Md_isVector_1 : decode prog_8_method_22_code 1 = .ok (.bipush (-9), 2) := by decide +kernel
theorem d_Md_isVector_3 : decode prog_8_method_22_code 3 = .ok (.bipush 9, 2) := by decide +kernel
theorem d_Md_isVector_5 : decode prog_8_method_22_code 5 = .ok (.invokestatic 131, 3) := by decide +kernel
theorem d_Md_isVector_8 : decode prog_8_method_22_code 8 = .ok (.ifCond .eq 29, 3) := by decide +kernel
theorem d_Md_isVector_11 : decode prog_8_method_22_code 11 = .ok (.iload_n 1, 1) := by decide +kernel
theorem d_Md_isVector_12 : decode prog_8_method_22_code 12 = .ok (.bipush (-9), 2) := by decide +kernel
theorem d_Md_isVector_14 : decode prog_8_method_22_code 14 = .ok (.bipush 9, 2) := by decide +kernel
theorem d_Md_isVector_16 : decode prog_8_method_22_code 16 = .ok (.invokestatic 131, 3) := by decide +kernel
theorem d_Md_isVector_19 : decode prog_8_method_22_code 19 = .ok (.ifCond .eq 18, 3) := by decide +kernel
theorem d_Md_isVector_22 : decode prog_8_method_22_code 22 = .ok (.iload_n 2, 1) := by decide +kernel
theorem d_Md_isVector_23 : decode prog_8_method_22_code 23 = .ok (.bipush (-9), 2) := by decide +kernel
theorem d_Md_isVector_25 : decode prog_8_method_22_code 25 = .ok (.bipush 9, 2) := by decide +kernel
theorem d_Md_isVector_27 : decode prog_8_method_22_code 27 = .ok (.invokestatic 131, 3) := by decide +kernel
theorem d_Md_isVector_30 : decode prog_8_method_22_code 30 = .ok (.ifCond .eq 7, 3) := by decide +kernel
theorem d_Md_isVector_33 : decode prog_8_method_22_code 33 = .ok (.iconst 1, 1) := by decide +kernel
theorem d_Md_isVector_34 : decode prog_8_method_22_code 34 = .ok (.goto 4, 3) := by decide +kernel
theorem d_Md_isVector_37 : decode prog_8_method_22_code 37 = .ok (.iconst 0, 1) := by decide +kernel
theorem d_Md_isVector_38 : decode prog_8_method_22_code 38 = .ok (.ireturn, 1) := by decide +kernel
theorem d_Md_pull_0 : decode prog_8_method_24_code 0 = .ok (.aload_n 0, 1) := by decide +kernel
theorem d_Md_pull_1 : decode prog_8_method_24_code 1 = .ok (.iload_n 1, 1) := by decide +kernel
theorem d_Md_pull_2 : decode prog_8_method_24_code 2 = .ok (.iload_n 2, 1) := by decide +kernel
theorem d_Md_pull_3 : decode prog_8_method_24_code 3 = .ok (.iload_n 3, 1) := by decide +kernel
theorem d_Md_pull_4 : decode prog_8_method_24_code 4 = .ok (.invokestatic 143, 3) := by decide +kernel
theorem d_Md_pull_7 : decode prog_8_method_24_code 7 = .ok (.ifCond .eq 7, 3) := by decide +kernel
theorem d_Md_pull_10 : decode prog_8_method_24_code 10 = .ok (.iconst 0, 1) := by decide +kernel
theorem d_Md_pull_11 : decode prog_8_method_24_code 11 = .ok (.goto 4, 3) := by decide +kernel
theorem d_Md_pull_14 : decode prog_8_method_24_code 14 = .ok (.iconst 1, 1) := by decide +kernel
theorem d_Md_pull_15 : decode prog_8_method_24_code 15 = .ok (.putfield 75, 3) := by decide +kernel
theorem d_Md_pull_18 : decode prog_8_method_24_code 18 = .ok (.aload_n 0, 1) := by decide +kernel
theorem d_Md_pull_19 : decode prog_8_method_24_code 19 = .ok (.getfield 75, 3) := by decide +kernel
theorem d_Md_pull_22 : decode prog_8_method_24_code 22 = .ok (.ifCond .le 4, 3) := by decide +kernel
theorem d_Md_pull_25 : decode prog_8_method_24_code 25 = .ok (.return_, 1) := by decide +kernel
theorem d_Md_pull_26 : decode prog_8_method_24_code 26 = .ok (.aload_n 0, 1) := by decide +kernel
theorem d_Md_pull_27 : decode prog_8_method_24_code 27 = .ok (.getfield 23, 3) := by decide +kernel
theorem d_Md_pull_30 : decode prog_8_method_24_code 30 = .ok (.iconst 0, 1) := by decide +kernel
theorem d_Md_pull_31 : decode prog_8_method_24_code 31 = .ok (.iload_n 1, 1) := by decide +kernel
theorem d_Md_pull_32 : decode prog_8_method_24_code 32 = .ok (.iastore, 1) := by decide +kernel
theorem d_Md_pull_33 : decode prog_8_method_24_code 33 = .ok (.aload_n 0, 1) := by decide +kernel
theorem d_Md_pull_34 : decode prog_8_method_24_code 34 = .ok (.getfield 23, 3) := by decide +kernel
theorem d_Md_pull_37 : decode prog_8_method_24_code 37 = .ok (.iconst 1, 1) := by decide +kernel
theorem d_Md_pull_38 : decode prog_8_method_24_code 38 = .ok (.iload_n 2, 1) := by decide +kernel
theorem d_Md_pull_39 : decode prog_8_method_24_code 39 = .ok (.iastore, 1) := by decide +kernel
theorem d_Md_pull_40 : decode prog_8_method_24_code 40 = .ok (.aload_n 0, 1) := by decide +kernel
theorem d_Md_pull_41 : decode prog_8_method_24_code 41 = .ok (.getfield 23, 3) := by decide +kernel
theorem d_Md_pull_44 : decode prog_8_method_24_code 44 = .ok (.iconst 2, 1) := by decide +kernel
theorem d_Md_pull_45 : decode prog_8_method_24_code 45 = .ok (.iload_n 3, 1) := by decide +kernel
theorem d_Md_pull_46 : decode prog_8_method_24_code 46 = .ok (.iastore, 1) := by decide +kernel
theorem d_Md_pull_47 : decode prog_8_method_24_code 47 = .ok (.return_, 1) := by decide +kernel
theorem d_Md_blocks_0 : decode prog_8_method_25_code 0 = .ok (.aload_n 0, 1) := by decide +kernel
theorem d_Md_blocks_1 : decode prog_8_method_25_code 1 = .ok (.iconst 0, 1) := by decide +kernel
theorem d_Md_blocks_2 : decode prog_8_method_25_code 2 = .ok (.putfield 75, 3) := by decide +kernel
theorem d_Md_blocks_5 : decode prog_8_method_25_code 5 = .ok (.aload_n 0, 1) := by decide +kernel
theorem d_Md_blocks_6 : decode prog_8_method_25_code 6 = .ok (.getfield 111, 3) := by decide +kernel
theorem d_Md_blocks_9 : decode prog_8_method_25_code 9 = .ok (.ireturn, 1) := by decide +kernel
theorem d_Md_block_0 : decode prog_8_method_30_code 0 = .ok (.aload_n 0, 1) := by decide +kernel
theorem d_Md_block_1 : decode prog_8_method_30_code 1 = .ok (.aload_n 0, 1) := by decide +kernel
theorem d_Md_block_2 : decode prog_8_method_30_code 2 = .ok (.iload_n 1, 1) := by decide +kernel
theorem d_Md_block_3 : decode prog_8_method_30_code 3 = .ok (.invokevirtual 152, 3) := by decide +kernel
theorem d_Md_block_6 : decode prog_8_method_30_code 6 = .ok (.ifCond .eq 16, 3) := by decide +kernel
theorem d_Md_block_9 : decode prog_8_method_30_code 9 = .ok (.iload_n 2, 1) := by decide +kernel
theorem d_Md_block_10 : decode prog_8_method_30_code 10 = .ok (.iconst 0, 1) := by decide +kernel
theorem d_Md_block_11 : decode prog_8_method_30_code 11 = .ok (.iconst 4, 1) := by decide +kernel
theorem d_Md_block_12 : decode prog_8_method_30_code 12 = .ok (.invokestatic 131, 3) := by decide +kernel
theorem d_Md_block_15 : decode prog_8_method_30_code 15 = .ok (.ifCond .eq 7, 3) := by decide +kernel
theorem d_Md_block_18 : decode prog_8_method_30_code 18 = .ok (.iconst 0, 1) := by decide +kernel
theorem d_Md_block_19 : decode prog_8_method_30_code 19 = .ok (.goto 4, 3) := by decide +kernel
theorem d_Md_block_22 : decode prog_8_method_30_code 22 = .ok (.iconst 1, 1) := by decide +kernel
theorem d_Md_block_23 : decode prog_8_method_30_code 23 = .ok (.putfield 75, 3) := by decide +kernel
theorem d_Md_block_26 : decode prog_8_method_30_code 26 = .ok (.aload_n 0, 1) := by decide +kernel
theorem d_Md_block_27 : decode prog_8_method_30_code 27 = .ok (.getfield 75, 3) := by decide +kernel
theorem d_Md_block_30 : decode prog_8_method_30_code 30 = .ok (.ifCond .le 5, 3) := by decide +kernel
theorem d_Md_block_33 : decode prog_8_method_30_code 33 = .ok (.iconst 0, 1) := by decide +kernel
theorem d_Md_block_34 : decode prog_8_method_30_code 34 = .ok (.ireturn, 1) := by decide +kernel
theorem d_Md_block_35 : decode prog_8_method_30_code 35 = .ok (.iload_n 2, 1) := by decide +kernel
theorem d_Md_block_36 : decode prog_8_method_30_code 36 = .ok (.ifCond .ne 10, 3) := by decide +kernel
theorem d_Md_block_39 : decode prog_8_method_30_code 39 = .ok (.aload_n 0, 1) := by decide +kernel
theorem d_Md_block_40 : decode prog_8_method_30_code 40 = .ok (.getfield 41, 3) := by decide +kernel
theorem d_Md_block_43 : decode prog_8_method_30_code 43 = .ok (.iload_n 1, 1) := by decide +kernel
theorem d_Md_block_44 : decode prog_8_method_30_code 44 = .ok (.iaload, 1) := by decide +kernel
theorem d_Md_block_45 : decode prog_8_method_30_code 45 = .ok (.ireturn, 1) := by decide +kernel
theorem d_Md_block_46 : decode prog_8_method_30_code 46 = .ok (.iload_n 2, 1) := by decide +kernel
theorem d_Md_block_47 : decode prog_8_method_30_code 47 = .ok (.iconst 1, 1) := by decide +kernel
theorem d_Md_block_48 : decode prog_8_method_30_code 48 = .ok (.if_icmp .ne 10, 3) := by decide +kernel
theorem d_Md_block_51 : decode prog_8_method_30_code 51 = .ok (.aload_n 0, 1) := by decide +kernel
theorem d_Md_block_52 : decode prog_8_method_30_code 52 = .ok (.getfield 44, 3) := by decide +kernel
theorem d_Md_block_55 : decode prog_8_method_30_code 55 = .ok (.iload_n 1, 1) := by decide +kernel
theorem d_Md_block_56 : decode prog_8_method_30_code 56 = .ok (.iaload, 1) := by decide +kernel
theorem d_Md_block_57 : decode prog_8_method_30_code 57 = .ok (.ireturn, 1) := by decide +kernel
theorem d_Md_block_58 : decode prog_8_method_30_code 58 = .ok (.iload_n 2, 1) := by decide +kernel
theorem d_Md_block_59 : decode prog_8_method_30_code 59 = .ok (.iconst 2, 1) := by decide +kernel
theorem d_Md_block_60 : decode prog_8_method_30_code 60 = .ok (.if_icmp .ne 9, 3) := by decide +kernel
theorem d_Md_block_63 : decode prog_8_method_30_code 63 = .ok (.aload_n 0, 1) := by decide +kernel
theorem d_Md_block_64 : decode prog_8_method_30_code 64 = .ok (.iload_n 1, 1) := by decide +kernel
theorem d_Md_block_65 : decode prog_8_method_30_code 65 = .ok (.invokevirtual 155, 3) := by decide +kernel
theorem d_Md_block_68 : decode prog_8_method_30_code 68 = .ok (.ireturn, 1) := by decide +kernel
theorem d_Md_block_69 : decode prog_8_method_30_code 69 = .ok (.iload_n 2, 1) := by decide +kernel
theorem d_Md_block_70 : decode prog_8_method_30_code 70 = .ok (.iconst 3, 1) := by decide +kernel
theorem d_Md_block_71 : decode prog_8_method_30_code 71 = .ok (.if_icmp .ne 9, 3) := by decide +kernel
theorem d_Md_block_74 : decode prog_8_method_30_code 74 = .ok (.aload_n 0, 1) := by decide +kernel
theorem d_Md_block_75 : decode prog_8_method_30_code 75 = .ok (.iload_n 1, 1) := by decide +kernel
theorem d_Md_block_76 : decode prog_8_method_30_code 76 = .ok (.invokevirtual 158, 3) := by decide +kernel
theorem d_Md_block_79 : decode prog_8_method_30_code 79 = .ok (.ireturn, 1) := by decide +kernel
theorem d_Md_block_80 : decode prog_8_method_30_code 80 = .ok (.aload_n 0, 1) := by decide +kernel
theorem d_Md_block_81 : decode prog_8_method_30_code 81 = .ok (.getfield 47, 3) := by decide +kernel
theorem d_Md_block_84 : decode prog_8_method_30_code 84 = .ok (.iload_n 1, 1) := by decide +kernel
theorem d_Md_block_85 : decode prog_8_method_30_code 85 = .ok (.baload, 1) := by decide +kernel
theorem d_Md_block_86 : decode prog_8_method_30_code 86 = .ok (.ifCond .eq 7, 3) := by decide +kernel
theorem d_Md_block_89 : decode prog_8_method_30_code 89 = .ok (.iconst 1, 1) := by decide +kernel
theorem d_Md_block_90 : decode prog_8_method_30_code 90 = .ok (.goto 4, 3) := by decide +kernel
theorem d_Md_block_93 : decode prog_8_method_30_code 93 = .ok (.iconst 0, 1) := by decide +kernel
theorem d_Md_block_94 : decode prog_8_method_30_code 94 = .ok (.ireturn, 1) := by decide +kernel
theorem d_Md_isBlock_0 : decode prog_8_method_26_code 0 = .ok (.iload_n 1, 1) := by decide +kernel
theorem d_Md_isBlock_1 : decode prog_8_method_26_code 1 = .ok (.iconst 0, 1) := by decide +kernel
theorem d_Md_isBlock_2 : decode prog_8_method_26_code 2 = .ok (.aload_n 0, 1) := by decide +kernel
theorem d_Md_isBlock_3 : decode prog_8_method_26_code 3 = .ok (.getfield 111, 3) := by decide +kernel
theorem d_Md_isBlock_6 : decode prog_8_method_26_code 6 = .ok (.iconst 1, 1) := by decide +kernel
theorem d_Md_isBlock_7 : decode prog_8_method_26_code 7 = .ok (.isub, 1) := by decide +kernel
theorem d_Md_isBlock_8 : decode prog_8_method_26_code 8 = .ok (.invokestatic 131, 3) := by decide +kernel
theorem d_Md_isBlock_11 : decode prog_8_method_26_code 11 = .ok (.ireturn, 1) := by decide +kernel
theorem d_Md_cornersOf_0 : decode prog_8_method_27_code 0 = .ok (.iconst 0, 1) := by decide +kernel
theorem d_Md_cornersOf_1 : decode prog_8_method_27_code 1 = .ok (.istore_n 2, 1) := by decide +kernel
theorem d_Md_cornersOf_2 : decode prog_8_method_27_code 2 = .ok (.iconst 0, 1) := by decide +kernel
theorem d_Md_cornersOf_3 : decode prog_8_method_27_code 3 = .ok (.istore_n 3, 1) := by decide +kernel
theorem d_Md_cornersOf_4 : decode prog_8_method_27_code 4 = .ok (.iload_n 3, 1) := by decide +kernel
theorem d_Md_cornersOf_5 : decode prog_8_method_27_code 5 = .ok (.aload_n 0, 1) := by decide +kernel
theorem d_Md_cornersOf_6 : decode prog_8_method_27_code 6 = .ok (.getfield 94, 3) := by decide +kernel
theorem d_Md_cornersOf_9 : decode prog_8_method_27_code 9 = .ok (.if_icmp .ge 31, 3) := by decide +kernel
theorem d_Md_cornersOf_12 : decode prog_8_method_27_code 12 = .ok (.aload_n 0, 1) := by decide +kernel
theorem d_Md_cornersOf_13 : decode prog_8_method_27_code 13 = .ok (.iload_n 3, 1) := by decide +kernel
theorem d_Md_cornersOf_14 : decode prog_8_method_27_code 14 = .ok (.aload_n 0, 1) := by decide +kernel
theorem d_Md_cornersOf_15 : decode prog_8_method_27_code 15 = .ok (.getfield 41, 3) := by decide +kernel
theorem d_Md_cornersOf_18 : decode prog_8_method_27_code 18 = .ok (.iload_n 1, 1) := by decide +kernel
theorem d_Md_cornersOf_19 : decode prog_8_method_27_code 19 = .ok (.iaload, 1) := by decide +kernel
theorem d_Md_cornersOf_20 : decode prog_8_method_27_code 20 = .ok (.invokevirtual 127, 3) := by decide +kernel
theorem d_Md_cornersOf_23 : decode prog_8_method_27_code 23 = .ok (.ifCond .eq 9, 3) := by decide +kernel
theorem d_Md_cornersOf_26 : decode prog_8_method_27_code 26 = .ok (.iload_n 2, 1) := by decide +kernel
theorem d_Md_cornersOf_27 : decode prog_8_method_27_code 27 = .ok (.iconst 1, 1) := by decide +kernel
theorem d_Md_cornersOf_28 : decode prog_8_method_27_code 28 = .ok (.iadd, 1) := by decide +kernel
theorem d_Md_cornersOf_29 : decode prog_8_method_27_code 29 = .ok (.goto 4, 3) := by decide +kernel
theorem d_Md_cornersOf_32 : decode prog_8_method_27_code 32 = .ok (.iload_n 2, 1) := by decide +kernel
theorem d_Md_cornersOf_33 : decode prog_8_method_27_code 33 = .ok (.istore_n 2, 1) := by decide +kernel
theorem d_Md_cornersOf_34 : decode prog_8_method_27_code 34 = .ok (.iinc 3 1, 3) := by decide +kernel
theorem d_Md_cornersOf_37 : decode prog_8_method_27_code 37 = .ok (.goto (-33), 3) := by decide +kernel
theorem d_Md_cornersOf_40 : decode prog_8_method_27_code 40 = .ok (.iload_n 2, 1) := by decide +kernel
theorem d_Md_cornersOf_41 : decode prog_8_method_27_code 41 = .ok (.ireturn, 1) := by decide +kernel
theorem d_Md_insideOf_0 : decode prog_8_method_29_code 0 = .ok (.iconst 0, 1) := by decide +kernel
theorem d_Md_insideOf_1 : decode prog_8_method_29_code 1 = .ok (.istore_n 2, 1) := by decide +kernel
theorem d_Md_insideOf_2 : decode prog_8_method_29_code 2 = .ok (.iconst 1, 1) := by decide +kernel
theorem d_Md_insideOf_3 : decode prog_8_method_29_code 3 = .ok (.istore_n 3, 1) := by decide +kernel
theorem d_Md_insideOf_4 : decode prog_8_method_29_code 4 = .ok (.iload_n 3, 1) := by decide +kernel
theorem d_Md_insideOf_5 : decode prog_8_method_29_code 5 = .ok (.aload_n 0, 1) := by decide +kernel
theorem d_Md_insideOf_6 : decode prog_8_method_29_code 6 = .ok (.getfield 7, 3) := by decide +kernel
theorem d_Md_insideOf_9 : decode prog_8_method_29_code 9 = .ok (.iconst 0, 1) := by decide +kernel
theorem d_Md_insideOf_10 : decode prog_8_method_29_code 10 = .ok (.iaload, 1) := by decide +kernel
theorem d_Md_insideOf_11 : decode prog_8_method_29_code 11 = .ok (.if_icmp .ge 70, 3) := by decide +kernel
theorem d_Md_insideOf_14 : decode prog_8_method_29_code 14 = .ok (.iconst 1, 1) := by decide +kernel
theorem d_Md_insideOf_15 : decode prog_8_method_29_code 15 = .ok (.istore 4, 2) := by decide +kernel
theorem d_Md_insideOf_17 : decode prog_8_method_29_code 17 = .ok (.iload 4, 2) := by decide +kernel
theorem d_Md_insideOf_19 : decode prog_8_method_29_code 19 = .ok (.aload_n 0, 1) := by decide +kernel
theorem d_Md_insideOf_20 : decode prog_8_method_29_code 20 = .ok (.getfield 7, 3) := by decide +kernel
theorem d_Md_insideOf_23 : decode prog_8_method_29_code 23 = .ok (.iconst 1, 1) := by decide +kernel
theorem d_Md_insideOf_24 : decode prog_8_method_29_code 24 = .ok (.iaload, 1) := by decide +kernel
theorem d_Md_insideOf_25 : decode prog_8_method_29_code 25 = .ok (.if_icmp .ge 50, 3) := by decide +kernel
theorem d_Md_insideOf_28 : decode prog_8_method_29_code 28 = .ok (.iconst 1, 1) := by decide +kernel
theorem d_Md_insideOf_29 : decode prog_8_method_29_code 29 = .ok (.istore 5, 2) := by decide +kernel
theorem d_Md_insideOf_31 : decode prog_8_method_29_code 31 = .ok (.iload 5, 2) := by decide +kernel
theorem d_Md_insideOf_33 : decode prog_8_method_29_code 33 = .ok (.aload_n 0, 1) := by decide +kernel
theorem d_Md_insideOf_34 : decode prog_8_method_29_code 34 = .ok (.getfield 7, 3) := by decide +kernel
theorem d_Md_insideOf_37 : decode prog_8_method_29_code 37 = .ok (.iconst 2, 1) := by decide +kernel
theorem d_Md_insideOf_38 : decode prog_8_method_29_code 38 = .ok (.iaload, 1) := by decide +kernel
theorem d_Md_insideOf_39 : decode prog_8_method_29_code 39 = .ok (.if_icmp .ge 30, 3) := by decide +kernel
theorem d_Md_insideOf_42 : decode prog_8_method_29_code 42 = .ok (.aload_n 0, 1) := by decide +kernel
theorem d_Md_insideOf_43 : decode prog_8_method_29_code 43 = .ok (.iload_n 1, 1) := by decide +kernel
theorem d_Md_insideOf_44 : decode prog_8_method_29_code 44 = .ok (.iload_n 3, 1) := by decide +kernel
theorem d_Md_insideOf_45 : decode prog_8_method_29_code 45 = .ok (.iload 4, 2) := by decide +kernel
theorem d_Md_insideOf_47 : decode prog_8_method_29_code 47 = .ok (.iload 5, 2) := by decide +kernel
theorem d_Md_insideOf_49 : decode prog_8_method_29_code 49 = .ok (.invokevirtual 149, 3) := by decide +kernel
theorem d_Md_insideOf_52 : decode prog_8_method_29_code 52 = .ok (.ifCond .eq 9, 3) := by decide +kernel
theorem d_Md_insideOf_55 : decode prog_8_method_29_code 55 = .ok (.iload_n 2, 1) := by decide +kernel
theorem d_Md_insideOf_56 : decode prog_8_method_29_code 56 = .ok (.iconst 1, 1) := by decide +kernel
theorem d_Md_insideOf_57 : decode prog_8_method_29_code 57 = .ok (.iadd, 1) := by decide +kernel
theorem d_Md_insideOf_58 : decode prog_8_method_29_code 58 = .ok (.goto 4, 3) := by decide +kernel
theorem d_Md_insideOf_61 : decode prog_8_method_29_code 61 = .ok (.iload_n 2, 1) := by decide +kernel
theorem d_Md_insideOf_62 : decode prog_8_method_29_code 62 = .ok (.istore_n 2, 1) := by decide +kernel
theorem d_Md_insideOf_63 : decode prog_8_method_29_code 63 = .ok (.iinc 5 1, 3) := by decide +kernel
theorem d_Md_insideOf_66 : decode prog_8_method_29_code 66 = .ok (.goto (-35), 3) := by decide +kernel
theorem d_Md_insideOf_69 : decode prog_8_method_29_code 69 = .ok (.iinc 4 1, 3) := by decide +kernel
theorem d_Md_insideOf_72 : decode prog_8_method_29_code 72 = .ok (.goto (-55), 3) := by decide +kernel
theorem d_Md_insideOf_75 : decode prog_8_method_29_code 75 = .ok (.iinc 3 1, 3) := by decide +kernel
theorem d_Md_insideOf_78 : decode prog_8_method_29_code 78 = .ok (.goto (-74), 3) := by decide +kernel
theorem d_Md_insideOf_81 : decode prog_8_method_29_code 81 = .ok (.iload_n 2, 1) := by decide +kernel
theorem d_Md_insideOf_82 : decode prog_8_method_29_code 82 = .ok (.ireturn, 1) := by decide +kernel
theorem d_Md_isInside_0 : decode prog_8_method_28_code 0 = .ok (.iconst 1, 1) := by decide +kernel
theorem d_Md_isInside_1 : decode prog_8_method_28_code 1 = .ok (.istore 5, 2) := by decide +kernel
theorem d_Md_isInside_3 : decode prog_8_method_28_code 3 = .ok (.iconst 0, 1) := by decide +kernel
theorem d_Md_isInside_4 : decode prog_8_method_28_code 4 = .ok (.istore 6, 2) := by decide +kernel
theorem d_Md_isInside_6 : decode prog_8_method_28_code 6 = .ok (.iload 6, 2) := by decide +kernel
theorem d_Md_isInside_8 : decode prog_8_method_28_code 8 = .ok (.aload_n 0, 1) := by decide +kernel
theorem d_Md_isInside_9 : decode prog_8_method_28_code 9 = .ok (.getfield 83, 3) := by decide +kernel
theorem d_Md_isInside_12 : decode prog_8_method_28_code 12 = .ok (.if_icmp .ge 103, 3) := by decide +kernel
theorem d_Md_isInside_15 : decode prog_8_method_28_code 15 = .ok (.aload_n 0, 1) := by decide +kernel
theorem d_Md_isInside_16 : decode prog_8_method_28_code 16 = .ok (.getfield 13, 3) := by decide +kernel
theorem d_Md_isInside_19 : decode prog_8_method_28_code 19 = .ok (.iconst 4, 1) := by decide +kernel
theorem d_Md_isInside_20 : decode prog_8_method_28_code 20 = .ok (.iload 6, 2) := by decide +kernel
theorem d_Md_isInside_22 : decode prog_8_method_28_code 22 = .ok (.imul, 1) := by decide +kernel
theorem d_Md_isInside_23 : decode prog_8_method_28_code 23 = .ok (.iaload, 1) := by decide +kernel
theorem d_Md_isInside_24 : decode prog_8_method_28_code 24 = .ok (.iload_n 2, 1) := by decide +kernel
theorem d_Md_isInside_25 : decode prog_8_method_28_code 25 = .ok (.imul, 1) := by decide +kernel
theorem d_Md_isInside_26 : decode prog_8_method_28_code 26 = .ok (.aload_n 0, 1) := by decide +kernel
theorem d_Md_isInside_27 : decode prog_8_method_28_code 27 = .ok (.getfield 13, 3) := by decide +kernel
theorem d_Md_isInside_30 : decode prog_8_method_28_code 30 = .ok (.iconst 4, 1) := by decide +kernel
theorem d_Md_isInside_31 : decode prog_8_method_28_code 31 = .ok (.iload 6, 2) := by decide +kernel
theorem d_Md_isInside_33 : decode prog_8_method_28_code 33 = .ok (.imul, 1) := by decide +kernel
theorem d_Md_isInside_34 : decode prog_8_method_28_code 34 = .ok (.iconst 1, 1) := by decide +kernel
theorem d_Md_isInside_35 : decode prog_8_method_28_code 35 = .ok (.iadd, 1) := by decide +kernel
theorem d_Md_isInside_36 : decode prog_8_method_28_code 36 = .ok (.iaload, 1) := by decide +kernel
theorem d_Md_isInside_37 : decode prog_8_method_28_code 37 = .ok (.iload_n 3, 1) := by decide +kernel
theorem d_Md_isInside_38 : decode prog_8_method_28_code 38 = .ok (.imul, 1) := by decide +kernel
theorem d_Md_isInside_39 : decode prog_8_method_28_code 39 = .ok (.iadd, 1) := by decide +kernel
theorem d_Md_isInside_40 : decode prog_8_method_28_code 40 = .ok (.aload_n 0, 1) := by decide +kernel
theorem d_Md_isInside_41 : decode prog_8_method_28_code 41 = .ok (.getfield 13, 3) := by decide +kernel
theorem d_Md_isInside_44 : decode prog_8_method_28_code 44 = .ok (.iconst 4, 1) := by decide +kernel
theorem d_Md_isInside_45 : decode prog_8_method_28_code 45 = .ok (.iload 6, 2) := by decide +kernel
theorem d_Md_isInside_47 : decode prog_8_method_28_code 47 = .ok (.imul, 1) := by decide +kernel
theorem d_Md_isInside_48 : decode prog_8_method_28_code 48 = .ok (.iconst 2, 1) := by decide +kernel
theorem d_Md_isInside_49 : decode prog_8_method_28_code 49 = .ok (.iadd, 1) := by decide +kernel
theorem d_Md_isInside_50 : decode prog_8_method_28_code 50 = .ok (.iaload, 1) := by decide +kernel
theorem d_Md_isInside_51 : decode prog_8_method_28_code 51 = .ok (.iload 4, 2) := by decide +kernel
theorem d_Md_isInside_53 : decode prog_8_method_28_code 53 = .ok (.imul, 1) := by decide +kernel
theorem d_Md_isInside_54 : decode prog_8_method_28_code 54 = .ok (.iadd, 1) := by decide +kernel
theorem d_Md_isInside_55 : decode prog_8_method_28_code 55 = .ok (.aload_n 0, 1) := by decide +kernel
theorem d_Md_isInside_56 : decode prog_8_method_28_code 56 = .ok (.getfield 13, 3) := by decide +kernel
theorem d_Md_isInside_59 : decode prog_8_method_28_code 59 = .ok (.iconst 4, 1) := by decide +kernel
theorem d_Md_isInside_60 : decode prog_8_method_28_code 60 = .ok (.iload 6, 2) := by decide +kernel
theorem d_Md_isInside_62 : decode prog_8_method_28_code 62 = .ok (.imul, 1) := by decide +kernel
theorem d_Md_isInside_63 : decode prog_8_method_28_code 63 = .ok (.iconst 3, 1) := by decide +kernel
theorem d_Md_isInside_64 : decode prog_8_method_28_code 64 = .ok (.iadd, 1) := by decide +kernel
theorem d_Md_isInside_65 : decode prog_8_method_28_code 65 = .ok (.iaload, 1) := by decide +kernel
theorem d_Md_isInside_66 : decode prog_8_method_28_code 66 = .ok (.isub, 1) := by decide +kernel
theorem d_Md_isInside_67 : decode prog_8_method_28_code 67 = .ok (.istore 7, 2) := by decide +kernel
theorem d_Md_isInside_69 : decode prog_8_method_28_code 69 = .ok (.iload 5, 2) := by decide +kernel
theorem d_Md_isInside_71 : decode prog_8_method_28_code 71 = .ok (.ifCond .eq 35, 3) := by decide +kernel
theorem d_Md_isInside_74 : decode prog_8_method_28_code 74 = .ok (.aload_n 0, 1) := by decide +kernel
theorem d_Md_isInside_75 : decode prog_8_method_28_code 75 = .ok (.getfield 41, 3) := by decide +kernel
theorem d_Md_isInside_78 : decode prog_8_method_28_code 78 = .ok (.iload_n 1, 1) := by decide +kernel
theorem d_Md_isInside_79 : decode prog_8_method_28_code 79 = .ok (.iaload, 1) := by decide +kernel
theorem d_Md_isInside_80 : decode prog_8_method_28_code 80 = .ok (.iload 6, 2) := by decide +kernel
theorem d_Md_isInside_82 : decode prog_8_method_28_code 82 = .ok (.ishr, 1) := by decide +kernel
theorem d_Md_isInside_83 : decode prog_8_method_28_code 83 = .ok (.iconst 1, 1) := by decide +kernel
theorem d_Md_isInside_84 : decode prog_8_method_28_code 84 = .ok (.iand, 1) := by decide +kernel
theorem d_Md_isInside_85 : decode prog_8_method_28_code 85 = .ok (.iconst 1, 1) := by decide +kernel
theorem d_Md_isInside_86 : decode prog_8_method_28_code 86 = .ok (.if_icmp .ne 11, 3) := by decide +kernel
theorem d_Md_isInside_89 : decode prog_8_method_28_code 89 = .ok (.iload 7, 2) := by decide +kernel
theorem d_Md_isInside_91 : decode prog_8_method_28_code 91 = .ok (.ifCond .le 15, 3) := by decide +kernel
theorem d_Md_isInside_94 : decode prog_8_method_28_code 94 = .ok (.goto 8, 3) := by decide +kernel
theorem d_Md_isInside_97 : decode prog_8_method_28_code 97 = .ok (.iload 7, 2) := by decide +kernel
theorem d_Md_isInside_99 : decode prog_8_method_28_code 99 = .ok (.ifCond .ge 7, 3) := by decide +kernel
theorem d_Md_isInside_102 : decode prog_8_method_28_code 102 = .ok (.iconst 1, 1) := by decide +kernel
theorem d_Md_isInside_103 : decode prog_8_method_28_code 103 = .ok (.goto 4, 3) := by decide +kernel
theorem d_Md_isInside_106 : decode prog_8_method_28_code 106 = .ok (.iconst 0, 1) := by decide +kernel
theorem d_Md_isInside_107 : decode prog_8_method_28_code 107 = .ok (.istore 5, 2) := by decide +kernel
theorem d_Md_isInside_109 : decode prog_8_method_28_code 109 = .ok (.iinc 6 1, 3) := by decide +kernel
theorem d_Md_isInside_112 : decode prog_8_method_28_code 112 = .ok (.goto (-106), 3) := by decide +kernel
theorem d_Md_isInside_115 : decode prog_8_method_28_code 115 = .ok (.iload 5, 2) := by decide +kernel
theorem d_Md_isInside_117 : decode prog_8_method_28_code 117 = .ok (.ireturn, 1) := by decide +kernel
theorem d_Md_corner_0 : decode prog_8_method_31_code 0 = .ok (.aload_n 0, 1) := by decide +kernel
theorem d_Md_corner_1 : decode prog_8_method_31_code 1 = .ok (.iload_n 1, 1) := by decide +kernel
theorem d_Md_corner_2 : decode prog_8_method_31_code 2 = .ok (.invokevirtual 152, 3) := by decide +kernel
theorem d_Md_corner_5 : decode prog_8_method_31_code 5 = .ok (.ifCond .eq 20, 3) := by decide +kernel
theorem d_Md_corner_8 : decode prog_8_method_31_code 8 = .ok (.iload_n 3, 1) := by decide +kernel
theorem d_Md_corner_9 : decode prog_8_method_31_code 9 = .ok (.iconst 0, 1) := by decide +kernel
theorem d_Md_corner_10 : decode prog_8_method_31_code 10 = .ok (.iconst 3, 1) := by decide +kernel
theorem d_Md_corner_11 : decode prog_8_method_31_code 11 = .ok (.invokestatic 131, 3) := by decide +kernel
theorem d_Md_corner_14 : decode prog_8_method_31_code 14 = .ok (.ifCond .eq 11, 3) := by decide +kernel
theorem d_Md_corner_17 : decode prog_8_method_31_code 17 = .ok (.iload_n 2, 1) := by decide +kernel
theorem d_Md_corner_18 : decode prog_8_method_31_code 18 = .ok (.ifCond .lt 7, 3) := by decide +kernel
theorem d_Md_corner_21 : decode prog_8_method_31_code 21 = .ok (.iconst 1, 1) := by decide +kernel
theorem d_Md_corner_22 : decode prog_8_method_31_code 22 = .ok (.goto 4, 3) := by decide +kernel
theorem d_Md_corner_25 : decode prog_8_method_31_code 25 = .ok (.iconst 0, 1) := by decide +kernel
theorem d_Md_corner_26 : decode prog_8_method_31_code 26 = .ok (.istore 4, 2) := by decide +kernel
theorem d_Md_corner_28 : decode prog_8_method_31_code 28 = .ok (.aload_n 0, 1) := by decide +kernel
theorem d_Md_corner_29 : decode prog_8_method_31_code 29 = .ok (.iload 4, 2) := by decide +kernel
theorem d_Md_corner_31 : decode prog_8_method_31_code 31 = .ok (.ifCond .eq 16, 3) := by decide +kernel
theorem d_Md_corner_34 : decode prog_8_method_31_code 34 = .ok (.iload_n 2, 1) := by decide +kernel
theorem d_Md_corner_35 : decode prog_8_method_31_code 35 = .ok (.aload_n 0, 1) := by decide +kernel
theorem d_Md_corner_36 : decode prog_8_method_31_code 36 = .ok (.iload_n 1, 1) := by decide +kernel
theorem d_Md_corner_37 : decode prog_8_method_31_code 37 = .ok (.invokevirtual 155, 3) := by decide +kernel
theorem d_Md_corner_40 : decode prog_8_method_31_code 40 = .ok (.if_icmp .ge 7, 3) := by decide +kernel
theorem d_Md_corner_43 : decode prog_8_method_31_code 43 = .ok (.iconst 0, 1) := by decide +kernel
theorem d_Md_corner_44 : decode prog_8_method_31_code 44 = .ok (.goto 4, 3) := by decide +kernel
theorem d_Md_corner_47 : decode prog_8_method_31_code 47 = .ok (.iconst 1, 1) := by decide +kernel
theorem d_Md_corner_48 : decode prog_8_method_31_code 48 = .ok (.putfield 75, 3) := by decide +kernel
theorem d_Md_corner_51 : decode prog_8_method_31_code 51 = .ok (.aload_n 0, 1) := by decide +kernel
theorem d_Md_corner_52 : decode prog_8_method_31_code 52 = .ok (.getfield 75, 3) := by decide +kernel
theorem d_Md_corner_55 : decode prog_8_method_31_code 55 = .ok (.ifCond .le 5, 3) := by decide +kernel
theorem d_Md_corner_58 : decode prog_8_method_31_code 58 = .ok (.iconst 0, 1) := by decide +kernel
theorem d_Md_corner_59 : decode prog_8_method_31_code 59 = .ok (.ireturn, 1) := by decide +kernel
theorem d_Md_corner_60 : decode prog_8_method_31_code 60 = .ok (.iload_n 2, 1) := by decide +kernel
theorem d_Md_corner_61 : decode prog_8_method_31_code 61 = .ok (.istore 5, 2) := by decide +kernel
theorem d_Md_corner_63 : decode prog_8_method_31_code 63 = .ok (.iconst 0, 1) := by decide +kernel
theorem d_Md_corner_64 : decode prog_8_method_31_code 64 = .ok (.istore 6, 2) := by decide +kernel
theorem d_Md_corner_66 : decode prog_8_method_31_code 66 = .ok (.iload 5, 2) := by decide +kernel
theorem d_Md_corner_68 : decode prog_8_method_31_code 68 = .ok (.ifCond .gt 18, 3) := by decide +kernel
theorem d_Md_corner_71 : decode prog_8_method_31_code 71 = .ok (.aload_n 0, 1) := by decide +kernel
theorem d_Md_corner_72 : decode prog_8_method_31_code 72 = .ok (.iload 6, 2) := by decide +kernel
theorem d_Md_corner_74 : decode prog_8_method_31_code 74 = .ok (.aload_n 0, 1) := by decide +kernel
theorem d_Md_corner_75 : decode prog_8_method_31_code 75 = .ok (.getfield 41, 3) := by decide +kernel
theorem d_Md_corner_78 : decode prog_8_method_31_code 78 = .ok (.iload_n 1, 1) := by decide +kernel
theorem d_Md_corner_79 : decode prog_8_method_31_code 79 = .ok (.iaload, 1) := by decide +kernel
theorem d_Md_corner_80 : decode prog_8_method_31_code 80 = .ok (.invokevirtual 127, 3) := by decide +kernel
theorem d_Md_corner_83 : decode prog_8_method_31_code 83 = .ok (.ifCond .ne 35, 3) := by decide +kernel
theorem d_Md_corner_86 : decode prog_8_method_31_code 86 = .ok (.aload_n 0, 1) := by decide +kernel
theorem d_Md_corner_87 : decode prog_8_method_31_code 87 = .ok (.iload 6, 2) := by decide +kernel
theorem d_Md_corner_89 : decode prog_8_method_31_code 89 = .ok (.aload_n 0, 1) := by decide +kernel
theorem d_Md_corner_90 : decode prog_8_method_31_code 90 = .ok (.getfield 41, 3) := by decide +kernel
theorem d_Md_corner_93 : decode prog_8_method_31_code 93 = .ok (.iload_n 1, 1) := by decide +kernel
theorem d_Md_corner_94 : decode prog_8_method_31_code 94 = .ok (.iaload, 1) := by decide +kernel
theorem d_Md_corner_95 : decode prog_8_method_31_code 95 = .ok (.invokevirtual 127, 3) := by decide +kernel
theorem d_Md_corner_98 : decode prog_8_method_31_code 98 = .ok (.ifCond .eq 10, 3) := by decide +kernel
theorem d_Md_corner_101 : decode prog_8_method_31_code 101 = .ok (.iload 5, 2) := by decide +kernel
theorem d_Md_corner_103 : decode prog_8_method_31_code 103 = .ok (.iconst 1, 1) := by decide +kernel
theorem d_Md_corner_104 : decode prog_8_method_31_code 104 = .ok (.isub, 1) := by decide +kernel
theorem d_Md_corner_105 : decode prog_8_method_31_code 105 = .ok (.goto 5, 3) := by decide +kernel
theorem d_Md_corner_108 : decode prog_8_method_31_code 108 = .ok (.iload 5, 2) := by decide +kernel
theorem d_Md_corner_110 : decode prog_8_method_31_code 110 = .ok (.istore 5, 2) := by decide +kernel
theorem d_Md_corner_112 : decode prog_8_method_31_code 112 = .ok (.iinc 6 1, 3) := by decide +kernel
theorem d_Md_corner_115 : decode prog_8_method_31_code 115 = .ok (.goto (-49), 3) := by decide +kernel
theorem d_Md_corner_118 : decode prog_8_method_31_code 118 = .ok (.aload_n 0, 1) := by decide +kernel
theorem d_Md_corner_119 : decode prog_8_method_31_code 119 = .ok (.getfield 26, 3) := by decide +kernel
theorem d_Md_corner_122 : decode prog_8_method_31_code 122 = .ok (.iconst 4, 1) := by decide +kernel
theorem d_Md_corner_123 : decode prog_8_method_31_code 123 = .ok (.iload 6, 2) := by decide +kernel
theorem d_Md_corner_125 : decode prog_8_method_31_code 125 = .ok (.imul, 1) := by decide +kernel
theorem d_Md_corner_126 : decode prog_8_method_31_code 126 = .ok (.iload_n 3, 1) := by decide +kernel
theorem d_Md_corner_127 : decode prog_8_method_31_code 127 = .ok (.iadd, 1) := by decide +kernel
theorem d_Md_corner_128 : decode prog_8_method_31_code 128 = .ok (.iaload, 1) := by decide +kernel
theorem d_Md_corner_129 : decode prog_8_method_31_code 129 = .ok (.ireturn, 1) := by decide +kernel
theorem d_Md_find_0 : decode prog_8_method_32_code 0 = .ok (.aload_n 0, 1) := by decide +kernel
theorem d_Md_find_1 : decode prog_8_method_32_code 1 = .ok (.iconst 0, 1) := by decide +kernel
theorem d_Md_find_2 : decode prog_8_method_32_code 2 = .ok (.putfield 75, 3) := by decide +kernel
theorem d_Md_find_5 : decode prog_8_method_32_code 5 = .ok (.iconst 0, 1) := by decide +kernel
theorem d_Md_find_6 : decode prog_8_method_32_code 6 = .ok (.istore_n 2, 1) := by decide +kernel
theorem d_Md_find_7 : decode prog_8_method_32_code 7 = .ok (.iload_n 2, 1) := by decide +kernel
theorem d_Md_find_8 : decode prog_8_method_32_code 8 = .ok (.aload_n 0, 1) := by decide +kernel
theorem d_Md_find_9 : decode prog_8_method_32_code 9 = .ok (.getfield 111, 3) := by decide +kernel
theorem d_Md_find_12 : decode prog_8_method_32_code 12 = .ok (.if_icmp .ge 21, 3) := by decide +kernel
theorem d_Md_find_15 : decode prog_8_method_32_code 15 = .ok (.aload_n 0, 1) := by decide +kernel
theorem d_Md_find_16 : decode prog_8_method_32_code 16 = .ok (.getfield 41, 3) := by decide +kernel
theorem d_Md_find_19 : decode prog_8_method_32_code 19 = .ok (.iload_n 2, 1) := by decide +kernel
theorem d_Md_find_20 : decode prog_8_method_32_code 20 = .ok (.iaload, 1) := by decide +kernel
theorem d_Md_find_21 : decode prog_8_method_32_code 21 = .ok (.iload_n 1, 1) := by decide +kernel
theorem d_Md_find_22 : decode prog_8_method_32_code 22 = .ok (.if_icmp .ne 5, 3) := by decide +kernel
theorem d_Md_find_25 : decode prog_8_method_32_code 25 = .ok (.iload_n 2, 1) := by decide +kernel
theorem d_Md_find_26 : decode prog_8_method_32_code 26 = .ok (.ireturn, 1) := by decide +kernel
theorem d_Md_find_27 : decode prog_8_method_32_code 27 = .ok (.iinc 2 1, 3) := by decide +kernel
theorem d_Md_find_30 : decode prog_8_method_32_code 30 = .ok (.goto (-23), 3) := by decide +kernel
theorem d_Md_find_33 : decode prog_8_method_32_code 33 = .ok (.iconst (-1), 1) := by decide +kernel
theorem d_Md_find_34 : decode prog_8_method_32_code 34 = .ok (.ireturn, 1) := by decide +kernel
theorem d_Md_beside_0 : decode prog_8_method_34_code 0 = .ok (.aload_n 0, 1) := by decide +kernel
theorem d_Md_beside_1 : decode prog_8_method_34_code 1 = .ok (.aload_n 0, 1) := by decide +kernel
theorem d_Md_beside_2 : decode prog_8_method_34_code 2 = .ok (.iload_n 1, 1) := by decide +kernel
theorem d_Md_beside_3 : decode prog_8_method_34_code 3 = .ok (.invokevirtual 152, 3) := by decide +kernel
theorem d_Md_beside_6 : decode prog_8_method_34_code 6 = .ok (.ifCond .eq 21, 3) := by decide +kernel
theorem d_Md_beside_9 : decode prog_8_method_34_code 9 = .ok (.iload_n 2, 1) := by decide +kernel
theorem d_Md_beside_10 : decode prog_8_method_34_code 10 = .ok (.iconst 0, 1) := by decide +kernel
theorem d_Md_beside_11 : decode prog_8_method_34_code 11 = .ok (.aload_n 0, 1) := by decide +kernel
theorem d_Md_beside_12 : decode prog_8_method_34_code 12 = .ok (.getfield 83, 3) := by decide +kernel
theorem d_Md_beside_15 : decode prog_8_method_34_code 15 = .ok (.iconst 1, 1) := by decide +kernel
theorem d_Md_beside_16 : decode prog_8_method_34_code 16 = .ok (.isub, 1) := by decide +kernel
theorem d_Md_beside_17 : decode prog_8_method_34_code 17 = .ok (.invokestatic 131, 3) := by decide +kernel
theorem d_Md_beside_20 : decode prog_8_method_34_code 20 = .ok (.ifCond .eq 7, 3) := by decide +kernel
theorem d_Md_beside_23 : decode prog_8_method_34_code 23 = .ok (.iconst 0, 1) := by decide +kernel
theorem d_Md_beside_24 : decode prog_8_method_34_code 24 = .ok (.goto 4, 3) := by decide +kernel
theorem d_Md_beside_27 : decode prog_8_method_34_code 27 = .ok (.iconst 1, 1) := by decide +kernel
theorem d_Md_beside_28 : decode prog_8_method_34_code 28 = .ok (.putfield 75, 3) := by decide +kernel
theorem d_Md_beside_31 : decode prog_8_method_34_code 31 = .ok (.aload_n 0, 1) := by decide +kernel
theorem d_Md_beside_32 : decode prog_8_method_34_code 32 = .ok (.getfield 75, 3) := by decide +kernel
theorem d_Md_beside_35 : decode prog_8_method_34_code 35 = .ok (.ifCond .le 5, 3) := by decide +kernel
theorem d_Md_beside_38 : decode prog_8_method_34_code 38 = .ok (.iconst 0, 1) := by decide +kernel
theorem d_Md_beside_39 : decode prog_8_method_34_code 39 = .ok (.ireturn, 1) := by decide +kernel
theorem d_Md_beside_40 : decode prog_8_method_34_code 40 = .ok (.aload_n 0, 1) := by decide +kernel
theorem d_Md_beside_41 : decode prog_8_method_34_code 41 = .ok (.iload_n 1, 1) := by decide +kernel
theorem d_Md_beside_42 : decode prog_8_method_34_code 42 = .ok (.iload_n 2, 1) := by decide +kernel
theorem d_Md_beside_43 : decode prog_8_method_34_code 43 = .ok (.invokevirtual 161, 3) := by decide +kernel
theorem d_Md_beside_46 : decode prog_8_method_34_code 46 = .ok (.ifCond .eq 20, 3) := by decide +kernel
theorem d_Md_beside_49 : decode prog_8_method_34_code 49 = .ok (.aload_n 0, 1) := by decide +kernel
theorem d_Md_beside_50 : decode prog_8_method_34_code 50 = .ok (.aload_n 0, 1) := by decide +kernel
theorem d_Md_beside_51 : decode prog_8_method_34_code 51 = .ok (.getfield 41, 3) := by decide +kernel
theorem d_Md_beside_54 : decode prog_8_method_34_code 54 = .ok (.iload_n 1, 1) := by decide +kernel
theorem d_Md_beside_55 : decode prog_8_method_34_code 55 = .ok (.iaload, 1) := by decide +kernel
theorem d_Md_beside_56 : decode prog_8_method_34_code 56 = .ok (.iconst 1, 1) := by decide +kernel
theorem d_Md_beside_57 : decode prog_8_method_34_code 57 = .ok (.iload_n 2, 1) := by decide +kernel
theorem d_Md_beside_58 : decode prog_8_method_34_code 58 = .ok (.ishl, 1) := by decide +kernel
theorem d_Md_beside_59 : decode prog_8_method_34_code 59 = .ok (.ixor, 1) := by decide +kernel
theorem d_Md_beside_60 : decode prog_8_method_34_code 60 = .ok (.invokevirtual 164, 3) := by decide +kernel
theorem d_Md_beside_63 : decode prog_8_method_34_code 63 = .ok (.goto 4, 3) := by decide +kernel
theorem d_Md_beside_66 : decode prog_8_method_34_code 66 = .ok (.iconst (-1), 1) := by decide +kernel
theorem d_Md_beside_67 : decode prog_8_method_34_code 67 = .ok (.ireturn, 1) := by decide +kernel
theorem d_Md_isFace_0 : decode prog_8_method_33_code 0 = .ok (.aload_n 0, 1) := by decide +kernel
theorem d_Md_isFace_1 : decode prog_8_method_33_code 1 = .ok (.getfield 44, 3) := by decide +kernel
theorem d_Md_isFace_4 : decode prog_8_method_33_code 4 = .ok (.iload_n 1, 1) := by decide +kernel
theorem d_Md_isFace_5 : decode prog_8_method_33_code 5 = .ok (.iaload, 1) := by decide +kernel
theorem d_Md_isFace_6 : decode prog_8_method_33_code 6 = .ok (.iload_n 2, 1) := by decide +kernel
theorem d_Md_isFace_7 : decode prog_8_method_33_code 7 = .ok (.ishr, 1) := by decide +kernel
theorem d_Md_isFace_8 : decode prog_8_method_33_code 8 = .ok (.iconst 1, 1) := by decide +kernel
theorem d_Md_isFace_9 : decode prog_8_method_33_code 9 = .ok (.iand, 1) := by decide +kernel
theorem d_Md_isFace_10 : decode prog_8_method_33_code 10 = .ok (.iconst 1, 1) := by decide +kernel
theorem d_Md_isFace_11 : decode prog_8_method_33_code 11 = .ok (.if_icmp .ne 7, 3) := by decide +kernel
theorem d_Md_isFace_14 : decode prog_8_method_33_code 14 = .ok (.iconst 1, 1) := by decide +kernel
theorem d_Md_isFace_15 : decode prog_8_method_33_code 15 = .ok (.goto 4, 3) := by decide +kernel
theorem d_Md_isFace_18 : decode prog_8_method_33_code 18 = .ok (.iconst 0, 1) := by decide +kernel
theorem d_Md_isFace_19 : decode prog_8_method_33_code 19 = .ok (.ireturn, 1) := by decide +kernel
theorem d_Md_goes_0 : decode prog_8_method_40_code 0 = .ok (.aload_n 0, 1) := by decide +kernel
theorem d_Md_goes_1 : decode prog_8_method_40_code 1 = .ok (.aload_n 0, 1) := by decide +kernel
theorem d_Md_goes_2 : decode prog_8_method_40_code 2 = .ok (.iload_n 1, 1) := by decide +kernel
theorem d_Md_goes_3 : decode prog_8_method_40_code 3 = .ok (.invokevirtual 152, 3) := by decide +kernel
theorem d_Md_goes_6 : decode prog_8_method_40_code 6 = .ok (.ifCond .eq 21, 3) := by decide +kernel
theorem d_Md_goes_9 : decode prog_8_method_40_code 9 = .ok (.iload_n 2, 1) := by decide +kernel
theorem d_Md_goes_10 : decode prog_8_method_40_code 10 = .ok (.iconst 0, 1) := by decide +kernel
theorem d_Md_goes_11 : decode prog_8_method_40_code 11 = .ok (.aload_n 0, 1) := by decide +kernel
theorem d_Md_goes_12 : decode prog_8_method_40_code 12 = .ok (.getfield 146, 3) := by decide +kernel
theorem d_Md_goes_15 : decode prog_8_method_40_code 15 = .ok (.iconst 1, 1) := by decide +kernel
theorem d_Md_goes_16 : decode prog_8_method_40_code 16 = .ok (.isub, 1) := by decide +kernel
theorem d_Md_goes_17 : decode prog_8_method_40_code 17 = .ok (.invokestatic 131, 3) := by decide +kernel
theorem d_Md_goes_20 : decode prog_8_method_40_code 20 = .ok (.ifCond .eq 7, 3) := by decide +kernel
theorem d_Md_goes_23 : decode prog_8_method_40_code 23 = .ok (.iconst 0, 1) := by decide +kernel
theorem d_Md_goes_24 : decode prog_8_method_40_code 24 = .ok (.goto 4, 3) := by decide +kernel
theorem d_Md_goes_27 : decode prog_8_method_40_code 27 = .ok (.iconst 1, 1) := by decide +kernel
theorem d_Md_goes_28 : decode prog_8_method_40_code 28 = .ok (.putfield 75, 3) := by decide +kernel
theorem d_Md_goes_31 : decode prog_8_method_40_code 31 = .ok (.aload_n 0, 1) := by decide +kernel
theorem d_Md_goes_32 : decode prog_8_method_40_code 32 = .ok (.getfield 75, 3) := by decide +kernel
theorem d_Md_goes_35 : decode prog_8_method_40_code 35 = .ok (.ifCond .ne 16, 3) := by decide +kernel
theorem d_Md_goes_38 : decode prog_8_method_40_code 38 = .ok (.aload_n 0, 1) := by decide +kernel
theorem d_Md_goes_39 : decode prog_8_method_40_code 39 = .ok (.iload_n 1, 1) := by decide +kernel
theorem d_Md_goes_40 : decode prog_8_method_40_code 40 = .ok (.iload_n 2, 1) := by decide +kernel
theorem d_Md_goes_41 : decode prog_8_method_40_code 41 = .ok (.invokevirtual 181, 3) := by decide +kernel
theorem d_Md_goes_44 : decode prog_8_method_40_code 44 = .ok (.ifCond .eq 7, 3) := by decide +kernel
theorem d_Md_goes_47 : decode prog_8_method_40_code 47 = .ok (.iconst 1, 1) := by decide +kernel
theorem d_Md_goes_48 : decode prog_8_method_40_code 48 = .ok (.goto 4, 3) := by decide +kernel
theorem d_Md_goes_51 : decode prog_8_method_40_code 51 = .ok (.iconst 0, 1) := by decide +kernel
theorem d_Md_goes_52 : decode prog_8_method_40_code 52 = .ok (.ireturn, 1) := by decide +kernel
theorem d_Md_canGoBy_0 : decode prog_8_method_39_code 0 = .ok (.iconst 0, 1) := by decide +kernel
theorem d_Md_canGoBy_1 : decode prog_8_method_39_code 1 = .ok (.istore_n 3, 1) := by decide +kernel
theorem d_Md_canGoBy_2 : decode prog_8_method_39_code 2 = .ok (.iload_n 3, 1) := by decide +kernel
theorem d_Md_canGoBy_3 : decode prog_8_method_39_code 3 = .ok (.iconst 3, 1) := by decide +kernel
theorem d_Md_canGoBy_4 : decode prog_8_method_39_code 4 = .ok (.if_icmp .ge 25, 3) := by decide +kernel
theorem d_Md_canGoBy_7 : decode prog_8_method_39_code 7 = .ok (.aload_n 0, 1) := by decide +kernel
theorem d_Md_canGoBy_8 : decode prog_8_method_39_code 8 = .ok (.getfield 62, 3) := by decide +kernel
theorem d_Md_canGoBy_11 : decode prog_8_method_39_code 11 = .ok (.iload_n 3, 1) := by decide +kernel
theorem d_Md_canGoBy_12 : decode prog_8_method_39_code 12 = .ok (.aload_n 0, 1) := by decide +kernel
theorem d_Md_canGoBy_13 : decode prog_8_method_39_code 13 = .ok (.getfield 20, 3) := by decide +kernel
theorem d_Md_canGoBy_16 : decode prog_8_method_39_code 16 = .ok (.iconst 3, 1) := by decide +kernel
theorem d_Md_canGoBy_17 : decode prog_8_method_39_code 17 = .ok (.iload_n 2, 1) := by decide +kernel
theorem d_Md_canGoBy_18 : decode prog_8_method_39_code 18 = .ok (.imul, 1) := by decide +kernel
theorem d_Md_canGoBy_19 : decode prog_8_method_39_code 19 = .ok (.iload_n 3, 1) := by decide +kernel
theorem d_Md_canGoBy_20 : decode prog_8_method_39_code 20 = .ok (.iadd, 1) := by decide +kernel
theorem d_Md_canGoBy_21 : decode prog_8_method_39_code 21 = .ok (.iaload, 1) := by decide +kernel
theorem d_Md_canGoBy_22 : decode prog_8_method_39_code 22 = .ok (.iastore, 1) := by decide +kernel
theorem d_Md_canGoBy_23 : decode prog_8_method_39_code 23 = .ok (.iinc 3 1, 3) := by decide +kernel
theorem d_Md_canGoBy_26 : decode prog_8_method_39_code 26 = .ok (.goto (-24), 3) := by decide +kernel
theorem d_Md_canGoBy_29 : decode prog_8_method_39_code 29 = .ok (.aload_n 0, 1) := by decide +kernel
theorem d_Md_canGoBy_30 : decode prog_8_method_39_code 30 = .ok (.iload_n 1, 1) := by decide +kernel
theorem d_Md_canGoBy_31 : decode prog_8_method_39_code 31 = .ok (.invokevirtual 178, 3) := by decide +kernel
theorem d_Md_canGoBy_34 : decode prog_8_method_39_code 34 = .ok (.ireturn, 1) := by decide +kernel
theorem d_Md_canGo_0 : decode prog_8_method_38_code 0 = .ok (.aload_n 0, 1) := by decide +kernel
theorem d_Md_canGo_1 : decode prog_8_method_38_code 1 = .ok (.getfield 47, 3) := by decide +kernel
theorem d_Md_canGo_4 : decode prog_8_method_38_code 4 = .ok (.iload_n 1, 1) := by decide +kernel
theorem d_Md_canGo_5 : decode prog_8_method_38_code 5 = .ok (.baload, 1) := by decide +kernel
theorem d_Md_canGo_6 : decode prog_8_method_38_code 6 = .ok (.ifCond .ne 34, 3) := by decide +kernel
theorem d_Md_canGo_9 : decode prog_8_method_38_code 9 = .ok (.aload_n 0, 1) := by decide +kernel
theorem d_Md_canGo_10 : decode prog_8_method_38_code 10 = .ok (.getfield 62, 3) := by decide +kernel
theorem d_Md_canGo_13 : decode prog_8_method_38_code 13 = .ok (.iconst 0, 1) := by decide +kernel
theorem d_Md_canGo_14 : decode prog_8_method_38_code 14 = .ok (.iaload, 1) := by decide +kernel
theorem d_Md_canGo_15 : decode prog_8_method_38_code 15 = .ok (.ifCond .ne 21, 3) := by decide +kernel
theorem d_Md_canGo_18 : decode prog_8_method_38_code 18 = .ok (.aload_n 0, 1) := by decide +kernel
theorem d_Md_canGo_19 : decode prog_8_method_38_code 19 = .ok (.getfield 62, 3) := by decide +kernel
theorem d_Md_canGo_22 : decode prog_8_method_38_code 22 = .ok (.iconst 1, 1) := by decide +kernel
theorem d_Md_canGo_23 : decode prog_8_method_38_code 23 = .ok (.iaload, 1) := by decide +kernel
theorem d_Md_canGo_24 : decode prog_8_method_38_code 24 = .ok (.ifCond .ne 12, 3) := by decide +kernel
theorem d_Md_canGo_27 : decode prog_8_method_38_code 27 = .ok (.aload_n 0, 1) := by decide +kernel
theorem d_Md_canGo_28 : decode prog_8_method_38_code 28 = .ok (.getfield 62, 3) := by decide +kernel
theorem d_Md_canGo_31 : decode prog_8_method_38_code 31 = .ok (.iconst 2, 1) := by decide +kernel
theorem d_Md_canGo_32 : decode prog_8_method_38_code 32 = .ok (.iaload, 1) := by decide +kernel
theorem d_Md_canGo_33 : decode prog_8_method_38_code 33 = .ok (.ifCond .eq 7, 3) := by decide +kernel
theorem d_Md_canGo_36 : decode prog_8_method_38_code 36 = .ok (.iconst 1, 1) := by decide +kernel
theorem d_Md_canGo_37 : decode prog_8_method_38_code 37 = .ok (.goto 4, 3) := by decide +kernel
theorem d_Md_canGo_40 : decode prog_8_method_38_code 40 = .ok (.iconst 0, 1) := by decide +kernel
theorem d_Md_canGo_41 : decode prog_8_method_38_code 41 = .ok (.istore_n 2, 1) := by decide +kernel
theorem d_Md_canGo_42 : decode prog_8_method_38_code 42 = .ok (.iconst 0, 1) := by decide +kernel
theorem d_Md_canGo_43 : decode prog_8_method_38_code 43 = .ok (.istore_n 3, 1) := by decide +kernel
theorem d_Md_canGo_44 : decode prog_8_method_38_code 44 = .ok (.iload_n 3, 1) := by decide +kernel
theorem d_Md_canGo_45 : decode prog_8_method_38_code 45 = .ok (.bipush 12, 2) := by decide +kernel
theorem d_Md_canGo_47 : decode prog_8_method_38_code 47 = .ok (.if_icmp .ge 52, 3) := by decide +kernel
theorem d_Md_canGo_50 : decode prog_8_method_38_code 50 = .ok (.iload_n 2, 1) := by decide +kernel
theorem d_Md_canGo_51 : decode prog_8_method_38_code 51 = .ok (.ifCond .eq 48, 3) := by decide +kernel
theorem d_Md_canGo_54 : decode prog_8_method_38_code 54 = .ok (.aload_n 0, 1) := by decide +kernel
theorem d_Md_canGo_55 : decode prog_8_method_38_code 55 = .ok (.iload_n 1, 1) := by decide +kernel
theorem d_Md_canGo_56 : decode prog_8_method_38_code 56 = .ok (.iload_n 3, 1) := by decide +kernel
theorem d_Md_canGo_57 : decode prog_8_method_38_code 57 = .ok (.invokevirtual 167, 3) := by decide +kernel
theorem d_Md_canGo_60 : decode prog_8_method_38_code 60 = .ok (.ifCond .eq 33, 3) := by decide +kernel
theorem d_Md_canGo_63 : decode prog_8_method_38_code 63 = .ok (.aload_n 0, 1) := by decide +kernel
theorem d_Md_canGo_64 : decode prog_8_method_38_code 64 = .ok (.iload_n 1, 1) := by decide +kernel
theorem d_Md_canGo_65 : decode prog_8_method_38_code 65 = .ok (.iload_n 3, 1) := by decide +kernel
theorem d_Md_canGo_66 : decode prog_8_method_38_code 66 = .ok (.aload_n 0, 1) := by decide +kernel
theorem d_Md_canGo_67 : decode prog_8_method_38_code 67 = .ok (.getfield 65, 3) := by decide +kernel
theorem d_Md_canGo_70 : decode prog_8_method_38_code 70 = .ok (.invokevirtual 170, 3) := by decide +kernel
theorem d_Md_canGo_73 : decode prog_8_method_38_code 73 = .ok (.aload_n 0, 1) := by decide +kernel
theorem d_Md_canGo_74 : decode prog_8_method_38_code 74 = .ok (.getfield 62, 3) := by decide +kernel
theorem d_Md_canGo_77 : decode prog_8_method_38_code 77 = .ok (.aload_n 0, 1) := by decide +kernel
theorem d_Md_canGo_78 : decode prog_8_method_38_code 78 = .ok (.getfield 65, 3) := by decide +kernel
theorem d_Md_canGo_81 : decode prog_8_method_38_code 81 = .ok (.invokestatic 174, 3) := by decide +kernel
theorem d_Md_canGo_84 : decode prog_8_method_38_code 84 = .ok (.ifCond .lt 7, 3) := by decide +kernel
theorem d_Md_canGo_87 : decode prog_8_method_38_code 87 = .ok (.iconst 1, 1) := by decide +kernel
theorem d_Md_canGo_88 : decode prog_8_method_38_code 88 = .ok (.goto 4, 3) := by decide +kernel
theorem d_Md_canGo_91 : decode prog_8_method_38_code 91 = .ok (.iconst 0, 1) := by decide +kernel
theorem d_Md_canGo_92 : decode prog_8_method_38_code 92 = .ok (.istore_n 2, 1) := by decide +kernel
theorem d_Md_canGo_93 : decode prog_8_method_38_code 93 = .ok (.iinc 3 1, 3) := by decide +kernel
theorem d_Md_canGo_96 : decode prog_8_method_38_code 96 = .ok (.goto (-52), 3) := by decide +kernel
theorem d_Md_canGo_99 : decode prog_8_method_38_code 99 = .ok (.iload_n 2, 1) := by decide +kernel
theorem d_Md_canGo_100 : decode prog_8_method_38_code 100 = .ok (.ireturn, 1) := by decide +kernel
theorem d_Md_holds_0 : decode prog_8_method_35_code 0 = .ok (.aload_n 0, 1) := by decide +kernel
theorem d_Md_holds_1 : decode prog_8_method_35_code 1 = .ok (.iload_n 1, 1) := by decide +kernel
theorem d_Md_holds_2 : decode prog_8_method_35_code 2 = .ok (.iload_n 2, 1) := by decide +kernel
theorem d_Md_holds_3 : decode prog_8_method_35_code 3 = .ok (.invokevirtual 161, 3) := by decide +kernel
theorem d_Md_holds_6 : decode prog_8_method_35_code 6 = .ok (.ifCond .ne 5, 3) := by decide +kernel
theorem d_Md_holds_9 : decode prog_8_method_35_code 9 = .ok (.iconst 0, 1) := by decide +kernel
theorem d_Md_holds_10 : decode prog_8_method_35_code 10 = .ok (.ireturn, 1) := by decide +kernel
theorem d_Md_holds_11 : decode prog_8_method_35_code 11 = .ok (.iload_n 2, 1) := by decide +kernel
theorem d_Md_holds_12 : decode prog_8_method_35_code 12 = .ok (.bipush 6, 2) := by decide +kernel
theorem d_Md_holds_14 : decode prog_8_method_35_code 14 = .ok (.if_icmp .lt 20, 3) := by decide +kernel
theorem d_Md_holds_17 : decode prog_8_method_35_code 17 = .ok (.aload_n 0, 1) := by decide +kernel
theorem d_Md_holds_18 : decode prog_8_method_35_code 18 = .ok (.getfield 16, 3) := by decide +kernel
theorem d_Md_holds_21 : decode prog_8_method_35_code 21 = .ok (.iload_n 2, 1) := by decide +kernel
theorem d_Md_holds_22 : decode prog_8_method_35_code 22 = .ok (.baload, 1) := by decide +kernel
theorem d_Md_holds_23 : decode prog_8_method_35_code 23 = .ok (.ifCond .ne 7, 3) := by decide +kernel
theorem d_Md_holds_26 : decode prog_8_method_35_code 26 = .ok (.iconst 1, 1) := by decide +kernel
theorem d_Md_holds_27 : decode prog_8_method_35_code 27 = .ok (.goto 34, 3) := by decide +kernel
theorem d_Md_holds_30 : decode prog_8_method_35_code 30 = .ok (.iconst 0, 1) := by decide +kernel
theorem d_Md_holds_31 : decode prog_8_method_35_code 31 = .ok (.goto 30, 3) := by decide +kernel
theorem d_Md_holds_34 : decode prog_8_method_35_code 34 = .ok (.aload_n 0, 1) := by decide +kernel
theorem d_Md_holds_35 : decode prog_8_method_35_code 35 = .ok (.getfield 47, 3) := by decide +kernel
theorem d_Md_holds_38 : decode prog_8_method_35_code 38 = .ok (.aload_n 0, 1) := by decide +kernel
theorem d_Md_holds_39 : decode prog_8_method_35_code 39 = .ok (.aload_n 0, 1) := by decide +kernel
theorem d_Md_holds_40 : decode prog_8_method_35_code 40 = .ok (.getfield 41, 3) := by decide +kernel
theorem d_Md_holds_43 : decode prog_8_method_35_code 43 = .ok (.iload_n 1, 1) := by decide +kernel
theorem d_Md_holds_44 : decode prog_8_method_35_code 44 = .ok (.iaload, 1) := by decide +kernel
theorem d_Md_holds_45 : decode prog_8_method_35_code 45 = .ok (.iconst 1, 1) := by decide +kernel
end
section
theorem d_Md_holds_46 : decode prog_8_method_35_code 46 = .ok (.iload_n 2, 1) := by decide +kernel
theorem d_Md_holds_47 : decode prog_8_method_35_code 47 = .ok (.ishl, 1) := by decide +kernel
theorem d_Md_holds_48 : decode prog_8_method_35_code 48 = .ok (.ixor, 1) := by decide +kernel
theorem d_Md_holds_49 : decode prog_8_method_35_code 49 = .ok (.invokevirtual 164, 3) := by decide +kernel
theorem d_Md_holds_52 : decode prog_8_method_35_code 52 = .ok (.baload, 1) := by decide +kernel
theorem d_Md_holds_53 : decode prog_8_method_35_code 53 = .ok (.ifCond .ne 7, 3) := by decide +kernel
theorem d_Md_holds_56 : decode prog_8_method_35_code 56 = .ok (.iconst 1, 1) := by decide +kernel
theorem d_Md_holds_57 : decode prog_8_method_35_code 57 = .ok (.goto 4, 3) := by decide +kernel
theorem d_Md_holds_60 : decode prog_8_method_35_code 60 = .ok (.iconst 0, 1) := by decide +kernel
theorem d_Md_holds_61 : decode prog_8_method_35_code 61 = .ok (.ireturn, 1) := by decide +kernel
theorem d_Md_inward_0 : decode prog_8_method_36_code 0 = .ok (.iload_n 2, 1) := by decide +kernel
theorem d_Md_inward_1 : decode prog_8_method_36_code 1 = .ok (.bipush 6, 2) := by decide +kernel
theorem d_Md_inward_3 : decode prog_8_method_36_code 3 = .ok (.if_icmp .lt 18, 3) := by decide +kernel
theorem d_Md_inward_6 : decode prog_8_method_36_code 6 = .ok (.iload_n 2, 1) := by decide +kernel
theorem d_Md_inward_7 : decode prog_8_method_36_code 7 = .ok (.iconst 2, 1) := by decide +kernel
theorem d_Md_inward_8 : decode prog_8_method_36_code 8 = .ok (.irem, 1) := by decide +kernel
theorem d_Md_inward_9 : decode prog_8_method_36_code 9 = .ok (.iconst 1, 1) := by decide +kernel
theorem d_Md_inward_10 : decode prog_8_method_36_code 10 = .ok (.if_icmp .ne 7, 3) := by decide +kernel
theorem d_Md_inward_13 : decode prog_8_method_36_code 13 = .ok (.iconst 1, 1) := by decide +kernel
theorem d_Md_inward_14 : decode prog_8_method_36_code 14 = .ok (.goto 25, 3) := by decide +kernel
theorem d_Md_inward_17 : decode prog_8_method_36_code 17 = .ok (.iconst 0, 1) := by decide +kernel
theorem d_Md_inward_18 : decode prog_8_method_36_code 18 = .ok (.goto 21, 3) := by decide +kernel
theorem d_Md_inward_21 : decode prog_8_method_36_code 21 = .ok (.aload_n 0, 1) := by decide +kernel
theorem d_Md_inward_22 : decode prog_8_method_36_code 22 = .ok (.getfield 41, 3) := by decide +kernel
theorem d_Md_inward_25 : decode prog_8_method_36_code 25 = .ok (.iload_n 1, 1) := by decide +kernel
theorem d_Md_inward_26 : decode prog_8_method_36_code 26 = .ok (.iaload, 1) := by decide +kernel
theorem d_Md_inward_27 : decode prog_8_method_36_code 27 = .ok (.iload_n 2, 1) := by decide +kernel
theorem d_Md_inward_28 : decode prog_8_method_36_code 28 = .ok (.ishr, 1) := by decide +kernel
theorem d_Md_inward_29 : decode prog_8_method_36_code 29 = .ok (.iconst 1, 1) := by decide +kernel
theorem d_Md_inward_30 : decode prog_8_method_36_code 30 = .ok (.iand, 1) := by decide +kernel
theorem d_Md_inward_31 : decode prog_8_method_36_code 31 = .ok (.ifCond .ne 7, 3) := by decide +kernel
theorem d_Md_inward_34 : decode prog_8_method_36_code 34 = .ok (.iconst 1, 1) := by decide +kernel
theorem d_Md_inward_35 : decode prog_8_method_36_code 35 = .ok (.goto 4, 3) := by decide +kernel
theorem d_Md_inward_38 : decode prog_8_method_36_code 38 = .ok (.iconst 0, 1) := by decide +kernel
theorem d_Md_inward_39 : decode prog_8_method_36_code 39 = .ok (.istore 4, 2) := by decide +kernel
theorem d_Md_inward_41 : decode prog_8_method_36_code 41 = .ok (.iconst 0, 1) := by decide +kernel
theorem d_Md_inward_42 : decode prog_8_method_36_code 42 = .ok (.istore 5, 2) := by decide +kernel
theorem d_Md_inward_44 : decode prog_8_method_36_code 44 = .ok (.iload 5, 2) := by decide +kernel
theorem d_Md_inward_46 : decode prog_8_method_36_code 46 = .ok (.iconst 3, 1) := by decide +kernel
theorem d_Md_inward_47 : decode prog_8_method_36_code 47 = .ok (.if_icmp .ge 44, 3) := by decide +kernel
theorem d_Md_inward_50 : decode prog_8_method_36_code 50 = .ok (.aload_n 3, 1) := by decide +kernel
theorem d_Md_inward_51 : decode prog_8_method_36_code 51 = .ok (.iload 5, 2) := by decide +kernel
theorem d_Md_inward_53 : decode prog_8_method_36_code 53 = .ok (.iload 4, 2) := by decide +kernel
theorem d_Md_inward_55 : decode prog_8_method_36_code 55 = .ok (.ifCond .eq 18, 3) := by decide +kernel
theorem d_Md_inward_58 : decode prog_8_method_36_code 58 = .ok (.aload_n 0, 1) := by decide +kernel
theorem d_Md_inward_59 : decode prog_8_method_36_code 59 = .ok (.getfield 13, 3) := by decide +kernel
theorem d_Md_inward_62 : decode prog_8_method_36_code 62 = .ok (.iconst 4, 1) := by decide +kernel
theorem d_Md_inward_63 : decode prog_8_method_36_code 63 = .ok (.iload_n 2, 1) := by decide +kernel
theorem d_Md_inward_64 : decode prog_8_method_36_code 64 = .ok (.imul, 1) := by decide +kernel
theorem d_Md_inward_65 : decode prog_8_method_36_code 65 = .ok (.iload 5, 2) := by decide +kernel
theorem d_Md_inward_67 : decode prog_8_method_36_code 67 = .ok (.iadd, 1) := by decide +kernel
theorem d_Md_inward_68 : decode prog_8_method_36_code 68 = .ok (.iaload, 1) := by decide +kernel
theorem d_Md_inward_69 : decode prog_8_method_36_code 69 = .ok (.ineg, 1) := by decide +kernel
theorem d_Md_inward_70 : decode prog_8_method_36_code 70 = .ok (.goto 14, 3) := by decide +kernel
theorem d_Md_inward_73 : decode prog_8_method_36_code 73 = .ok (.aload_n 0, 1) := by decide +kernel
theorem d_Md_inward_74 : decode prog_8_method_36_code 74 = .ok (.getfield 13, 3) := by decide +kernel
theorem d_Md_inward_77 : decode prog_8_method_36_code 77 = .ok (.iconst 4, 1) := by decide +kernel
theorem d_Md_inward_78 : decode prog_8_method_36_code 78 = .ok (.iload_n 2, 1) := by decide +kernel
theorem d_Md_inward_79 : decode prog_8_method_36_code 79 = .ok (.imul, 1) := by decide +kernel
theorem d_Md_inward_80 : decode prog_8_method_36_code 80 = .ok (.iload 5, 2) := by decide +kernel
theorem d_Md_inward_82 : decode prog_8_method_36_code 82 = .ok (.iadd, 1) := by decide +kernel
theorem d_Md_inward_83 : decode prog_8_method_36_code 83 = .ok (.iaload, 1) := by decide +kernel
theorem d_Md_inward_84 : decode prog_8_method_36_code 84 = .ok (.iastore, 1) := by decide +kernel
theorem d_Md_inward_85 : decode prog_8_method_36_code 85 = .ok (.iinc 5 1, 3) := by decide +kernel
theorem d_Md_inward_88 : decode prog_8_method_36_code 88 = .ok (.goto (-44), 3) := by decide +kernel
theorem d_Md_inward_91 : decode prog_8_method_36_code 91 = .ok (.return_, 1) := by decide +kernel
theorem d_Md_times_0 : decode prog_8_method_37_code 0 = .ok (.aload_n 0, 1) := by decide +kernel
theorem d_Md_times_1 : decode prog_8_method_37_code 1 = .ok (.iconst 0, 1) := by decide +kernel
theorem d_Md_times_2 : decode prog_8_method_37_code 2 = .ok (.iaload, 1) := by decide +kernel
theorem d_Md_times_3 : decode prog_8_method_37_code 3 = .ok (.aload_n 1, 1) := by decide +kernel
theorem d_Md_times_4 : decode prog_8_method_37_code 4 = .ok (.iconst 0, 1) := by decide +kernel
theorem d_Md_times_5 : decode prog_8_method_37_code 5 = .ok (.iaload, 1) := by decide +kernel
theorem d_Md_times_6 : decode prog_8_method_37_code 6 = .ok (.imul, 1) := by decide +kernel
theorem d_Md_times_7 : decode prog_8_method_37_code 7 = .ok (.aload_n 0, 1) := by decide +kernel
theorem d_Md_times_8 : decode prog_8_method_37_code 8 = .ok (.iconst 1, 1) := by decide +kernel
theorem d_Md_times_9 : decode prog_8_method_37_code 9 = .ok (.iaload, 1) := by decide +kernel
theorem d_Md_times_10 : decode prog_8_method_37_code 10 = .ok (.aload_n 1, 1) := by decide +kernel
theorem d_Md_times_11 : decode prog_8_method_37_code 11 = .ok (.iconst 1, 1) := by decide +kernel
theorem d_Md_times_12 : decode prog_8_method_37_code 12 = .ok (.iaload, 1) := by decide +kernel
theorem d_Md_times_13 : decode prog_8_method_37_code 13 = .ok (.imul, 1) := by decide +kernel
theorem d_Md_times_14 : decode prog_8_method_37_code 14 = .ok (.iadd, 1) := by decide +kernel
theorem d_Md_times_15 : decode prog_8_method_37_code 15 = .ok (.aload_n 0, 1) := by decide +kernel
theorem d_Md_times_16 : decode prog_8_method_37_code 16 = .ok (.iconst 2, 1) := by decide +kernel
theorem d_Md_times_17 : decode prog_8_method_37_code 17 = .ok (.iaload, 1) := by decide +kernel
theorem d_Md_times_18 : decode prog_8_method_37_code 18 = .ok (.aload_n 1, 1) := by decide +kernel
theorem d_Md_times_19 : decode prog_8_method_37_code 19 = .ok (.iconst 2, 1) := by decide +kernel
theorem d_Md_times_20 : decode prog_8_method_37_code 20 = .ok (.iaload, 1) := by decide +kernel
theorem d_Md_times_21 : decode prog_8_method_37_code 21 = .ok (.imul, 1) := by decide +kernel
theorem d_Md_times_22 : decode prog_8_method_37_code 22 = .ok (.iadd, 1) := by decide +kernel
theorem d_Md_times_23 : decode prog_8_method_37_code 23 = .ok (.ireturn, 1) := by decide +kernel
theorem d_Md_take_0 : decode prog_8_method_42_code 0 = .ok (.aload_n 0, 1) := by decide +kernel
theorem d_Md_take_1 : decode prog_8_method_42_code 1 = .ok (.aload_n 0, 1) := by decide +kernel
theorem d_Md_take_2 : decode prog_8_method_42_code 2 = .ok (.iload_n 1, 1) := by decide +kernel
theorem d_Md_take_3 : decode prog_8_method_42_code 3 = .ok (.invokevirtual 152, 3) := by decide +kernel
theorem d_Md_take_6 : decode prog_8_method_42_code 6 = .ok (.ifCond .eq 7, 3) := by decide +kernel
theorem d_Md_take_9 : decode prog_8_method_42_code 9 = .ok (.iconst 0, 1) := by decide +kernel
theorem d_Md_take_10 : decode prog_8_method_42_code 10 = .ok (.goto 4, 3) := by decide +kernel
theorem d_Md_take_13 : decode prog_8_method_42_code 13 = .ok (.iconst 1, 1) := by decide +kernel
theorem d_Md_take_14 : decode prog_8_method_42_code 14 = .ok (.putfield 75, 3) := by decide +kernel
theorem d_Md_take_17 : decode prog_8_method_42_code 17 = .ok (.aload_n 0, 1) := by decide +kernel
theorem d_Md_take_18 : decode prog_8_method_42_code 18 = .ok (.getfield 75, 3) := by decide +kernel
theorem d_Md_take_21 : decode prog_8_method_42_code 21 = .ok (.ifCond .le 7, 3) := by decide +kernel
theorem d_Md_take_24 : decode prog_8_method_42_code 24 = .ok (.iconst 0, 1) := by decide +kernel
theorem d_Md_take_25 : decode prog_8_method_42_code 25 = .ok (.goto 8, 3) := by decide +kernel
theorem d_Md_take_28 : decode prog_8_method_42_code 28 = .ok (.aload_n 0, 1) := by decide +kernel
theorem d_Md_take_29 : decode prog_8_method_42_code 29 = .ok (.iload_n 1, 1) := by decide +kernel
theorem d_Md_take_30 : decode prog_8_method_42_code 30 = .ok (.invokevirtual 184, 3) := by decide +kernel
theorem d_Md_take_33 : decode prog_8_method_42_code 33 = .ok (.ireturn, 1) := by decide +kernel
theorem d_Md_taking_0 : decode prog_8_method_41_code 0 = .ok (.iconst 0, 1) := by decide +kernel
theorem d_Md_taking_1 : decode prog_8_method_41_code 1 = .ok (.istore_n 2, 1) := by decide +kernel
theorem d_Md_taking_2 : decode prog_8_method_41_code 2 = .ok (.iload_n 2, 1) := by decide +kernel
theorem d_Md_taking_3 : decode prog_8_method_41_code 3 = .ok (.aload_n 0, 1) := by decide +kernel
theorem d_Md_taking_4 : decode prog_8_method_41_code 4 = .ok (.getfield 146, 3) := by decide +kernel
theorem d_Md_taking_7 : decode prog_8_method_41_code 7 = .ok (.if_icmp .ge 57, 3) := by decide +kernel
theorem d_Md_taking_10 : decode prog_8_method_41_code 10 = .ok (.aload_n 0, 1) := by decide +kernel
theorem d_Md_taking_11 : decode prog_8_method_41_code 11 = .ok (.iload_n 1, 1) := by decide +kernel
theorem d_Md_taking_12 : decode prog_8_method_41_code 12 = .ok (.iload_n 2, 1) := by decide +kernel
theorem d_Md_taking_13 : decode prog_8_method_41_code 13 = .ok (.invokevirtual 181, 3) := by decide +kernel
theorem d_Md_taking_16 : decode prog_8_method_41_code 16 = .ok (.ifCond .eq 42, 3) := by decide +kernel
theorem d_Md_taking_19 : decode prog_8_method_41_code 19 = .ok (.aload_n 0, 1) := by decide +kernel
theorem d_Md_taking_20 : decode prog_8_method_41_code 20 = .ok (.getfield 47, 3) := by decide +kernel
theorem d_Md_taking_23 : decode prog_8_method_41_code 23 = .ok (.iload_n 1, 1) := by decide +kernel
theorem d_Md_taking_24 : decode prog_8_method_41_code 24 = .ok (.iconst 1, 1) := by decide +kernel
theorem d_Md_taking_25 : decode prog_8_method_41_code 25 = .ok (.bastore, 1) := by decide +kernel
theorem d_Md_taking_26 : decode prog_8_method_41_code 26 = .ok (.aload_n 0, 1) := by decide +kernel
theorem d_Md_taking_27 : decode prog_8_method_41_code 27 = .ok (.getfield 50, 3) := by decide +kernel
theorem d_Md_taking_30 : decode prog_8_method_41_code 30 = .ok (.aload_n 0, 1) := by decide +kernel
theorem d_Md_taking_31 : decode prog_8_method_41_code 31 = .ok (.getfield 114, 3) := by decide +kernel
theorem d_Md_taking_34 : decode prog_8_method_41_code 34 = .ok (.iload_n 1, 1) := by decide +kernel
theorem d_Md_taking_35 : decode prog_8_method_41_code 35 = .ok (.iastore, 1) := by decide +kernel
theorem d_Md_taking_36 : decode prog_8_method_41_code 36 = .ok (.aload_n 0, 1) := by decide +kernel
theorem d_Md_taking_37 : decode prog_8_method_41_code 37 = .ok (.getfield 53, 3) := by decide +kernel
theorem d_Md_taking_40 : decode prog_8_method_41_code 40 = .ok (.aload_n 0, 1) := by decide +kernel
theorem d_Md_taking_41 : decode prog_8_method_41_code 41 = .ok (.getfield 114, 3) := by decide +kernel
theorem d_Md_taking_44 : decode prog_8_method_41_code 44 = .ok (.iload_n 2, 1) := by decide +kernel
theorem d_Md_taking_45 : decode prog_8_method_41_code 45 = .ok (.iastore, 1) := by decide +kernel
theorem d_Md_taking_46 : decode prog_8_method_41_code 46 = .ok (.aload_n 0, 1) := by decide +kernel
theorem d_Md_taking_47 : decode prog_8_method_41_code 47 = .ok (.dup, 1) := by decide +kernel
theorem d_Md_taking_48 : decode prog_8_method_41_code 48 = .ok (.getfield 114, 3) := by decide +kernel
theorem d_Md_taking_51 : decode prog_8_method_41_code 51 = .ok (.iconst 1, 1) := by decide +kernel
theorem d_Md_taking_52 : decode prog_8_method_41_code 52 = .ok (.iadd, 1) := by decide +kernel
theorem d_Md_taking_53 : decode prog_8_method_41_code 53 = .ok (.putfield 114, 3) := by decide +kernel
theorem d_Md_taking_56 : decode prog_8_method_41_code 56 = .ok (.iload_n 2, 1) := by decide +kernel
theorem d_Md_taking_57 : decode prog_8_method_41_code 57 = .ok (.ireturn, 1) := by decide +kernel
theorem d_Md_taking_58 : decode prog_8_method_41_code 58 = .ok (.iinc 2 1, 3) := by decide +kernel
theorem d_Md_taking_61 : decode prog_8_method_41_code 61 = .ok (.goto (-59), 3) := by decide +kernel
theorem d_Md_taking_64 : decode prog_8_method_41_code 64 = .ok (.iconst (-1), 1) := by decide +kernel
theorem d_Md_taking_65 : decode prog_8_method_41_code 65 = .ok (.ireturn, 1) := by decide +kernel
theorem d_Md_order_0 : decode prog_8_method_43_code 0 = .ok (.aload_n 0, 1) := by decide +kernel
theorem d_Md_order_1 : decode prog_8_method_43_code 1 = .ok (.iconst 0, 1) := by decide +kernel
theorem d_Md_order_2 : decode prog_8_method_43_code 2 = .ok (.putfield 75, 3) := by decide +kernel
theorem d_Md_order_5 : decode prog_8_method_43_code 5 = .ok (.iconst 0, 1) := by decide +kernel
theorem d_Md_order_6 : decode prog_8_method_43_code 6 = .ok (.istore_n 1, 1) := by decide +kernel
theorem d_Md_order_7 : decode prog_8_method_43_code 7 = .ok (.iconst 0, 1) := by decide +kernel
theorem d_Md_order_8 : decode prog_8_method_43_code 8 = .ok (.istore_n 2, 1) := by decide +kernel
theorem d_Md_order_9 : decode prog_8_method_43_code 9 = .ok (.iload_n 2, 1) := by decide +kernel
theorem d_Md_order_10 : decode prog_8_method_43_code 10 = .ok (.aload_n 0, 1) := by decide +kernel
theorem d_Md_order_11 : decode prog_8_method_43_code 11 = .ok (.getfield 111, 3) := by decide +kernel
theorem d_Md_order_14 : decode prog_8_method_43_code 14 = .ok (.if_icmp .ge 26, 3) := by decide +kernel
theorem d_Md_order_17 : decode prog_8_method_43_code 17 = .ok (.aload_n 0, 1) := by decide +kernel
theorem d_Md_order_18 : decode prog_8_method_43_code 18 = .ok (.iload_n 2, 1) := by decide +kernel
theorem d_Md_order_19 : decode prog_8_method_43_code 19 = .ok (.invokevirtual 184, 3) := by decide +kernel
theorem d_Md_order_22 : decode prog_8_method_43_code 22 = .ok (.iconst (-1), 1) := by decide +kernel
theorem d_Md_order_23 : decode prog_8_method_43_code 23 = .ok (.if_icmp .eq 11, 3) := by decide +kernel
theorem d_Md_order_26 : decode prog_8_method_43_code 26 = .ok (.iinc 1 1, 3) := by decide +kernel
theorem d_Md_order_29 : decode prog_8_method_43_code 29 = .ok (.iconst 0, 1) := by decide +kernel
theorem d_Md_order_30 : decode prog_8_method_43_code 30 = .ok (.istore_n 2, 1) := by decide +kernel
theorem d_Md_order_31 : decode prog_8_method_43_code 31 = .ok (.goto (-22), 3) := by decide +kernel
theorem d_Md_order_34 : decode prog_8_method_43_code 34 = .ok (.iinc 2 1, 3) := by decide +kernel
theorem d_Md_order_37 : decode prog_8_method_43_code 37 = .ok (.goto (-28), 3) := by decide +kernel
theorem d_Md_order_40 : decode prog_8_method_43_code 40 = .ok (.iload_n 1, 1) := by decide +kernel
theorem d_Md_order_41 : decode prog_8_method_43_code 41 = .ok (.ireturn, 1) := by decide +kernel
theorem d_Md_taken_0 : decode prog_8_method_44_code 0 = .ok (.aload_n 0, 1) := by decide +kernel
theorem d_Md_taken_1 : decode prog_8_method_44_code 1 = .ok (.iload_n 1, 1) := by decide +kernel
theorem d_Md_taken_2 : decode prog_8_method_44_code 2 = .ok (.iconst 0, 1) := by decide +kernel
theorem d_Md_taken_3 : decode prog_8_method_44_code 3 = .ok (.aload_n 0, 1) := by decide +kernel
theorem d_Md_taken_4 : decode prog_8_method_44_code 4 = .ok (.getfield 114, 3) := by decide +kernel
theorem d_Md_taken_7 : decode prog_8_method_44_code 7 = .ok (.iconst 1, 1) := by decide +kernel
theorem d_Md_taken_8 : decode prog_8_method_44_code 8 = .ok (.isub, 1) := by decide +kernel
theorem d_Md_taken_9 : decode prog_8_method_44_code 9 = .ok (.invokestatic 131, 3) := by decide +kernel
theorem d_Md_taken_12 : decode prog_8_method_44_code 12 = .ok (.ifCond .eq 16, 3) := by decide +kernel
theorem d_Md_taken_15 : decode prog_8_method_44_code 15 = .ok (.iload_n 2, 1) := by decide +kernel
theorem d_Md_taken_16 : decode prog_8_method_44_code 16 = .ok (.iconst 0, 1) := by decide +kernel
theorem d_Md_taken_17 : decode prog_8_method_44_code 17 = .ok (.iconst 1, 1) := by decide +kernel
theorem d_Md_taken_18 : decode prog_8_method_44_code 18 = .ok (.invokestatic 131, 3) := by decide +kernel
theorem d_Md_taken_21 : decode prog_8_method_44_code 21 = .ok (.ifCond .eq 7, 3) := by decide +kernel
theorem d_Md_taken_24 : decode prog_8_method_44_code 24 = .ok (.iconst 0, 1) := by decide +kernel
theorem d_Md_taken_25 : decode prog_8_method_44_code 25 = .ok (.goto 4, 3) := by decide +kernel
theorem d_Md_taken_28 : decode prog_8_method_44_code 28 = .ok (.iconst 1, 1) := by decide +kernel
theorem d_Md_taken_29 : decode prog_8_method_44_code 29 = .ok (.putfield 75, 3) := by decide +kernel
theorem d_Md_taken_32 : decode prog_8_method_44_code 32 = .ok (.aload_n 0, 1) := by decide +kernel
theorem d_Md_taken_33 : decode prog_8_method_44_code 33 = .ok (.getfield 75, 3) := by decide +kernel
theorem d_Md_taken_36 : decode prog_8_method_44_code 36 = .ok (.ifCond .le 7, 3) := by decide +kernel
theorem d_Md_taken_39 : decode prog_8_method_44_code 39 = .ok (.iconst 0, 1) := by decide +kernel
theorem d_Md_taken_40 : decode prog_8_method_44_code 40 = .ok (.goto 22, 3) := by decide +kernel
theorem d_Md_taken_43 : decode prog_8_method_44_code 43 = .ok (.iload_n 2, 1) := by decide +kernel
theorem d_Md_taken_44 : decode prog_8_method_44_code 44 = .ok (.ifCond .ne 12, 3) := by decide +kernel
theorem d_Md_taken_47 : decode prog_8_method_44_code 47 = .ok (.aload_n 0, 1) := by decide +kernel
theorem d_Md_taken_48 : decode prog_8_method_44_code 48 = .ok (.getfield 50, 3) := by decide +kernel
theorem d_Md_taken_51 : decode prog_8_method_44_code 51 = .ok (.iload_n 1, 1) := by decide +kernel
theorem d_Md_taken_52 : decode prog_8_method_44_code 52 = .ok (.iaload, 1) := by decide +kernel
theorem d_Md_taken_53 : decode prog_8_method_44_code 53 = .ok (.goto 9, 3) := by decide +kernel
theorem d_Md_taken_56 : decode prog_8_method_44_code 56 = .ok (.aload_n 0, 1) := by decide +kernel
theorem d_Md_taken_57 : decode prog_8_method_44_code 57 = .ok (.getfield 53, 3) := by decide +kernel
theorem d_Md_taken_60 : decode prog_8_method_44_code 60 = .ok (.iload_n 1, 1) := by decide +kernel
theorem d_Md_taken_61 : decode prog_8_method_44_code 61 = .ok (.iaload, 1) := by decide +kernel
theorem d_Md_taken_62 : decode prog_8_method_44_code 62 = .ok (.ireturn, 1) := by decide +kernel
theorem d_Md_back_0 : decode prog_8_method_45_code 0 = .ok (.aload_n 0, 1) := by decide +kernel
theorem d_Md_back_1 : decode prog_8_method_45_code 1 = .ok (.iconst 0, 1) := by decide +kernel
theorem d_Md_back_2 : decode prog_8_method_45_code 2 = .ok (.putfield 75, 3) := by decide +kernel
theorem d_Md_back_5 : decode prog_8_method_45_code 5 = .ok (.aload_n 0, 1) := by decide +kernel
theorem d_Md_back_6 : decode prog_8_method_45_code 6 = .ok (.getfield 114, 3) := by decide +kernel
theorem d_Md_back_9 : decode prog_8_method_45_code 9 = .ok (.istore_n 1, 1) := by decide +kernel
theorem d_Md_back_10 : decode prog_8_method_45_code 10 = .ok (.aload_n 0, 1) := by decide +kernel
theorem d_Md_back_11 : decode prog_8_method_45_code 11 = .ok (.iconst 0, 1) := by decide +kernel
theorem d_Md_back_12 : decode prog_8_method_45_code 12 = .ok (.putfield 114, 3) := by decide +kernel
theorem d_Md_back_15 : decode prog_8_method_45_code 15 = .ok (.iconst 0, 1) := by decide +kernel
theorem d_Md_back_16 : decode prog_8_method_45_code 16 = .ok (.istore_n 2, 1) := by decide +kernel
theorem d_Md_back_17 : decode prog_8_method_45_code 17 = .ok (.iload_n 2, 1) := by decide +kernel
theorem d_Md_back_18 : decode prog_8_method_45_code 18 = .ok (.aload_n 0, 1) := by decide +kernel
theorem d_Md_back_19 : decode prog_8_method_45_code 19 = .ok (.getfield 111, 3) := by decide +kernel
theorem d_Md_back_22 : decode prog_8_method_45_code 22 = .ok (.if_icmp .ge 16, 3) := by decide +kernel
theorem d_Md_back_25 : decode prog_8_method_45_code 25 = .ok (.aload_n 0, 1) := by decide +kernel
theorem d_Md_back_26 : decode prog_8_method_45_code 26 = .ok (.getfield 47, 3) := by decide +kernel
theorem d_Md_back_29 : decode prog_8_method_45_code 29 = .ok (.iload_n 2, 1) := by decide +kernel
theorem d_Md_back_30 : decode prog_8_method_45_code 30 = .ok (.iconst 0, 1) := by decide +kernel
theorem d_Md_back_31 : decode prog_8_method_45_code 31 = .ok (.bastore, 1) := by decide +kernel
theorem d_Md_back_32 : decode prog_8_method_45_code 32 = .ok (.iinc 2 1, 3) := by decide +kernel
theorem d_Md_back_35 : decode prog_8_method_45_code 35 = .ok (.goto (-18), 3) := by decide +kernel
theorem d_Md_back_38 : decode prog_8_method_45_code 38 = .ok (.iload_n 1, 1) := by decide +kernel
theorem d_Md_back_39 : decode prog_8_method_45_code 39 = .ok (.ireturn, 1) := by decide +kernel
theorem d_Md_mode_0 : decode prog_8_method_49_code 0 = .ok (.aload_n 0, 1) := by decide +kernel
theorem d_Md_mode_1 : decode prog_8_method_49_code 1 = .ok (.aload_n 0, 1) := by decide +kernel
theorem d_Md_mode_2 : decode prog_8_method_49_code 2 = .ok (.iload_n 1, 1) := by decide +kernel
theorem d_Md_mode_3 : decode prog_8_method_49_code 3 = .ok (.invokevirtual 152, 3) := by decide +kernel
theorem d_Md_mode_6 : decode prog_8_method_49_code 6 = .ok (.ifCond .eq 7, 3) := by decide +kernel
theorem d_Md_mode_9 : decode prog_8_method_49_code 9 = .ok (.iconst 0, 1) := by decide +kernel
theorem d_Md_mode_10 : decode prog_8_method_49_code 10 = .ok (.goto 4, 3) := by decide +kernel
theorem d_Md_mode_13 : decode prog_8_method_49_code 13 = .ok (.iconst 1, 1) := by decide +kernel
theorem d_Md_mode_14 : decode prog_8_method_49_code 14 = .ok (.putfield 75, 3) := by decide +kernel
theorem d_Md_mode_17 : decode prog_8_method_49_code 17 = .ok (.aload_n 0, 1) := by decide +kernel
theorem d_Md_mode_18 : decode prog_8_method_49_code 18 = .ok (.getfield 75, 3) := by decide +kernel
theorem d_Md_mode_21 : decode prog_8_method_49_code 21 = .ok (.ifCond .le 5, 3) := by decide +kernel
theorem d_Md_mode_24 : decode prog_8_method_49_code 24 = .ok (.iconst 0, 1) := by decide +kernel
theorem d_Md_mode_25 : decode prog_8_method_49_code 25 = .ok (.ireturn, 1) := by decide +kernel
theorem d_Md_mode_26 : decode prog_8_method_49_code 26 = .ok (.aload_n 0, 1) := by decide +kernel
theorem d_Md_mode_27 : decode prog_8_method_49_code 27 = .ok (.getfield 47, 3) := by decide +kernel
theorem d_Md_mode_30 : decode prog_8_method_49_code 30 = .ok (.iload_n 1, 1) := by decide +kernel
theorem d_Md_mode_31 : decode prog_8_method_49_code 31 = .ok (.baload, 1) := by decide +kernel
theorem d_Md_mode_32 : decode prog_8_method_49_code 32 = .ok (.ifCond .eq 5, 3) := by decide +kernel
theorem d_Md_mode_35 : decode prog_8_method_49_code 35 = .ok (.iconst (-1), 1) := by decide +kernel
theorem d_Md_mode_36 : decode prog_8_method_49_code 36 = .ok (.ireturn, 1) := by decide +kernel
theorem d_Md_mode_37 : decode prog_8_method_49_code 37 = .ok (.iconst 0, 1) := by decide +kernel
theorem d_Md_mode_38 : decode prog_8_method_49_code 38 = .ok (.istore_n 2, 1) := by decide +kernel
theorem d_Md_mode_39 : decode prog_8_method_49_code 39 = .ok (.iload_n 2, 1) := by decide +kernel
theorem d_Md_mode_40 : decode prog_8_method_49_code 40 = .ok (.iconst 3, 1) := by decide +kernel
theorem d_Md_mode_41 : decode prog_8_method_49_code 41 = .ok (.if_icmp .ge 21, 3) := by decide +kernel
theorem d_Md_mode_44 : decode prog_8_method_49_code 44 = .ok (.aload_n 0, 1) := by decide +kernel
theorem d_Md_mode_45 : decode prog_8_method_49_code 45 = .ok (.getfield 62, 3) := by decide +kernel
theorem d_Md_mode_48 : decode prog_8_method_49_code 48 = .ok (.iload_n 2, 1) := by decide +kernel
theorem d_Md_mode_49 : decode prog_8_method_49_code 49 = .ok (.aload_n 0, 1) := by decide +kernel
theorem d_Md_mode_50 : decode prog_8_method_49_code 50 = .ok (.getfield 23, 3) := by decide +kernel
theorem d_Md_mode_53 : decode prog_8_method_49_code 53 = .ok (.iload_n 2, 1) := by decide +kernel
theorem d_Md_mode_54 : decode prog_8_method_49_code 54 = .ok (.iaload, 1) := by decide +kernel
theorem d_Md_mode_55 : decode prog_8_method_49_code 55 = .ok (.iastore, 1) := by decide +kernel
theorem d_Md_mode_56 : decode prog_8_method_49_code 56 = .ok (.iinc 2 1, 3) := by decide +kernel
theorem d_Md_mode_59 : decode prog_8_method_49_code 59 = .ok (.goto (-20), 3) := by decide +kernel
theorem d_Md_mode_62 : decode prog_8_method_49_code 62 = .ok (.aload_n 0, 1) := by decide +kernel
theorem d_Md_mode_63 : decode prog_8_method_49_code 63 = .ok (.iload_n 1, 1) := by decide +kernel
theorem d_Md_mode_64 : decode prog_8_method_49_code 64 = .ok (.invokevirtual 178, 3) := by decide +kernel
theorem d_Md_mode_67 : decode prog_8_method_49_code 67 = .ok (.ifCond .eq 5, 3) := by decide +kernel
theorem d_Md_mode_70 : decode prog_8_method_49_code 70 = .ok (.iconst 1, 1) := by decide +kernel
theorem d_Md_mode_71 : decode prog_8_method_49_code 71 = .ok (.ireturn, 1) := by decide +kernel
theorem d_Md_mode_72 : decode prog_8_method_49_code 72 = .ok (.iconst 0, 1) := by decide +kernel
theorem d_Md_mode_73 : decode prog_8_method_49_code 73 = .ok (.istore_n 2, 1) := by decide +kernel
theorem d_Md_mode_74 : decode prog_8_method_49_code 74 = .ok (.iload_n 2, 1) := by decide +kernel
theorem d_Md_mode_75 : decode prog_8_method_49_code 75 = .ok (.bipush 12, 2) := by decide +kernel
theorem d_Md_mode_77 : decode prog_8_method_49_code 77 = .ok (.if_icmp .ge 23, 3) := by decide +kernel
theorem d_Md_mode_80 : decode prog_8_method_49_code 80 = .ok (.aload_n 0, 1) := by decide +kernel
theorem d_Md_mode_81 : decode prog_8_method_49_code 81 = .ok (.iload_n 1, 1) := by decide +kernel
theorem d_Md_mode_82 : decode prog_8_method_49_code 82 = .ok (.iload_n 2, 1) := by decide +kernel
theorem d_Md_mode_83 : decode prog_8_method_49_code 83 = .ok (.invokevirtual 191, 3) := by decide +kernel
theorem d_Md_mode_86 : decode prog_8_method_49_code 86 = .ok (.ifCond .eq 8, 3) := by decide +kernel
theorem d_Md_mode_89 : decode prog_8_method_49_code 89 = .ok (.bipush 10, 2) := by decide +kernel
theorem d_Md_mode_91 : decode prog_8_method_49_code 91 = .ok (.iload_n 2, 1) := by decide +kernel
theorem d_Md_mode_92 : decode prog_8_method_49_code 92 = .ok (.iadd, 1) := by decide +kernel
theorem d_Md_mode_93 : decode prog_8_method_49_code 93 = .ok (.ireturn, 1) := by decide +kernel
theorem d_Md_mode_94 : decode prog_8_method_49_code 94 = .ok (.iinc 2 1, 3) := by decide +kernel
theorem d_Md_mode_97 : decode prog_8_method_49_code 97 = .ok (.goto (-23), 3) := by decide +kernel
theorem d_Md_mode_100 : decode prog_8_method_49_code 100 = .ok (.iconst 0, 1) := by decide +kernel
theorem d_Md_mode_101 : decode prog_8_method_49_code 101 = .ok (.istore_n 2, 1) := by decide +kernel
theorem d_Md_mode_102 : decode prog_8_method_49_code 102 = .ok (.iload_n 2, 1) := by decide +kernel
theorem d_Md_mode_103 : decode prog_8_method_49_code 103 = .ok (.bipush 12, 2) := by decide +kernel
theorem d_Md_mode_105 : decode prog_8_method_49_code 105 = .ok (.if_icmp .ge 45, 3) := by decide +kernel
theorem d_Md_mode_108 : decode prog_8_method_49_code 108 = .ok (.iload_n 2, 1) := by decide +kernel
theorem d_Md_mode_109 : decode prog_8_method_49_code 109 = .ok (.iconst 1, 1) := by decide +kernel
theorem d_Md_mode_110 : decode prog_8_method_49_code 110 = .ok (.iadd, 1) := by decide +kernel
theorem d_Md_mode_111 : decode prog_8_method_49_code 111 = .ok (.istore_n 3, 1) := by decide +kernel
theorem d_Md_mode_112 : decode prog_8_method_49_code 112 = .ok (.iload_n 3, 1) := by decide +kernel
theorem d_Md_mode_113 : decode prog_8_method_49_code 113 = .ok (.bipush 12, 2) := by decide +kernel
theorem d_Md_mode_115 : decode prog_8_method_49_code 115 = .ok (.if_icmp .ge 29, 3) := by decide +kernel
theorem d_Md_mode_118 : decode prog_8_method_49_code 118 = .ok (.aload_n 0, 1) := by decide +kernel
theorem d_Md_mode_119 : decode prog_8_method_49_code 119 = .ok (.iload_n 1, 1) := by decide +kernel
theorem d_Md_mode_120 : decode prog_8_method_49_code 120 = .ok (.iload_n 2, 1) := by decide +kernel
theorem d_Md_mode_121 : decode prog_8_method_49_code 121 = .ok (.iload_n 3, 1) := by decide +kernel
theorem d_Md_mode_122 : decode prog_8_method_49_code 122 = .ok (.invokevirtual 194, 3) := by decide +kernel
theorem d_Md_mode_125 : decode prog_8_method_49_code 125 = .ok (.ifCond .eq 13, 3) := by decide +kernel
theorem d_Md_mode_128 : decode prog_8_method_49_code 128 = .ok (.bipush 100, 2) := by decide +kernel
theorem d_Md_mode_130 : decode prog_8_method_49_code 130 = .ok (.bipush 12, 2) := by decide +kernel
theorem d_Md_mode_132 : decode prog_8_method_49_code 132 = .ok (.iload_n 2, 1) := by decide +kernel
theorem d_Md_mode_133 : decode prog_8_method_49_code 133 = .ok (.imul, 1) := by decide +kernel
theorem d_Md_mode_134 : decode prog_8_method_49_code 134 = .ok (.iadd, 1) := by decide +kernel
theorem d_Md_mode_135 : decode prog_8_method_49_code 135 = .ok (.iload_n 3, 1) := by decide +kernel
theorem d_Md_mode_136 : decode prog_8_method_49_code 136 = .ok (.iadd, 1) := by decide +kernel
theorem d_Md_mode_137 : decode prog_8_method_49_code 137 = .ok (.ireturn, 1) := by decide +kernel
theorem d_Md_mode_138 : decode prog_8_method_49_code 138 = .ok (.iinc 3 1, 3) := by decide +kernel
theorem d_Md_mode_141 : decode prog_8_method_49_code 141 = .ok (.goto (-29), 3) := by decide +kernel
theorem d_Md_mode_144 : decode prog_8_method_49_code 144 = .ok (.iinc 2 1, 3) := by decide +kernel
theorem d_Md_mode_147 : decode prog_8_method_49_code 147 = .ok (.goto (-45), 3) := by decide +kernel
theorem d_Md_mode_150 : decode prog_8_method_49_code 150 = .ok (.iconst 0, 1) := by decide +kernel
theorem d_Md_mode_151 : decode prog_8_method_49_code 151 = .ok (.ireturn, 1) := by decide +kernel
theorem d_Md_slidesOn_0 : decode prog_8_method_47_code 0 = .ok (.aload_n 0, 1) := by decide +kernel
theorem d_Md_slidesOn_1 : decode prog_8_method_47_code 1 = .ok (.iload_n 1, 1) := by decide +kernel
theorem d_Md_slidesOn_2 : decode prog_8_method_47_code 2 = .ok (.iload_n 2, 1) := by decide +kernel
theorem d_Md_slidesOn_3 : decode prog_8_method_47_code 3 = .ok (.invokevirtual 167, 3) := by decide +kernel
theorem d_Md_slidesOn_6 : decode prog_8_method_47_code 6 = .ok (.ifCond .ne 5, 3) := by decide +kernel
theorem d_Md_slidesOn_9 : decode prog_8_method_47_code 9 = .ok (.iconst 0, 1) := by decide +kernel
theorem d_Md_slidesOn_10 : decode prog_8_method_47_code 10 = .ok (.ireturn, 1) := by decide +kernel
theorem d_Md_slidesOn_11 : decode prog_8_method_47_code 11 = .ok (.aload_n 0, 1) := by decide +kernel
theorem d_Md_slidesOn_12 : decode prog_8_method_47_code 12 = .ok (.iload_n 1, 1) := by decide +kernel
theorem d_Md_slidesOn_13 : decode prog_8_method_47_code 13 = .ok (.iload_n 2, 1) := by decide +kernel
theorem d_Md_slidesOn_14 : decode prog_8_method_47_code 14 = .ok (.aload_n 0, 1) := by decide +kernel
theorem d_Md_slidesOn_15 : decode prog_8_method_47_code 15 = .ok (.getfield 56, 3) := by decide +kernel
theorem d_Md_slidesOn_18 : decode prog_8_method_47_code 18 = .ok (.invokevirtual 170, 3) := by decide +kernel
theorem d_Md_slidesOn_21 : decode prog_8_method_47_code 21 = .ok (.aload_n 0, 1) := by decide +kernel
theorem d_Md_slidesOn_22 : decode prog_8_method_47_code 22 = .ok (.aload_n 0, 1) := by decide +kernel
theorem d_Md_slidesOn_23 : decode prog_8_method_47_code 23 = .ok (.getfield 56, 3) := by decide +kernel
theorem d_Md_slidesOn_26 : decode prog_8_method_47_code 26 = .ok (.aload_n 0, 1) := by decide +kernel
theorem d_Md_slidesOn_27 : decode prog_8_method_47_code 27 = .ok (.getfield 62, 3) := by decide +kernel
theorem d_Md_slidesOn_30 : decode prog_8_method_47_code 30 = .ok (.invokevirtual 187, 3) := by decide +kernel
theorem d_Md_slidesOn_33 : decode prog_8_method_47_code 33 = .ok (.aload_n 0, 1) := by decide +kernel
theorem d_Md_slidesOn_34 : decode prog_8_method_47_code 34 = .ok (.getfield 23, 3) := by decide +kernel
theorem d_Md_slidesOn_37 : decode prog_8_method_47_code 37 = .ok (.aload_n 0, 1) := by decide +kernel
theorem d_Md_slidesOn_38 : decode prog_8_method_47_code 38 = .ok (.getfield 56, 3) := by decide +kernel
theorem d_Md_slidesOn_41 : decode prog_8_method_47_code 41 = .ok (.invokestatic 174, 3) := by decide +kernel
theorem d_Md_slidesOn_44 : decode prog_8_method_47_code 44 = .ok (.ifCond .ge 15, 3) := by decide +kernel
theorem d_Md_slidesOn_47 : decode prog_8_method_47_code 47 = .ok (.aload_n 0, 1) := by decide +kernel
theorem d_Md_slidesOn_48 : decode prog_8_method_47_code 48 = .ok (.iload_n 1, 1) := by decide +kernel
theorem d_Md_slidesOn_49 : decode prog_8_method_47_code 49 = .ok (.invokevirtual 178, 3) := by decide +kernel
theorem d_Md_slidesOn_52 : decode prog_8_method_47_code 52 = .ok (.ifCond .eq 7, 3) := by decide +kernel
theorem d_Md_slidesOn_55 : decode prog_8_method_47_code 55 = .ok (.iconst 1, 1) := by decide +kernel
theorem d_Md_slidesOn_56 : decode prog_8_method_47_code 56 = .ok (.goto 4, 3) := by decide +kernel
theorem d_Md_slidesOn_59 : decode prog_8_method_47_code 59 = .ok (.iconst 0, 1) := by decide +kernel
theorem d_Md_slidesOn_60 : decode prog_8_method_47_code 60 = .ok (.ireturn, 1) := by decide +kernel
theorem d_Md_slide_0 : decode prog_8_method_46_code 0 = .ok (.aload_n 1, 1) := by decide +kernel
theorem d_Md_slide_1 : decode prog_8_method_46_code 1 = .ok (.aload_n 1, 1) := by decide +kernel
theorem d_Md_slide_2 : decode prog_8_method_46_code 2 = .ok (.invokestatic 174, 3) := by decide +kernel
theorem d_Md_slide_5 : decode prog_8_method_46_code 5 = .ok (.istore_n 3, 1) := by decide +kernel
theorem d_Md_slide_6 : decode prog_8_method_46_code 6 = .ok (.aload_n 0, 1) := by decide +kernel
theorem d_Md_slide_7 : decode prog_8_method_46_code 7 = .ok (.getfield 23, 3) := by decide +kernel
theorem d_Md_slide_10 : decode prog_8_method_46_code 10 = .ok (.aload_n 1, 1) := by decide +kernel
theorem d_Md_slide_11 : decode prog_8_method_46_code 11 = .ok (.invokestatic 174, 3) := by decide +kernel
theorem d_Md_slide_14 : decode prog_8_method_46_code 14 = .ok (.istore 4, 2) := by decide +kernel
theorem d_Md_slide_16 : decode prog_8_method_46_code 16 = .ok (.iconst 0, 1) := by decide +kernel
theorem d_Md_slide_17 : decode prog_8_method_46_code 17 = .ok (.istore 5, 2) := by decide +kernel
theorem d_Md_slide_19 : decode prog_8_method_46_code 19 = .ok (.iload 5, 2) := by decide +kernel
theorem d_Md_slide_21 : decode prog_8_method_46_code 21 = .ok (.iconst 3, 1) := by decide +kernel
theorem d_Md_slide_22 : decode prog_8_method_46_code 22 = .ok (.if_icmp .ge 30, 3) := by decide +kernel
theorem d_Md_slide_25 : decode prog_8_method_46_code 25 = .ok (.aload_n 2, 1) := by decide +kernel
theorem d_Md_slide_26 : decode prog_8_method_46_code 26 = .ok (.iload 5, 2) := by decide +kernel
theorem d_Md_slide_28 : decode prog_8_method_46_code 28 = .ok (.aload_n 0, 1) := by decide +kernel
theorem d_Md_slide_29 : decode prog_8_method_46_code 29 = .ok (.getfield 23, 3) := by decide +kernel
theorem d_Md_slide_32 : decode prog_8_method_46_code 32 = .ok (.iload 5, 2) := by decide +kernel
theorem d_Md_slide_34 : decode prog_8_method_46_code 34 = .ok (.iaload, 1) := by decide +kernel
theorem d_Md_slide_35 : decode prog_8_method_46_code 35 = .ok (.iload_n 3, 1) := by decide +kernel
theorem d_Md_slide_36 : decode prog_8_method_46_code 36 = .ok (.imul, 1) := by decide +kernel
theorem d_Md_slide_37 : decode prog_8_method_46_code 37 = .ok (.aload_n 1, 1) := by decide +kernel
theorem d_Md_slide_38 : decode prog_8_method_46_code 38 = .ok (.iload 5, 2) := by decide +kernel
theorem d_Md_slide_40 : decode prog_8_method_46_code 40 = .ok (.iaload, 1) := by decide +kernel
theorem d_Md_slide_41 : decode prog_8_method_46_code 41 = .ok (.iload 4, 2) := by decide +kernel
theorem d_Md_slide_43 : decode prog_8_method_46_code 43 = .ok (.imul, 1) := by decide +kernel
theorem d_Md_slide_44 : decode prog_8_method_46_code 44 = .ok (.isub, 1) := by decide +kernel
theorem d_Md_slide_45 : decode prog_8_method_46_code 45 = .ok (.iastore, 1) := by decide +kernel
theorem d_Md_slide_46 : decode prog_8_method_46_code 46 = .ok (.iinc 5 1, 3) := by decide +kernel
theorem d_Md_slide_49 : decode prog_8_method_46_code 49 = .ok (.goto (-30), 3) := by decide +kernel
theorem d_Md_slide_52 : decode prog_8_method_46_code 52 = .ok (.return_, 1) := by decide +kernel
theorem d_Md_slidesAlong_0 : decode prog_8_method_48_code 0 = .ok (.aload_n 0, 1) := by decide +kernel
theorem d_Md_slidesAlong_1 : decode prog_8_method_48_code 1 = .ok (.iload_n 1, 1) := by decide +kernel
theorem d_Md_slidesAlong_2 : decode prog_8_method_48_code 2 = .ok (.iload_n 2, 1) := by decide +kernel
theorem d_Md_slidesAlong_3 : decode prog_8_method_48_code 3 = .ok (.invokevirtual 167, 3) := by decide +kernel
theorem d_Md_slidesAlong_6 : decode prog_8_method_48_code 6 = .ok (.ifCond .eq 12, 3) := by decide +kernel
theorem d_Md_slidesAlong_9 : decode prog_8_method_48_code 9 = .ok (.aload_n 0, 1) := by decide +kernel
theorem d_Md_slidesAlong_10 : decode prog_8_method_48_code 10 = .ok (.iload_n 1, 1) := by decide +kernel
theorem d_Md_slidesAlong_11 : decode prog_8_method_48_code 11 = .ok (.iload_n 3, 1) := by decide +kernel
theorem d_Md_slidesAlong_12 : decode prog_8_method_48_code 12 = .ok (.invokevirtual 167, 3) := by decide +kernel
theorem d_Md_slidesAlong_15 : decode prog_8_method_48_code 15 = .ok (.ifCond .ne 5, 3) := by decide +kernel
theorem d_Md_slidesAlong_18 : decode prog_8_method_48_code 18 = .ok (.iconst 0, 1) := by decide +kernel
theorem d_Md_slidesAlong_19 : decode prog_8_method_48_code 19 = .ok (.ireturn, 1) := by decide +kernel
theorem d_Md_slidesAlong_20 : decode prog_8_method_48_code 20 = .ok (.aload_n 0, 1) := by decide +kernel
theorem d_Md_slidesAlong_21 : decode prog_8_method_48_code 21 = .ok (.iload_n 1, 1) := by decide +kernel
theorem d_Md_slidesAlong_22 : decode prog_8_method_48_code 22 = .ok (.iload_n 2, 1) := by decide +kernel
theorem d_Md_slidesAlong_23 : decode prog_8_method_48_code 23 = .ok (.aload_n 0, 1) := by decide +kernel
theorem d_Md_slidesAlong_24 : decode prog_8_method_48_code 24 = .ok (.getfield 56, 3) := by decide +kernel
theorem d_Md_slidesAlong_27 : decode prog_8_method_48_code 27 = .ok (.invokevirtual 170, 3) := by decide +kernel
theorem d_Md_slidesAlong_30 : decode prog_8_method_48_code 30 = .ok (.aload_n 0, 1) := by decide +kernel
theorem d_Md_slidesAlong_31 : decode prog_8_method_48_code 31 = .ok (.iload_n 1, 1) := by decide +kernel
theorem d_Md_slidesAlong_32 : decode prog_8_method_48_code 32 = .ok (.iload_n 3, 1) := by decide +kernel
theorem d_Md_slidesAlong_33 : decode prog_8_method_48_code 33 = .ok (.aload_n 0, 1) := by decide +kernel
theorem d_Md_slidesAlong_34 : decode prog_8_method_48_code 34 = .ok (.getfield 59, 3) := by decide +kernel
theorem d_Md_slidesAlong_37 : decode prog_8_method_48_code 37 = .ok (.invokevirtual 170, 3) := by decide +kernel
theorem d_Md_slidesAlong_40 : decode prog_8_method_48_code 40 = .ok (.aload_n 0, 1) := by decide +kernel
theorem d_Md_slidesAlong_41 : decode prog_8_method_48_code 41 = .ok (.aload_n 0, 1) := by decide +kernel
theorem d_Md_slidesAlong_42 : decode prog_8_method_48_code 42 = .ok (.getfield 56, 3) := by decide +kernel
theorem d_Md_slidesAlong_45 : decode prog_8_method_48_code 45 = .ok (.aload_n 0, 1) := by decide +kernel
theorem d_Md_slidesAlong_46 : decode prog_8_method_48_code 46 = .ok (.getfield 65, 3) := by decide +kernel
theorem d_Md_slidesAlong_49 : decode prog_8_method_48_code 49 = .ok (.invokevirtual 187, 3) := by decide +kernel
theorem d_Md_slidesAlong_52 : decode prog_8_method_48_code 52 = .ok (.aload_n 0, 1) := by decide +kernel
theorem d_Md_slidesAlong_53 : decode prog_8_method_48_code 53 = .ok (.getfield 65, 3) := by decide +kernel
theorem d_Md_slidesAlong_56 : decode prog_8_method_48_code 56 = .ok (.aload_n 0, 1) := by decide +kernel
theorem d_Md_slidesAlong_57 : decode prog_8_method_48_code 57 = .ok (.getfield 59, 3) := by decide +kernel
theorem d_Md_slidesAlong_60 : decode prog_8_method_48_code 60 = .ok (.invokestatic 174, 3) := by decide +kernel
theorem d_Md_slidesAlong_63 : decode prog_8_method_48_code 63 = .ok (.ifCond .ge 7, 3) := by decide +kernel
theorem d_Md_slidesAlong_66 : decode prog_8_method_48_code 66 = .ok (.iconst 1, 1) := by decide +kernel
theorem d_Md_slidesAlong_67 : decode prog_8_method_48_code 67 = .ok (.goto 4, 3) := by decide +kernel
theorem d_Md_slidesAlong_70 : decode prog_8_method_48_code 70 = .ok (.iconst 0, 1) := by decide +kernel
theorem d_Md_slidesAlong_71 : decode prog_8_method_48_code 71 = .ok (.istore 4, 2) := by decide +kernel
theorem d_Md_slidesAlong_73 : decode prog_8_method_48_code 73 = .ok (.aload_n 0, 1) := by decide +kernel
theorem d_Md_slidesAlong_74 : decode prog_8_method_48_code 74 = .ok (.aload_n 0, 1) := by decide +kernel
theorem d_Md_slidesAlong_75 : decode prog_8_method_48_code 75 = .ok (.getfield 59, 3) := by decide +kernel
theorem d_Md_slidesAlong_78 : decode prog_8_method_48_code 78 = .ok (.aload_n 0, 1) := by decide +kernel
theorem d_Md_slidesAlong_79 : decode prog_8_method_48_code 79 = .ok (.getfield 65, 3) := by decide +kernel
theorem d_Md_slidesAlong_82 : decode prog_8_method_48_code 82 = .ok (.invokevirtual 187, 3) := by decide +kernel
theorem d_Md_slidesAlong_85 : decode prog_8_method_48_code 85 = .ok (.iload 4, 2) := by decide +kernel
theorem d_Md_slidesAlong_87 : decode prog_8_method_48_code 87 = .ok (.ifCond .eq 21, 3) := by decide +kernel
theorem d_Md_slidesAlong_90 : decode prog_8_method_48_code 90 = .ok (.aload_n 0, 1) := by decide +kernel
theorem d_Md_slidesAlong_91 : decode prog_8_method_48_code 91 = .ok (.getfield 65, 3) := by decide +kernel
theorem d_Md_slidesAlong_94 : decode prog_8_method_48_code 94 = .ok (.aload_n 0, 1) := by decide +kernel
theorem d_Md_slidesAlong_95 : decode prog_8_method_48_code 95 = .ok (.getfield 56, 3) := by decide +kernel
theorem d_Md_slidesAlong_98 : decode prog_8_method_48_code 98 = .ok (.invokestatic 174, 3) := by decide +kernel
theorem d_Md_slidesAlong_101 : decode prog_8_method_48_code 101 = .ok (.ifCond .ge 7, 3) := by decide +kernel
theorem d_Md_slidesAlong_104 : decode prog_8_method_48_code 104 = .ok (.iconst 1, 1) := by decide +kernel
theorem d_Md_slidesAlong_105 : decode prog_8_method_48_code 105 = .ok (.goto 4, 3) := by decide +kernel
theorem d_Md_slidesAlong_108 : decode prog_8_method_48_code 108 = .ok (.iconst 0, 1) := by decide +kernel
theorem d_Md_slidesAlong_109 : decode prog_8_method_48_code 109 = .ok (.istore 4, 2) := by decide +kernel
theorem d_Md_slidesAlong_111 : decode prog_8_method_48_code 111 = .ok (.aload_n 0, 1) := by decide +kernel
theorem d_Md_slidesAlong_112 : decode prog_8_method_48_code 112 = .ok (.getfield 62, 3) := by decide +kernel
theorem d_Md_slidesAlong_115 : decode prog_8_method_48_code 115 = .ok (.iconst 0, 1) := by decide +kernel
theorem d_Md_slidesAlong_116 : decode prog_8_method_48_code 116 = .ok (.aload_n 0, 1) := by decide +kernel
theorem d_Md_slidesAlong_117 : decode prog_8_method_48_code 117 = .ok (.getfield 56, 3) := by decide +kernel
theorem d_Md_slidesAlong_120 : decode prog_8_method_48_code 120 = .ok (.iconst 1, 1) := by decide +kernel
theorem d_Md_slidesAlong_121 : decode prog_8_method_48_code 121 = .ok (.iaload, 1) := by decide +kernel
theorem d_Md_slidesAlong_122 : decode prog_8_method_48_code 122 = .ok (.aload_n 0, 1) := by decide +kernel
theorem d_Md_slidesAlong_123 : decode prog_8_method_48_code 123 = .ok (.getfield 59, 3) := by decide +kernel
theorem d_Md_slidesAlong_126 : decode prog_8_method_48_code 126 = .ok (.iconst 2, 1) := by decide +kernel
theorem d_Md_slidesAlong_127 : decode prog_8_method_48_code 127 = .ok (.iaload, 1) := by decide +kernel
theorem d_Md_slidesAlong_128 : decode prog_8_method_48_code 128 = .ok (.imul, 1) := by decide +kernel
theorem d_Md_slidesAlong_129 : decode prog_8_method_48_code 129 = .ok (.aload_n 0, 1) := by decide +kernel
theorem d_Md_slidesAlong_130 : decode prog_8_method_48_code 130 = .ok (.getfield 56, 3) := by decide +kernel
theorem d_Md_slidesAlong_133 : decode prog_8_method_48_code 133 = .ok (.iconst 2, 1) := by decide +kernel
theorem d_Md_slidesAlong_134 : decode prog_8_method_48_code 134 = .ok (.iaload, 1) := by decide +kernel
theorem d_Md_slidesAlong_135 : decode prog_8_method_48_code 135 = .ok (.aload_n 0, 1) := by decide +kernel
theorem d_Md_slidesAlong_136 : decode prog_8_method_48_code 136 = .ok (.getfield 59, 3) := by decide +kernel
theorem d_Md_slidesAlong_139 : decode prog_8_method_48_code 139 = .ok (.iconst 1, 1) := by decide +kernel
theorem d_Md_slidesAlong_140 : decode prog_8_method_48_code 140 = .ok (.iaload, 1) := by decide +kernel
theorem d_Md_slidesAlong_141 : decode prog_8_method_48_code 141 = .ok (.imul, 1) := by decide +kernel
theorem d_Md_slidesAlong_142 : decode prog_8_method_48_code 142 = .ok (.isub, 1) := by decide +kernel
theorem d_Md_slidesAlong_143 : decode prog_8_method_48_code 143 = .ok (.iastore, 1) := by decide +kernel
theorem d_Md_slidesAlong_144 : decode prog_8_method_48_code 144 = .ok (.aload_n 0, 1) := by decide +kernel
theorem d_Md_slidesAlong_145 : decode prog_8_method_48_code 145 = .ok (.getfield 62, 3) := by decide +kernel
theorem d_Md_slidesAlong_148 : decode prog_8_method_48_code 148 = .ok (.iconst 1, 1) := by decide +kernel
theorem d_Md_slidesAlong_149 : decode prog_8_method_48_code 149 = .ok (.aload_n 0, 1) := by decide +kernel
theorem d_Md_slidesAlong_150 : decode prog_8_method_48_code 150 = .ok (.getfield 56, 3) := by decide +kernel
theorem d_Md_slidesAlong_153 : decode prog_8_method_48_code 153 = .ok (.iconst 2, 1) := by decide +kernel
theorem d_Md_slidesAlong_154 : decode prog_8_method_48_code 154 = .ok (.iaload, 1) := by decide +kernel
theorem d_Md_slidesAlong_155 : decode prog_8_method_48_code 155 = .ok (.aload_n 0, 1) := by decide +kernel
theorem d_Md_slidesAlong_156 : decode prog_8_method_48_code 156 = .ok (.getfield 59, 3) := by decide +kernel
theorem d_Md_slidesAlong_159 : decode prog_8_method_48_code 159 = .ok (.iconst 0, 1) := by decide +kernel
theorem d_Md_slidesAlong_160 : decode prog_8_method_48_code 160 = .ok (.iaload, 1) := by decide +kernel
theorem d_Md_slidesAlong_161 : decode prog_8_method_48_code 161 = .ok (.imul, 1) := by decide +kernel
theorem d_Md_slidesAlong_162 : decode prog_8_method_48_code 162 = .ok (.aload_n 0, 1) := by decide +kernel
theorem d_Md_slidesAlong_163 : decode prog_8_method_48_code 163 = .ok (.getfield 56, 3) := by decide +kernel
theorem d_Md_slidesAlong_166 : decode prog_8_method_48_code 166 = .ok (.iconst 0, 1) := by decide +kernel
theorem d_Md_slidesAlong_167 : decode prog_8_method_48_code 167 = .ok (.iaload, 1) := by decide +kernel
theorem d_Md_slidesAlong_168 : decode prog_8_method_48_code 168 = .ok (.aload_n 0, 1) := by decide +kernel
theorem d_Md_slidesAlong_169 : decode prog_8_method_48_code 169 = .ok (.getfield 59, 3) := by decide +kernel
theorem d_Md_slidesAlong_172 : decode prog_8_method_48_code 172 = .ok (.iconst 2, 1) := by decide +kernel
theorem d_Md_slidesAlong_173 : decode prog_8_method_48_code 173 = .ok (.iaload, 1) := by decide +kernel
theorem d_Md_slidesAlong_174 : decode prog_8_method_48_code 174 = .ok (.imul, 1) := by decide +kernel
theorem d_Md_slidesAlong_175 : decode prog_8_method_48_code 175 = .ok (.isub, 1) := by decide +kernel
theorem d_Md_slidesAlong_176 : decode prog_8_method_48_code 176 = .ok (.iastore, 1) := by decide +kernel
theorem d_Md_slidesAlong_177 : decode prog_8_method_48_code 177 = .ok (.aload_n 0, 1) := by decide +kernel
theorem d_Md_slidesAlong_178 : decode prog_8_method_48_code 178 = .ok (.getfield 62, 3) := by decide +kernel
theorem d_Md_slidesAlong_181 : decode prog_8_method_48_code 181 = .ok (.iconst 2, 1) := by decide +kernel
theorem d_Md_slidesAlong_182 : decode prog_8_method_48_code 182 = .ok (.aload_n 0, 1) := by decide +kernel
theorem d_Md_slidesAlong_183 : decode prog_8_method_48_code 183 = .ok (.getfield 56, 3) := by decide +kernel
theorem d_Md_slidesAlong_186 : decode prog_8_method_48_code 186 = .ok (.iconst 0, 1) := by decide +kernel
theorem d_Md_slidesAlong_187 : decode prog_8_method_48_code 187 = .ok (.iaload, 1) := by decide +kernel
theorem d_Md_slidesAlong_188 : decode prog_8_method_48_code 188 = .ok (.aload_n 0, 1) := by decide +kernel
theorem d_Md_slidesAlong_189 : decode prog_8_method_48_code 189 = .ok (.getfield 59, 3) := by decide +kernel
theorem d_Md_slidesAlong_192 : decode prog_8_method_48_code 192 = .ok (.iconst 1, 1) := by decide +kernel
theorem d_Md_slidesAlong_193 : decode prog_8_method_48_code 193 = .ok (.iaload, 1) := by decide +kernel
theorem d_Md_slidesAlong_194 : decode prog_8_method_48_code 194 = .ok (.imul, 1) := by decide +kernel
theorem d_Md_slidesAlong_195 : decode prog_8_method_48_code 195 = .ok (.aload_n 0, 1) := by decide +kernel
theorem d_Md_slidesAlong_196 : decode prog_8_method_48_code 196 = .ok (.getfield 56, 3) := by decide +kernel
theorem d_Md_slidesAlong_199 : decode prog_8_method_48_code 199 = .ok (.iconst 1, 1) := by decide +kernel
theorem d_Md_slidesAlong_200 : decode prog_8_method_48_code 200 = .ok (.iaload, 1) := by decide +kernel
theorem d_Md_slidesAlong_201 : decode prog_8_method_48_code 201 = .ok (.aload_n 0, 1) := by decide +kernel
theorem d_Md_slidesAlong_202 : decode prog_8_method_48_code 202 = .ok (.getfield 59, 3) := by decide +kernel
theorem d_Md_slidesAlong_205 : decode prog_8_method_48_code 205 = .ok (.iconst 0, 1) := by decide +kernel
theorem d_Md_slidesAlong_206 : decode prog_8_method_48_code 206 = .ok (.iaload, 1) := by decide +kernel
theorem d_Md_slidesAlong_207 : decode prog_8_method_48_code 207 = .ok (.imul, 1) := by decide +kernel
theorem d_Md_slidesAlong_208 : decode prog_8_method_48_code 208 = .ok (.isub, 1) := by decide +kernel
theorem d_Md_slidesAlong_209 : decode prog_8_method_48_code 209 = .ok (.iastore, 1) := by decide +kernel
theorem d_Md_slidesAlong_210 : decode prog_8_method_48_code 210 = .ok (.aload_n 0, 1) := by decide +kernel
theorem d_Md_slidesAlong_211 : decode prog_8_method_48_code 211 = .ok (.getfield 23, 3) := by decide +kernel
theorem d_Md_slidesAlong_214 : decode prog_8_method_48_code 214 = .ok (.aload_n 0, 1) := by decide +kernel
theorem d_Md_slidesAlong_215 : decode prog_8_method_48_code 215 = .ok (.getfield 62, 3) := by decide +kernel
theorem d_Md_slidesAlong_218 : decode prog_8_method_48_code 218 = .ok (.invokestatic 174, 3) := by decide +kernel
theorem d_Md_slidesAlong_221 : decode prog_8_method_48_code 221 = .ok (.istore 5, 2) := by decide +kernel
theorem d_Md_slidesAlong_223 : decode prog_8_method_48_code 223 = .ok (.iconst 0, 1) := by decide +kernel
theorem d_Md_slidesAlong_224 : decode prog_8_method_48_code 224 = .ok (.istore 6, 2) := by decide +kernel
theorem d_Md_slidesAlong_226 : decode prog_8_method_48_code 226 = .ok (.iload 6, 2) := by decide +kernel
theorem d_Md_slidesAlong_228 : decode prog_8_method_48_code 228 = .ok (.iconst 3, 1) := by decide +kernel
theorem d_Md_slidesAlong_229 : decode prog_8_method_48_code 229 = .ok (.if_icmp .ge 29, 3) := by decide +kernel
theorem d_Md_slidesAlong_232 : decode prog_8_method_48_code 232 = .ok (.iload 5, 2) := by decide +kernel
theorem d_Md_slidesAlong_234 : decode prog_8_method_48_code 234 = .ok (.ifCond .ge 24, 3) := by decide +kernel
theorem d_Md_slidesAlong_237 : decode prog_8_method_48_code 237 = .ok (.aload_n 0, 1) := by decide +kernel
theorem d_Md_slidesAlong_238 : decode prog_8_method_48_code 238 = .ok (.getfield 62, 3) := by decide +kernel
theorem d_Md_slidesAlong_241 : decode prog_8_method_48_code 241 = .ok (.iload 6, 2) := by decide +kernel
theorem d_Md_slidesAlong_243 : decode prog_8_method_48_code 243 = .ok (.aload_n 0, 1) := by decide +kernel
theorem d_Md_slidesAlong_244 : decode prog_8_method_48_code 244 = .ok (.getfield 62, 3) := by decide +kernel
theorem d_Md_slidesAlong_247 : decode prog_8_method_48_code 247 = .ok (.iload 6, 2) := by decide +kernel
theorem d_Md_slidesAlong_249 : decode prog_8_method_48_code 249 = .ok (.iaload, 1) := by decide +kernel
theorem d_Md_slidesAlong_250 : decode prog_8_method_48_code 250 = .ok (.ineg, 1) := by decide +kernel
theorem d_Md_slidesAlong_251 : decode prog_8_method_48_code 251 = .ok (.iastore, 1) := by decide +kernel
theorem d_Md_slidesAlong_252 : decode prog_8_method_48_code 252 = .ok (.iinc 6 1, 3) := by decide +kernel
theorem d_Md_slidesAlong_255 : decode prog_8_method_48_code 255 = .ok (.goto (-29), 3) := by decide +kernel
theorem d_Md_slidesAlong_258 : decode prog_8_method_48_code 258 = .ok (.iload 4, 2) := by decide +kernel
theorem d_Md_slidesAlong_260 : decode prog_8_method_48_code 260 = .ok (.ifCond .eq 20, 3) := by decide +kernel
theorem d_Md_slidesAlong_263 : decode prog_8_method_48_code 263 = .ok (.iload 5, 2) := by decide +kernel
theorem d_Md_slidesAlong_265 : decode prog_8_method_48_code 265 = .ok (.ifCond .eq 15, 3) := by decide +kernel
theorem d_Md_slidesAlong_268 : decode prog_8_method_48_code 268 = .ok (.aload_n 0, 1) := by decide +kernel
theorem d_Md_slidesAlong_269 : decode prog_8_method_48_code 269 = .ok (.iload_n 1, 1) := by decide +kernel
theorem d_Md_slidesAlong_270 : decode prog_8_method_48_code 270 = .ok (.invokevirtual 178, 3) := by decide +kernel
theorem d_Md_slidesAlong_273 : decode prog_8_method_48_code 273 = .ok (.ifCond .eq 7, 3) := by decide +kernel
theorem d_Md_slidesAlong_276 : decode prog_8_method_48_code 276 = .ok (.iconst 1, 1) := by decide +kernel
theorem d_Md_slidesAlong_277 : decode prog_8_method_48_code 277 = .ok (.goto 4, 3) := by decide +kernel
theorem d_Md_slidesAlong_280 : decode prog_8_method_48_code 280 = .ok (.iconst 0, 1) := by decide +kernel
theorem d_Md_slidesAlong_281 : decode prog_8_method_48_code 281 = .ok (.ireturn, 1) := by decide +kernel
theorem d_Md_told_0 : decode prog_8_method_50_code 0 = .ok (.aload_n 0, 1) := by decide +kernel
theorem d_Md_told_1 : decode prog_8_method_50_code 1 = .ok (.iload_n 1, 1) := by decide +kernel
theorem d_Md_told_2 : decode prog_8_method_50_code 2 = .ok (.iconst 0, 1) := by decide +kernel
theorem d_Md_told_3 : decode prog_8_method_50_code 3 = .ok (.iconst 3, 1) := by decide +kernel
theorem d_Md_told_4 : decode prog_8_method_50_code 4 = .ok (.invokestatic 131, 3) := by decide +kernel
theorem d_Md_told_7 : decode prog_8_method_50_code 7 = .ok (.ifCond .eq 7, 3) := by decide +kernel
theorem d_Md_told_10 : decode prog_8_method_50_code 10 = .ok (.iconst 0, 1) := by decide +kernel
theorem d_Md_told_11 : decode prog_8_method_50_code 11 = .ok (.goto 4, 3) := by decide +kernel
theorem d_Md_told_14 : decode prog_8_method_50_code 14 = .ok (.iconst 1, 1) := by decide +kernel
theorem d_Md_told_15 : decode prog_8_method_50_code 15 = .ok (.putfield 75, 3) := by decide +kernel
theorem d_Md_told_18 : decode prog_8_method_50_code 18 = .ok (.aload_n 0, 1) := by decide +kernel
theorem d_Md_told_19 : decode prog_8_method_50_code 19 = .ok (.getfield 75, 3) := by decide +kernel
theorem d_Md_told_22 : decode prog_8_method_50_code 22 = .ok (.ifCond .le 7, 3) := by decide +kernel
theorem d_Md_told_25 : decode prog_8_method_50_code 25 = .ok (.iconst 0, 1) := by decide +kernel
theorem d_Md_told_26 : decode prog_8_method_50_code 26 = .ok (.goto 42, 3) := by decide +kernel
theorem d_Md_told_29 : decode prog_8_method_50_code 29 = .ok (.iload_n 1, 1) := by decide +kernel
theorem d_Md_told_30 : decode prog_8_method_50_code 30 = .ok (.ifCond .ne 10, 3) := by decide +kernel
theorem d_Md_told_33 : decode prog_8_method_50_code 33 = .ok (.aload_n 0, 1) := by decide +kernel
theorem d_Md_told_34 : decode prog_8_method_50_code 34 = .ok (.getfield 83, 3) := by decide +kernel
theorem d_Md_told_37 : decode prog_8_method_50_code 37 = .ok (.goto 31, 3) := by decide +kernel
theorem d_Md_told_40 : decode prog_8_method_50_code 40 = .ok (.iload_n 1, 1) := by decide +kernel
theorem d_Md_told_41 : decode prog_8_method_50_code 41 = .ok (.iconst 1, 1) := by decide +kernel
theorem d_Md_told_42 : decode prog_8_method_50_code 42 = .ok (.if_icmp .ne 10, 3) := by decide +kernel
theorem d_Md_told_45 : decode prog_8_method_50_code 45 = .ok (.aload_n 0, 1) := by decide +kernel
theorem d_Md_told_46 : decode prog_8_method_50_code 46 = .ok (.getfield 146, 3) := by decide +kernel
theorem d_Md_told_49 : decode prog_8_method_50_code 49 = .ok (.goto 19, 3) := by decide +kernel
theorem d_Md_told_52 : decode prog_8_method_50_code 52 = .ok (.iload_n 1, 1) := by decide +kernel
theorem d_Md_told_53 : decode prog_8_method_50_code 53 = .ok (.iconst 2, 1) := by decide +kernel
theorem d_Md_told_54 : decode prog_8_method_50_code 54 = .ok (.if_icmp .ne 10, 3) := by decide +kernel
theorem d_Md_told_57 : decode prog_8_method_50_code 57 = .ok (.aload_n 0, 1) := by decide +kernel
theorem d_Md_told_58 : decode prog_8_method_50_code 58 = .ok (.getfield 114, 3) := by decide +kernel
theorem d_Md_told_61 : decode prog_8_method_50_code 61 = .ok (.goto 7, 3) := by decide +kernel
theorem d_Md_told_64 : decode prog_8_method_50_code 64 = .ok (.aload_n 0, 1) := by decide +kernel
theorem d_Md_told_65 : decode prog_8_method_50_code 65 = .ok (.getfield 94, 3) := by decide +kernel
theorem d_Md_told_68 : decode prog_8_method_50_code 68 = .ok (.ireturn, 1) := by decide +kernel
theorem d_Law_law_0 : decode code 0 = .ok (.new 8, 3) := by decide +kernel
theorem d_Law_law_3 : decode code 3 = .ok (.dup, 1) := by decide +kernel
theorem d_Law_law_4 : decode code 4 = .ok (.aload_n 0, 1) := by decide +kernel
theorem d_Law_law_5 : decode code 5 = .ok (.iconst 0, 1) := by decide +kernel
theorem d_Law_law_6 : decode code 6 = .ok (.invokestatic 58, 3) := by decide +kernel
theorem d_Law_law_9 : decode code 9 = .ok (.aload_n 0, 1) := by decide +kernel
theorem d_Law_law_10 : decode code 10 = .ok (.iconst 1, 1) := by decide +kernel
theorem d_Law_law_11 : decode code 11 = .ok (.invokestatic 58, 3) := by decide +kernel
theorem d_Law_law_14 : decode code 14 = .ok (.aload_n 0, 1) := by decide +kernel
theorem d_Law_law_15 : decode code 15 = .ok (.iconst 2, 1) := by decide +kernel
theorem d_Law_law_16 : decode code 16 = .ok (.invokestatic 58, 3) := by decide +kernel
theorem d_Law_law_19 : decode code 19 = .ok (.invokespecial 64, 3) := by decide +kernel
theorem d_Law_law_22 : decode code 22 = .ok (.astore_n 1, 1) := by decide +kernel
theorem d_Law_law_23 : decode code 23 = .ok (.new 66, 3) := by decide +kernel
theorem d_Law_law_26 : decode code 26 = .ok (.dup, 1) := by decide +kernel
theorem d_Law_law_27 : decode code 27 = .ok (.aload_n 0, 1) := by decide +kernel
theorem d_Law_law_28 : decode code 28 = .ok (.iconst 0, 1) := by decide +kernel
theorem d_Law_law_29 : decode code 29 = .ok (.invokestatic 58, 3) := by decide +kernel
theorem d_Law_law_32 : decode code 32 = .ok (.aload_n 0, 1) := by decide +kernel
theorem d_Law_law_33 : decode code 33 = .ok (.iconst 1, 1) := by decide +kernel
theorem d_Law_law_34 : decode code 34 = .ok (.invokestatic 58, 3) := by decide +kernel
theorem d_Law_law_37 : decode code 37 = .ok (.aload_n 0, 1) := by decide +kernel
theorem d_Law_law_38 : decode code 38 = .ok (.iconst 2, 1) := by decide +kernel
theorem d_Law_law_39 : decode code 39 = .ok (.invokestatic 58, 3) := by decide +kernel
theorem d_Law_law_42 : decode code 42 = .ok (.invokespecial 68, 3) := by decide +kernel
theorem d_Law_law_45 : decode code 45 = .ok (.astore_n 2, 1) := by decide +kernel
theorem d_Law_law_46 : decode code 46 = .ok (.iconst 1, 1) := by decide +kernel
theorem d_Law_law_47 : decode code 47 = .ok (.newarray .long, 2) := by decide +kernel
theorem d_Law_law_49 : decode code 49 = .ok (.astore_n 3, 1) := by decide +kernel
theorem d_Law_law_50 : decode code 50 = .ok (.iconst 3, 1) := by decide +kernel
theorem d_Law_law_51 : decode code 51 = .ok (.istore 4, 2) := by decide +kernel
theorem d_Law_law_53 : decode code 53 = .ok (.iload 4, 2) := by decide +kernel
theorem d_Law_law_55 : decode code 55 = .ok (.aload_n 0, 1) := by decide +kernel
theorem d_Law_law_56 : decode code 56 = .ok (.arraylength, 1) := by decide +kernel
theorem d_Law_law_57 : decode code 57 = .ok (.iconst 5, 1) := by decide +kernel
theorem d_Law_law_58 : decode code 58 = .ok (.isub, 1) := by decide +kernel
theorem d_Law_law_59 : decode code 59 = .ok (.if_icmp .gt 1026, 3) := by decide +kernel
theorem d_Law_law_62 : decode code 62 = .ok (.aload_n 0, 1) := by decide +kernel
theorem d_Law_law_63 : decode code 63 = .ok (.iload 4, 2) := by decide +kernel
theorem d_Law_law_65 : decode code 65 = .ok (.iaload, 1) := by decide +kernel
theorem d_Law_law_66 : decode code 66 = .ok (.bipush 31, 2) := by decide +kernel
theorem d_Law_law_68 : decode code 68 = .ok (.iand, 1) := by decide +kernel
theorem d_Law_law_69 : decode code 69 = .ok (.tableswitch 1010 0 16 #[83, 175, 188, 279, 359, 419, 432, 500, 580, 605, 673, 748, 804, 817, 885, 898, 954], 83) := by decide +kernel
theorem d_Law_law_152 : decode code 152 = .ok (.aload_n 1, 1) := by decide +kernel
theorem d_Law_law_153 : decode code 153 = .ok (.aload_n 0, 1) := by decide +kernel
theorem d_Law_law_154 : decode code 154 = .ok (.iload 4, 2) := by decide +kernel
theorem d_Law_law_156 : decode code 156 = .ok (.iconst 1, 1) := by decide +kernel
theorem d_Law_law_157 : decode code 157 = .ok (.iadd, 1) := by decide +kernel
theorem d_Law_law_158 : decode code 158 = .ok (.iaload, 1) := by decide +kernel
theorem d_Law_law_159 : decode code 159 = .ok (.aload_n 0, 1) := by decide +kernel
theorem d_Law_law_160 : decode code 160 = .ok (.iload 4, 2) := by decide +kernel
theorem d_Law_law_162 : decode code 162 = .ok (.iconst 2, 1) := by decide +kernel
theorem d_Law_law_163 : decode code 163 = .ok (.iadd, 1) := by decide +kernel
theorem d_Law_law_164 : decode code 164 = .ok (.iaload, 1) := by decide +kernel
theorem d_Law_law_165 : decode code 165 = .ok (.aload_n 0, 1) := by decide +kernel
theorem d_Law_law_166 : decode code 166 = .ok (.iload 4, 2) := by decide +kernel
theorem d_Law_law_168 : decode code 168 = .ok (.iconst 3, 1) := by decide +kernel
theorem d_Law_law_169 : decode code 169 = .ok (.iadd, 1) := by decide +kernel
theorem d_Law_law_170 : decode code 170 = .ok (.iaload, 1) := by decide +kernel
theorem d_Law_law_171 : decode code 171 = .ok (.aload_n 0, 1) := by decide +kernel
theorem d_Law_law_172 : decode code 172 = .ok (.iload 4, 2) := by decide +kernel
theorem d_Law_law_174 : decode code 174 = .ok (.iconst 4, 1) := by decide +kernel
theorem d_Law_law_175 : decode code 175 = .ok (.iadd, 1) := by decide +kernel
theorem d_Law_law_176 : decode code 176 = .ok (.iaload, 1) := by decide +kernel
theorem d_Law_law_177 : decode code 177 = .ok (.aload_n 3, 1) := by decide +kernel
theorem d_Law_law_178 : decode code 178 = .ok (.invokestatic 69, 3) := by decide +kernel
theorem d_Law_law_181 : decode code 181 = .ok (.istore 5, 2) := by decide +kernel
theorem d_Law_law_183 : decode code 183 = .ok (.aload_n 2, 1) := by decide +kernel
theorem d_Law_law_184 : decode code 184 = .ok (.aload_n 0, 1) := by decide +kernel
theorem d_Law_law_185 : decode code 185 = .ok (.iload 4, 2) := by decide +kernel
theorem d_Law_law_187 : decode code 187 = .ok (.iconst 1, 1) := by decide +kernel
theorem d_Law_law_188 : decode code 188 = .ok (.iadd, 1) := by decide +kernel
theorem d_Law_law_189 : decode code 189 = .ok (.iaload, 1) := by decide +kernel
theorem d_Law_law_190 : decode code 190 = .ok (.aload_n 0, 1) := by decide +kernel
theorem d_Law_law_191 : decode code 191 = .ok (.iload 4, 2) := by decide +kernel
theorem d_Law_law_193 : decode code 193 = .ok (.iconst 2, 1) := by decide +kernel
theorem d_Law_law_194 : decode code 194 = .ok (.iadd, 1) := by decide +kernel
theorem d_Law_law_195 : decode code 195 = .ok (.iaload, 1) := by decide +kernel
theorem d_Law_law_196 : decode code 196 = .ok (.aload_n 0, 1) := by decide +kernel
theorem d_Law_law_197 : decode code 197 = .ok (.iload 4, 2) := by decide +kernel
theorem d_Law_law_199 : decode code 199 = .ok (.iconst 3, 1) := by decide +kernel
theorem d_Law_law_200 : decode code 200 = .ok (.iadd, 1) := by decide +kernel
theorem d_Law_law_201 : decode code 201 = .ok (.iaload, 1) := by decide +kernel
theorem d_Law_law_202 : decode code 202 = .ok (.aload_n 0, 1) := by decide +kernel
theorem d_Law_law_203 : decode code 203 = .ok (.iload 4, 2) := by decide +kernel
theorem d_Law_law_205 : decode code 205 = .ok (.iconst 4, 1) := by decide +kernel
theorem d_Law_law_206 : decode code 206 = .ok (.iadd, 1) := by decide +kernel
theorem d_Law_law_207 : decode code 207 = .ok (.iaload, 1) := by decide +kernel
theorem d_Law_law_208 : decode code 208 = .ok (.invokevirtual 72, 3) := by decide +kernel
theorem d_Law_law_211 : decode code 211 = .ok (.istore 6, 2) := by decide +kernel
theorem d_Law_law_213 : decode code 213 = .ok (.aload_n 2, 1) := by decide +kernel
theorem d_Law_law_214 : decode code 214 = .ok (.invokevirtual 73, 3) := by decide +kernel
theorem d_Law_law_217 : decode code 217 = .ok (.iload 5, 2) := by decide +kernel
theorem d_Law_law_219 : decode code 219 = .ok (.if_icmp .eq 5, 3) := by decide +kernel
theorem d_Law_law_222 : decode code 222 = .ok (.iconst 0, 1) := by decide +kernel
theorem d_Law_law_223 : decode code 223 = .ok (.ireturn, 1) := by decide +kernel
theorem d_Law_law_224 : decode code 224 = .ok (.iload 5, 2) := by decide +kernel
theorem d_Law_law_226 : decode code 226 = .ok (.ifCond .ne 15, 3) := by decide +kernel
theorem d_Law_law_229 : decode code 229 = .ok (.aload_n 3, 1) := by decide +kernel
theorem d_Law_law_230 : decode code 230 = .ok (.iconst 0, 1) := by decide +kernel
theorem d_Law_law_231 : decode code 231 = .ok (.laload, 1) := by decide +kernel
theorem d_Law_law_232 : decode code 232 = .ok (.iload 6, 2) := by decide +kernel
theorem d_Law_law_234 : decode code 234 = .ok (.i2l, 1) := by decide +kernel
theorem d_Law_law_235 : decode code 235 = .ok (.lcmp, 1) := by decide +kernel
theorem d_Law_law_236 : decode code 236 = .ok (.ifCond .eq 5, 3) := by decide +kernel
theorem d_Law_law_239 : decode code 239 = .ok (.iconst 0, 1) := by decide +kernel
theorem d_Law_law_240 : decode code 240 = .ok (.ireturn, 1) := by decide +kernel
theorem d_Law_law_241 : decode code 241 = .ok (.goto 838, 3) := by decide +kernel
theorem d_Law_law_244 : decode code 244 = .ok (.aload_n 1, 1) := by decide +kernel
theorem d_Law_law_245 : decode code 245 = .ok (.invokevirtual 77, 3) := by decide +kernel
theorem d_Law_law_248 : decode code 248 = .ok (.aload_n 2, 1) := by decide +kernel
theorem d_Law_law_249 : decode code 249 = .ok (.invokevirtual 80, 3) := by decide +kernel
theorem d_Law_law_252 : decode code 252 = .ok (.if_icmp .eq 827, 3) := by decide +kernel
theorem d_Law_law_255 : decode code 255 = .ok (.iconst 0, 1) := by decide +kernel
theorem d_Law_law_256 : decode code 256 = .ok (.ireturn, 1) := by decide +kernel
theorem d_Law_law_257 : decode code 257 = .ok (.aload_n 1, 1) := by decide +kernel
theorem d_Law_law_258 : decode code 258 = .ok (.aload_n 0, 1) := by decide +kernel
theorem d_Law_law_259 : decode code 259 = .ok (.iload 4, 2) := by decide +kernel
theorem d_Law_law_261 : decode code 261 = .ok (.iconst 1, 1) := by decide +kernel
theorem d_Law_law_262 : decode code 262 = .ok (.iadd, 1) := by decide +kernel
theorem d_Law_law_263 : decode code 263 = .ok (.iaload, 1) := by decide +kernel
theorem d_Law_law_264 : decode code 264 = .ok (.aload_n 0, 1) := by decide +kernel
theorem d_Law_law_265 : decode code 265 = .ok (.iload 4, 2) := by decide +kernel
theorem d_Law_law_267 : decode code 267 = .ok (.iconst 2, 1) := by decide +kernel
theorem d_Law_law_268 : decode code 268 = .ok (.iadd, 1) := by decide +kernel
theorem d_Law_law_269 : decode code 269 = .ok (.iaload, 1) := by decide +kernel
theorem d_Law_law_270 : decode code 270 = .ok (.ifCond .eq 7, 3) := by decide +kernel
theorem d_Law_law_273 : decode code 273 = .ok (.iconst 1, 1) := by decide +kernel
theorem d_Law_law_274 : decode code 274 = .ok (.goto 4, 3) := by decide +kernel
theorem d_Law_law_277 : decode code 277 = .ok (.iconst 0, 1) := by decide +kernel
theorem d_Law_law_278 : decode code 278 = .ok (.aload_n 3, 1) := by decide +kernel
theorem d_Law_law_279 : decode code 279 = .ok (.invokestatic 81, 3) := by decide +kernel
theorem d_Law_law_282 : decode code 282 = .ok (.istore 5, 2) := by decide +kernel
theorem d_Law_law_284 : decode code 284 = .ok (.aload_n 2, 1) := by decide +kernel
theorem d_Law_law_285 : decode code 285 = .ok (.aload_n 0, 1) := by decide +kernel
theorem d_Law_law_286 : decode code 286 = .ok (.iload 4, 2) := by decide +kernel
theorem d_Law_law_288 : decode code 288 = .ok (.iconst 1, 1) := by decide +kernel
theorem d_Law_law_289 : decode code 289 = .ok (.iadd, 1) := by decide +kernel
theorem d_Law_law_290 : decode code 290 = .ok (.iaload, 1) := by decide +kernel
theorem d_Law_law_291 : decode code 291 = .ok (.aload_n 0, 1) := by decide +kernel
theorem d_Law_law_292 : decode code 292 = .ok (.iload 4, 2) := by decide +kernel
theorem d_Law_law_294 : decode code 294 = .ok (.iconst 2, 1) := by decide +kernel
theorem d_Law_law_295 : decode code 295 = .ok (.iadd, 1) := by decide +kernel
theorem d_Law_law_296 : decode code 296 = .ok (.iaload, 1) := by decide +kernel
theorem d_Law_law_297 : decode code 297 = .ok (.ifCond .eq 7, 3) := by decide +kernel
theorem d_Law_law_300 : decode code 300 = .ok (.iconst 1, 1) := by decide +kernel
theorem d_Law_law_301 : decode code 301 = .ok (.goto 4, 3) := by decide +kernel
theorem d_Law_law_304 : decode code 304 = .ok (.iconst 0, 1) := by decide +kernel
theorem d_Law_law_305 : decode code 305 = .ok (.invokevirtual 84, 3) := by decide +kernel
theorem d_Law_law_308 : decode code 308 = .ok (.istore 6, 2) := by decide +kernel
theorem d_Law_law_310 : decode code 310 = .ok (.aload_n 2, 1) := by decide +kernel
theorem d_Law_law_311 : decode code 311 = .ok (.invokevirtual 73, 3) := by decide +kernel
theorem d_Law_law_314 : decode code 314 = .ok (.iload 5, 2) := by decide +kernel
theorem d_Law_law_316 : decode code 316 = .ok (.if_icmp .eq 5, 3) := by decide +kernel
theorem d_Law_law_319 : decode code 319 = .ok (.iconst 0, 1) := by decide +kernel
theorem d_Law_law_320 : decode code 320 = .ok (.ireturn, 1) := by decide +kernel
theorem d_Law_law_321 : decode code 321 = .ok (.iload 5, 2) := by decide +kernel
theorem d_Law_law_323 : decode code 323 = .ok (.ifCond .ne 22, 3) := by decide +kernel
theorem d_Law_law_326 : decode code 326 = .ok (.aload_n 3, 1) := by decide +kernel
theorem d_Law_law_327 : decode code 327 = .ok (.iconst 0, 1) := by decide +kernel
theorem d_Law_law_328 : decode code 328 = .ok (.laload, 1) := by decide +kernel
theorem d_Law_law_329 : decode code 329 = .ok (.iload 6, 2) := by decide +kernel
theorem d_Law_law_331 : decode code 331 = .ok (.ifCond .eq 7, 3) := by decide +kernel
theorem d_Law_law_334 : decode code 334 = .ok (.lconst 1, 1) := by decide +kernel
theorem d_Law_law_335 : decode code 335 = .ok (.goto 4, 3) := by decide +kernel
theorem d_Law_law_338 : decode code 338 = .ok (.lconst 0, 1) := by decide +kernel
theorem d_Law_law_339 : decode code 339 = .ok (.lcmp, 1) := by decide +kernel
theorem d_Law_law_340 : decode code 340 = .ok (.ifCond .eq 5, 3) := by decide +kernel
theorem d_Law_law_343 : decode code 343 = .ok (.iconst 0, 1) := by decide +kernel
theorem d_Law_law_344 : decode code 344 = .ok (.ireturn, 1) := by decide +kernel
theorem d_Law_law_345 : decode code 345 = .ok (.goto 734, 3) := by decide +kernel
theorem d_Law_law_348 : decode code 348 = .ok (.aload_n 1, 1) := by decide +kernel
theorem d_Law_law_349 : decode code 349 = .ok (.aload_n 0, 1) := by decide +kernel
theorem d_Law_law_350 : decode code 350 = .ok (.iload 4, 2) := by decide +kernel
theorem d_Law_law_352 : decode code 352 = .ok (.iconst 1, 1) := by decide +kernel
theorem d_Law_law_353 : decode code 353 = .ok (.iadd, 1) := by decide +kernel
theorem d_Law_law_354 : decode code 354 = .ok (.iaload, 1) := by decide +kernel
theorem d_Law_law_355 : decode code 355 = .ok (.aload_n 0, 1) := by decide +kernel
theorem d_Law_law_356 : decode code 356 = .ok (.iload 4, 2) := by decide +kernel
theorem d_Law_law_358 : decode code 358 = .ok (.iconst 2, 1) := by decide +kernel
theorem d_Law_law_359 : decode code 359 = .ok (.iadd, 1) := by decide +kernel
theorem d_Law_law_360 : decode code 360 = .ok (.iaload, 1) := by decide +kernel
theorem d_Law_law_361 : decode code 361 = .ok (.aload_n 0, 1) := by decide +kernel
theorem d_Law_law_362 : decode code 362 = .ok (.iload 4, 2) := by decide +kernel
theorem d_Law_law_364 : decode code 364 = .ok (.iconst 3, 1) := by decide +kernel
theorem d_Law_law_365 : decode code 365 = .ok (.iadd, 1) := by decide +kernel
theorem d_Law_law_366 : decode code 366 = .ok (.iaload, 1) := by decide +kernel
theorem d_Law_law_367 : decode code 367 = .ok (.aload_n 3, 1) := by decide +kernel
theorem d_Law_law_368 : decode code 368 = .ok (.invokestatic 85, 3) := by decide +kernel
theorem d_Law_law_371 : decode code 371 = .ok (.istore 5, 2) := by decide +kernel
theorem d_Law_law_373 : decode code 373 = .ok (.aload_n 2, 1) := by decide +kernel
theorem d_Law_law_374 : decode code 374 = .ok (.aload_n 0, 1) := by decide +kernel
theorem d_Law_law_375 : decode code 375 = .ok (.iload 4, 2) := by decide +kernel
theorem d_Law_law_377 : decode code 377 = .ok (.iconst 1, 1) := by decide +kernel
theorem d_Law_law_378 : decode code 378 = .ok (.iadd, 1) := by decide +kernel
theorem d_Law_law_379 : decode code 379 = .ok (.iaload, 1) := by decide +kernel
theorem d_Law_law_380 : decode code 380 = .ok (.aload_n 0, 1) := by decide +kernel
theorem d_Law_law_381 : decode code 381 = .ok (.iload 4, 2) := by decide +kernel
theorem d_Law_law_383 : decode code 383 = .ok (.iconst 2, 1) := by decide +kernel
theorem d_Law_law_384 : decode code 384 = .ok (.iadd, 1) := by decide +kernel
theorem d_Law_law_385 : decode code 385 = .ok (.iaload, 1) := by decide +kernel
theorem d_Law_law_386 : decode code 386 = .ok (.aload_n 0, 1) := by decide +kernel
theorem d_Law_law_387 : decode code 387 = .ok (.iload 4, 2) := by decide +kernel
theorem d_Law_law_389 : decode code 389 = .ok (.iconst 3, 1) := by decide +kernel
theorem d_Law_law_390 : decode code 390 = .ok (.iadd, 1) := by decide +kernel
theorem d_Law_law_391 : decode code 391 = .ok (.iaload, 1) := by decide +kernel
theorem d_Law_law_392 : decode code 392 = .ok (.invokevirtual 88, 3) := by decide +kernel
theorem d_Law_law_395 : decode code 395 = .ok (.istore 6, 2) := by decide +kernel
theorem d_Law_law_397 : decode code 397 = .ok (.aload_n 2, 1) := by decide +kernel
theorem d_Law_law_398 : decode code 398 = .ok (.invokevirtual 73, 3) := by decide +kernel
theorem d_Law_law_401 : decode code 401 = .ok (.iload 5, 2) := by decide +kernel
theorem d_Law_law_403 : decode code 403 = .ok (.if_icmp .eq 5, 3) := by decide +kernel
theorem d_Law_law_406 : decode code 406 = .ok (.iconst 0, 1) := by decide +kernel
theorem d_Law_law_407 : decode code 407 = .ok (.ireturn, 1) := by decide +kernel
theorem d_Law_law_408 : decode code 408 = .ok (.iload 5, 2) := by decide +kernel
theorem d_Law_law_410 : decode code 410 = .ok (.ifCond .ne 15, 3) := by decide +kernel
theorem d_Law_law_413 : decode code 413 = .ok (.aload_n 3, 1) := by decide +kernel
theorem d_Law_law_414 : decode code 414 = .ok (.iconst 0, 1) := by decide +kernel
theorem d_Law_law_415 : decode code 415 = .ok (.laload, 1) := by decide +kernel
theorem d_Law_law_416 : decode code 416 = .ok (.iload 6, 2) := by decide +kernel
theorem d_Law_law_418 : decode code 418 = .ok (.i2l, 1) := by decide +kernel
theorem d_Law_law_419 : decode code 419 = .ok (.lcmp, 1) := by decide +kernel
theorem d_Law_law_420 : decode code 420 = .ok (.ifCond .eq 5, 3) := by decide +kernel
theorem d_Law_law_423 : decode code 423 = .ok (.iconst 0, 1) := by decide +kernel
theorem d_Law_law_424 : decode code 424 = .ok (.ireturn, 1) := by decide +kernel
theorem d_Law_law_425 : decode code 425 = .ok (.goto 654, 3) := by decide +kernel
theorem d_Law_law_428 : decode code 428 = .ok (.aload_n 1, 1) := by decide +kernel
theorem d_Law_law_429 : decode code 429 = .ok (.aload_n 0, 1) := by decide +kernel
theorem d_Law_law_430 : decode code 430 = .ok (.iload 4, 2) := by decide +kernel
theorem d_Law_law_432 : decode code 432 = .ok (.iconst 1, 1) := by decide +kernel
theorem d_Law_law_433 : decode code 433 = .ok (.iadd, 1) := by decide +kernel
theorem d_Law_law_434 : decode code 434 = .ok (.iaload, 1) := by decide +kernel
theorem d_Law_law_435 : decode code 435 = .ok (.aload_n 0, 1) := by decide +kernel
theorem d_Law_law_436 : decode code 436 = .ok (.iload 4, 2) := by decide +kernel
theorem d_Law_law_438 : decode code 438 = .ok (.iconst 2, 1) := by decide +kernel
theorem d_Law_law_439 : decode code 439 = .ok (.iadd, 1) := by decide +kernel
theorem d_Law_law_440 : decode code 440 = .ok (.iaload, 1) := by decide +kernel
theorem d_Law_law_441 : decode code 441 = .ok (.aload_n 0, 1) := by decide +kernel
theorem d_Law_law_442 : decode code 442 = .ok (.iload 4, 2) := by decide +kernel
theorem d_Law_law_444 : decode code 444 = .ok (.iconst 3, 1) := by decide +kernel
theorem d_Law_law_445 : decode code 445 = .ok (.iadd, 1) := by decide +kernel
theorem d_Law_law_446 : decode code 446 = .ok (.iaload, 1) := by decide +kernel
theorem d_Law_law_447 : decode code 447 = .ok (.invokestatic 89, 3) := by decide +kernel
theorem d_Law_law_450 : decode code 450 = .ok (.istore 5, 2) := by decide +kernel
theorem d_Law_law_452 : decode code 452 = .ok (.aload_n 2, 1) := by decide +kernel
theorem d_Law_law_453 : decode code 453 = .ok (.aload_n 0, 1) := by decide +kernel
theorem d_Law_law_454 : decode code 454 = .ok (.iload 4, 2) := by decide +kernel
theorem d_Law_law_456 : decode code 456 = .ok (.iconst 1, 1) := by decide +kernel
theorem d_Law_law_457 : decode code 457 = .ok (.iadd, 1) := by decide +kernel
theorem d_Law_law_458 : decode code 458 = .ok (.iaload, 1) := by decide +kernel
theorem d_Law_law_459 : decode code 459 = .ok (.aload_n 0, 1) := by decide +kernel
theorem d_Law_law_460 : decode code 460 = .ok (.iload 4, 2) := by decide +kernel
theorem d_Law_law_462 : decode code 462 = .ok (.iconst 2, 1) := by decide +kernel
theorem d_Law_law_463 : decode code 463 = .ok (.iadd, 1) := by decide +kernel
theorem d_Law_law_464 : decode code 464 = .ok (.iaload, 1) := by decide +kernel
theorem d_Law_law_465 : decode code 465 = .ok (.aload_n 0, 1) := by decide +kernel
theorem d_Law_law_466 : decode code 466 = .ok (.iload 4, 2) := by decide +kernel
theorem d_Law_law_468 : decode code 468 = .ok (.iconst 3, 1) := by decide +kernel
theorem d_Law_law_469 : decode code 469 = .ok (.iadd, 1) := by decide +kernel
theorem d_Law_law_470 : decode code 470 = .ok (.iaload, 1) := by decide +kernel
theorem d_Law_law_471 : decode code 471 = .ok (.invokevirtual 92, 3) := by decide +kernel
theorem d_Law_law_474 : decode code 474 = .ok (.aload_n 2, 1) := by decide +kernel
theorem d_Law_law_475 : decode code 475 = .ok (.invokevirtual 73, 3) := by decide +kernel
theorem d_Law_law_478 : decode code 478 = .ok (.iload 5, 2) := by decide +kernel
theorem d_Law_law_480 : decode code 480 = .ok (.if_icmp .eq 5, 3) := by decide +kernel
theorem d_Law_law_483 : decode code 483 = .ok (.iconst 0, 1) := by decide +kernel
theorem d_Law_law_484 : decode code 484 = .ok (.ireturn, 1) := by decide +kernel
theorem d_Law_law_485 : decode code 485 = .ok (.goto 594, 3) := by decide +kernel
theorem d_Law_law_488 : decode code 488 = .ok (.aload_n 1, 1) := by decide +kernel
theorem d_Law_law_489 : decode code 489 = .ok (.invokevirtual 93, 3) := by decide +kernel
theorem d_Law_law_492 : decode code 492 = .ok (.aload_n 2, 1) := by decide +kernel
theorem d_Law_law_493 : decode code 493 = .ok (.invokevirtual 96, 3) := by decide +kernel
theorem d_Law_law_496 : decode code 496 = .ok (.if_icmp .eq 583, 3) := by decide +kernel
theorem d_Law_law_499 : decode code 499 = .ok (.iconst 0, 1) := by decide +kernel
theorem d_Law_law_500 : decode code 500 = .ok (.ireturn, 1) := by decide +kernel
theorem d_Law_law_501 : decode code 501 = .ok (.aload_n 1, 1) := by decide +kernel
theorem d_Law_law_502 : decode code 502 = .ok (.aload_n 0, 1) := by decide +kernel
theorem d_Law_law_503 : decode code 503 = .ok (.iload 4, 2) := by decide +kernel
theorem d_Law_law_505 : decode code 505 = .ok (.iconst 1, 1) := by decide +kernel
theorem d_Law_law_506 : decode code 506 = .ok (.iadd, 1) := by decide +kernel
theorem d_Law_law_507 : decode code 507 = .ok (.iaload, 1) := by decide +kernel
theorem d_Law_law_508 : decode code 508 = .ok (.aload_n 0, 1) := by decide +kernel
theorem d_Law_law_509 : decode code 509 = .ok (.iload 4, 2) := by decide +kernel
theorem d_Law_law_511 : decode code 511 = .ok (.iconst 2, 1) := by decide +kernel
theorem d_Law_law_512 : decode code 512 = .ok (.iadd, 1) := by decide +kernel
theorem d_Law_law_513 : decode code 513 = .ok (.iaload, 1) := by decide +kernel
theorem d_Law_law_514 : decode code 514 = .ok (.aload_n 3, 1) := by decide +kernel
theorem d_Law_law_515 : decode code 515 = .ok (.invokestatic 97, 3) := by decide +kernel
theorem d_Law_law_518 : decode code 518 = .ok (.istore 5, 2) := by decide +kernel
theorem d_Law_law_520 : decode code 520 = .ok (.aload_n 2, 1) := by decide +kernel
theorem d_Law_law_521 : decode code 521 = .ok (.aload_n 0, 1) := by decide +kernel
theorem d_Law_law_522 : decode code 522 = .ok (.iload 4, 2) := by decide +kernel
theorem d_Law_law_524 : decode code 524 = .ok (.iconst 1, 1) := by decide +kernel
theorem d_Law_law_525 : decode code 525 = .ok (.iadd, 1) := by decide +kernel
theorem d_Law_law_526 : decode code 526 = .ok (.iaload, 1) := by decide +kernel
theorem d_Law_law_527 : decode code 527 = .ok (.aload_n 0, 1) := by decide +kernel
theorem d_Law_law_528 : decode code 528 = .ok (.iload 4, 2) := by decide +kernel
theorem d_Law_law_530 : decode code 530 = .ok (.iconst 2, 1) := by decide +kernel
theorem d_Law_law_531 : decode code 531 = .ok (.iadd, 1) := by decide +kernel
theorem d_Law_law_532 : decode code 532 = .ok (.iaload, 1) := by decide +kernel
theorem d_Law_law_533 : decode code 533 = .ok (.invokevirtual 100, 3) := by decide +kernel
theorem d_Law_law_536 : decode code 536 = .ok (.istore 6, 2) := by decide +kernel
theorem d_Law_law_538 : decode code 538 = .ok (.aload_n 2, 1) := by decide +kernel
theorem d_Law_law_539 : decode code 539 = .ok (.invokevirtual 73, 3) := by decide +kernel
theorem d_Law_law_542 : decode code 542 = .ok (.iload 5, 2) := by decide +kernel
theorem d_Law_law_544 : decode code 544 = .ok (.if_icmp .eq 5, 3) := by decide +kernel
theorem d_Law_law_547 : decode code 547 = .ok (.iconst 0, 1) := by decide +kernel
theorem d_Law_law_548 : decode code 548 = .ok (.ireturn, 1) := by decide +kernel
theorem d_Law_law_549 : decode code 549 = .ok (.iload 5, 2) := by decide +kernel
theorem d_Law_law_551 : decode code 551 = .ok (.ifCond .ne 15, 3) := by decide +kernel
theorem d_Law_law_554 : decode code 554 = .ok (.aload_n 3, 1) := by decide +kernel
theorem d_Law_law_555 : decode code 555 = .ok (.iconst 0, 1) := by decide +kernel
theorem d_Law_law_556 : decode code 556 = .ok (.laload, 1) := by decide +kernel
theorem d_Law_law_557 : decode code 557 = .ok (.iload 6, 2) := by decide +kernel
theorem d_Law_law_559 : decode code 559 = .ok (.i2l, 1) := by decide +kernel
theorem d_Law_law_560 : decode code 560 = .ok (.lcmp, 1) := by decide +kernel
theorem d_Law_law_561 : decode code 561 = .ok (.ifCond .eq 5, 3) := by decide +kernel
theorem d_Law_law_564 : decode code 564 = .ok (.iconst 0, 1) := by decide +kernel
theorem d_Law_law_565 : decode code 565 = .ok (.ireturn, 1) := by decide +kernel
theorem d_Law_law_566 : decode code 566 = .ok (.goto 513, 3) := by decide +kernel
theorem d_Law_law_569 : decode code 569 = .ok (.aload_n 1, 1) := by decide +kernel
theorem d_Law_law_570 : decode code 570 = .ok (.aload_n 0, 1) := by decide +kernel
theorem d_Law_law_571 : decode code 571 = .ok (.iload 4, 2) := by decide +kernel
theorem d_Law_law_573 : decode code 573 = .ok (.iconst 1, 1) := by decide +kernel
theorem d_Law_law_574 : decode code 574 = .ok (.iadd, 1) := by decide +kernel
theorem d_Law_law_575 : decode code 575 = .ok (.iaload, 1) := by decide +kernel
theorem d_Law_law_576 : decode code 576 = .ok (.aload_n 0, 1) := by decide +kernel
theorem d_Law_law_577 : decode code 577 = .ok (.iload 4, 2) := by decide +kernel
theorem d_Law_law_579 : decode code 579 = .ok (.iconst 2, 1) := by decide +kernel
theorem d_Law_law_580 : decode code 580 = .ok (.iadd, 1) := by decide +kernel
theorem d_Law_law_581 : decode code 581 = .ok (.iaload, 1) := by decide +kernel
theorem d_Law_law_582 : decode code 582 = .ok (.aload_n 0, 1) := by decide +kernel
theorem d_Law_law_583 : decode code 583 = .ok (.iload 4, 2) := by decide +kernel
theorem d_Law_law_585 : decode code 585 = .ok (.iconst 3, 1) := by decide +kernel
theorem d_Law_law_586 : decode code 586 = .ok (.iadd, 1) := by decide +kernel
theorem d_Law_law_587 : decode code 587 = .ok (.iaload, 1) := by decide +kernel
theorem d_Law_law_588 : decode code 588 = .ok (.aload_n 3, 1) := by decide +kernel
theorem d_Law_law_589 : decode code 589 = .ok (.invokestatic 101, 3) := by decide +kernel
theorem d_Law_law_592 : decode code 592 = .ok (.istore 5, 2) := by decide +kernel
theorem d_Law_law_594 : decode code 594 = .ok (.aload_n 2, 1) := by decide +kernel
theorem d_Law_law_595 : decode code 595 = .ok (.aload_n 0, 1) := by decide +kernel
theorem d_Law_law_596 : decode code 596 = .ok (.iload 4, 2) := by decide +kernel
theorem d_Law_law_598 : decode code 598 = .ok (.iconst 1, 1) := by decide +kernel
theorem d_Law_law_599 : decode code 599 = .ok (.iadd, 1) := by decide +kernel
theorem d_Law_law_600 : decode code 600 = .ok (.iaload, 1) := by decide +kernel
theorem d_Law_law_601 : decode code 601 = .ok (.aload_n 0, 1) := by decide +kernel
theorem d_Law_law_602 : decode code 602 = .ok (.iload 4, 2) := by decide +kernel
theorem d_Law_law_604 : decode code 604 = .ok (.iconst 2, 1) := by decide +kernel
theorem d_Law_law_605 : decode code 605 = .ok (.iadd, 1) := by decide +kernel
theorem d_Law_law_606 : decode code 606 = .ok (.iaload, 1) := by decide +kernel
theorem d_Law_law_607 : decode code 607 = .ok (.aload_n 0, 1) := by decide +kernel
theorem d_Law_law_608 : decode code 608 = .ok (.iload 4, 2) := by decide +kernel
theorem d_Law_law_610 : decode code 610 = .ok (.iconst 3, 1) := by decide +kernel
theorem d_Law_law_611 : decode code 611 = .ok (.iadd, 1) := by decide +kernel
theorem d_Law_law_612 : decode code 612 = .ok (.iaload, 1) := by decide +kernel
theorem d_Law_law_613 : decode code 613 = .ok (.invokevirtual 103, 3) := by decide +kernel
theorem d_Law_law_616 : decode code 616 = .ok (.istore 6, 2) := by decide +kernel
theorem d_Law_law_618 : decode code 618 = .ok (.aload_n 2, 1) := by decide +kernel
theorem d_Law_law_619 : decode code 619 = .ok (.invokevirtual 73, 3) := by decide +kernel
theorem d_Law_law_622 : decode code 622 = .ok (.iload 5, 2) := by decide +kernel
theorem d_Law_law_624 : decode code 624 = .ok (.if_icmp .eq 5, 3) := by decide +kernel
theorem d_Law_law_627 : decode code 627 = .ok (.iconst 0, 1) := by decide +kernel
theorem d_Law_law_628 : decode code 628 = .ok (.ireturn, 1) := by decide +kernel
theorem d_Law_law_629 : decode code 629 = .ok (.iload 5, 2) := by decide +kernel
theorem d_Law_law_631 : decode code 631 = .ok (.ifCond .ne 15, 3) := by decide +kernel
theorem d_Law_law_634 : decode code 634 = .ok (.aload_n 3, 1) := by decide +kernel
theorem d_Law_law_635 : decode code 635 = .ok (.iconst 0, 1) := by decide +kernel
theorem d_Law_law_636 : decode code 636 = .ok (.laload, 1) := by decide +kernel
theorem d_Law_law_637 : decode code 637 = .ok (.iload 6, 2) := by decide +kernel
theorem d_Law_law_639 : decode code 639 = .ok (.i2l, 1) := by decide +kernel
theorem d_Law_law_640 : decode code 640 = .ok (.lcmp, 1) := by decide +kernel
theorem d_Law_law_641 : decode code 641 = .ok (.ifCond .eq 5, 3) := by decide +kernel
theorem d_Law_law_644 : decode code 644 = .ok (.iconst 0, 1) := by decide +kernel
theorem d_Law_law_645 : decode code 645 = .ok (.ireturn, 1) := by decide +kernel
theorem d_Law_law_646 : decode code 646 = .ok (.goto 433, 3) := by decide +kernel
theorem d_Law_law_649 : decode code 649 = .ok (.aload_n 1, 1) := by decide +kernel
theorem d_Law_law_650 : decode code 650 = .ok (.aload_n 0, 1) := by decide +kernel
theorem d_Law_law_651 : decode code 651 = .ok (.iload 4, 2) := by decide +kernel
theorem d_Law_law_653 : decode code 653 = .ok (.iconst 1, 1) := by decide +kernel
theorem d_Law_law_654 : decode code 654 = .ok (.iadd, 1) := by decide +kernel
theorem d_Law_law_655 : decode code 655 = .ok (.iaload, 1) := by decide +kernel
theorem d_Law_law_656 : decode code 656 = .ok (.invokevirtual 104, 3) := by decide +kernel
theorem d_Law_law_659 : decode code 659 = .ok (.aload_n 2, 1) := by decide +kernel
theorem d_Law_law_660 : decode code 660 = .ok (.aload_n 0, 1) := by decide +kernel
theorem d_Law_law_661 : decode code 661 = .ok (.iload 4, 2) := by decide +kernel
theorem d_Law_law_663 : decode code 663 = .ok (.iconst 1, 1) := by decide +kernel
theorem d_Law_law_664 : decode code 664 = .ok (.iadd, 1) := by decide +kernel
theorem d_Law_law_665 : decode code 665 = .ok (.iaload, 1) := by decide +kernel
theorem d_Law_law_666 : decode code 666 = .ok (.invokevirtual 107, 3) := by decide +kernel
theorem d_Law_law_669 : decode code 669 = .ok (.if_icmp .eq 410, 3) := by decide +kernel
theorem d_Law_law_672 : decode code 672 = .ok (.iconst 0, 1) := by decide +kernel
theorem d_Law_law_673 : decode code 673 = .ok (.ireturn, 1) := by decide +kernel
theorem d_Law_law_674 : decode code 674 = .ok (.aload_n 1, 1) := by decide +kernel
theorem d_Law_law_675 : decode code 675 = .ok (.aload_n 0, 1) := by decide +kernel
theorem d_Law_law_676 : decode code 676 = .ok (.iload 4, 2) := by decide +kernel
theorem d_Law_law_678 : decode code 678 = .ok (.iconst 1, 1) := by decide +kernel
theorem d_Law_law_679 : decode code 679 = .ok (.iadd, 1) := by decide +kernel
theorem d_Law_law_680 : decode code 680 = .ok (.iaload, 1) := by decide +kernel
theorem d_Law_law_681 : decode code 681 = .ok (.aload_n 0, 1) := by decide +kernel
theorem d_Law_law_682 : decode code 682 = .ok (.iload 4, 2) := by decide +kernel
theorem d_Law_law_684 : decode code 684 = .ok (.iconst 2, 1) := by decide +kernel
theorem d_Law_law_685 : decode code 685 = .ok (.iadd, 1) := by decide +kernel
theorem d_Law_law_686 : decode code 686 = .ok (.iaload, 1) := by decide +kernel
theorem d_Law_law_687 : decode code 687 = .ok (.aload_n 3, 1) := by decide +kernel
theorem d_Law_law_688 : decode code 688 = .ok (.invokestatic 108, 3) := by decide +kernel
theorem d_Law_law_691 : decode code 691 = .ok (.istore 5, 2) := by decide +kernel
theorem d_Law_law_693 : decode code 693 = .ok (.aload_n 2, 1) := by decide +kernel
theorem d_Law_law_694 : decode code 694 = .ok (.aload_n 0, 1) := by decide +kernel
theorem d_Law_law_695 : decode code 695 = .ok (.iload 4, 2) := by decide +kernel
theorem d_Law_law_697 : decode code 697 = .ok (.iconst 1, 1) := by decide +kernel
theorem d_Law_law_698 : decode code 698 = .ok (.iadd, 1) := by decide +kernel
theorem d_Law_law_699 : decode code 699 = .ok (.iaload, 1) := by decide +kernel
theorem d_Law_law_700 : decode code 700 = .ok (.aload_n 0, 1) := by decide +kernel
theorem d_Law_law_701 : decode code 701 = .ok (.iload 4, 2) := by decide +kernel
theorem d_Law_law_703 : decode code 703 = .ok (.iconst 2, 1) := by decide +kernel
theorem d_Law_law_704 : decode code 704 = .ok (.iadd, 1) := by decide +kernel
theorem d_Law_law_705 : decode code 705 = .ok (.iaload, 1) := by decide +kernel
theorem d_Law_law_706 : decode code 706 = .ok (.invokevirtual 110, 3) := by decide +kernel
theorem d_Law_law_709 : decode code 709 = .ok (.istore 6, 2) := by decide +kernel
theorem d_Law_law_711 : decode code 711 = .ok (.aload_n 2, 1) := by decide +kernel
theorem d_Law_law_712 : decode code 712 = .ok (.invokevirtual 73, 3) := by decide +kernel
theorem d_Law_law_715 : decode code 715 = .ok (.iload 5, 2) := by decide +kernel
theorem d_Law_law_717 : decode code 717 = .ok (.if_icmp .eq 5, 3) := by decide +kernel
theorem d_Law_law_720 : decode code 720 = .ok (.iconst 0, 1) := by decide +kernel
theorem d_Law_law_721 : decode code 721 = .ok (.ireturn, 1) := by decide +kernel
theorem d_Law_law_722 : decode code 722 = .ok (.iload 5, 2) := by decide +kernel
theorem d_Law_law_724 : decode code 724 = .ok (.ifCond .ne 15, 3) := by decide +kernel
theorem d_Law_law_727 : decode code 727 = .ok (.aload_n 3, 1) := by decide +kernel
theorem d_Law_law_728 : decode code 728 = .ok (.iconst 0, 1) := by decide +kernel
theorem d_Law_law_729 : decode code 729 = .ok (.laload, 1) := by decide +kernel
theorem d_Law_law_730 : decode code 730 = .ok (.iload 6, 2) := by decide +kernel
theorem d_Law_law_732 : decode code 732 = .ok (.i2l, 1) := by decide +kernel
theorem d_Law_law_733 : decode code 733 = .ok (.lcmp, 1) := by decide +kernel
theorem d_Law_law_734 : decode code 734 = .ok (.ifCond .eq 5, 3) := by decide +kernel
theorem d_Law_law_737 : decode code 737 = .ok (.iconst 0, 1) := by decide +kernel
theorem d_Law_law_738 : decode code 738 = .ok (.ireturn, 1) := by decide +kernel
theorem d_Law_law_739 : decode code 739 = .ok (.goto 340, 3) := by decide +kernel
theorem d_Law_law_742 : decode code 742 = .ok (.aload_n 1, 1) := by decide +kernel
theorem d_Law_law_743 : decode code 743 = .ok (.aload_n 0, 1) := by decide +kernel
theorem d_Law_law_744 : decode code 744 = .ok (.iload 4, 2) := by decide +kernel
theorem d_Law_law_746 : decode code 746 = .ok (.iconst 1, 1) := by decide +kernel
theorem d_Law_law_747 : decode code 747 = .ok (.iadd, 1) := by decide +kernel
theorem d_Law_law_748 : decode code 748 = .ok (.iaload, 1) := by decide +kernel
theorem d_Law_law_749 : decode code 749 = .ok (.aload_n 0, 1) := by decide +kernel
theorem d_Law_law_750 : decode code 750 = .ok (.iload 4, 2) := by decide +kernel
theorem d_Law_law_752 : decode code 752 = .ok (.iconst 2, 1) := by decide +kernel
theorem d_Law_law_753 : decode code 753 = .ok (.iadd, 1) := by decide +kernel
theorem d_Law_law_754 : decode code 754 = .ok (.iaload, 1) := by decide +kernel
theorem d_Law_law_755 : decode code 755 = .ok (.aload_n 3, 1) := by decide +kernel
theorem d_Law_law_756 : decode code 756 = .ok (.invokestatic 111, 3) := by decide +kernel
theorem d_Law_law_759 : decode code 759 = .ok (.istore 5, 2) := by decide +kernel
theorem d_Law_law_761 : decode code 761 = .ok (.aload_n 2, 1) := by decide +kernel
theorem d_Law_law_762 : decode code 762 = .ok (.aload_n 0, 1) := by decide +kernel
theorem d_Law_law_763 : decode code 763 = .ok (.iload 4, 2) := by decide +kernel
theorem d_Law_law_765 : decode code 765 = .ok (.iconst 1, 1) := by decide +kernel
theorem d_Law_law_766 : decode code 766 = .ok (.iadd, 1) := by decide +kernel
theorem d_Law_law_767 : decode code 767 = .ok (.iaload, 1) := by decide +kernel
theorem d_Law_law_768 : decode code 768 = .ok (.aload_n 0, 1) := by decide +kernel
theorem d_Law_law_769 : decode code 769 = .ok (.iload 4, 2) := by decide +kernel
theorem d_Law_law_771 : decode code 771 = .ok (.iconst 2, 1) := by decide +kernel
theorem d_Law_law_772 : decode code 772 = .ok (.iadd, 1) := by decide +kernel
theorem d_Law_law_773 : decode code 773 = .ok (.iaload, 1) := by decide +kernel
theorem d_Law_law_774 : decode code 774 = .ok (.invokevirtual 113, 3) := by decide +kernel
theorem d_Law_law_777 : decode code 777 = .ok (.istore 6, 2) := by decide +kernel
theorem d_Law_law_779 : decode code 779 = .ok (.aload_n 2, 1) := by decide +kernel
theorem d_Law_law_780 : decode code 780 = .ok (.invokevirtual 73, 3) := by decide +kernel
theorem d_Law_law_783 : decode code 783 = .ok (.iload 5, 2) := by decide +kernel
theorem d_Law_law_785 : decode code 785 = .ok (.if_icmp .eq 5, 3) := by decide +kernel
theorem d_Law_law_788 : decode code 788 = .ok (.iconst 0, 1) := by decide +kernel
theorem d_Law_law_789 : decode code 789 = .ok (.ireturn, 1) := by decide +kernel
theorem d_Law_law_790 : decode code 790 = .ok (.iload 5, 2) := by decide +kernel
theorem d_Law_law_792 : decode code 792 = .ok (.ifCond .ne 22, 3) := by decide +kernel
theorem d_Law_law_795 : decode code 795 = .ok (.aload_n 3, 1) := by decide +kernel
theorem d_Law_law_796 : decode code 796 = .ok (.iconst 0, 1) := by decide +kernel
theorem d_Law_law_797 : decode code 797 = .ok (.laload, 1) := by decide +kernel
theorem d_Law_law_798 : decode code 798 = .ok (.iload 6, 2) := by decide +kernel
theorem d_Law_law_800 : decode code 800 = .ok (.ifCond .eq 7, 3) := by decide +kernel
theorem d_Law_law_803 : decode code 803 = .ok (.lconst 1, 1) := by decide +kernel
theorem d_Law_law_804 : decode code 804 = .ok (.goto 4, 3) := by decide +kernel
theorem d_Law_law_807 : decode code 807 = .ok (.lconst 0, 1) := by decide +kernel
theorem d_Law_law_808 : decode code 808 = .ok (.lcmp, 1) := by decide +kernel
theorem d_Law_law_809 : decode code 809 = .ok (.ifCond .eq 5, 3) := by decide +kernel
theorem d_Law_law_812 : decode code 812 = .ok (.iconst 0, 1) := by decide +kernel
theorem d_Law_law_813 : decode code 813 = .ok (.ireturn, 1) := by decide +kernel
theorem d_Law_law_814 : decode code 814 = .ok (.goto 265, 3) := by decide +kernel
theorem d_Law_law_817 : decode code 817 = .ok (.aload_n 1, 1) := by decide +kernel
theorem d_Law_law_818 : decode code 818 = .ok (.aload_n 0, 1) := by decide +kernel
theorem d_Law_law_819 : decode code 819 = .ok (.iload 4, 2) := by decide +kernel
theorem d_Law_law_821 : decode code 821 = .ok (.iconst 1, 1) := by decide +kernel
theorem d_Law_law_822 : decode code 822 = .ok (.iadd, 1) := by decide +kernel
theorem d_Law_law_823 : decode code 823 = .ok (.iaload, 1) := by decide +kernel
theorem d_Law_law_824 : decode code 824 = .ok (.aload_n 3, 1) := by decide +kernel
theorem d_Law_law_825 : decode code 825 = .ok (.invokestatic 114, 3) := by decide +kernel
theorem d_Law_law_828 : decode code 828 = .ok (.istore 5, 2) := by decide +kernel
theorem d_Law_law_830 : decode code 830 = .ok (.aload_n 2, 1) := by decide +kernel
theorem d_Law_law_831 : decode code 831 = .ok (.aload_n 0, 1) := by decide +kernel
theorem d_Law_law_832 : decode code 832 = .ok (.iload 4, 2) := by decide +kernel
theorem d_Law_law_834 : decode code 834 = .ok (.iconst 1, 1) := by decide +kernel
theorem d_Law_law_835 : decode code 835 = .ok (.iadd, 1) := by decide +kernel
theorem d_Law_law_836 : decode code 836 = .ok (.iaload, 1) := by decide +kernel
theorem d_Law_law_837 : decode code 837 = .ok (.invokevirtual 117, 3) := by decide +kernel
theorem d_Law_law_840 : decode code 840 = .ok (.istore 6, 2) := by decide +kernel
theorem d_Law_law_842 : decode code 842 = .ok (.aload_n 2, 1) := by decide +kernel
theorem d_Law_law_843 : decode code 843 = .ok (.invokevirtual 73, 3) := by decide +kernel
theorem d_Law_law_846 : decode code 846 = .ok (.iload 5, 2) := by decide +kernel
theorem d_Law_law_848 : decode code 848 = .ok (.if_icmp .eq 5, 3) := by decide +kernel
theorem d_Law_law_851 : decode code 851 = .ok (.iconst 0, 1) := by decide +kernel
theorem d_Law_law_852 : decode code 852 = .ok (.ireturn, 1) := by decide +kernel
theorem d_Law_law_853 : decode code 853 = .ok (.iload 5, 2) := by decide +kernel
theorem d_Law_law_855 : decode code 855 = .ok (.ifCond .ne 15, 3) := by decide +kernel
theorem d_Law_law_858 : decode code 858 = .ok (.aload_n 3, 1) := by decide +kernel
theorem d_Law_law_859 : decode code 859 = .ok (.iconst 0, 1) := by decide +kernel
theorem d_Law_law_860 : decode code 860 = .ok (.laload, 1) := by decide +kernel
theorem d_Law_law_861 : decode code 861 = .ok (.iload 6, 2) := by decide +kernel
theorem d_Law_law_863 : decode code 863 = .ok (.i2l, 1) := by decide +kernel
theorem d_Law_law_864 : decode code 864 = .ok (.lcmp, 1) := by decide +kernel
theorem d_Law_law_865 : decode code 865 = .ok (.ifCond .eq 5, 3) := by decide +kernel
theorem d_Law_law_868 : decode code 868 = .ok (.iconst 0, 1) := by decide +kernel
theorem d_Law_law_869 : decode code 869 = .ok (.ireturn, 1) := by decide +kernel
theorem d_Law_law_870 : decode code 870 = .ok (.goto 209, 3) := by decide +kernel
theorem d_Law_law_873 : decode code 873 = .ok (.aload_n 1, 1) := by decide +kernel
theorem d_Law_law_874 : decode code 874 = .ok (.invokevirtual 118, 3) := by decide +kernel
theorem d_Law_law_877 : decode code 877 = .ok (.aload_n 2, 1) := by decide +kernel
theorem d_Law_law_878 : decode code 878 = .ok (.invokevirtual 121, 3) := by decide +kernel
theorem d_Law_law_881 : decode code 881 = .ok (.if_icmp .eq 198, 3) := by decide +kernel
theorem d_Law_law_884 : decode code 884 = .ok (.iconst 0, 1) := by decide +kernel
theorem d_Law_law_885 : decode code 885 = .ok (.ireturn, 1) := by decide +kernel
theorem d_Law_law_886 : decode code 886 = .ok (.aload_n 1, 1) := by decide +kernel
theorem d_Law_law_887 : decode code 887 = .ok (.aload_n 0, 1) := by decide +kernel
theorem d_Law_law_888 : decode code 888 = .ok (.iload 4, 2) := by decide +kernel
theorem d_Law_law_890 : decode code 890 = .ok (.iconst 1, 1) := by decide +kernel
theorem d_Law_law_891 : decode code 891 = .ok (.iadd, 1) := by decide +kernel
theorem d_Law_law_892 : decode code 892 = .ok (.iaload, 1) := by decide +kernel
theorem d_Law_law_893 : decode code 893 = .ok (.aload_n 0, 1) := by decide +kernel
theorem d_Law_law_894 : decode code 894 = .ok (.iload 4, 2) := by decide +kernel
theorem d_Law_law_896 : decode code 896 = .ok (.iconst 2, 1) := by decide +kernel
theorem d_Law_law_897 : decode code 897 = .ok (.iadd, 1) := by decide +kernel
theorem d_Law_law_898 : decode code 898 = .ok (.iaload, 1) := by decide +kernel
theorem d_Law_law_899 : decode code 899 = .ok (.aload_n 3, 1) := by decide +kernel
theorem d_Law_law_900 : decode code 900 = .ok (.invokestatic 122, 3) := by decide +kernel
theorem d_Law_law_903 : decode code 903 = .ok (.istore 5, 2) := by decide +kernel
theorem d_Law_law_905 : decode code 905 = .ok (.aload_n 2, 1) := by decide +kernel
theorem d_Law_law_906 : decode code 906 = .ok (.aload_n 0, 1) := by decide +kernel
theorem d_Law_law_907 : decode code 907 = .ok (.iload 4, 2) := by decide +kernel
theorem d_Law_law_909 : decode code 909 = .ok (.iconst 1, 1) := by decide +kernel
theorem d_Law_law_910 : decode code 910 = .ok (.iadd, 1) := by decide +kernel
theorem d_Law_law_911 : decode code 911 = .ok (.iaload, 1) := by decide +kernel
theorem d_Law_law_912 : decode code 912 = .ok (.aload_n 0, 1) := by decide +kernel
theorem d_Law_law_913 : decode code 913 = .ok (.iload 4, 2) := by decide +kernel
theorem d_Law_law_915 : decode code 915 = .ok (.iconst 2, 1) := by decide +kernel
theorem d_Law_law_916 : decode code 916 = .ok (.iadd, 1) := by decide +kernel
theorem d_Law_law_917 : decode code 917 = .ok (.iaload, 1) := by decide +kernel
theorem d_Law_law_918 : decode code 918 = .ok (.invokevirtual 124, 3) := by decide +kernel
theorem d_Law_law_921 : decode code 921 = .ok (.istore 6, 2) := by decide +kernel
theorem d_Law_law_923 : decode code 923 = .ok (.aload_n 2, 1) := by decide +kernel
theorem d_Law_law_924 : decode code 924 = .ok (.invokevirtual 73, 3) := by decide +kernel
theorem d_Law_law_927 : decode code 927 = .ok (.iload 5, 2) := by decide +kernel
theorem d_Law_law_929 : decode code 929 = .ok (.if_icmp .eq 5, 3) := by decide +kernel
theorem d_Law_law_932 : decode code 932 = .ok (.iconst 0, 1) := by decide +kernel
theorem d_Law_law_933 : decode code 933 = .ok (.ireturn, 1) := by decide +kernel
theorem d_Law_law_934 : decode code 934 = .ok (.iload 5, 2) := by decide +kernel
theorem d_Law_law_936 : decode code 936 = .ok (.ifCond .ne 15, 3) := by decide +kernel
theorem d_Law_law_939 : decode code 939 = .ok (.aload_n 3, 1) := by decide +kernel
theorem d_Law_law_940 : decode code 940 = .ok (.iconst 0, 1) := by decide +kernel
theorem d_Law_law_941 : decode code 941 = .ok (.laload, 1) := by decide +kernel
theorem d_Law_law_942 : decode code 942 = .ok (.iload 6, 2) := by decide +kernel
theorem d_Law_law_944 : decode code 944 = .ok (.i2l, 1) := by decide +kernel
theorem d_Law_law_945 : decode code 945 = .ok (.lcmp, 1) := by decide +kernel
theorem d_Law_law_946 : decode code 946 = .ok (.ifCond .eq 5, 3) := by decide +kernel
theorem d_Law_law_949 : decode code 949 = .ok (.iconst 0, 1) := by decide +kernel
theorem d_Law_law_950 : decode code 950 = .ok (.ireturn, 1) := by decide +kernel
theorem d_Law_law_951 : decode code 951 = .ok (.goto 128, 3) := by decide +kernel
theorem d_Law_law_954 : decode code 954 = .ok (.aload_n 1, 1) := by decide +kernel
theorem d_Law_law_955 : decode code 955 = .ok (.invokevirtual 125, 3) := by decide +kernel
theorem d_Law_law_958 : decode code 958 = .ok (.aload_n 2, 1) := by decide +kernel
theorem d_Law_law_959 : decode code 959 = .ok (.invokevirtual 128, 3) := by decide +kernel
theorem d_Law_law_962 : decode code 962 = .ok (.if_icmp .eq 117, 3) := by decide +kernel
theorem d_Law_law_965 : decode code 965 = .ok (.iconst 0, 1) := by decide +kernel
theorem d_Law_law_966 : decode code 966 = .ok (.ireturn, 1) := by decide +kernel
theorem d_Law_law_967 : decode code 967 = .ok (.aload_n 1, 1) := by decide +kernel
theorem d_Law_law_968 : decode code 968 = .ok (.aload_n 0, 1) := by decide +kernel
theorem d_Law_law_969 : decode code 969 = .ok (.iload 4, 2) := by decide +kernel
theorem d_Law_law_971 : decode code 971 = .ok (.iconst 1, 1) := by decide +kernel
theorem d_Law_law_972 : decode code 972 = .ok (.iadd, 1) := by decide +kernel
theorem d_Law_law_973 : decode code 973 = .ok (.iaload, 1) := by decide +kernel
theorem d_Law_law_974 : decode code 974 = .ok (.aload_n 3, 1) := by decide +kernel
theorem d_Law_law_975 : decode code 975 = .ok (.invokestatic 129, 3) := by decide +kernel
theorem d_Law_law_978 : decode code 978 = .ok (.istore 5, 2) := by decide +kernel
theorem d_Law_law_980 : decode code 980 = .ok (.aload_n 2, 1) := by decide +kernel
theorem d_Law_law_981 : decode code 981 = .ok (.aload_n 0, 1) := by decide +kernel
theorem d_Law_law_982 : decode code 982 = .ok (.iload 4, 2) := by decide +kernel
theorem d_Law_law_984 : decode code 984 = .ok (.iconst 1, 1) := by decide +kernel
theorem d_Law_law_985 : decode code 985 = .ok (.iadd, 1) := by decide +kernel
theorem d_Law_law_986 : decode code 986 = .ok (.iaload, 1) := by decide +kernel
theorem d_Law_law_987 : decode code 987 = .ok (.invokevirtual 131, 3) := by decide +kernel
theorem d_Law_law_990 : decode code 990 = .ok (.istore 6, 2) := by decide +kernel
theorem d_Law_law_992 : decode code 992 = .ok (.aload_n 2, 1) := by decide +kernel
theorem d_Law_law_993 : decode code 993 = .ok (.invokevirtual 73, 3) := by decide +kernel
theorem d_Law_law_996 : decode code 996 = .ok (.iload 5, 2) := by decide +kernel
theorem d_Law_law_998 : decode code 998 = .ok (.if_icmp .eq 5, 3) := by decide +kernel
theorem d_Law_law_1001 : decode code 1001 = .ok (.iconst 0, 1) := by decide +kernel
theorem d_Law_law_1002 : decode code 1002 = .ok (.ireturn, 1) := by decide +kernel
theorem d_Law_law_1003 : decode code 1003 = .ok (.iload 5, 2) := by decide +kernel
theorem d_Law_law_1005 : decode code 1005 = .ok (.ifCond .ne 15, 3) := by decide +kernel
theorem d_Law_law_1008 : decode code 1008 = .ok (.aload_n 3, 1) := by decide +kernel
theorem d_Law_law_1009 : decode code 1009 = .ok (.iconst 0, 1) := by decide +kernel
theorem d_Law_law_1010 : decode code 1010 = .ok (.laload, 1) := by decide +kernel
theorem d_Law_law_1011 : decode code 1011 = .ok (.iload 6, 2) := by decide +kernel
theorem d_Law_law_1013 : decode code 1013 = .ok (.i2l, 1) := by decide +kernel
theorem d_Law_law_1014 : decode code 1014 = .ok (.lcmp, 1) := by decide +kernel
theorem d_Law_law_1015 : decode code 1015 = .ok (.ifCond .eq 5, 3) := by decide +kernel
theorem d_Law_law_1018 : decode code 1018 = .ok (.iconst 0, 1) := by decide +kernel
theorem d_Law_law_1019 : decode code 1019 = .ok (.ireturn, 1) := by decide +kernel
theorem d_Law_law_1020 : decode code 1020 = .ok (.goto 59, 3) := by decide +kernel
theorem d_Law_law_1023 : decode code 1023 = .ok (.aload_n 1, 1) := by decide +kernel
theorem d_Law_law_1024 : decode code 1024 = .ok (.aload_n 0, 1) := by decide +kernel
theorem d_Law_law_1025 : decode code 1025 = .ok (.iload 4, 2) := by decide +kernel
theorem d_Law_law_1027 : decode code 1027 = .ok (.iconst 1, 1) := by decide +kernel
theorem d_Law_law_1028 : decode code 1028 = .ok (.iadd, 1) := by decide +kernel
theorem d_Law_law_1029 : decode code 1029 = .ok (.iaload, 1) := by decide +kernel
theorem d_Law_law_1030 : decode code 1030 = .ok (.aload_n 3, 1) := by decide +kernel
theorem d_Law_law_1031 : decode code 1031 = .ok (.invokestatic 132, 3) := by decide +kernel
theorem d_Law_law_1034 : decode code 1034 = .ok (.istore 5, 2) := by decide +kernel
theorem d_Law_law_1036 : decode code 1036 = .ok (.aload_n 2, 1) := by decide +kernel
theorem d_Law_law_1037 : decode code 1037 = .ok (.aload_n 0, 1) := by decide +kernel
theorem d_Law_law_1038 : decode code 1038 = .ok (.iload 4, 2) := by decide +kernel
theorem d_Law_law_1040 : decode code 1040 = .ok (.iconst 1, 1) := by decide +kernel
theorem d_Law_law_1041 : decode code 1041 = .ok (.iadd, 1) := by decide +kernel
theorem d_Law_law_1042 : decode code 1042 = .ok (.iaload, 1) := by decide +kernel
theorem d_Law_law_1043 : decode code 1043 = .ok (.invokevirtual 134, 3) := by decide +kernel
theorem d_Law_law_1046 : decode code 1046 = .ok (.istore 6, 2) := by decide +kernel
theorem d_Law_law_1048 : decode code 1048 = .ok (.aload_n 2, 1) := by decide +kernel
theorem d_Law_law_1049 : decode code 1049 = .ok (.invokevirtual 73, 3) := by decide +kernel
theorem d_Law_law_1052 : decode code 1052 = .ok (.iload 5, 2) := by decide +kernel
theorem d_Law_law_1054 : decode code 1054 = .ok (.if_icmp .eq 5, 3) := by decide +kernel
theorem d_Law_law_1057 : decode code 1057 = .ok (.iconst 0, 1) := by decide +kernel
theorem d_Law_law_1058 : decode code 1058 = .ok (.ireturn, 1) := by decide +kernel
theorem d_Law_law_1059 : decode code 1059 = .ok (.iload 5, 2) := by decide +kernel
theorem d_Law_law_1061 : decode code 1061 = .ok (.ifCond .ne 15, 3) := by decide +kernel
theorem d_Law_law_1064 : decode code 1064 = .ok (.aload_n 3, 1) := by decide +kernel
theorem d_Law_law_1065 : decode code 1065 = .ok (.iconst 0, 1) := by decide +kernel
theorem d_Law_law_1066 : decode code 1066 = .ok (.laload, 1) := by decide +kernel
theorem d_Law_law_1067 : decode code 1067 = .ok (.iload 6, 2) := by decide +kernel
theorem d_Law_law_1069 : decode code 1069 = .ok (.i2l, 1) := by decide +kernel
theorem d_Law_law_1070 : decode code 1070 = .ok (.lcmp, 1) := by decide +kernel
theorem d_Law_law_1071 : decode code 1071 = .ok (.ifCond .eq 5, 3) := by decide +kernel
theorem d_Law_law_1074 : decode code 1074 = .ok (.iconst 0, 1) := by decide +kernel
theorem d_Law_law_1075 : decode code 1075 = .ok (.ireturn, 1) := by decide +kernel
theorem d_Law_law_1076 : decode code 1076 = .ok (.goto 3, 3) := by decide +kernel
theorem d_Law_law_1079 : decode code 1079 = .ok (.iinc 4 5, 3) := by decide +kernel
theorem d_Law_law_1082 : decode code 1082 = .ok (.goto (-1029), 3) := by decide +kernel
theorem d_Law_law_1085 : decode code 1085 = .ok (.iconst 1, 1) := by decide +kernel
theorem d_Law_law_1086 : decode code 1086 = .ok (.ireturn, 1) := by decide +kernel
end
