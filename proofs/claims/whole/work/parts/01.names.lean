-- ===== PART A: goes FIRST, ahead of the names: the tables' words, and 'selects' of the private methods out of them =====
/-- a private method of a class that the tables say can be made, by its rows of tables_1 -/
def lw_okq (q : MethodName × Nat) : Prop := (q.1.cls ≠ "java/lang/invoke/MethodHandle" ∧ q.1.cls ≠ "java/lang/invoke/VarHandle") ∧ Cond.instantiable q.1.cls q.2 ∈ tables_1 ∧ Cond.privateMethod q.1 ∈ tables_1 ∧ Cond.instanceMethod q.1 ∈ tables_1
theorem lw_p0 : lw_okq (⟨"WedgePlanes$Rock", "addFace", "(I)V"⟩, 17) := ⟨⟨by decide +kernel, by decide +kernel⟩, List.mem_of_getElem? (i := 69) (by decide +kernel), List.mem_of_getElem? (i := 151) (by decide +kernel), List.mem_of_getElem? (i := 152) (by decide +kernel)⟩
theorem lw_p1 : lw_okq (⟨"WedgePlanes$Rock", "meet", "(LWedgePlanes$Plane;LWedgePlanes$Plane;LWedgePlanes$Plane;)V"⟩, 17) := ⟨⟨by decide +kernel, by decide +kernel⟩, List.mem_of_getElem? (i := 69) (by decide +kernel), List.mem_of_getElem? (i := 166) (by decide +kernel), List.mem_of_getElem? (i := 167) (by decide +kernel)⟩
theorem lw_p2 : lw_okq (⟨"WedgePlanes$Rock", "addPoint", "(IIII)V"⟩, 17) := ⟨⟨by decide +kernel, by decide +kernel⟩, List.mem_of_getElem? (i := 69) (by decide +kernel), List.mem_of_getElem? (i := 179) (by decide +kernel), List.mem_of_getElem? (i := 180) (by decide +kernel)⟩
theorem lw_p3 : lw_okq (⟨"WedgePlanes$Rock", "isInBox", "(IIII)Z"⟩, 17) := ⟨⟨by decide +kernel, by decide +kernel⟩, List.mem_of_getElem? (i := 69) (by decide +kernel), List.mem_of_getElem? (i := 183) (by decide +kernel), List.mem_of_getElem? (i := 184) (by decide +kernel)⟩
theorem lw_p4 : lw_okq (⟨"WedgePlanes$Rock", "findBlocks", "()V"⟩, 17) := ⟨⟨by decide +kernel, by decide +kernel⟩, List.mem_of_getElem? (i := 69) (by decide +kernel), List.mem_of_getElem? (i := 198) (by decide +kernel), List.mem_of_getElem? (i := 199) (by decide +kernel)⟩
theorem lw_p5 : lw_okq (⟨"WedgePlanes$Rock", "findBlock", "(I)V"⟩, 17) := ⟨⟨by decide +kernel, by decide +kernel⟩, List.mem_of_getElem? (i := 69) (by decide +kernel), List.mem_of_getElem? (i := 202) (by decide +kernel), List.mem_of_getElem? (i := 203) (by decide +kernel)⟩
theorem lw_p6 : lw_okq (⟨"WedgePlanes$Rock", "addBlock", "(III)V"⟩, 17) := ⟨⟨by decide +kernel, by decide +kernel⟩, List.mem_of_getElem? (i := 69) (by decide +kernel), List.mem_of_getElem? (i := 210) (by decide +kernel), List.mem_of_getElem? (i := 211) (by decide +kernel)⟩
theorem lw_p7 : lw_okq (⟨"WedgePlanes", "putAllBack", "()V"⟩, 10) := ⟨⟨by decide +kernel, by decide +kernel⟩, List.mem_of_getElem? (i := 17) (by decide +kernel), List.mem_of_getElem? (i := 310) (by decide +kernel), List.mem_of_getElem? (i := 311) (by decide +kernel)⟩
theorem lw_p8 : lw_okq (⟨"WedgePlanes", "takeLeast", "()Z"⟩, 10) := ⟨⟨by decide +kernel, by decide +kernel⟩, List.mem_of_getElem? (i := 17) (by decide +kernel), List.mem_of_getElem? (i := 334) (by decide +kernel), List.mem_of_getElem? (i := 335) (by decide +kernel)⟩
theorem lw_p9 : lw_okq (⟨"WedgePlanes", "leastDirection", "(I)I"⟩, 10) := ⟨⟨by decide +kernel, by decide +kernel⟩, List.mem_of_getElem? (i := 17) (by decide +kernel), List.mem_of_getElem? (i := 338) (by decide +kernel), List.mem_of_getElem? (i := 339) (by decide +kernel)⟩
theorem lw_p10 : lw_okq (⟨"WedgePlanes", "lookAtHold", "(I)V"⟩, 10) := ⟨⟨by decide +kernel, by decide +kernel⟩, List.mem_of_getElem? (i := 17) (by decide +kernel), List.mem_of_getElem? (i := 342) (by decide +kernel), List.mem_of_getElem? (i := 343) (by decide +kernel)⟩
theorem lw_p11 : lw_okq (⟨"WedgePlanes", "isFree", "(II)Z"⟩, 10) := ⟨⟨by decide +kernel, by decide +kernel⟩, List.mem_of_getElem? (i := 17) (by decide +kernel), List.mem_of_getElem? (i := 351) (by decide +kernel), List.mem_of_getElem? (i := 352) (by decide +kernel)⟩
theorem lw_p12 : lw_okq (⟨"WedgePlanes", "putAway", "(II)V"⟩, 10) := ⟨⟨by decide +kernel, by decide +kernel⟩, List.mem_of_getElem? (i := 17) (by decide +kernel), List.mem_of_getElem? (i := 377) (by decide +kernel), List.mem_of_getElem? (i := 378) (by decide +kernel)⟩
theorem lw_p13 : lw_okq (⟨"WedgePlanes", "isJoint", "(IIII)Z"⟩, 10) := ⟨⟨by decide +kernel, by decide +kernel⟩, List.mem_of_getElem? (i := 17) (by decide +kernel), List.mem_of_getElem? (i := 397) (by decide +kernel), List.mem_of_getElem? (i := 398) (by decide +kernel)⟩
theorem lw_p14 : lw_okq (⟨"java/lang/Throwable", "fillInStackTrace", "(I)Ljava/lang/Throwable;"⟩, 6) := ⟨⟨by decide +kernel, by decide +kernel⟩, List.mem_of_getElem? (i := 456) (by decide +kernel), List.mem_of_getElem? (i := 454) (by decide +kernel), List.mem_of_getElem? (i := 455) (by decide +kernel)⟩
theorem lw_p15 : lw_okq (⟨"WedgePlanes", "needBlock", "(I)V"⟩, 10) := ⟨⟨by decide +kernel, by decide +kernel⟩, List.mem_of_getElem? (i := 17) (by decide +kernel), List.mem_of_getElem? (i := 557) (by decide +kernel), List.mem_of_getElem? (i := 558) (by decide +kernel)⟩
def lw_privs_1 : List (MethodName × Nat) := [(⟨"WedgePlanes$Rock", "addFace", "(I)V"⟩, 17), (⟨"WedgePlanes$Rock", "meet", "(LWedgePlanes$Plane;LWedgePlanes$Plane;LWedgePlanes$Plane;)V"⟩, 17), (⟨"WedgePlanes$Rock", "addPoint", "(IIII)V"⟩, 17), (⟨"WedgePlanes$Rock", "isInBox", "(IIII)Z"⟩, 17), (⟨"WedgePlanes$Rock", "findBlocks", "()V"⟩, 17), (⟨"WedgePlanes$Rock", "findBlock", "(I)V"⟩, 17), (⟨"WedgePlanes$Rock", "addBlock", "(III)V"⟩, 17), (⟨"WedgePlanes", "putAllBack", "()V"⟩, 10), (⟨"WedgePlanes", "takeLeast", "()Z"⟩, 10), (⟨"WedgePlanes", "leastDirection", "(I)I"⟩, 10), (⟨"WedgePlanes", "lookAtHold", "(I)V"⟩, 10), (⟨"WedgePlanes", "isFree", "(II)Z"⟩, 10), (⟨"WedgePlanes", "putAway", "(II)V"⟩, 10), (⟨"WedgePlanes", "isJoint", "(IIII)Z"⟩, 10), (⟨"java/lang/Throwable", "fillInStackTrace", "(I)Ljava/lang/Throwable;"⟩, 6), (⟨"WedgePlanes", "needBlock", "(I)V"⟩, 10)]
theorem lw_r1 : ∀ q ∈ lw_privs_1, lw_okq q := List.forall_mem_cons.mpr ⟨lw_p0, List.forall_mem_cons.mpr ⟨lw_p1, List.forall_mem_cons.mpr ⟨lw_p2, List.forall_mem_cons.mpr ⟨lw_p3, List.forall_mem_cons.mpr ⟨lw_p4, List.forall_mem_cons.mpr ⟨lw_p5, List.forall_mem_cons.mpr ⟨lw_p6, List.forall_mem_cons.mpr ⟨lw_p7, List.forall_mem_cons.mpr ⟨lw_p8, List.forall_mem_cons.mpr ⟨lw_p9, List.forall_mem_cons.mpr ⟨lw_p10, List.forall_mem_cons.mpr ⟨lw_p11, List.forall_mem_cons.mpr ⟨lw_p12, List.forall_mem_cons.mpr ⟨lw_p13, List.forall_mem_cons.mpr ⟨lw_p14, List.forall_mem_cons.mpr ⟨lw_p15, fun _ h => absurd h List.not_mem_nil⟩⟩⟩⟩⟩⟩⟩⟩⟩⟩⟩⟩⟩⟩⟩⟩
theorem lw_p16 : lw_okq (⟨"WedgePlanes$Rock", "isOnSides", "(IIII)Z"⟩, 17) := ⟨⟨by decide +kernel, by decide +kernel⟩, List.mem_of_getElem? (i := 69) (by decide +kernel), List.mem_of_getElem? (i := 566) (by decide +kernel), List.mem_of_getElem? (i := 567) (by decide +kernel)⟩
theorem lw_p17 : lw_okq (⟨"WedgePlanes$Rock", "sortIn", "(II)V"⟩, 17) := ⟨⟨by decide +kernel, by decide +kernel⟩, List.mem_of_getElem? (i := 69) (by decide +kernel), List.mem_of_getElem? (i := 584) (by decide +kernel), List.mem_of_getElem? (i := 585) (by decide +kernel)⟩
theorem lw_p18 : lw_okq (⟨"WedgePlanes$Hold", "slideOnOne", "(LWedgePlanes$Arrow;)I"⟩, 4) := ⟨⟨by decide +kernel, by decide +kernel⟩, List.mem_of_getElem? (i := 25) (by decide +kernel), List.mem_of_getElem? (i := 645) (by decide +kernel), List.mem_of_getElem? (i := 646) (by decide +kernel)⟩
theorem lw_p19 : lw_okq (⟨"WedgePlanes$Hold", "slideOnTwo", "(LWedgePlanes$Arrow;)I"⟩, 4) := ⟨⟨by decide +kernel, by decide +kernel⟩, List.mem_of_getElem? (i := 25) (by decide +kernel), List.mem_of_getElem? (i := 649) (by decide +kernel), List.mem_of_getElem? (i := 650) (by decide +kernel)⟩
theorem lw_p20 : lw_okq (⟨"WedgePlanes$Hold", "slidesAlong", "(IILWedgePlanes$Arrow;)Z"⟩, 4) := ⟨⟨by decide +kernel, by decide +kernel⟩, List.mem_of_getElem? (i := 25) (by decide +kernel), List.mem_of_getElem? (i := 653) (by decide +kernel), List.mem_of_getElem? (i := 654) (by decide +kernel)⟩
theorem lw_p21 : lw_okq (⟨"WedgePlanesModel", "cut", "()V"⟩, 25) := ⟨⟨by decide +kernel, by decide +kernel⟩, List.mem_of_getElem? (i := 665) (by decide +kernel), List.mem_of_getElem? (i := 674) (by decide +kernel), List.mem_of_getElem? (i := 675) (by decide +kernel)⟩
theorem lw_p22 : lw_okq (⟨"WedgePlanesModel", "isThere", "(I)Z"⟩, 25) := ⟨⟨by decide +kernel, by decide +kernel⟩, List.mem_of_getElem? (i := 665) (by decide +kernel), List.mem_of_getElem? (i := 678) (by decide +kernel), List.mem_of_getElem? (i := 679) (by decide +kernel)⟩
theorem lw_p23 : lw_okq (⟨"WedgePlanesModel", "make", "(III)V"⟩, 25) := ⟨⟨by decide +kernel, by decide +kernel⟩, List.mem_of_getElem? (i := 665) (by decide +kernel), List.mem_of_getElem? (i := 682) (by decide +kernel), List.mem_of_getElem? (i := 683) (by decide +kernel)⟩
theorem lw_p24 : lw_okq (⟨"WedgePlanesModel", "determinant", "(IIII)I"⟩, 25) := ⟨⟨by decide +kernel, by decide +kernel⟩, List.mem_of_getElem? (i := 665) (by decide +kernel), List.mem_of_getElem? (i := 686) (by decide +kernel), List.mem_of_getElem? (i := 687) (by decide +kernel)⟩
theorem lw_p25 : lw_okq (⟨"WedgePlanesModel", "part", "(III)I"⟩, 25) := ⟨⟨by decide +kernel, by decide +kernel⟩, List.mem_of_getElem? (i := 665) (by decide +kernel), List.mem_of_getElem? (i := 690) (by decide +kernel), List.mem_of_getElem? (i := 691) (by decide +kernel)⟩
theorem lw_p26 : lw_okq (⟨"WedgePlanesModel", "order", "(I)I"⟩, 25) := ⟨⟨by decide +kernel, by decide +kernel⟩, List.mem_of_getElem? (i := 665) (by decide +kernel), List.mem_of_getElem? (i := 697) (by decide +kernel), List.mem_of_getElem? (i := 698) (by decide +kernel)⟩
theorem lw_p27 : lw_okq (⟨"WedgePlanesModel", "more", "(II)I"⟩, 25) := ⟨⟨by decide +kernel, by decide +kernel⟩, List.mem_of_getElem? (i := 665) (by decide +kernel), List.mem_of_getElem? (i := 701) (by decide +kernel), List.mem_of_getElem? (i := 702) (by decide +kernel)⟩
theorem lw_p28 : lw_okq (⟨"WedgePlanesModel", "freeOf", "(II)I"⟩, 25) := ⟨⟨by decide +kernel, by decide +kernel⟩, List.mem_of_getElem? (i := 665) (by decide +kernel), List.mem_of_getElem? (i := 705) (by decide +kernel), List.mem_of_getElem? (i := 706) (by decide +kernel)⟩
theorem lw_p29 : lw_okq (⟨"WedgePlanesModel", "isOf", "(II)Z"⟩, 25) := ⟨⟨by decide +kernel, by decide +kernel⟩, List.mem_of_getElem? (i := 665) (by decide +kernel), List.mem_of_getElem? (i := 709) (by decide +kernel), List.mem_of_getElem? (i := 710) (by decide +kernel)⟩
theorem lw_p30 : lw_okq (⟨"WedgePlanesModel", "all", "()I"⟩, 25) := ⟨⟨by decide +kernel, by decide +kernel⟩, List.mem_of_getElem? (i := 665) (by decide +kernel), List.mem_of_getElem? (i := 713) (by decide +kernel), List.mem_of_getElem? (i := 714) (by decide +kernel)⟩
theorem lw_p31 : lw_okq (⟨"WedgePlanesModel", "findFaces", "(I)I"⟩, 25) := ⟨⟨by decide +kernel, by decide +kernel⟩, List.mem_of_getElem? (i := 665) (by decide +kernel), List.mem_of_getElem? (i := 717) (by decide +kernel), List.mem_of_getElem? (i := 718) (by decide +kernel)⟩
def lw_privs_2 : List (MethodName × Nat) := [(⟨"WedgePlanes$Rock", "isOnSides", "(IIII)Z"⟩, 17), (⟨"WedgePlanes$Rock", "sortIn", "(II)V"⟩, 17), (⟨"WedgePlanes$Hold", "slideOnOne", "(LWedgePlanes$Arrow;)I"⟩, 4), (⟨"WedgePlanes$Hold", "slideOnTwo", "(LWedgePlanes$Arrow;)I"⟩, 4), (⟨"WedgePlanes$Hold", "slidesAlong", "(IILWedgePlanes$Arrow;)Z"⟩, 4), (⟨"WedgePlanesModel", "cut", "()V"⟩, 25), (⟨"WedgePlanesModel", "isThere", "(I)Z"⟩, 25), (⟨"WedgePlanesModel", "make", "(III)V"⟩, 25), (⟨"WedgePlanesModel", "determinant", "(IIII)I"⟩, 25), (⟨"WedgePlanesModel", "part", "(III)I"⟩, 25), (⟨"WedgePlanesModel", "order", "(I)I"⟩, 25), (⟨"WedgePlanesModel", "more", "(II)I"⟩, 25), (⟨"WedgePlanesModel", "freeOf", "(II)I"⟩, 25), (⟨"WedgePlanesModel", "isOf", "(II)Z"⟩, 25), (⟨"WedgePlanesModel", "all", "()I"⟩, 25), (⟨"WedgePlanesModel", "findFaces", "(I)I"⟩, 25)]
theorem lw_r2 : ∀ q ∈ lw_privs_2, lw_okq q := List.forall_mem_cons.mpr ⟨lw_p16, List.forall_mem_cons.mpr ⟨lw_p17, List.forall_mem_cons.mpr ⟨lw_p18, List.forall_mem_cons.mpr ⟨lw_p19, List.forall_mem_cons.mpr ⟨lw_p20, List.forall_mem_cons.mpr ⟨lw_p21, List.forall_mem_cons.mpr ⟨lw_p22, List.forall_mem_cons.mpr ⟨lw_p23, List.forall_mem_cons.mpr ⟨lw_p24, List.forall_mem_cons.mpr ⟨lw_p25, List.forall_mem_cons.mpr ⟨lw_p26, List.forall_mem_cons.mpr ⟨lw_p27, List.forall_mem_cons.mpr ⟨lw_p28, List.forall_mem_cons.mpr ⟨lw_p29, List.forall_mem_cons.mpr ⟨lw_p30, List.forall_mem_cons.mpr ⟨lw_p31, fun _ h => absurd h List.not_mem_nil⟩⟩⟩⟩⟩⟩⟩⟩⟩⟩⟩⟩⟩⟩⟩⟩
theorem lw_p32 : lw_okq (⟨"WedgePlanesModel", "isRight", "(IIII)Z"⟩, 25) := ⟨⟨by decide +kernel, by decide +kernel⟩, List.mem_of_getElem? (i := 665) (by decide +kernel), List.mem_of_getElem? (i := 805) (by decide +kernel), List.mem_of_getElem? (i := 806) (by decide +kernel)⟩
theorem lw_p33 : lw_okq (⟨"WedgePlanesModel", "isSame", "(IIIII)Z"⟩, 25) := ⟨⟨by decide +kernel, by decide +kernel⟩, List.mem_of_getElem? (i := 665) (by decide +kernel), List.mem_of_getElem? (i := 812) (by decide +kernel), List.mem_of_getElem? (i := 813) (by decide +kernel)⟩
theorem lw_p34 : lw_okq (⟨"WedgePlanesModel", "isBlock", "(I)Z"⟩, 25) := ⟨⟨by decide +kernel, by decide +kernel⟩, List.mem_of_getElem? (i := 665) (by decide +kernel), List.mem_of_getElem? (i := 843) (by decide +kernel), List.mem_of_getElem? (i := 844) (by decide +kernel)⟩
theorem lw_p35 : lw_okq (⟨"WedgePlanesModel", "cornersOf", "(I)I"⟩, 25) := ⟨⟨by decide +kernel, by decide +kernel⟩, List.mem_of_getElem? (i := 665) (by decide +kernel), List.mem_of_getElem? (i := 847) (by decide +kernel), List.mem_of_getElem? (i := 848) (by decide +kernel)⟩
theorem lw_p36 : lw_okq (⟨"WedgePlanesModel", "insideOf", "(I)I"⟩, 25) := ⟨⟨by decide +kernel, by decide +kernel⟩, List.mem_of_getElem? (i := 665) (by decide +kernel), List.mem_of_getElem? (i := 851) (by decide +kernel), List.mem_of_getElem? (i := 852) (by decide +kernel)⟩
theorem lw_p37 : lw_okq (⟨"WedgePlanesModel", "isInside", "(IIII)Z"⟩, 25) := ⟨⟨by decide +kernel, by decide +kernel⟩, List.mem_of_getElem? (i := 665) (by decide +kernel), List.mem_of_getElem? (i := 855) (by decide +kernel), List.mem_of_getElem? (i := 856) (by decide +kernel)⟩
theorem lw_p38 : lw_okq (⟨"WedgePlanesModel", "isFace", "(II)Z"⟩, 25) := ⟨⟨by decide +kernel, by decide +kernel⟩, List.mem_of_getElem? (i := 665) (by decide +kernel), List.mem_of_getElem? (i := 871) (by decide +kernel), List.mem_of_getElem? (i := 872) (by decide +kernel)⟩
theorem lw_p39 : lw_okq (⟨"WedgePlanesModel", "canGoBy", "(II)Z"⟩, 25) := ⟨⟨by decide +kernel, by decide +kernel⟩, List.mem_of_getElem? (i := 665) (by decide +kernel), List.mem_of_getElem? (i := 880) (by decide +kernel), List.mem_of_getElem? (i := 881) (by decide +kernel)⟩
theorem lw_p40 : lw_okq (⟨"WedgePlanesModel", "canGo", "(I)Z"⟩, 25) := ⟨⟨by decide +kernel, by decide +kernel⟩, List.mem_of_getElem? (i := 665) (by decide +kernel), List.mem_of_getElem? (i := 884) (by decide +kernel), List.mem_of_getElem? (i := 885) (by decide +kernel)⟩
theorem lw_p41 : lw_okq (⟨"WedgePlanesModel", "holds", "(II)Z"⟩, 25) := ⟨⟨by decide +kernel, by decide +kernel⟩, List.mem_of_getElem? (i := 665) (by decide +kernel), List.mem_of_getElem? (i := 888) (by decide +kernel), List.mem_of_getElem? (i := 889) (by decide +kernel)⟩
theorem lw_p42 : lw_okq (⟨"WedgePlanesModel", "inward", "(II[I)V"⟩, 25) := ⟨⟨by decide +kernel, by decide +kernel⟩, List.mem_of_getElem? (i := 665) (by decide +kernel), List.mem_of_getElem? (i := 892) (by decide +kernel), List.mem_of_getElem? (i := 893) (by decide +kernel)⟩
theorem lw_p43 : lw_okq (⟨"WedgePlanesModel", "taking", "(I)I"⟩, 25) := ⟨⟨by decide +kernel, by decide +kernel⟩, List.mem_of_getElem? (i := 665) (by decide +kernel), List.mem_of_getElem? (i := 903) (by decide +kernel), List.mem_of_getElem? (i := 904) (by decide +kernel)⟩
theorem lw_p44 : lw_okq (⟨"WedgePlanesModel", "slidesOn", "(II)Z"⟩, 25) := ⟨⟨by decide +kernel, by decide +kernel⟩, List.mem_of_getElem? (i := 665) (by decide +kernel), List.mem_of_getElem? (i := 923) (by decide +kernel), List.mem_of_getElem? (i := 924) (by decide +kernel)⟩
theorem lw_p45 : lw_okq (⟨"WedgePlanesModel", "slide", "([I[I)V"⟩, 25) := ⟨⟨by decide +kernel, by decide +kernel⟩, List.mem_of_getElem? (i := 665) (by decide +kernel), List.mem_of_getElem? (i := 927) (by decide +kernel), List.mem_of_getElem? (i := 928) (by decide +kernel)⟩
theorem lw_p46 : lw_okq (⟨"WedgePlanesModel", "slidesAlong", "(III)Z"⟩, 25) := ⟨⟨by decide +kernel, by decide +kernel⟩, List.mem_of_getElem? (i := 665) (by decide +kernel), List.mem_of_getElem? (i := 931) (by decide +kernel), List.mem_of_getElem? (i := 932) (by decide +kernel)⟩
def lw_privs_3 : List (MethodName × Nat) := [(⟨"WedgePlanesModel", "isRight", "(IIII)Z"⟩, 25), (⟨"WedgePlanesModel", "isSame", "(IIIII)Z"⟩, 25), (⟨"WedgePlanesModel", "isBlock", "(I)Z"⟩, 25), (⟨"WedgePlanesModel", "cornersOf", "(I)I"⟩, 25), (⟨"WedgePlanesModel", "insideOf", "(I)I"⟩, 25), (⟨"WedgePlanesModel", "isInside", "(IIII)Z"⟩, 25), (⟨"WedgePlanesModel", "isFace", "(II)Z"⟩, 25), (⟨"WedgePlanesModel", "canGoBy", "(II)Z"⟩, 25), (⟨"WedgePlanesModel", "canGo", "(I)Z"⟩, 25), (⟨"WedgePlanesModel", "holds", "(II)Z"⟩, 25), (⟨"WedgePlanesModel", "inward", "(II[I)V"⟩, 25), (⟨"WedgePlanesModel", "taking", "(I)I"⟩, 25), (⟨"WedgePlanesModel", "slidesOn", "(II)Z"⟩, 25), (⟨"WedgePlanesModel", "slide", "([I[I)V"⟩, 25), (⟨"WedgePlanesModel", "slidesAlong", "(III)Z"⟩, 25)]
theorem lw_r3 : ∀ q ∈ lw_privs_3, lw_okq q := List.forall_mem_cons.mpr ⟨lw_p32, List.forall_mem_cons.mpr ⟨lw_p33, List.forall_mem_cons.mpr ⟨lw_p34, List.forall_mem_cons.mpr ⟨lw_p35, List.forall_mem_cons.mpr ⟨lw_p36, List.forall_mem_cons.mpr ⟨lw_p37, List.forall_mem_cons.mpr ⟨lw_p38, List.forall_mem_cons.mpr ⟨lw_p39, List.forall_mem_cons.mpr ⟨lw_p40, List.forall_mem_cons.mpr ⟨lw_p41, List.forall_mem_cons.mpr ⟨lw_p42, List.forall_mem_cons.mpr ⟨lw_p43, List.forall_mem_cons.mpr ⟨lw_p44, List.forall_mem_cons.mpr ⟨lw_p45, List.forall_mem_cons.mpr ⟨lw_p46, fun _ h => absurd h List.not_mem_nil⟩⟩⟩⟩⟩⟩⟩⟩⟩⟩⟩⟩⟩⟩⟩
def lw_privs : List (MethodName × Nat) := lw_privs_1 ++ (lw_privs_2 ++ (lw_privs_3))
def lw_tbl : List Cond := k2_sels lw_privs ++ tables_1
theorem lw_privs_ok : ∀ q ∈ lw_privs, lw_okq q := by
  show ∀ q ∈ lw_privs_1 ++ (lw_privs_2 ++ (lw_privs_3)), lw_okq q
  exact List.forall_mem_append.mpr ⟨lw_r1, List.forall_mem_append.mpr ⟨lw_r2, lw_r3⟩⟩

/-- the words that stay -/
def zT : List Cond := lw_tbl.filter goodWord
def zisN : Cond → Bool
  | .methodLinkNest .. => true
  | .declares _ => true
  | .castable .. => true
  | _ => false
/-- words that stay by rows of their own -/
def zNw : List Cond := lw_tbl.filter zisN
def zSt : List (Nat × String) := [(73, "no plane that cuts the box, or a joint already"), (83, "there are 6 joints"), (98, "no face of the box"), (109, "parts are -9 to 9, not all 0"), (111, "there are 8 directions"), (113, "parts are -9 to 9"), (215, "no such block"), (134, "what is 0 to 4"), (136, "no such corner"), (160, "what is 0 to 3"), (165, "no such joint"), (170, "no such direction"), (190, "not so many blocks are taken"), (192, "what is 0 or 1")]
def T_Arrow : u_T := fun k => match k with
  | 0 => ("WedgePlanes$Arrow", "x", "I", false)
  | 1 => ("WedgePlanes$Arrow", "y", "I", false)
  | _ => ("WedgePlanes$Arrow", "z", "I", false)
def t_Arrow : Nat → FieldType := fun k => match k with
  | 0 => .int
  | 1 => .int
  | _ => .int
theorem n_Arrow : ∀ a, a < 3 → ∀ b, b < 3 → a ≠ b → (T_Arrow a).2.1 ≠ (T_Arrow b).2.1 := by decide +kernel
theorem t_Arrow_ok : ∀ k, k < 3 → parseFieldDescriptor (T_Arrow k).2.2.1 = some (t_Arrow k) := by decide +kernel
set_option maxRecDepth 20000 in
theorem i_Arrow : ∀ w ∈ u_ws "WedgePlanes$Arrow" T_Arrow 3, w ∈ zT := by decide +kernel
def T_Hold : u_T := fun k => match k with
  | 0 => ("WedgePlanes$Hold", "inward", "[LWedgePlanes$Arrow;", true)
  | 1 => ("WedgePlanes$Hold", "slide", "[LWedgePlanes$Arrow;", true)
  | 2 => ("WedgePlanes$Hold", "line", "LWedgePlanes$Arrow;", true)
  | _ => ("WedgePlanes$Hold", "faces", "I", false)
def t_Hold : Nat → FieldType := fun k => match k with
  | 0 => .array (.object "WedgePlanes$Arrow")
  | 1 => .array (.object "WedgePlanes$Arrow")
  | 2 => .object "WedgePlanes$Arrow"
  | _ => .int
theorem n_Hold : ∀ a, a < 4 → ∀ b, b < 4 → a ≠ b → (T_Hold a).2.1 ≠ (T_Hold b).2.1 := by decide +kernel
theorem t_Hold_ok : ∀ k, k < 4 → parseFieldDescriptor (T_Hold k).2.2.1 = some (t_Hold k) := by decide +kernel
set_option maxRecDepth 20000 in
theorem i_Hold : ∀ w ∈ u_ws "WedgePlanes$Hold" T_Hold 4, w ∈ zT := by decide +kernel
def T_Plane : u_T := fun k => match k with
  | 0 => ("WedgePlanes$Plane", "normal", "LWedgePlanes$Arrow;", true)
  | _ => ("WedgePlanes$Plane", "d", "I", false)
def t_Plane : Nat → FieldType := fun k => match k with
  | 0 => .object "WedgePlanes$Arrow"
  | _ => .int
theorem n_Plane : ∀ a, a < 2 → ∀ b, b < 2 → a ≠ b → (T_Plane a).2.1 ≠ (T_Plane b).2.1 := by decide +kernel
theorem t_Plane_ok : ∀ k, k < 2 → parseFieldDescriptor (T_Plane k).2.2.1 = some (t_Plane k) := by decide +kernel
set_option maxRecDepth 20000 in
theorem i_Plane : ∀ w ∈ u_ws "WedgePlanes$Plane" T_Plane 2, w ∈ zT := by decide +kernel
def T_Points : u_T := fun k => match k with
  | 0 => ("WedgePlanes$Points", "x", "[I", true)
  | 1 => ("WedgePlanes$Points", "y", "[I", true)
  | 2 => ("WedgePlanes$Points", "z", "[I", true)
  | 3 => ("WedgePlanes$Points", "q", "[I", true)
  | 4 => ("WedgePlanes$Points", "above", "[I", true)
  | 5 => ("WedgePlanes$Points", "below", "[I", true)
  | _ => ("WedgePlanes$Points", "count", "I", false)
def t_Points : Nat → FieldType := fun k => match k with
  | 0 => .array .int
  | 1 => .array .int
  | 2 => .array .int
  | 3 => .array .int
  | 4 => .array .int
  | 5 => .array .int
  | _ => .int
theorem n_Points : ∀ a, a < 7 → ∀ b, b < 7 → a ≠ b → (T_Points a).2.1 ≠ (T_Points b).2.1 := by decide +kernel
theorem t_Points_ok : ∀ k, k < 7 → parseFieldDescriptor (T_Points k).2.2.1 = some (t_Points k) := by decide +kernel
set_option maxRecDepth 20000 in
theorem i_Points : ∀ w ∈ u_ws "WedgePlanes$Points" T_Points 7, w ∈ zT := by decide +kernel
def T_Rock : u_T := fun k => match k with
  | 0 => ("WedgePlanes$Rock", "planes", "[LWedgePlanes$Plane;", true)
  | 1 => ("WedgePlanes$Rock", "points", "LWedgePlanes$Points;", true)
  | 2 => ("WedgePlanes$Rock", "sides", "[I", true)
  | 3 => ("WedgePlanes$Rock", "faces", "[I", true)
  | 4 => ("WedgePlanes$Rock", "cornerCounts", "[I", true)
  | 5 => ("WedgePlanes$Rock", "numbers", "[I", true)
  | 6 => ("WedgePlanes$Rock", "jointCount", "I", false)
  | 7 => ("WedgePlanes$Rock", "blockCount", "I", false)
  | 8 => ("WedgePlanes$Rock", "sizeX", "I", true)
  | 9 => ("WedgePlanes$Rock", "sizeY", "I", true)
  | 10 => ("WedgePlanes$Rock", "sizeZ", "I", true)
  | 11 => ("WedgePlanes$Rock", "pointsBefore", "[I", true)
  | 12 => ("WedgePlanes$Rock", "sorted", "[I", true)
  | 13 => ("WedgePlanes$Rock", "crossA", "LWedgePlanes$Arrow;", true)
  | 14 => ("WedgePlanes$Rock", "crossB", "LWedgePlanes$Arrow;", true)
  | 15 => ("WedgePlanes$Rock", "crossC", "LWedgePlanes$Arrow;", true)
  | _ => ("WedgePlanes$Rock", "known", "I", false)
def t_Rock : Nat → FieldType := fun k => match k with
  | 0 => .array (.object "WedgePlanes$Plane")
  | 1 => .object "WedgePlanes$Points"
  | 2 => .array .int
  | 3 => .array .int
  | 4 => .array .int
  | 5 => .array .int
  | 6 => .int
  | 7 => .int
  | 8 => .int
  | 9 => .int
  | 10 => .int
  | 11 => .array .int
  | 12 => .array .int
  | 13 => .object "WedgePlanes$Arrow"
  | 14 => .object "WedgePlanes$Arrow"
  | 15 => .object "WedgePlanes$Arrow"
  | _ => .int
theorem n_Rock : ∀ a, a < 17 → ∀ b, b < 17 → a ≠ b → (T_Rock a).2.1 ≠ (T_Rock b).2.1 := by decide +kernel
theorem t_Rock_ok : ∀ k, k < 17 → parseFieldDescriptor (T_Rock k).2.2.1 = some (t_Rock k) := by decide +kernel
set_option maxRecDepth 20000 in
theorem i_Rock : ∀ w ∈ u_ws "WedgePlanes$Rock" T_Rock 17, w ∈ zT := by decide +kernel
def T_WP : u_T := fun k => match k with
  | 0 => ("WedgePlanes", "rock", "LWedgePlanes$Rock;", true)
  | 1 => ("WedgePlanes", "hold", "LWedgePlanes$Hold;", true)
  | 2 => ("WedgePlanes", "directions", "[LWedgePlanes$Arrow;", true)
  | 3 => ("WedgePlanes", "pulling", "LWedgePlanes$Arrow;", true)
  | 4 => ("WedgePlanes", "isTaken", "[Z", true)
  | 5 => ("WedgePlanes", "takenBlocks", "[I", true)
  | 6 => ("WedgePlanes", "takenBy", "[I", true)
  | 7 => ("WedgePlanes", "takenCount", "I", false)
  | 8 => ("WedgePlanes", "directionCount", "I", false)
  | _ => ("WedgePlanes", "openFaces", "I", false)
def t_WP : Nat → FieldType := fun k => match k with
  | 0 => .object "WedgePlanes$Rock"
  | 1 => .object "WedgePlanes$Hold"
  | 2 => .array (.object "WedgePlanes$Arrow")
  | 3 => .object "WedgePlanes$Arrow"
  | 4 => .array .boolean
  | 5 => .array .int
  | 6 => .array .int
  | 7 => .int
  | 8 => .int
  | _ => .int
theorem n_WP : ∀ a, a < 10 → ∀ b, b < 10 → a ≠ b → (T_WP a).2.1 ≠ (T_WP b).2.1 := by decide +kernel
theorem t_WP_ok : ∀ k, k < 10 → parseFieldDescriptor (T_WP k).2.2.1 = some (t_WP k) := by decide +kernel
set_option maxRecDepth 20000 in
theorem i_WP : ∀ w ∈ u_ws "WedgePlanes" T_WP 10, w ∈ zT := by decide +kernel
def T_Md : u_T := fun k => match k with
  | 0 => ("WedgePlanesModel", "thrown", "I", false)
  | 1 => ("WedgePlanesModel", "sizes", "[I", true)
  | 2 => ("WedgePlanesModel", "joints", "I", false)
  | 3 => ("WedgePlanesModel", "planes", "[I", true)
  | 4 => ("WedgePlanesModel", "open", "[Z", true)
  | 5 => ("WedgePlanesModel", "directions", "I", false)
  | 6 => ("WedgePlanesModel", "told", "[I", true)
  | 7 => ("WedgePlanesModel", "pulls", "[I", true)
  | 8 => ("WedgePlanesModel", "points", "I", false)
  | 9 => ("WedgePlanesModel", "point", "[I", true)
  | 10 => ("WedgePlanesModel", "on", "[I", true)
  | 11 => ("WedgePlanesModel", "above", "[I", true)
  | 12 => ("WedgePlanesModel", "below", "[I", true)
  | 13 => ("WedgePlanesModel", "made", "[I", true)
  | 14 => ("WedgePlanesModel", "blocks", "I", false)
  | 15 => ("WedgePlanesModel", "sides", "[I", true)
  | 16 => ("WedgePlanesModel", "faces", "[I", true)
  | 17 => ("WedgePlanesModel", "isTaken", "[Z", true)
  | 18 => ("WedgePlanesModel", "taken", "I", false)
  | 19 => ("WedgePlanesModel", "takenBlock", "[I", true)
  | 20 => ("WedgePlanesModel", "takenBy", "[I", true)
  | 21 => ("WedgePlanesModel", "first", "[I", true)
  | 22 => ("WedgePlanesModel", "second", "[I", true)
  | 23 => ("WedgePlanesModel", "way", "[I", true)
  | _ => ("WedgePlanesModel", "other", "[I", true)
def t_Md : Nat → FieldType := fun k => match k with
  | 0 => .int
  | 1 => .array .int
  | 2 => .int
  | 3 => .array .int
  | 4 => .array .boolean
  | 5 => .int
  | 6 => .array .int
  | 7 => .array .int
  | 8 => .int
  | 9 => .array .int
  | 10 => .array .int
  | 11 => .array .int
  | 12 => .array .int
  | 13 => .array .int
  | 14 => .int
  | 15 => .array .int
  | 16 => .array .int
  | 17 => .array .boolean
  | 18 => .int
  | 19 => .array .int
  | 20 => .array .int
  | 21 => .array .int
  | 22 => .array .int
  | 23 => .array .int
  | _ => .array .int
theorem n_Md : ∀ a, a < 25 → ∀ b, b < 25 → a ≠ b → (T_Md a).2.1 ≠ (T_Md b).2.1 := by decide +kernel
theorem t_Md_ok : ∀ k, k < 25 → parseFieldDescriptor (T_Md k).2.2.1 = some (t_Md k) := by decide +kernel
set_option maxRecDepth 20000 in
theorem i_Md : ∀ w ∈ u_ws "WedgePlanesModel" T_Md 25, w ∈ zT := by decide +kernel
def T_0 : u_T := fun _ => ("", "", "", false)
abbrev zCl : List vw_C := [("WedgePlanes$Arrow", T_Arrow, 3), ("WedgePlanes$Hold", T_Hold, 4), ("WedgePlanes$Plane", T_Plane, 2), ("WedgePlanes$Points", T_Points, 7), ("WedgePlanes$Rock", T_Rock, 17), ("WedgePlanes", T_WP, 10), ("WedgePlanesModel", T_Md, 25), ("java/lang/IllegalArgumentException", T_0, 0), ("java/lang/IllegalStateException", T_0, 0), ("java/lang/IndexOutOfBoundsException", T_0, 0)]
abbrev zTys : List FieldType := [.int, .boolean, .long, .object "WedgePlanes$Arrow", .object "WedgePlanes$Plane"]
abbrev M_WP_init : MethodName × ByteArray × Nat × Option FieldType × List (Nat × Nat × Nat × Nat) := (⟨"WedgePlanes", "<init>", "(III)V"⟩, prog_1_method_1_code, 5, none, [])
abbrev M_Hold_init : MethodName × ByteArray × Nat × Option FieldType × List (Nat × Nat × Nat × Nat) := (⟨"WedgePlanes$Hold", "<init>", "()V"⟩, prog_3_method_1_code, 2, none, [])
abbrev M_Arrow_init : MethodName × ByteArray × Nat × Option FieldType × List (Nat × Nat × Nat × Nat) := (⟨"WedgePlanes$Arrow", "<init>", "()V"⟩, prog_2_method_1_code, 1, none, [])
abbrev M_WP_sizeFor : MethodName × ByteArray × Nat × Option FieldType × List (Nat × Nat × Nat × Nat) := (⟨"WedgePlanes", "sizeFor", "(I)I"⟩, prog_1_method_19_code, 1, some .int, [])
abbrev M_Math_min : MethodName × ByteArray × Nat × Option FieldType × List (Nat × Nat × Nat × Nat) := (⟨"java/lang/Math", "min", "(II)I"⟩, prog_14_method_69_code, 2, some .int, [])
abbrev M_Math_max : MethodName × ByteArray × Nat × Option FieldType × List (Nat × Nat × Nat × Nat) := (⟨"java/lang/Math", "max", "(II)I"⟩, prog_14_method_65_code, 2, some .int, [])
abbrev M_Rock_init : MethodName × ByteArray × Nat × Option FieldType × List (Nat × Nat × Nat × Nat) := (⟨"WedgePlanes$Rock", "<init>", "(III)V"⟩, prog_6_method_1_code, 5, none, [])
abbrev M_Points_init : MethodName × ByteArray × Nat × Option FieldType × List (Nat × Nat × Nat × Nat) := (⟨"WedgePlanes$Points", "<init>", "()V"⟩, prog_5_method_1_code, 1, none, [])
abbrev M_Plane_init : MethodName × ByteArray × Nat × Option FieldType × List (Nat × Nat × Nat × Nat) := (⟨"WedgePlanes$Plane", "<init>", "()V"⟩, prog_4_method_1_code, 1, none, [])
abbrev M_Plane_set : MethodName × ByteArray × Nat × Option FieldType × List (Nat × Nat × Nat × Nat) := (⟨"WedgePlanes$Plane", "set", "(IIII)V"⟩, prog_4_method_2_code, 5, none, [])
abbrev M_Arrow_set : MethodName × ByteArray × Nat × Option FieldType × List (Nat × Nat × Nat × Nat) := (⟨"WedgePlanes$Arrow", "set", "(III)V"⟩, prog_2_method_2_code, 4, none, [])
abbrev M_Rock_addFace : MethodName × ByteArray × Nat × Option FieldType × List (Nat × Nat × Nat × Nat) := (⟨"WedgePlanes$Rock", "addFace", "(I)V"⟩, prog_6_method_11_code, 5, none, [])
abbrev M_Points_tellSide : MethodName × ByteArray × Nat × Option FieldType × List (Nat × Nat × Nat × Nat) := (⟨"WedgePlanes$Points", "tellSide", "(IILWedgePlanes$Plane;)V"⟩, prog_5_method_4_code, 5, none, [])
abbrev M_Plane_heightOf : MethodName × ByteArray × Nat × Option FieldType × List (Nat × Nat × Nat × Nat) := (⟨"WedgePlanes$Plane", "heightOf", "(IIII)I"⟩, prog_4_method_3_code, 5, some .int, [])
abbrev M_WP_hasBit : MethodName × ByteArray × Nat × Option FieldType × List (Nat × Nat × Nat × Nat) := (⟨"WedgePlanes", "hasBit", "(II)Z"⟩, prog_1_method_20_code, 2, some .boolean, [])
abbrev M_Rock_meet : MethodName × ByteArray × Nat × Option FieldType × List (Nat × Nat × Nat × Nat) := (⟨"WedgePlanes$Rock", "meet", "(LWedgePlanes$Plane;LWedgePlanes$Plane;LWedgePlanes$Plane;)V"⟩, prog_6_method_12_code, 9, none, [])
abbrev M_Arrow_setCross : MethodName × ByteArray × Nat × Option FieldType × List (Nat × Nat × Nat × Nat) := (⟨"WedgePlanes$Arrow", "setCross", "(LWedgePlanes$Arrow;LWedgePlanes$Arrow;)V"⟩, prog_2_method_4_code, 3, none, [])
abbrev M_Arrow_times : MethodName × ByteArray × Nat × Option FieldType × List (Nat × Nat × Nat × Nat) := (⟨"WedgePlanes$Arrow", "times", "(LWedgePlanes$Arrow;)I"⟩, prog_2_method_6_code, 2, some .int, [])
abbrev M_Rock_addPoint : MethodName × ByteArray × Nat × Option FieldType × List (Nat × Nat × Nat × Nat) := (⟨"WedgePlanes$Rock", "addPoint", "(IIII)V"⟩, prog_6_method_13_code, 7, none, [])
abbrev M_Rock_isInBox : MethodName × ByteArray × Nat × Option FieldType × List (Nat × Nat × Nat × Nat) := (⟨"WedgePlanes$Rock", "isInBox", "(IIII)Z"⟩, prog_6_method_14_code, 5, some .boolean, [])
abbrev M_Rock_commonDivisor : MethodName × ByteArray × Nat × Option FieldType × List (Nat × Nat × Nat × Nat) := (⟨"WedgePlanes$Rock", "commonDivisor", "(II)I"⟩, prog_6_method_15_code, 6, some .int, [])
abbrev M_Points_has : MethodName × ByteArray × Nat × Option FieldType × List (Nat × Nat × Nat × Nat) := (⟨"WedgePlanes$Points", "has", "(IIII)Z"⟩, prog_5_method_2_code, 6, some .boolean, [])
abbrev M_Points_add : MethodName × ByteArray × Nat × Option FieldType × List (Nat × Nat × Nat × Nat) := (⟨"WedgePlanes$Points", "add", "(IIII)V"⟩, prog_5_method_3_code, 5, none, [])
abbrev M_Rock_findBlocks : MethodName × ByteArray × Nat × Option FieldType × List (Nat × Nat × Nat × Nat) := (⟨"WedgePlanes$Rock", "findBlocks", "()V"⟩, prog_6_method_16_code, 2, none, [])
abbrev M_Rock_findBlock : MethodName × ByteArray × Nat × Option FieldType × List (Nat × Nat × Nat × Nat) := (⟨"WedgePlanes$Rock", "findBlock", "(I)V"⟩, prog_6_method_17_code, 10, none, [])
abbrev M_Points_touches : MethodName × ByteArray × Nat × Option FieldType × List (Nat × Nat × Nat × Nat) := (⟨"WedgePlanes$Points", "touches", "(II)Z"⟩, prog_5_method_6_code, 3, some .boolean, [])
abbrev M_Rock_addBlock : MethodName × ByteArray × Nat × Option FieldType × List (Nat × Nat × Nat × Nat) := (⟨"WedgePlanes$Rock", "addBlock", "(III)V"⟩, prog_6_method_18_code, 4, none, [])
abbrev M_WP_unjoint : MethodName × ByteArray × Nat × Option FieldType × List (Nat × Nat × Nat × Nat) := (⟨"WedgePlanes", "unjoint", "()I"⟩, prog_1_method_3_code, 1, some .int, [])
abbrev M_WP_putAllBack : MethodName × ByteArray × Nat × Option FieldType × List (Nat × Nat × Nat × Nat) := (⟨"WedgePlanes", "putAllBack", "()V"⟩, prog_1_method_25_code, 2, none, [])
abbrev M_Rock_dropJoint : MethodName × ByteArray × Nat × Option FieldType × List (Nat × Nat × Nat × Nat) := (⟨"WedgePlanes$Rock", "dropJoint", "()V"⟩, prog_6_method_5_code, 1, none, [])
abbrev M_Points_dropFace : MethodName × ByteArray × Nat × Option FieldType × List (Nat × Nat × Nat × Nat) := (⟨"WedgePlanes$Points", "dropFace", "(II)V"⟩, prog_5_method_5_code, 4, none, [])
abbrev M_WP_blocks : MethodName × ByteArray × Nat × Option FieldType × List (Nat × Nat × Nat × Nat) := (⟨"WedgePlanes", "blocks", "()I"⟩, prog_1_method_7_code, 1, some .int, [])
abbrev M_WP_find : MethodName × ByteArray × Nat × Option FieldType × List (Nat × Nat × Nat × Nat) := (⟨"WedgePlanes", "find", "(I)I"⟩, prog_1_method_10_code, 2, some .int, [])
abbrev M_WP_order : MethodName × ByteArray × Nat × Option FieldType × List (Nat × Nat × Nat × Nat) := (⟨"WedgePlanes", "order", "()I"⟩, prog_1_method_14_code, 2, some .int, [])
abbrev M_WP_takeLeast : MethodName × ByteArray × Nat × Option FieldType × List (Nat × Nat × Nat × Nat) := (⟨"WedgePlanes", "takeLeast", "()Z"⟩, prog_1_method_27_code, 3, some .boolean, [])
abbrev M_WP_leastDirection : MethodName × ByteArray × Nat × Option FieldType × List (Nat × Nat × Nat × Nat) := (⟨"WedgePlanes", "leastDirection", "(I)I"⟩, prog_1_method_28_code, 3, some .int, [])
abbrev M_WP_lookAtHold : MethodName × ByteArray × Nat × Option FieldType × List (Nat × Nat × Nat × Nat) := (⟨"WedgePlanes", "lookAtHold", "(I)V"⟩, prog_1_method_29_code, 4, none, [])
abbrev M_Hold_clear : MethodName × ByteArray × Nat × Option FieldType × List (Nat × Nat × Nat × Nat) := (⟨"WedgePlanes$Hold", "clear", "()V"⟩, prog_3_method_2_code, 1, none, [])
abbrev M_WP_isFree : MethodName × ByteArray × Nat × Option FieldType × List (Nat × Nat × Nat × Nat) := (⟨"WedgePlanes", "isFree", "(II)Z"⟩, prog_1_method_30_code, 4, some .boolean, [])
abbrev M_Rock_neighbour : MethodName × ByteArray × Nat × Option FieldType × List (Nat × Nat × Nat × Nat) := (⟨"WedgePlanes$Rock", "neighbour", "(II)I"⟩, prog_6_method_6_code, 3, some .int, [])
abbrev M_Hold_add : MethodName × ByteArray × Nat × Option FieldType × List (Nat × Nat × Nat × Nat) := (⟨"WedgePlanes$Hold", "add", "(ILWedgePlanes$Arrow;Z)V"⟩, prog_3_method_3_code, 4, none, [])
abbrev M_Arrow_setScaled : MethodName × ByteArray × Nat × Option FieldType × List (Nat × Nat × Nat × Nat) := (⟨"WedgePlanes$Arrow", "setScaled", "(LWedgePlanes$Arrow;I)V"⟩, prog_2_method_3_code, 3, none, [])
abbrev M_Hold_lets : MethodName × ByteArray × Nat × Option FieldType × List (Nat × Nat × Nat × Nat) := (⟨"WedgePlanes$Hold", "lets", "(LWedgePlanes$Arrow;)Z"⟩, prog_3_method_4_code, 3, some .boolean, [])
abbrev M_Arrow_isZero : MethodName × ByteArray × Nat × Option FieldType × List (Nat × Nat × Nat × Nat) := (⟨"WedgePlanes$Arrow", "isZero", "()Z"⟩, prog_2_method_7_code, 1, some .boolean, [])
abbrev M_WP_putAway : MethodName × ByteArray × Nat × Option FieldType × List (Nat × Nat × Nat × Nat) := (⟨"WedgePlanes", "putAway", "(II)V"⟩, prog_1_method_26_code, 3, none, [])
abbrev M_WP_back : MethodName × ByteArray × Nat × Option FieldType × List (Nat × Nat × Nat × Nat) := (⟨"WedgePlanes", "back", "()I"⟩, prog_1_method_16_code, 2, some .int, [])
abbrev M_Law_cell : MethodName × ByteArray × Nat × Option FieldType × List (Nat × Nat × Nat × Nat) := (⟨"WedgePlanesLaw", "cell", "([II)I"⟩, method_2_code, 2, some .int, [])
abbrev M_Law_joint : MethodName × ByteArray × Nat × Option FieldType × List (Nat × Nat × Nat × Nat) := (⟨"WedgePlanesLaw", "joint", "(LWedgePlanes;IIII[J)I"⟩, method_3_code, 7, some .int, [((0), (14), (17), (13)), ((0), (14), (21), (15))])
abbrev M_WP_joint : MethodName × ByteArray × Nat × Option FieldType × List (Nat × Nat × Nat × Nat) := (⟨"WedgePlanes", "joint", "(IIII)I"⟩, prog_1_method_2_code, 5, some .int, [])
abbrev M_WP_isJoint : MethodName × ByteArray × Nat × Option FieldType × List (Nat × Nat × Nat × Nat) := (⟨"WedgePlanes", "isJoint", "(IIII)Z"⟩, prog_1_method_23_code, 5, some .boolean, [])
abbrev M_WP_isWithin : MethodName × ByteArray × Nat × Option FieldType × List (Nat × Nat × Nat × Nat) := (⟨"WedgePlanes", "isWithin", "(II)Z"⟩, prog_1_method_21_code, 2, some .boolean, [])
abbrev M_Rock_isCutBy : MethodName × ByteArray × Nat × Option FieldType × List (Nat × Nat × Nat × Nat) := (⟨"WedgePlanes$Rock", "isCutBy", "(IIII)Z"⟩, prog_6_method_2_code, 7, some .boolean, [])
abbrev M_Rock_hasJoint : MethodName × ByteArray × Nat × Option FieldType × List (Nat × Nat × Nat × Nat) := (⟨"WedgePlanes$Rock", "hasJoint", "(IIII)Z"⟩, prog_6_method_3_code, 6, some .boolean, [])
abbrev M_Plane_isSame : MethodName × ByteArray × Nat × Option FieldType × List (Nat × Nat × Nat × Nat) := (⟨"WedgePlanes$Plane", "isSame", "(IIII)Z"⟩, prog_4_method_4_code, 5, some .boolean, [])
abbrev M_Rock_addJoint : MethodName × ByteArray × Nat × Option FieldType × List (Nat × Nat × Nat × Nat) := (⟨"WedgePlanes$Rock", "addJoint", "(IIII)V"⟩, prog_6_method_4_code, 5, none, [])
abbrev M_Law_open : MethodName × ByteArray × Nat × Option FieldType × List (Nat × Nat × Nat × Nat) := (⟨"WedgePlanesLaw", "open", "(LWedgePlanes;IZ[J)I"⟩, method_4_code, 5, some .int, [((0), (17), (20), (21))])
abbrev M_WP_open : MethodName × ByteArray × Nat × Option FieldType × List (Nat × Nat × Nat × Nat) := (⟨"WedgePlanes", "open", "(IZ)Z"⟩, prog_1_method_4_code, 4, some .boolean, [])
abbrev M_Law_direction : MethodName × ByteArray × Nat × Option FieldType × List (Nat × Nat × Nat × Nat) := (⟨"WedgePlanesLaw", "direction", "(LWedgePlanes;III[J)I"⟩, method_5_code, 6, some .int, [((0), (12), (15), (13)), ((0), (12), (19), (15))])
abbrev M_WP_direction : MethodName × ByteArray × Nat × Option FieldType × List (Nat × Nat × Nat × Nat) := (⟨"WedgePlanes", "direction", "(III)I"⟩, prog_1_method_5_code, 4, some .int, [])
abbrev M_WP_isStep : MethodName × ByteArray × Nat × Option FieldType × List (Nat × Nat × Nat × Nat) := (⟨"WedgePlanes", "isStep", "(III)Z"⟩, prog_1_method_22_code, 3, some .boolean, [])
abbrev M_Law_pull : MethodName × ByteArray × Nat × Option FieldType × List (Nat × Nat × Nat × Nat) := (⟨"WedgePlanesLaw", "pull", "(LWedgePlanes;III)I"⟩, method_6_code, 5, some .int, [((0), (7), (10), (13))])
abbrev M_WP_pull : MethodName × ByteArray × Nat × Option FieldType × List (Nat × Nat × Nat × Nat) := (⟨"WedgePlanes", "pull", "(III)V"⟩, prog_1_method_6_code, 4, none, [])
abbrev M_Law_block : MethodName × ByteArray × Nat × Option FieldType × List (Nat × Nat × Nat × Nat) := (⟨"WedgePlanesLaw", "block", "(LWedgePlanes;II[J)I"⟩, method_7_code, 5, some .int, [((0), (10), (13), (21))])
abbrev M_WP_block : MethodName × ByteArray × Nat × Option FieldType × List (Nat × Nat × Nat × Nat) := (⟨"WedgePlanes", "block", "(II)I"⟩, prog_1_method_8_code, 3, some .int, [])
abbrev M_WP_needBlock : MethodName × ByteArray × Nat × Option FieldType × List (Nat × Nat × Nat × Nat) := (⟨"WedgePlanes", "needBlock", "(I)V"⟩, prog_1_method_24_code, 2, none, [])
abbrev M_Rock_countWholePoints : MethodName × ByteArray × Nat × Option FieldType × List (Nat × Nat × Nat × Nat) := (⟨"WedgePlanes$Rock", "countWholePoints", "(I)I"⟩, prog_6_method_8_code, 6, some .int, [])
abbrev M_Rock_isOnSides : MethodName × ByteArray × Nat × Option FieldType × List (Nat × Nat × Nat × Nat) := (⟨"WedgePlanes$Rock", "isOnSides", "(IIII)Z"⟩, prog_6_method_9_code, 7, some .boolean, [])
abbrev M_Law_corner : MethodName × ByteArray × Nat × Option FieldType × List (Nat × Nat × Nat × Nat) := (⟨"WedgePlanesLaw", "corner", "(LWedgePlanes;III[J)I"⟩, method_8_code, 6, some .int, [((0), (12), (15), (21))])
abbrev M_WP_corner : MethodName × ByteArray × Nat × Option FieldType × List (Nat × Nat × Nat × Nat) := (⟨"WedgePlanes", "corner", "(III)I"⟩, prog_1_method_9_code, 5, some .int, [])
abbrev M_Rock_cornerPoint : MethodName × ByteArray × Nat × Option FieldType × List (Nat × Nat × Nat × Nat) := (⟨"WedgePlanes$Rock", "cornerPoint", "(II)I"⟩, prog_6_method_7_code, 6, some .int, [])
abbrev M_Rock_sortIn : MethodName × ByteArray × Nat × Option FieldType × List (Nat × Nat × Nat × Nat) := (⟨"WedgePlanes$Rock", "sortIn", "(II)V"⟩, prog_6_method_10_code, 4, none, [])
abbrev M_Points_isBefore : MethodName × ByteArray × Nat × Option FieldType × List (Nat × Nat × Nat × Nat) := (⟨"WedgePlanes$Points", "isBefore", "(II)Z"⟩, prog_5_method_7_code, 6, some .boolean, [])
abbrev M_Integer_compare : MethodName × ByteArray × Nat × Option FieldType × List (Nat × Nat × Nat × Nat) := (⟨"java/lang/Integer", "compare", "(II)I"⟩, prog_13_method_40_code, 2, some .int, [])
abbrev M_Law_beside : MethodName × ByteArray × Nat × Option FieldType × List (Nat × Nat × Nat × Nat) := (⟨"WedgePlanesLaw", "beside", "(LWedgePlanes;II[J)I"⟩, method_9_code, 5, some .int, [((0), (10), (13), (21))])
abbrev M_WP_beside : MethodName × ByteArray × Nat × Option FieldType × List (Nat × Nat × Nat × Nat) := (⟨"WedgePlanes", "beside", "(II)I"⟩, prog_1_method_11_code, 3, some .int, [])
abbrev M_Law_goes : MethodName × ByteArray × Nat × Option FieldType × List (Nat × Nat × Nat × Nat) := (⟨"WedgePlanesLaw", "goes", "(LWedgePlanes;II[J)I"⟩, method_10_code, 5, some .int, [((0), (17), (20), (21))])
abbrev M_WP_goes : MethodName × ByteArray × Nat × Option FieldType × List (Nat × Nat × Nat × Nat) := (⟨"WedgePlanes", "goes", "(II)Z"⟩, prog_1_method_12_code, 3, some .boolean, [])
abbrev M_Law_take : MethodName × ByteArray × Nat × Option FieldType × List (Nat × Nat × Nat × Nat) := (⟨"WedgePlanesLaw", "take", "(LWedgePlanes;I[J)I"⟩, method_11_code, 4, some .int, [((0), (9), (12), (21))])
abbrev M_WP_take : MethodName × ByteArray × Nat × Option FieldType × List (Nat × Nat × Nat × Nat) := (⟨"WedgePlanes", "take", "(I)I"⟩, prog_1_method_13_code, 3, some .int, [])
abbrev M_Law_taken : MethodName × ByteArray × Nat × Option FieldType × List (Nat × Nat × Nat × Nat) := (⟨"WedgePlanesLaw", "taken", "(LWedgePlanes;II[J)I"⟩, method_12_code, 5, some .int, [((0), (10), (13), (21))])
abbrev M_WP_taken : MethodName × ByteArray × Nat × Option FieldType × List (Nat × Nat × Nat × Nat) := (⟨"WedgePlanes", "taken", "(II)I"⟩, prog_1_method_15_code, 3, some .int, [])
abbrev M_Law_mode : MethodName × ByteArray × Nat × Option FieldType × List (Nat × Nat × Nat × Nat) := (⟨"WedgePlanesLaw", "mode", "(LWedgePlanes;I[J)I"⟩, method_13_code, 4, some .int, [((0), (9), (12), (21))])
abbrev M_WP_mode : MethodName × ByteArray × Nat × Option FieldType × List (Nat × Nat × Nat × Nat) := (⟨"WedgePlanes", "mode", "(I)I"⟩, prog_1_method_17_code, 2, some .int, [])
abbrev M_Hold_answerTo : MethodName × ByteArray × Nat × Option FieldType × List (Nat × Nat × Nat × Nat) := (⟨"WedgePlanes$Hold", "answerTo", "(LWedgePlanes$Arrow;)I"⟩, prog_3_method_5_code, 3, some .int, [])
abbrev M_Arrow_setSlide : MethodName × ByteArray × Nat × Option FieldType × List (Nat × Nat × Nat × Nat) := (⟨"WedgePlanes$Arrow", "setSlide", "(LWedgePlanes$Arrow;LWedgePlanes$Arrow;)V"⟩, prog_2_method_5_code, 5, none, [])
abbrev M_Hold_slideOnOne : MethodName × ByteArray × Nat × Option FieldType × List (Nat × Nat × Nat × Nat) := (⟨"WedgePlanes$Hold", "slideOnOne", "(LWedgePlanes$Arrow;)I"⟩, prog_3_method_6_code, 3, some .int, [])
abbrev M_Hold_slideOnTwo : MethodName × ByteArray × Nat × Option FieldType × List (Nat × Nat × Nat × Nat) := (⟨"WedgePlanes$Hold", "slideOnTwo", "(LWedgePlanes$Arrow;)I"⟩, prog_3_method_7_code, 4, some .int, [])
abbrev M_Hold_slidesAlong : MethodName × ByteArray × Nat × Option FieldType × List (Nat × Nat × Nat × Nat) := (⟨"WedgePlanes$Hold", "slidesAlong", "(IILWedgePlanes$Arrow;)Z"⟩, prog_3_method_8_code, 4, some .boolean, [])
abbrev M_Law_told : MethodName × ByteArray × Nat × Option FieldType × List (Nat × Nat × Nat × Nat) := (⟨"WedgePlanesLaw", "told", "(LWedgePlanes;I[J)I"⟩, method_14_code, 4, some .int, [((0), (9), (12), (21))])
abbrev M_WP_told : MethodName × ByteArray × Nat × Option FieldType × List (Nat × Nat × Nat × Nat) := (⟨"WedgePlanes", "told", "(I)I"⟩, prog_1_method_18_code, 2, some .int, [])
abbrev M_Md_init : MethodName × ByteArray × Nat × Option FieldType × List (Nat × Nat × Nat × Nat) := (⟨"WedgePlanesModel", "<init>", "(III)V"⟩, prog_8_method_1_code, 5, none, [])
abbrev M_Md_within : MethodName × ByteArray × Nat × Option FieldType × List (Nat × Nat × Nat × Nat) := (⟨"WedgePlanesModel", "within", "(I)I"⟩, prog_8_method_3_code, 1, some .int, [])
abbrev M_Md_cut : MethodName × ByteArray × Nat × Option FieldType × List (Nat × Nat × Nat × Nat) := (⟨"WedgePlanesModel", "cut", "()V"⟩, prog_8_method_12_code, 4, none, [])
abbrev M_Md_isThere : MethodName × ByteArray × Nat × Option FieldType × List (Nat × Nat × Nat × Nat) := (⟨"WedgePlanesModel", "isThere", "(I)Z"⟩, prog_8_method_8_code, 2, some .boolean, [])
abbrev M_Md_make : MethodName × ByteArray × Nat × Option FieldType × List (Nat × Nat × Nat × Nat) := (⟨"WedgePlanesModel", "make", "(III)V"⟩, prog_8_method_11_code, 9, none, [])
abbrev M_Md_determinant : MethodName × ByteArray × Nat × Option FieldType × List (Nat × Nat × Nat × Nat) := (⟨"WedgePlanesModel", "determinant", "(IIII)I"⟩, prog_8_method_7_code, 8, some .int, [])
abbrev M_Md_part : MethodName × ByteArray × Nat × Option FieldType × List (Nat × Nat × Nat × Nat) := (⟨"WedgePlanesModel", "part", "(III)I"⟩, prog_8_method_6_code, 4, some .int, [])
abbrev M_Md_common : MethodName × ByteArray × Nat × Option FieldType × List (Nat × Nat × Nat × Nat) := (⟨"WedgePlanesModel", "common", "(II)I"⟩, prog_8_method_5_code, 5, some .int, [])
abbrev M_Md_orderP : MethodName × ByteArray × Nat × Option FieldType × List (Nat × Nat × Nat × Nat) := (⟨"WedgePlanesModel", "order", "(I)I"⟩, prog_8_method_10_code, 4, some .int, [])
abbrev M_Md_more : MethodName × ByteArray × Nat × Option FieldType × List (Nat × Nat × Nat × Nat) := (⟨"WedgePlanesModel", "more", "(II)I"⟩, prog_8_method_9_code, 3, some .int, [])
abbrev M_Md_freeOf : MethodName × ByteArray × Nat × Option FieldType × List (Nat × Nat × Nat × Nat) := (⟨"WedgePlanesModel", "freeOf", "(II)I"⟩, prog_8_method_15_code, 5, some .int, [])
abbrev M_Md_isOf : MethodName × ByteArray × Nat × Option FieldType × List (Nat × Nat × Nat × Nat) := (⟨"WedgePlanesModel", "isOf", "(II)Z"⟩, prog_8_method_14_code, 3, some .boolean, [])
abbrev M_Md_all : MethodName × ByteArray × Nat × Option FieldType × List (Nat × Nat × Nat × Nat) := (⟨"WedgePlanesModel", "all", "()I"⟩, prog_8_method_13_code, 1, some .int, [])
abbrev M_Md_findFaces : MethodName × ByteArray × Nat × Option FieldType × List (Nat × Nat × Nat × Nat) := (⟨"WedgePlanesModel", "findFaces", "(I)I"⟩, prog_8_method_16_code, 4, some .int, [])
abbrev M_Md_thrown : MethodName × ByteArray × Nat × Option FieldType × List (Nat × Nat × Nat × Nat) := (⟨"WedgePlanesModel", "thrown", "()I"⟩, prog_8_method_2_code, 1, some .int, [])
abbrev M_Md_joint : MethodName × ByteArray × Nat × Option FieldType × List (Nat × Nat × Nat × Nat) := (⟨"WedgePlanesModel", "joint", "(IIII)I"⟩, prog_8_method_19_code, 5, some .int, [])
abbrev M_Md_isRight : MethodName × ByteArray × Nat × Option FieldType × List (Nat × Nat × Nat × Nat) := (⟨"WedgePlanesModel", "isRight", "(IIII)Z"⟩, prog_8_method_18_code, 10, some .boolean, [])
abbrev M_Md_in : MethodName × ByteArray × Nat × Option FieldType × List (Nat × Nat × Nat × Nat) := (⟨"WedgePlanesModel", "in", "(III)Z"⟩, prog_8_method_4_code, 3, some .boolean, [])
abbrev M_Md_isSame : MethodName × ByteArray × Nat × Option FieldType × List (Nat × Nat × Nat × Nat) := (⟨"WedgePlanesModel", "isSame", "(IIIII)Z"⟩, prog_8_method_17_code, 10, some .boolean, [])
abbrev M_Md_unjoint : MethodName × ByteArray × Nat × Option FieldType × List (Nat × Nat × Nat × Nat) := (⟨"WedgePlanesModel", "unjoint", "()I"⟩, prog_8_method_20_code, 1, some .int, [])
abbrev M_Md_open : MethodName × ByteArray × Nat × Option FieldType × List (Nat × Nat × Nat × Nat) := (⟨"WedgePlanesModel", "open", "(IZ)Z"⟩, prog_8_method_21_code, 4, some .boolean, [])
abbrev M_Md_direction : MethodName × ByteArray × Nat × Option FieldType × List (Nat × Nat × Nat × Nat) := (⟨"WedgePlanesModel", "direction", "(III)I"⟩, prog_8_method_23_code, 4, some .int, [])
abbrev M_Md_isVector : MethodName × ByteArray × Nat × Option FieldType × List (Nat × Nat × Nat × Nat) := (⟨"WedgePlanesModel", "isVector", "(III)Z"⟩, prog_8_method_22_code, 3, some .boolean, [])
abbrev M_Md_pull : MethodName × ByteArray × Nat × Option FieldType × List (Nat × Nat × Nat × Nat) := (⟨"WedgePlanesModel", "pull", "(III)V"⟩, prog_8_method_24_code, 4, none, [])
abbrev M_Md_blocks : MethodName × ByteArray × Nat × Option FieldType × List (Nat × Nat × Nat × Nat) := (⟨"WedgePlanesModel", "blocks", "()I"⟩, prog_8_method_25_code, 1, some .int, [])
abbrev M_Md_block : MethodName × ByteArray × Nat × Option FieldType × List (Nat × Nat × Nat × Nat) := (⟨"WedgePlanesModel", "block", "(II)I"⟩, prog_8_method_30_code, 3, some .int, [])
abbrev M_Md_isBlock : MethodName × ByteArray × Nat × Option FieldType × List (Nat × Nat × Nat × Nat) := (⟨"WedgePlanesModel", "isBlock", "(I)Z"⟩, prog_8_method_26_code, 2, some .boolean, [])
abbrev M_Md_cornersOf : MethodName × ByteArray × Nat × Option FieldType × List (Nat × Nat × Nat × Nat) := (⟨"WedgePlanesModel", "cornersOf", "(I)I"⟩, prog_8_method_27_code, 4, some .int, [])
abbrev M_Md_insideOf : MethodName × ByteArray × Nat × Option FieldType × List (Nat × Nat × Nat × Nat) := (⟨"WedgePlanesModel", "insideOf", "(I)I"⟩, prog_8_method_29_code, 6, some .int, [])
abbrev M_Md_isInside : MethodName × ByteArray × Nat × Option FieldType × List (Nat × Nat × Nat × Nat) := (⟨"WedgePlanesModel", "isInside", "(IIII)Z"⟩, prog_8_method_28_code, 8, some .boolean, [])
abbrev M_Md_corner : MethodName × ByteArray × Nat × Option FieldType × List (Nat × Nat × Nat × Nat) := (⟨"WedgePlanesModel", "corner", "(III)I"⟩, prog_8_method_31_code, 7, some .int, [])
abbrev M_Md_find : MethodName × ByteArray × Nat × Option FieldType × List (Nat × Nat × Nat × Nat) := (⟨"WedgePlanesModel", "find", "(I)I"⟩, prog_8_method_32_code, 3, some .int, [])
abbrev M_Md_beside : MethodName × ByteArray × Nat × Option FieldType × List (Nat × Nat × Nat × Nat) := (⟨"WedgePlanesModel", "beside", "(II)I"⟩, prog_8_method_34_code, 3, some .int, [])
abbrev M_Md_isFace : MethodName × ByteArray × Nat × Option FieldType × List (Nat × Nat × Nat × Nat) := (⟨"WedgePlanesModel", "isFace", "(II)Z"⟩, prog_8_method_33_code, 3, some .boolean, [])
abbrev M_Md_goes : MethodName × ByteArray × Nat × Option FieldType × List (Nat × Nat × Nat × Nat) := (⟨"WedgePlanesModel", "goes", "(II)Z"⟩, prog_8_method_40_code, 3, some .boolean, [])
abbrev M_Md_canGoBy : MethodName × ByteArray × Nat × Option FieldType × List (Nat × Nat × Nat × Nat) := (⟨"WedgePlanesModel", "canGoBy", "(II)Z"⟩, prog_8_method_39_code, 4, some .boolean, [])
abbrev M_Md_canGo : MethodName × ByteArray × Nat × Option FieldType × List (Nat × Nat × Nat × Nat) := (⟨"WedgePlanesModel", "canGo", "(I)Z"⟩, prog_8_method_38_code, 4, some .boolean, [])
abbrev M_Md_holds : MethodName × ByteArray × Nat × Option FieldType × List (Nat × Nat × Nat × Nat) := (⟨"WedgePlanesModel", "holds", "(II)Z"⟩, prog_8_method_35_code, 3, some .boolean, [])
abbrev M_Md_inward : MethodName × ByteArray × Nat × Option FieldType × List (Nat × Nat × Nat × Nat) := (⟨"WedgePlanesModel", "inward", "(II[I)V"⟩, prog_8_method_36_code, 6, none, [])
abbrev M_Md_times : MethodName × ByteArray × Nat × Option FieldType × List (Nat × Nat × Nat × Nat) := (⟨"WedgePlanesModel", "times", "([I[I)I"⟩, prog_8_method_37_code, 2, some .int, [])
abbrev M_Md_take : MethodName × ByteArray × Nat × Option FieldType × List (Nat × Nat × Nat × Nat) := (⟨"WedgePlanesModel", "take", "(I)I"⟩, prog_8_method_42_code, 2, some .int, [])
abbrev M_Md_taking : MethodName × ByteArray × Nat × Option FieldType × List (Nat × Nat × Nat × Nat) := (⟨"WedgePlanesModel", "taking", "(I)I"⟩, prog_8_method_41_code, 3, some .int, [])
abbrev M_Md_order : MethodName × ByteArray × Nat × Option FieldType × List (Nat × Nat × Nat × Nat) := (⟨"WedgePlanesModel", "order", "()I"⟩, prog_8_method_43_code, 3, some .int, [])
abbrev M_Md_taken : MethodName × ByteArray × Nat × Option FieldType × List (Nat × Nat × Nat × Nat) := (⟨"WedgePlanesModel", "taken", "(II)I"⟩, prog_8_method_44_code, 3, some .int, [])
abbrev M_Md_back : MethodName × ByteArray × Nat × Option FieldType × List (Nat × Nat × Nat × Nat) := (⟨"WedgePlanesModel", "back", "()I"⟩, prog_8_method_45_code, 3, some .int, [])
abbrev M_Md_mode : MethodName × ByteArray × Nat × Option FieldType × List (Nat × Nat × Nat × Nat) := (⟨"WedgePlanesModel", "mode", "(I)I"⟩, prog_8_method_49_code, 4, some .int, [])
abbrev M_Md_slidesOn : MethodName × ByteArray × Nat × Option FieldType × List (Nat × Nat × Nat × Nat) := (⟨"WedgePlanesModel", "slidesOn", "(II)Z"⟩, prog_8_method_47_code, 3, some .boolean, [])
abbrev M_Md_slide : MethodName × ByteArray × Nat × Option FieldType × List (Nat × Nat × Nat × Nat) := (⟨"WedgePlanesModel", "slide", "([I[I)V"⟩, prog_8_method_46_code, 6, none, [])
abbrev M_Md_slidesAlong : MethodName × ByteArray × Nat × Option FieldType × List (Nat × Nat × Nat × Nat) := (⟨"WedgePlanesModel", "slidesAlong", "(III)Z"⟩, prog_8_method_48_code, 7, some .boolean, [])
abbrev M_Md_told : MethodName × ByteArray × Nat × Option FieldType × List (Nat × Nat × Nat × Nat) := (⟨"WedgePlanesModel", "told", "(I)I"⟩, prog_8_method_50_code, 2, some .int, [])
abbrev M_Law_law : MethodName × ByteArray × Nat × Option FieldType × List (Nat × Nat × Nat × Nat) := (⟨"WedgePlanesLaw", "law", "([I)Z"⟩, code, 7, some .boolean, [])
