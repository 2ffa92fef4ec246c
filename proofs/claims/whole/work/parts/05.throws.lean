abbrev xn : List String := ["java/lang/RuntimeException", "java/lang/Exception"]
theorem xc_IAE : zXc 7 "java/lang/IllegalArgumentException" xn := ⟨rfl, (zmem 418 (by decide +kernel) rfl), (zmem 12 (by decide +kernel) rfl), by decide +kernel, by decide +kernel, rfl⟩
theorem xl_IAE : Cond.classLink "WedgePlanes" 71 "java/lang/IllegalArgumentException" ∈ zT := (zmem 417 (by decide +kernel) rfl)
theorem xa_IAE : (Jvm.Bundle.ownAtoms "WedgePlanes" 75 "java/lang/IllegalArgumentException" xn).all zat = true := by decide +kernel
theorem xc_ISE : zXc 8 "java/lang/IllegalStateException" xn := ⟨rfl, (zmem 486 (by decide +kernel) rfl), (zmem 13 (by decide +kernel) rfl), by decide +kernel, by decide +kernel, rfl⟩
theorem xl_ISE : Cond.classLink "WedgePlanes" 81 "java/lang/IllegalStateException" ∈ zT := (zmem 485 (by decide +kernel) rfl)
theorem xa_ISE : (Jvm.Bundle.ownAtoms "WedgePlanes" 85 "java/lang/IllegalStateException" xn).all zat = true := by decide +kernel
theorem xc_IOB : zXc 9 "java/lang/IndexOutOfBoundsException" xn := ⟨rfl, (zmem 514 (by decide +kernel) rfl), (zmem 14 (by decide +kernel) rfl), by decide +kernel, by decide +kernel, rfl⟩
theorem xl_IOB : Cond.classLink "WedgePlanes" 96 "java/lang/IndexOutOfBoundsException" ∈ zT := (zmem 513 (by decide +kernel) rfl)
theorem xa_IOB : (Jvm.Bundle.ownAtoms "WedgePlanes" 100 "java/lang/IndexOutOfBoundsException" xn).all zat = true := by decide +kernel
