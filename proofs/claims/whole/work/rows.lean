section
-- ===== PART A: goes FIRST, ahead of the names: the tables' words, and 'selects' of the private methods out of them =====
/-- a private method of a class that the tables say can be made, by its rows of tables_1 -/
def lw_okq (q : MethodName × Nat) : Prop := (q.1.cls ≠ "java/lang/invoke/MethodHandle" ∧ q.1.cls ≠ "java/lang/invoke/VarHandle") ∧ Cond.instantiable q.1.cls q.2 ∈ tables_1 ∧ Cond.privateMethod q.1 ∈ tables_1 ∧ Cond.instanceMethod q.1 ∈ tables_1
theorem lw_p0 : lw_okq (⟨"ScaledNumeralDesk$Buffer", "isWordFrom", "(ILjava/lang/String;)Z"⟩, 2) := ⟨⟨by decide +kernel, by decide +kernel⟩, List.mem_of_getElem? (i := 96) (by decide +kernel), List.mem_of_getElem? (i := 171) (by decide +kernel), List.mem_of_getElem? (i := 172) (by decide +kernel)⟩
theorem lw_p1 : lw_okq (⟨"ScaledNumeralDesk$Buffer", "isSignAt", "(I)Z"⟩, 2) := ⟨⟨by decide +kernel, by decide +kernel⟩, List.mem_of_getElem? (i := 96) (by decide +kernel), List.mem_of_getElem? (i := 239) (by decide +kernel), List.mem_of_getElem? (i := 240) (by decide +kernel)⟩
theorem lw_p2 : lw_okq (⟨"ScaledNumeralDesk$Buffer", "readFinite", "(IZLScaledNumeralDesk$Numeral;)I"⟩, 2) := ⟨⟨by decide +kernel, by decide +kernel⟩, List.mem_of_getElem? (i := 96) (by decide +kernel), List.mem_of_getElem? (i := 254) (by decide +kernel), List.mem_of_getElem? (i := 255) (by decide +kernel)⟩
theorem lw_p3 : lw_okq (⟨"ScaledNumeralDesk$Buffer", "endOfDigits", "(I)I"⟩, 2) := ⟨⟨by decide +kernel, by decide +kernel⟩, List.mem_of_getElem? (i := 96) (by decide +kernel), List.mem_of_getElem? (i := 258) (by decide +kernel), List.mem_of_getElem? (i := 259) (by decide +kernel)⟩
theorem lw_p4 : lw_okq (⟨"ScaledNumeralDesk$Buffer", "isDigitAt", "(I)Z"⟩, 2) := ⟨⟨by decide +kernel, by decide +kernel⟩, List.mem_of_getElem? (i := 96) (by decide +kernel), List.mem_of_getElem? (i := 262) (by decide +kernel), List.mem_of_getElem? (i := 263) (by decide +kernel)⟩
theorem lw_p5 : lw_okq (⟨"ScaledNumeralDesk$Buffer", "pointBetween", "(II)I"⟩, 2) := ⟨⟨by decide +kernel, by decide +kernel⟩, List.mem_of_getElem? (i := 96) (by decide +kernel), List.mem_of_getElem? (i := 266) (by decide +kernel), List.mem_of_getElem? (i := 267) (by decide +kernel)⟩
theorem lw_p6 : lw_okq (⟨"ScaledNumeralDesk$Buffer", "exponentFrom", "(I)I"⟩, 2) := ⟨⟨by decide +kernel, by decide +kernel⟩, List.mem_of_getElem? (i := 96) (by decide +kernel), List.mem_of_getElem? (i := 270) (by decide +kernel), List.mem_of_getElem? (i := 271) (by decide +kernel)⟩
theorem lw_p7 : lw_okq (⟨"ScaledNumeralDesk$Buffer", "placeDigits", "(III[I)Z"⟩, 2) := ⟨⟨by decide +kernel, by decide +kernel⟩, List.mem_of_getElem? (i := 96) (by decide +kernel), List.mem_of_getElem? (i := 281) (by decide +kernel), List.mem_of_getElem? (i := 282) (by decide +kernel)⟩
theorem lw_p8 : lw_okq (⟨"ScaledNumeralDesk", "store", "(II)I"⟩, 7) := ⟨⟨by decide +kernel, by decide +kernel⟩, List.mem_of_getElem? (i := 20) (by decide +kernel), List.mem_of_getElem? (i := 318) (by decide +kernel), List.mem_of_getElem? (i := 319) (by decide +kernel)⟩
theorem lw_p9 : lw_okq (⟨"ScaledNumeralDesk$Numeral", "wholeDigits", "()I"⟩, 3) := ⟨⟨by decide +kernel, by decide +kernel⟩, List.mem_of_getElem? (i := 29) (by decide +kernel), List.mem_of_getElem? (i := 347) (by decide +kernel), List.mem_of_getElem? (i := 348) (by decide +kernel)⟩
theorem lw_p10 : lw_okq (⟨"ScaledNumeralDesk$Bench", "add", "(LScaledNumeralDesk$Numeral;LScaledNumeralDesk$Numeral;ZLScaledNumeralDesk$Numeral;)I"⟩, 4) := ⟨⟨by decide +kernel, by decide +kernel⟩, List.mem_of_getElem? (i := 110) (by decide +kernel), List.mem_of_getElem? (i := 381) (by decide +kernel), List.mem_of_getElem? (i := 382) (by decide +kernel)⟩
theorem lw_p11 : lw_okq (⟨"ScaledNumeralDesk$Bench", "addInfinite", "(LScaledNumeralDesk$Numeral;LScaledNumeralDesk$Numeral;ZLScaledNumeralDesk$Numeral;)I"⟩, 4) := ⟨⟨by decide +kernel, by decide +kernel⟩, List.mem_of_getElem? (i := 110) (by decide +kernel), List.mem_of_getElem? (i := 406) (by decide +kernel), List.mem_of_getElem? (i := 407) (by decide +kernel)⟩
theorem lw_p12 : lw_okq (⟨"ScaledNumeralDesk$Bench", "multiply", "(LScaledNumeralDesk$Numeral;LScaledNumeralDesk$Numeral;LScaledNumeralDesk$Numeral;)I"⟩, 4) := ⟨⟨by decide +kernel, by decide +kernel⟩, List.mem_of_getElem? (i := 110) (by decide +kernel), List.mem_of_getElem? (i := 419) (by decide +kernel), List.mem_of_getElem? (i := 420) (by decide +kernel)⟩
theorem lw_p13 : lw_okq (⟨"ScaledNumeralDesk$Bench", "multiplyInfinite", "(LScaledNumeralDesk$Numeral;LScaledNumeralDesk$Numeral;LScaledNumeralDesk$Numeral;)I"⟩, 4) := ⟨⟨by decide +kernel, by decide +kernel⟩, List.mem_of_getElem? (i := 110) (by decide +kernel), List.mem_of_getElem? (i := 446) (by decide +kernel), List.mem_of_getElem? (i := 447) (by decide +kernel)⟩
theorem lw_p14 : lw_okq (⟨"ScaledNumeralDesk$Bench", "share", "(ILScaledNumeralDesk$Numeral;LScaledNumeralDesk$Numeral;ZLScaledNumeralDesk$Numeral;)I"⟩, 4) := ⟨⟨by decide +kernel, by decide +kernel⟩, List.mem_of_getElem? (i := 110) (by decide +kernel), List.mem_of_getElem? (i := 455) (by decide +kernel), List.mem_of_getElem? (i := 456) (by decide +kernel)⟩
theorem lw_p15 : lw_okq (⟨"ScaledNumeralDesk$Bench", "divide", "(LScaledNumeralDesk$Numeral;LScaledNumeralDesk$Numeral;LScaledNumeralDesk$Numeral;)I"⟩, 4) := ⟨⟨by decide +kernel, by decide +kernel⟩, List.mem_of_getElem? (i := 110) (by decide +kernel), List.mem_of_getElem? (i := 459) (by decide +kernel), List.mem_of_getElem? (i := 460) (by decide +kernel)⟩
def lw_privs_1 : List (MethodName × Nat) := [(⟨"ScaledNumeralDesk$Buffer", "isWordFrom", "(ILjava/lang/String;)Z"⟩, 2), (⟨"ScaledNumeralDesk$Buffer", "isSignAt", "(I)Z"⟩, 2), (⟨"ScaledNumeralDesk$Buffer", "readFinite", "(IZLScaledNumeralDesk$Numeral;)I"⟩, 2), (⟨"ScaledNumeralDesk$Buffer", "endOfDigits", "(I)I"⟩, 2), (⟨"ScaledNumeralDesk$Buffer", "isDigitAt", "(I)Z"⟩, 2), (⟨"ScaledNumeralDesk$Buffer", "pointBetween", "(II)I"⟩, 2), (⟨"ScaledNumeralDesk$Buffer", "exponentFrom", "(I)I"⟩, 2), (⟨"ScaledNumeralDesk$Buffer", "placeDigits", "(III[I)Z"⟩, 2), (⟨"ScaledNumeralDesk", "store", "(II)I"⟩, 7), (⟨"ScaledNumeralDesk$Numeral", "wholeDigits", "()I"⟩, 3), (⟨"ScaledNumeralDesk$Bench", "add", "(LScaledNumeralDesk$Numeral;LScaledNumeralDesk$Numeral;ZLScaledNumeralDesk$Numeral;)I"⟩, 4), (⟨"ScaledNumeralDesk$Bench", "addInfinite", "(LScaledNumeralDesk$Numeral;LScaledNumeralDesk$Numeral;ZLScaledNumeralDesk$Numeral;)I"⟩, 4), (⟨"ScaledNumeralDesk$Bench", "multiply", "(LScaledNumeralDesk$Numeral;LScaledNumeralDesk$Numeral;LScaledNumeralDesk$Numeral;)I"⟩, 4), (⟨"ScaledNumeralDesk$Bench", "multiplyInfinite", "(LScaledNumeralDesk$Numeral;LScaledNumeralDesk$Numeral;LScaledNumeralDesk$Numeral;)I"⟩, 4), (⟨"ScaledNumeralDesk$Bench", "share", "(ILScaledNumeralDesk$Numeral;LScaledNumeralDesk$Numeral;ZLScaledNumeralDesk$Numeral;)I"⟩, 4), (⟨"ScaledNumeralDesk$Bench", "divide", "(LScaledNumeralDesk$Numeral;LScaledNumeralDesk$Numeral;LScaledNumeralDesk$Numeral;)I"⟩, 4)]
theorem lw_r1 : ∀ q ∈ lw_privs_1, lw_okq q := List.forall_mem_cons.mpr ⟨lw_p0, List.forall_mem_cons.mpr ⟨lw_p1, List.forall_mem_cons.mpr ⟨lw_p2, List.forall_mem_cons.mpr ⟨lw_p3, List.forall_mem_cons.mpr ⟨lw_p4, List.forall_mem_cons.mpr ⟨lw_p5, List.forall_mem_cons.mpr ⟨lw_p6, List.forall_mem_cons.mpr ⟨lw_p7, List.forall_mem_cons.mpr ⟨lw_p8, List.forall_mem_cons.mpr ⟨lw_p9, List.forall_mem_cons.mpr ⟨lw_p10, List.forall_mem_cons.mpr ⟨lw_p11, List.forall_mem_cons.mpr ⟨lw_p12, List.forall_mem_cons.mpr ⟨lw_p13, List.forall_mem_cons.mpr ⟨lw_p14, List.forall_mem_cons.mpr ⟨lw_p15, fun _ h => absurd h List.not_mem_nil⟩⟩⟩⟩⟩⟩⟩⟩⟩⟩⟩⟩⟩⟩⟩⟩
theorem lw_p16 : lw_okq (⟨"ScaledNumeralDesk$Bench", "load", "(LScaledNumeralDesk$Numeral;I)V"⟩, 4) := ⟨⟨by decide +kernel, by decide +kernel⟩, List.mem_of_getElem? (i := 110) (by decide +kernel), List.mem_of_getElem? (i := 463) (by decide +kernel), List.mem_of_getElem? (i := 464) (by decide +kernel)⟩
theorem lw_p17 : lw_okq (⟨"ScaledNumeralDesk$Bench", "divideInfinite", "(LScaledNumeralDesk$Numeral;LScaledNumeralDesk$Numeral;LScaledNumeralDesk$Numeral;)I"⟩, 4) := ⟨⟨by decide +kernel, by decide +kernel⟩, List.mem_of_getElem? (i := 110) (by decide +kernel), List.mem_of_getElem? (i := 495) (by decide +kernel), List.mem_of_getElem? (i := 496) (by decide +kernel)⟩
theorem lw_p18 : lw_okq (⟨"ScaledNumeralDesk$Bench", "quotient", "(LScaledNumeralDesk$Numeral;LScaledNumeralDesk$Numeral;LScaledNumeralDesk$Numeral;)I"⟩, 4) := ⟨⟨by decide +kernel, by decide +kernel⟩, List.mem_of_getElem? (i := 110) (by decide +kernel), List.mem_of_getElem? (i := 499) (by decide +kernel), List.mem_of_getElem? (i := 500) (by decide +kernel)⟩
theorem lw_p19 : lw_okq (⟨"ScaledNumeralDesk$Bench", "remainder", "(LScaledNumeralDesk$Numeral;LScaledNumeralDesk$Numeral;LScaledNumeralDesk$Numeral;)I"⟩, 4) := ⟨⟨by decide +kernel, by decide +kernel⟩, List.mem_of_getElem? (i := 110) (by decide +kernel), List.mem_of_getElem? (i := 504) (by decide +kernel), List.mem_of_getElem? (i := 505) (by decide +kernel)⟩
theorem lw_p20 : lw_okq (⟨"ScaledNumeralDesk$Bench", "remainderInfinite", "(LScaledNumeralDesk$Numeral;LScaledNumeralDesk$Numeral;)I"⟩, 4) := ⟨⟨by decide +kernel, by decide +kernel⟩, List.mem_of_getElem? (i := 110) (by decide +kernel), List.mem_of_getElem? (i := 508) (by decide +kernel), List.mem_of_getElem? (i := 509) (by decide +kernel)⟩
theorem lw_p21 : lw_okq (⟨"ScaledNumeralDesk$Bench", "alterOther", "(ILScaledNumeralDesk$Numeral;)I"⟩, 4) := ⟨⟨by decide +kernel, by decide +kernel⟩, List.mem_of_getElem? (i := 110) (by decide +kernel), List.mem_of_getElem? (i := 520) (by decide +kernel), List.mem_of_getElem? (i := 521) (by decide +kernel)⟩
theorem lw_p22 : lw_okq (⟨"ScaledNumeralDesk$Numeral", "keepSignAndPlaces", "(I)V"⟩, 3) := ⟨⟨by decide +kernel, by decide +kernel⟩, List.mem_of_getElem? (i := 29) (by decide +kernel), List.mem_of_getElem? (i := 529) (by decide +kernel), List.mem_of_getElem? (i := 530) (by decide +kernel)⟩
theorem lw_p23 : lw_okq (⟨"ScaledNumeralDesk$Numeral", "hasFraction", "()Z"⟩, 3) := ⟨⟨by decide +kernel, by decide +kernel⟩, List.mem_of_getElem? (i := 29) (by decide +kernel), List.mem_of_getElem? (i := 543) (by decide +kernel), List.mem_of_getElem? (i := 544) (by decide +kernel)⟩
theorem lw_p24 : lw_okq (⟨"ScaledNumeralDesk$Bench", "root", "(LScaledNumeralDesk$Numeral;LScaledNumeralDesk$Numeral;)I"⟩, 4) := ⟨⟨by decide +kernel, by decide +kernel⟩, List.mem_of_getElem? (i := 110) (by decide +kernel), List.mem_of_getElem? (i := 553) (by decide +kernel), List.mem_of_getElem? (i := 554) (by decide +kernel)⟩
theorem lw_p25 : lw_okq (⟨"ScaledNumeralDesk$Bench", "nextRootLimb", "(I)I"⟩, 4) := ⟨⟨by decide +kernel, by decide +kernel⟩, List.mem_of_getElem? (i := 110) (by decide +kernel), List.mem_of_getElem? (i := 557) (by decide +kernel), List.mem_of_getElem? (i := 558) (by decide +kernel)⟩
theorem lw_p26 : lw_okq (⟨"ScaledNumeralDesk$Bench", "rootLimbFits", "(II)Z"⟩, 4) := ⟨⟨by decide +kernel, by decide +kernel⟩, List.mem_of_getElem? (i := 110) (by decide +kernel), List.mem_of_getElem? (i := 561) (by decide +kernel), List.mem_of_getElem? (i := 562) (by decide +kernel)⟩
theorem lw_p27 : lw_okq (⟨"ScaledNumeralDesk$Sum", "change", "(LScaledNumeralDesk$Numeral;I)V"⟩, 3) := ⟨⟨by decide +kernel, by decide +kernel⟩, List.mem_of_getElem? (i := 78) (by decide +kernel), List.mem_of_getElem? (i := 605) (by decide +kernel), List.mem_of_getElem? (i := 606) (by decide +kernel)⟩
theorem lw_p28 : lw_okq (⟨"ScaledNumeralDesk$Sum", "greatestPlaces", "()I"⟩, 3) := ⟨⟨by decide +kernel, by decide +kernel⟩, List.mem_of_getElem? (i := 78) (by decide +kernel), List.mem_of_getElem? (i := 663) (by decide +kernel), List.mem_of_getElem? (i := 664) (by decide +kernel)⟩
theorem lw_p29 : lw_okq (⟨"ScaledNumeralDeskModel", "out", "(II)Z"⟩, 17) := ⟨⟨by decide +kernel, by decide +kernel⟩, List.mem_of_getElem? (i := 677) (by decide +kernel), List.mem_of_getElem? (i := 744) (by decide +kernel), List.mem_of_getElem? (i := 745) (by decide +kernel)⟩
theorem lw_p30 : lw_okq (⟨"ScaledNumeralDeskModel", "isLetter", "(II)Z"⟩, 17) := ⟨⟨by decide +kernel, by decide +kernel⟩, List.mem_of_getElem? (i := 677) (by decide +kernel), List.mem_of_getElem? (i := 748) (by decide +kernel), List.mem_of_getElem? (i := 749) (by decide +kernel)⟩
theorem lw_p31 : lw_okq (⟨"ScaledNumeralDeskModel", "special", "(II)I"⟩, 17) := ⟨⟨by decide +kernel, by decide +kernel⟩, List.mem_of_getElem? (i := 677) (by decide +kernel), List.mem_of_getElem? (i := 752) (by decide +kernel), List.mem_of_getElem? (i := 753) (by decide +kernel)⟩
def lw_privs_2 : List (MethodName × Nat) := [(⟨"ScaledNumeralDesk$Bench", "load", "(LScaledNumeralDesk$Numeral;I)V"⟩, 4), (⟨"ScaledNumeralDesk$Bench", "divideInfinite", "(LScaledNumeralDesk$Numeral;LScaledNumeralDesk$Numeral;LScaledNumeralDesk$Numeral;)I"⟩, 4), (⟨"ScaledNumeralDesk$Bench", "quotient", "(LScaledNumeralDesk$Numeral;LScaledNumeralDesk$Numeral;LScaledNumeralDesk$Numeral;)I"⟩, 4), (⟨"ScaledNumeralDesk$Bench", "remainder", "(LScaledNumeralDesk$Numeral;LScaledNumeralDesk$Numeral;LScaledNumeralDesk$Numeral;)I"⟩, 4), (⟨"ScaledNumeralDesk$Bench", "remainderInfinite", "(LScaledNumeralDesk$Numeral;LScaledNumeralDesk$Numeral;)I"⟩, 4), (⟨"ScaledNumeralDesk$Bench", "alterOther", "(ILScaledNumeralDesk$Numeral;)I"⟩, 4), (⟨"ScaledNumeralDesk$Numeral", "keepSignAndPlaces", "(I)V"⟩, 3), (⟨"ScaledNumeralDesk$Numeral", "hasFraction", "()Z"⟩, 3), (⟨"ScaledNumeralDesk$Bench", "root", "(LScaledNumeralDesk$Numeral;LScaledNumeralDesk$Numeral;)I"⟩, 4), (⟨"ScaledNumeralDesk$Bench", "nextRootLimb", "(I)I"⟩, 4), (⟨"ScaledNumeralDesk$Bench", "rootLimbFits", "(II)Z"⟩, 4), (⟨"ScaledNumeralDesk$Sum", "change", "(LScaledNumeralDesk$Numeral;I)V"⟩, 3), (⟨"ScaledNumeralDesk$Sum", "greatestPlaces", "()I"⟩, 3), (⟨"ScaledNumeralDeskModel", "out", "(II)Z"⟩, 17), (⟨"ScaledNumeralDeskModel", "isLetter", "(II)Z"⟩, 17), (⟨"ScaledNumeralDeskModel", "special", "(II)I"⟩, 17)]
theorem lw_r2 : ∀ q ∈ lw_privs_2, lw_okq q := List.forall_mem_cons.mpr ⟨lw_p16, List.forall_mem_cons.mpr ⟨lw_p17, List.forall_mem_cons.mpr ⟨lw_p18, List.forall_mem_cons.mpr ⟨lw_p19, List.forall_mem_cons.mpr ⟨lw_p20, List.forall_mem_cons.mpr ⟨lw_p21, List.forall_mem_cons.mpr ⟨lw_p22, List.forall_mem_cons.mpr ⟨lw_p23, List.forall_mem_cons.mpr ⟨lw_p24, List.forall_mem_cons.mpr ⟨lw_p25, List.forall_mem_cons.mpr ⟨lw_p26, List.forall_mem_cons.mpr ⟨lw_p27, List.forall_mem_cons.mpr ⟨lw_p28, List.forall_mem_cons.mpr ⟨lw_p29, List.forall_mem_cons.mpr ⟨lw_p30, List.forall_mem_cons.mpr ⟨lw_p31, fun _ h => absurd h List.not_mem_nil⟩⟩⟩⟩⟩⟩⟩⟩⟩⟩⟩⟩⟩⟩⟩⟩
theorem lw_p32 : lw_okq (⟨"ScaledNumeralDeskModel", "isSign", "(I)Z"⟩, 17) := ⟨⟨by decide +kernel, by decide +kernel⟩, List.mem_of_getElem? (i := 677) (by decide +kernel), List.mem_of_getElem? (i := 756) (by decide +kernel), List.mem_of_getElem? (i := 757) (by decide +kernel)⟩
theorem lw_p33 : lw_okq (⟨"ScaledNumeralDeskModel", "infinity", "(I)Z"⟩, 17) := ⟨⟨by decide +kernel, by decide +kernel⟩, List.mem_of_getElem? (i := 677) (by decide +kernel), List.mem_of_getElem? (i := 760) (by decide +kernel), List.mem_of_getElem? (i := 761) (by decide +kernel)⟩
theorem lw_p34 : lw_okq (⟨"ScaledNumeralDeskModel", "letter", "(I)I"⟩, 17) := ⟨⟨by decide +kernel, by decide +kernel⟩, List.mem_of_getElem? (i := 677) (by decide +kernel), List.mem_of_getElem? (i := 764) (by decide +kernel), List.mem_of_getElem? (i := 765) (by decide +kernel)⟩
theorem lw_p35 : lw_okq (⟨"ScaledNumeralDeskModel", "number", "(IIZ)I"⟩, 17) := ⟨⟨by decide +kernel, by decide +kernel⟩, List.mem_of_getElem? (i := 677) (by decide +kernel), List.mem_of_getElem? (i := 768) (by decide +kernel), List.mem_of_getElem? (i := 769) (by decide +kernel)⟩
theorem lw_p36 : lw_okq (⟨"ScaledNumeralDeskModel", "isDigit", "(I)Z"⟩, 17) := ⟨⟨by decide +kernel, by decide +kernel⟩, List.mem_of_getElem? (i := 677) (by decide +kernel), List.mem_of_getElem? (i := 772) (by decide +kernel), List.mem_of_getElem? (i := 773) (by decide +kernel)⟩
theorem lw_p37 : lw_okq (⟨"ScaledNumeralDeskModel", "clear", "()V"⟩, 17) := ⟨⟨by decide +kernel, by decide +kernel⟩, List.mem_of_getElem? (i := 677) (by decide +kernel), List.mem_of_getElem? (i := 776) (by decide +kernel), List.mem_of_getElem? (i := 777) (by decide +kernel)⟩
theorem lw_p38 : lw_okq (⟨"ScaledNumeralDeskModel", "writeDown", "(III)Z"⟩, 17) := ⟨⟨by decide +kernel, by decide +kernel⟩, List.mem_of_getElem? (i := 677) (by decide +kernel), List.mem_of_getElem? (i := 780) (by decide +kernel), List.mem_of_getElem? (i := 781) (by decide +kernel)⟩
theorem lw_p39 : lw_okq (⟨"ScaledNumeralDeskModel", "finish", "(II)I"⟩, 17) := ⟨⟨by decide +kernel, by decide +kernel⟩, List.mem_of_getElem? (i := 677) (by decide +kernel), List.mem_of_getElem? (i := 784) (by decide +kernel), List.mem_of_getElem? (i := 785) (by decide +kernel)⟩
theorem lw_p40 : lw_okq (⟨"ScaledNumeralDeskModel", "roundAt", "(I)V"⟩, 17) := ⟨⟨by decide +kernel, by decide +kernel⟩, List.mem_of_getElem? (i := 677) (by decide +kernel), List.mem_of_getElem? (i := 788) (by decide +kernel), List.mem_of_getElem? (i := 789) (by decide +kernel)⟩
theorem lw_p41 : lw_okq (⟨"ScaledNumeralDeskModel", "settle", "()V"⟩, 17) := ⟨⟨by decide +kernel, by decide +kernel⟩, List.mem_of_getElem? (i := 677) (by decide +kernel), List.mem_of_getElem? (i := 792) (by decide +kernel), List.mem_of_getElem? (i := 793) (by decide +kernel)⟩
theorem lw_p42 : lw_okq (⟨"ScaledNumeralDeskModel", "carry", "()I"⟩, 17) := ⟨⟨by decide +kernel, by decide +kernel⟩, List.mem_of_getElem? (i := 677) (by decide +kernel), List.mem_of_getElem? (i := 796) (by decide +kernel), List.mem_of_getElem? (i := 797) (by decide +kernel)⟩
theorem lw_p43 : lw_okq (⟨"ScaledNumeralDeskModel", "cut", "(I)V"⟩, 17) := ⟨⟨by decide +kernel, by decide +kernel⟩, List.mem_of_getElem? (i := 677) (by decide +kernel), List.mem_of_getElem? (i := 800) (by decide +kernel), List.mem_of_getElem? (i := 801) (by decide +kernel)⟩
theorem lw_p44 : lw_okq (⟨"ScaledNumeralDeskModel", "keep", "(II)I"⟩, 17) := ⟨⟨by decide +kernel, by decide +kernel⟩, List.mem_of_getElem? (i := 677) (by decide +kernel), List.mem_of_getElem? (i := 804) (by decide +kernel), List.mem_of_getElem? (i := 805) (by decide +kernel)⟩
theorem lw_p45 : lw_okq (⟨"ScaledNumeralDeskModel", "reaches", "(I)Z"⟩, 17) := ⟨⟨by decide +kernel, by decide +kernel⟩, List.mem_of_getElem? (i := 677) (by decide +kernel), List.mem_of_getElem? (i := 808) (by decide +kernel), List.mem_of_getElem? (i := 809) (by decide +kernel)⟩
theorem lw_p46 : lw_okq (⟨"ScaledNumeralDeskModel", "whole", "(I)I"⟩, 17) := ⟨⟨by decide +kernel, by decide +kernel⟩, List.mem_of_getElem? (i := 677) (by decide +kernel), List.mem_of_getElem? (i := 816) (by decide +kernel), List.mem_of_getElem? (i := 817) (by decide +kernel)⟩
theorem lw_p47 : lw_okq (⟨"ScaledNumeralDeskModel", "infinite", "(IIII)I"⟩, 17) := ⟨⟨by decide +kernel, by decide +kernel⟩, List.mem_of_getElem? (i := 677) (by decide +kernel), List.mem_of_getElem? (i := 833) (by decide +kernel), List.mem_of_getElem? (i := 834) (by decide +kernel)⟩
def lw_privs_3 : List (MethodName × Nat) := [(⟨"ScaledNumeralDeskModel", "isSign", "(I)Z"⟩, 17), (⟨"ScaledNumeralDeskModel", "infinity", "(I)Z"⟩, 17), (⟨"ScaledNumeralDeskModel", "letter", "(I)I"⟩, 17), (⟨"ScaledNumeralDeskModel", "number", "(IIZ)I"⟩, 17), (⟨"ScaledNumeralDeskModel", "isDigit", "(I)Z"⟩, 17), (⟨"ScaledNumeralDeskModel", "clear", "()V"⟩, 17), (⟨"ScaledNumeralDeskModel", "writeDown", "(III)Z"⟩, 17), (⟨"ScaledNumeralDeskModel", "finish", "(II)I"⟩, 17), (⟨"ScaledNumeralDeskModel", "roundAt", "(I)V"⟩, 17), (⟨"ScaledNumeralDeskModel", "settle", "()V"⟩, 17), (⟨"ScaledNumeralDeskModel", "carry", "()I"⟩, 17), (⟨"ScaledNumeralDeskModel", "cut", "(I)V"⟩, 17), (⟨"ScaledNumeralDeskModel", "keep", "(II)I"⟩, 17), (⟨"ScaledNumeralDeskModel", "reaches", "(I)Z"⟩, 17), (⟨"ScaledNumeralDeskModel", "whole", "(I)I"⟩, 17), (⟨"ScaledNumeralDeskModel", "infinite", "(IIII)I"⟩, 17)]
theorem lw_r3 : ∀ q ∈ lw_privs_3, lw_okq q := List.forall_mem_cons.mpr ⟨lw_p32, List.forall_mem_cons.mpr ⟨lw_p33, List.forall_mem_cons.mpr ⟨lw_p34, List.forall_mem_cons.mpr ⟨lw_p35, List.forall_mem_cons.mpr ⟨lw_p36, List.forall_mem_cons.mpr ⟨lw_p37, List.forall_mem_cons.mpr ⟨lw_p38, List.forall_mem_cons.mpr ⟨lw_p39, List.forall_mem_cons.mpr ⟨lw_p40, List.forall_mem_cons.mpr ⟨lw_p41, List.forall_mem_cons.mpr ⟨lw_p42, List.forall_mem_cons.mpr ⟨lw_p43, List.forall_mem_cons.mpr ⟨lw_p44, List.forall_mem_cons.mpr ⟨lw_p45, List.forall_mem_cons.mpr ⟨lw_p46, List.forall_mem_cons.mpr ⟨lw_p47, fun _ h => absurd h List.not_mem_nil⟩⟩⟩⟩⟩⟩⟩⟩⟩⟩⟩⟩⟩⟩⟩⟩
theorem lw_p48 : lw_okq (⟨"ScaledNumeralDeskModel", "sign", "(I)I"⟩, 17) := ⟨⟨by decide +kernel, by decide +kernel⟩, List.mem_of_getElem? (i := 677) (by decide +kernel), List.mem_of_getElem? (i := 837) (by decide +kernel), List.mem_of_getElem? (i := 838) (by decide +kernel)⟩
theorem lw_p49 : lw_okq (⟨"ScaledNumeralDeskModel", "copy", "(II)I"⟩, 17) := ⟨⟨by decide +kernel, by decide +kernel⟩, List.mem_of_getElem? (i := 677) (by decide +kernel), List.mem_of_getElem? (i := 841) (by decide +kernel), List.mem_of_getElem? (i := 842) (by decide +kernel)⟩
theorem lw_p50 : lw_okq (⟨"ScaledNumeralDeskModel", "takeX", "(I)V"⟩, 17) := ⟨⟨by decide +kernel, by decide +kernel⟩, List.mem_of_getElem? (i := 677) (by decide +kernel), List.mem_of_getElem? (i := 845) (by decide +kernel), List.mem_of_getElem? (i := 846) (by decide +kernel)⟩
theorem lw_p51 : lw_okq (⟨"ScaledNumeralDeskModel", "spread", "()V"⟩, 17) := ⟨⟨by decide +kernel, by decide +kernel⟩, List.mem_of_getElem? (i := 677) (by decide +kernel), List.mem_of_getElem? (i := 849) (by decide +kernel), List.mem_of_getElem? (i := 850) (by decide +kernel)⟩
theorem lw_p52 : lw_okq (⟨"ScaledNumeralDeskModel", "zero", "(I)I"⟩, 17) := ⟨⟨by decide +kernel, by decide +kernel⟩, List.mem_of_getElem? (i := 677) (by decide +kernel), List.mem_of_getElem? (i := 853) (by decide +kernel), List.mem_of_getElem? (i := 854) (by decide +kernel)⟩
theorem lw_p53 : lw_okq (⟨"ScaledNumeralDeskModel", "takeY", "(I)V"⟩, 17) := ⟨⟨by decide +kernel, by decide +kernel⟩, List.mem_of_getElem? (i := 677) (by decide +kernel), List.mem_of_getElem? (i := 857) (by decide +kernel), List.mem_of_getElem? (i := 858) (by decide +kernel)⟩
theorem lw_p54 : lw_okq (⟨"ScaledNumeralDeskModel", "top", "(Z)I"⟩, 17) := ⟨⟨by decide +kernel, by decide +kernel⟩, List.mem_of_getElem? (i := 677) (by decide +kernel), List.mem_of_getElem? (i := 861) (by decide +kernel), List.mem_of_getElem? (i := 862) (by decide +kernel)⟩
theorem lw_p55 : lw_okq (⟨"ScaledNumeralDeskModel", "add", "(IZI)I"⟩, 17) := ⟨⟨by decide +kernel, by decide +kernel⟩, List.mem_of_getElem? (i := 677) (by decide +kernel), List.mem_of_getElem? (i := 865) (by decide +kernel), List.mem_of_getElem? (i := 866) (by decide +kernel)⟩
theorem lw_p56 : lw_okq (⟨"ScaledNumeralDeskModel", "multiply", "(II)I"⟩, 17) := ⟨⟨by decide +kernel, by decide +kernel⟩, List.mem_of_getElem? (i := 677) (by decide +kernel), List.mem_of_getElem? (i := 869) (by decide +kernel), List.mem_of_getElem? (i := 870) (by decide +kernel)⟩
theorem lw_p57 : lw_okq (⟨"ScaledNumeralDeskModel", "divide", "(III)I"⟩, 17) := ⟨⟨by decide +kernel, by decide +kernel⟩, List.mem_of_getElem? (i := 677) (by decide +kernel), List.mem_of_getElem? (i := 873) (by decide +kernel), List.mem_of_getElem? (i := 874) (by decide +kernel)⟩
theorem lw_p58 : lw_okq (⟨"ScaledNumeralDeskModel", "quotientScale", "(II)I"⟩, 17) := ⟨⟨by decide +kernel, by decide +kernel⟩, List.mem_of_getElem? (i := 677) (by decide +kernel), List.mem_of_getElem? (i := 877) (by decide +kernel), List.mem_of_getElem? (i := 878) (by decide +kernel)⟩
theorem lw_p59 : lw_okq (⟨"ScaledNumeralDeskModel", "weight", "(Z)I"⟩, 17) := ⟨⟨by decide +kernel, by decide +kernel⟩, List.mem_of_getElem? (i := 677) (by decide +kernel), List.mem_of_getElem? (i := 881) (by decide +kernel), List.mem_of_getElem? (i := 882) (by decide +kernel)⟩
theorem lw_p60 : lw_okq (⟨"ScaledNumeralDeskModel", "lead", "(Z)I"⟩, 17) := ⟨⟨by decide +kernel, by decide +kernel⟩, List.mem_of_getElem? (i := 677) (by decide +kernel), List.mem_of_getElem? (i := 885) (by decide +kernel), List.mem_of_getElem? (i := 886) (by decide +kernel)⟩
theorem lw_p61 : lw_okq (⟨"ScaledNumeralDeskModel", "quotient", "(I)V"⟩, 17) := ⟨⟨by decide +kernel, by decide +kernel⟩, List.mem_of_getElem? (i := 677) (by decide +kernel), List.mem_of_getElem? (i := 889) (by decide +kernel), List.mem_of_getElem? (i := 890) (by decide +kernel)⟩
theorem lw_p62 : lw_okq (⟨"ScaledNumeralDeskModel", "noRest", "()V"⟩, 17) := ⟨⟨by decide +kernel, by decide +kernel⟩, List.mem_of_getElem? (i := 677) (by decide +kernel), List.mem_of_getElem? (i := 893) (by decide +kernel), List.mem_of_getElem? (i := 894) (by decide +kernel)⟩
theorem lw_p63 : lw_okq (⟨"ScaledNumeralDeskModel", "bring", "(I)V"⟩, 17) := ⟨⟨by decide +kernel, by decide +kernel⟩, List.mem_of_getElem? (i := 677) (by decide +kernel), List.mem_of_getElem? (i := 897) (by decide +kernel), List.mem_of_getElem? (i := 898) (by decide +kernel)⟩
def lw_privs_4 : List (MethodName × Nat) := [(⟨"ScaledNumeralDeskModel", "sign", "(I)I"⟩, 17), (⟨"ScaledNumeralDeskModel", "copy", "(II)I"⟩, 17), (⟨"ScaledNumeralDeskModel", "takeX", "(I)V"⟩, 17), (⟨"ScaledNumeralDeskModel", "spread", "()V"⟩, 17), (⟨"ScaledNumeralDeskModel", "zero", "(I)I"⟩, 17), (⟨"ScaledNumeralDeskModel", "takeY", "(I)V"⟩, 17), (⟨"ScaledNumeralDeskModel", "top", "(Z)I"⟩, 17), (⟨"ScaledNumeralDeskModel", "add", "(IZI)I"⟩, 17), (⟨"ScaledNumeralDeskModel", "multiply", "(II)I"⟩, 17), (⟨"ScaledNumeralDeskModel", "divide", "(III)I"⟩, 17), (⟨"ScaledNumeralDeskModel", "quotientScale", "(II)I"⟩, 17), (⟨"ScaledNumeralDeskModel", "weight", "(Z)I"⟩, 17), (⟨"ScaledNumeralDeskModel", "lead", "(Z)I"⟩, 17), (⟨"ScaledNumeralDeskModel", "quotient", "(I)V"⟩, 17), (⟨"ScaledNumeralDeskModel", "noRest", "()V"⟩, 17), (⟨"ScaledNumeralDeskModel", "bring", "(I)V"⟩, 17)]
theorem lw_r4 : ∀ q ∈ lw_privs_4, lw_okq q := List.forall_mem_cons.mpr ⟨lw_p48, List.forall_mem_cons.mpr ⟨lw_p49, List.forall_mem_cons.mpr ⟨lw_p50, List.forall_mem_cons.mpr ⟨lw_p51, List.forall_mem_cons.mpr ⟨lw_p52, List.forall_mem_cons.mpr ⟨lw_p53, List.forall_mem_cons.mpr ⟨lw_p54, List.forall_mem_cons.mpr ⟨lw_p55, List.forall_mem_cons.mpr ⟨lw_p56, List.forall_mem_cons.mpr ⟨lw_p57, List.forall_mem_cons.mpr ⟨lw_p58, List.forall_mem_cons.mpr ⟨lw_p59, List.forall_mem_cons.mpr ⟨lw_p60, List.forall_mem_cons.mpr ⟨lw_p61, List.forall_mem_cons.mpr ⟨lw_p62, List.forall_mem_cons.mpr ⟨lw_p63, fun _ h => absurd h List.not_mem_nil⟩⟩⟩⟩⟩⟩⟩⟩⟩⟩⟩⟩⟩⟩⟩⟩
theorem lw_p64 : lw_okq (⟨"ScaledNumeralDeskModel", "holdsY", "()Z"⟩, 17) := ⟨⟨by decide +kernel, by decide +kernel⟩, List.mem_of_getElem? (i := 677) (by decide +kernel), List.mem_of_getElem? (i := 901) (by decide +kernel), List.mem_of_getElem? (i := 902) (by decide +kernel)⟩
theorem lw_p65 : lw_okq (⟨"ScaledNumeralDeskModel", "subtractY", "()V"⟩, 17) := ⟨⟨by decide +kernel, by decide +kernel⟩, List.mem_of_getElem? (i := 677) (by decide +kernel), List.mem_of_getElem? (i := 905) (by decide +kernel), List.mem_of_getElem? (i := 906) (by decide +kernel)⟩
theorem lw_p66 : lw_okq (⟨"ScaledNumeralDeskModel", "remainder", "(II)I"⟩, 17) := ⟨⟨by decide +kernel, by decide +kernel⟩, List.mem_of_getElem? (i := 677) (by decide +kernel), List.mem_of_getElem? (i := 909) (by decide +kernel), List.mem_of_getElem? (i := 910) (by decide +kernel)⟩
theorem lw_p67 : lw_okq (⟨"ScaledNumeralDeskModel", "toWhole", "(IZ)I"⟩, 17) := ⟨⟨by decide +kernel, by decide +kernel⟩, List.mem_of_getElem? (i := 677) (by decide +kernel), List.mem_of_getElem? (i := 917) (by decide +kernel), List.mem_of_getElem? (i := 918) (by decide +kernel)⟩
theorem lw_p68 : lw_okq (⟨"ScaledNumeralDeskModel", "least", "()I"⟩, 17) := ⟨⟨by decide +kernel, by decide +kernel⟩, List.mem_of_getElem? (i := 677) (by decide +kernel), List.mem_of_getElem? (i := 921) (by decide +kernel), List.mem_of_getElem? (i := 922) (by decide +kernel)⟩
theorem lw_p69 : lw_okq (⟨"ScaledNumeralDeskModel", "squareRoot", "(I)V"⟩, 17) := ⟨⟨by decide +kernel, by decide +kernel⟩, List.mem_of_getElem? (i := 677) (by decide +kernel), List.mem_of_getElem? (i := 925) (by decide +kernel), List.mem_of_getElem? (i := 926) (by decide +kernel)⟩
theorem lw_p70 : lw_okq (⟨"ScaledNumeralDeskModel", "twentyfold", "()V"⟩, 17) := ⟨⟨by decide +kernel, by decide +kernel⟩, List.mem_of_getElem? (i := 677) (by decide +kernel), List.mem_of_getElem? (i := 929) (by decide +kernel), List.mem_of_getElem? (i := 930) (by decide +kernel)⟩
theorem lw_p71 : lw_okq (⟨"ScaledNumeralDeskModel", "twoMore", "()V"⟩, 17) := ⟨⟨by decide +kernel, by decide +kernel⟩, List.mem_of_getElem? (i := 677) (by decide +kernel), List.mem_of_getElem? (i := 933) (by decide +kernel), List.mem_of_getElem? (i := 934) (by decide +kernel)⟩
theorem lw_p72 : lw_okq (⟨"ScaledNumeralDeskModel", "rank", "(I)I"⟩, 17) := ⟨⟨by decide +kernel, by decide +kernel⟩, List.mem_of_getElem? (i := 677) (by decide +kernel), List.mem_of_getElem? (i := 945) (by decide +kernel), List.mem_of_getElem? (i := 946) (by decide +kernel)⟩
theorem lw_p73 : lw_okq (⟨"ScaledNumeralDeskModel", "gather", "(IIZ)V"⟩, 17) := ⟨⟨by decide +kernel, by decide +kernel⟩, List.mem_of_getElem? (i := 677) (by decide +kernel), List.mem_of_getElem? (i := 953) (by decide +kernel), List.mem_of_getElem? (i := 954) (by decide +kernel)⟩
theorem lw_p74 : lw_okq (⟨"ScaledNumeralDeskModel", "place", "(II)I"⟩, 17) := ⟨⟨by decide +kernel, by decide +kernel⟩, List.mem_of_getElem? (i := 677) (by decide +kernel), List.mem_of_getElem? (i := 957) (by decide +kernel), List.mem_of_getElem? (i := 958) (by decide +kernel)⟩
theorem lw_p75 : lw_okq (⟨"ScaledNumeralDeskModel", "result", "(II)I"⟩, 17) := ⟨⟨by decide +kernel, by decide +kernel⟩, List.mem_of_getElem? (i := 677) (by decide +kernel), List.mem_of_getElem? (i := 982) (by decide +kernel), List.mem_of_getElem? (i := 983) (by decide +kernel)⟩
def lw_privs_5 : List (MethodName × Nat) := [(⟨"ScaledNumeralDeskModel", "holdsY", "()Z"⟩, 17), (⟨"ScaledNumeralDeskModel", "subtractY", "()V"⟩, 17), (⟨"ScaledNumeralDeskModel", "remainder", "(II)I"⟩, 17), (⟨"ScaledNumeralDeskModel", "toWhole", "(IZ)I"⟩, 17), (⟨"ScaledNumeralDeskModel", "least", "()I"⟩, 17), (⟨"ScaledNumeralDeskModel", "squareRoot", "(I)V"⟩, 17), (⟨"ScaledNumeralDeskModel", "twentyfold", "()V"⟩, 17), (⟨"ScaledNumeralDeskModel", "twoMore", "()V"⟩, 17), (⟨"ScaledNumeralDeskModel", "rank", "(I)I"⟩, 17), (⟨"ScaledNumeralDeskModel", "gather", "(IIZ)V"⟩, 17), (⟨"ScaledNumeralDeskModel", "place", "(II)I"⟩, 17), (⟨"ScaledNumeralDeskModel", "result", "(II)I"⟩, 17)]
theorem lw_r5 : ∀ q ∈ lw_privs_5, lw_okq q := List.forall_mem_cons.mpr ⟨lw_p64, List.forall_mem_cons.mpr ⟨lw_p65, List.forall_mem_cons.mpr ⟨lw_p66, List.forall_mem_cons.mpr ⟨lw_p67, List.forall_mem_cons.mpr ⟨lw_p68, List.forall_mem_cons.mpr ⟨lw_p69, List.forall_mem_cons.mpr ⟨lw_p70, List.forall_mem_cons.mpr ⟨lw_p71, List.forall_mem_cons.mpr ⟨lw_p72, List.forall_mem_cons.mpr ⟨lw_p73, List.forall_mem_cons.mpr ⟨lw_p74, List.forall_mem_cons.mpr ⟨lw_p75, fun _ h => absurd h List.not_mem_nil⟩⟩⟩⟩⟩⟩⟩⟩⟩⟩⟩⟩
def lw_privs : List (MethodName × Nat) := lw_privs_1 ++ (lw_privs_2 ++ (lw_privs_3 ++ (lw_privs_4 ++ (lw_privs_5))))
def lw_tbl : List Cond := k2_sels lw_privs ++ tables_1
theorem lw_privs_ok : ∀ q ∈ lw_privs, lw_okq q := by
  show ∀ q ∈ lw_privs_1 ++ (lw_privs_2 ++ (lw_privs_3 ++ (lw_privs_4 ++ (lw_privs_5)))), lw_okq q
  exact List.forall_mem_append.mpr ⟨lw_r1, List.forall_mem_append.mpr ⟨lw_r2, List.forall_mem_append.mpr ⟨lw_r3, List.forall_mem_append.mpr ⟨lw_r4, lw_r5⟩⟩⟩⟩
end
section
/-! Names, words, fields: by wip/whole/names.py out of the task. -/
def GW : List Cond := lw_tbl.filter goodWord
theorem gw_in {w : Cond} (i : Nat) (h : tables_1[i]? = some w) (hg : goodWord w = true) : w ∈ GW := List.mem_filter.mpr ⟨List.mem_append_right _ (List.mem_of_getElem? h), hg⟩
theorem gw_sel {q : MethodName × Nat} (i : Nat) (h : lw_privs[i]? = some q) (hg : goodWord (Cond.selects q.1.cls q.1 q.1) = true) : Cond.selects q.1.cls q.1 q.1 ∈ GW := List.mem_filter.mpr ⟨List.mem_append_left _ (List.mem_map.mpr ⟨q, List.mem_of_getElem? h, rfl⟩), hg⟩
abbrev WS (y : MethodName) (c : ByteArray) (n : Nat) (r : Option FieldType) : List Cond := Cond.code y c n r :: GW
theorem gw_good {w : Cond} (h : w ∈ GW) : (w.onTables && w.keeps) = true ∨ ∃ ty, w = .arrayClass ty := good_of_word (List.mem_filter.mp h).2
theorem ws_good {y y0 : MethodName} {c c0 : ByteArray} {n n0 : Nat} {r r0 : Option FieldType} (h : Cond.code y c n r ∈ GW) : GoodIn (WS y0 c0 n0 r0) (WS y c n r) := fun w hw => by
  have hm : w ∈ GW := (List.mem_cons.mp hw).elim (fun e => e ▸ h) id
  exact ⟨List.mem_cons_of_mem _ hm, gw_good hm⟩
abbrev y_D_init : MethodName := ⟨"ScaledNumeralDesk", "<init>", "()V"⟩
abbrev b_D_init : ByteArray := prog_1_method_1_code
abbrev ws_D_init : List Cond := WS y_D_init b_D_init 2 none
abbrev y_D_type : MethodName := ⟨"ScaledNumeralDesk", "type", "(C)Z"⟩
abbrev b_D_type : ByteArray := prog_1_method_2_code
abbrev ws_D_type : List Cond := WS y_D_type b_D_type 2 (some .boolean)
abbrev y_D_enter : MethodName := ⟨"ScaledNumeralDesk", "enter", "(I)I"⟩
abbrev b_D_enter : ByteArray := prog_1_method_3_code
abbrev ws_D_enter : List Cond := WS y_D_enter b_D_enter 3 (some .int)
abbrev y_D_length : MethodName := ⟨"ScaledNumeralDesk", "length", "(I)I"⟩
abbrev b_D_length : ByteArray := prog_1_method_4_code
abbrev ws_D_length : List Cond := WS y_D_length b_D_length 2 (some .int)
abbrev y_D_character : MethodName := ⟨"ScaledNumeralDesk", "character", "(II)I"⟩
abbrev b_D_character : ByteArray := prog_1_method_5_code
abbrev ws_D_character : List Cond := WS y_D_character b_D_character 3 (some .int)
abbrev y_D_scale : MethodName := ⟨"ScaledNumeralDesk", "scale", "(I)I"⟩
abbrev b_D_scale : ByteArray := prog_1_method_6_code
abbrev ws_D_scale : List Cond := WS y_D_scale b_D_scale 2 (some .int)
abbrev y_D_apply : MethodName := ⟨"ScaledNumeralDesk", "apply", "(IIII)I"⟩
abbrev b_D_apply : ByteArray := prog_1_method_7_code
abbrev ws_D_apply : List Cond := WS y_D_apply b_D_apply 5 (some .int)
abbrev y_D_adjust : MethodName := ⟨"ScaledNumeralDesk", "adjust", "(IIII)I"⟩
abbrev b_D_adjust : ByteArray := prog_1_method_8_code
abbrev ws_D_adjust : List Cond := WS y_D_adjust b_D_adjust 5 (some .int)
abbrev y_D_fit : MethodName := ⟨"ScaledNumeralDesk", "fit", "(III)I"⟩
abbrev b_D_fit : ByteArray := prog_1_method_9_code
abbrev ws_D_fit : List Cond := WS y_D_fit b_D_fit 5 (some .int)
abbrev y_D_compare : MethodName := ⟨"ScaledNumeralDesk", "compare", "(II)I"⟩
abbrev b_D_compare : ByteArray := prog_1_method_10_code
abbrev ws_D_compare : List Cond := WS y_D_compare b_D_compare 3 (some .int)
abbrev y_D_accept : MethodName := ⟨"ScaledNumeralDesk", "accept", "(II)I"⟩
abbrev b_D_accept : ByteArray := prog_1_method_11_code
abbrev ws_D_accept : List Cond := WS y_D_accept b_D_accept 3 (some .int)
abbrev y_D_discard : MethodName := ⟨"ScaledNumeralDesk", "discard", "(II)I"⟩
abbrev b_D_discard : ByteArray := prog_1_method_12_code
abbrev ws_D_discard : List Cond := WS y_D_discard b_D_discard 3 (some .int)
abbrev y_D_merge : MethodName := ⟨"ScaledNumeralDesk", "merge", "(II)I"⟩
abbrev b_D_merge : ByteArray := prog_1_method_13_code
abbrev ws_D_merge : List Cond := WS y_D_merge b_D_merge 3 (some .int)
abbrev y_D_reset : MethodName := ⟨"ScaledNumeralDesk", "reset", "(I)Z"⟩
abbrev b_D_reset : ByteArray := prog_1_method_14_code
abbrev ws_D_reset : List Cond := WS y_D_reset b_D_reset 2 (some .boolean)
abbrev y_D_count : MethodName := ⟨"ScaledNumeralDesk", "count", "(I)I"⟩
abbrev b_D_count : ByteArray := prog_1_method_15_code
abbrev ws_D_count : List Cond := WS y_D_count b_D_count 2 (some .int)
abbrev y_D_total : MethodName := ⟨"ScaledNumeralDesk", "total", "(II)I"⟩
abbrev b_D_total : ByteArray := prog_1_method_16_code
abbrev ws_D_total : List Cond := WS y_D_total b_D_total 3 (some .int)
abbrev y_D_average : MethodName := ⟨"ScaledNumeralDesk", "average", "(II)I"⟩
abbrev b_D_average : ByteArray := prog_1_method_17_code
abbrev ws_D_average : List Cond := WS y_D_average b_D_average 4 (some .int)
abbrev y_D_isRegister : MethodName := ⟨"ScaledNumeralDesk", "isRegister", "(I)Z"⟩
abbrev b_D_isRegister : ByteArray := prog_1_method_18_code
abbrev ws_D_isRegister : List Cond := WS y_D_isRegister b_D_isRegister 1 (some .boolean)
abbrev y_D_isSum : MethodName := ⟨"ScaledNumeralDesk", "isSum", "(I)Z"⟩
abbrev b_D_isSum : ByteArray := prog_1_method_19_code
abbrev ws_D_isSum : List Cond := WS y_D_isSum b_D_isSum 1 (some .boolean)
abbrev y_D_store : MethodName := ⟨"ScaledNumeralDesk", "store", "(II)I"⟩
abbrev b_D_store : ByteArray := prog_1_method_20_code
abbrev ws_D_store : List Cond := WS y_D_store b_D_store 3 (some .int)
abbrev y_M_init : MethodName := ⟨"ScaledNumeralDeskModel", "<init>", "()V"⟩
abbrev b_M_init : ByteArray := prog_10_method_1_code
abbrev ws_M_init : List Cond := WS y_M_init b_M_init 1 none
abbrev y_M_out : MethodName := ⟨"ScaledNumeralDeskModel", "out", "(II)Z"⟩
abbrev b_M_out : ByteArray := prog_10_method_2_code
abbrev ws_M_out : List Cond := WS y_M_out b_M_out 3 (some .boolean)
abbrev y_M_clear : MethodName := ⟨"ScaledNumeralDeskModel", "clear", "()V"⟩
abbrev b_M_clear : ByteArray := prog_10_method_3_code
abbrev ws_M_clear : List Cond := WS y_M_clear b_M_clear 2 none
abbrev y_M_carry : MethodName := ⟨"ScaledNumeralDeskModel", "carry", "()I"⟩
abbrev b_M_carry : ByteArray := prog_10_method_4_code
abbrev ws_M_carry : List Cond := WS y_M_carry b_M_carry 4 (some .int)
abbrev y_M_settle : MethodName := ⟨"ScaledNumeralDeskModel", "settle", "()V"⟩
abbrev b_M_settle : ByteArray := prog_10_method_5_code
abbrev ws_M_settle : List Cond := WS y_M_settle b_M_settle 3 none
abbrev y_M_cut : MethodName := ⟨"ScaledNumeralDeskModel", "cut", "(I)V"⟩
abbrev b_M_cut : ByteArray := prog_10_method_6_code
abbrev ws_M_cut : List Cond := WS y_M_cut b_M_cut 3 none
abbrev y_M_roundAt : MethodName := ⟨"ScaledNumeralDeskModel", "roundAt", "(I)V"⟩
abbrev b_M_roundAt : ByteArray := prog_10_method_7_code
abbrev ws_M_roundAt : List Cond := WS y_M_roundAt b_M_roundAt 4 none
abbrev y_M_reaches : MethodName := ⟨"ScaledNumeralDeskModel", "reaches", "(I)Z"⟩
abbrev b_M_reaches : ByteArray := prog_10_method_8_code
abbrev ws_M_reaches : List Cond := WS y_M_reaches b_M_reaches 3 (some .boolean)
abbrev y_M_keep : MethodName := ⟨"ScaledNumeralDeskModel", "keep", "(II)I"⟩
abbrev b_M_keep : ByteArray := prog_10_method_9_code
abbrev ws_M_keep : List Cond := WS y_M_keep b_M_keep 4 (some .int)
abbrev y_M_finish : MethodName := ⟨"ScaledNumeralDeskModel", "finish", "(II)I"⟩
abbrev b_M_finish : ByteArray := prog_10_method_10_code
abbrev ws_M_finish : List Cond := WS y_M_finish b_M_finish 3 (some .int)
abbrev y_M_special : MethodName := ⟨"ScaledNumeralDeskModel", "special", "(II)I"⟩
abbrev b_M_special : ByteArray := prog_10_method_11_code
abbrev ws_M_special : List Cond := WS y_M_special b_M_special 3 (some .int)
abbrev y_M_takeX : MethodName := ⟨"ScaledNumeralDeskModel", "takeX", "(I)V"⟩
abbrev b_M_takeX : ByteArray := prog_10_method_12_code
abbrev ws_M_takeX : List Cond := WS y_M_takeX b_M_takeX 3 none
abbrev y_M_takeY : MethodName := ⟨"ScaledNumeralDeskModel", "takeY", "(I)V"⟩
abbrev b_M_takeY : ByteArray := prog_10_method_13_code
abbrev ws_M_takeY : List Cond := WS y_M_takeY b_M_takeY 3 none
abbrev y_M_spread : MethodName := ⟨"ScaledNumeralDeskModel", "spread", "()V"⟩
abbrev b_M_spread : ByteArray := prog_10_method_14_code
abbrev ws_M_spread : List Cond := WS y_M_spread b_M_spread 2 none
abbrev y_M_top : MethodName := ⟨"ScaledNumeralDeskModel", "top", "(Z)I"⟩
abbrev b_M_top : ByteArray := prog_10_method_15_code
abbrev ws_M_top : List Cond := WS y_M_top b_M_top 5 (some .int)
abbrev y_M_weight : MethodName := ⟨"ScaledNumeralDeskModel", "weight", "(Z)I"⟩
abbrev b_M_weight : ByteArray := prog_10_method_16_code
abbrev ws_M_weight : List Cond := WS y_M_weight b_M_weight 3 (some .int)
abbrev y_M_lead : MethodName := ⟨"ScaledNumeralDeskModel", "lead", "(Z)I"⟩
abbrev b_M_lead : ByteArray := prog_10_method_17_code
abbrev ws_M_lead : List Cond := WS y_M_lead b_M_lead 5 (some .int)
abbrev y_M_sign : MethodName := ⟨"ScaledNumeralDeskModel", "sign", "(I)I"⟩
abbrev b_M_sign : ByteArray := prog_10_method_18_code
abbrev ws_M_sign : List Cond := WS y_M_sign b_M_sign 4 (some .int)
abbrev y_M_bring : MethodName := ⟨"ScaledNumeralDeskModel", "bring", "(I)V"⟩
abbrev b_M_bring : ByteArray := prog_10_method_19_code
abbrev ws_M_bring : List Cond := WS y_M_bring b_M_bring 3 none
abbrev y_M_holdsY : MethodName := ⟨"ScaledNumeralDeskModel", "holdsY", "()Z"⟩
abbrev b_M_holdsY : ByteArray := prog_10_method_20_code
abbrev ws_M_holdsY : List Cond := WS y_M_holdsY b_M_holdsY 3 (some .boolean)
abbrev y_M_subtractY : MethodName := ⟨"ScaledNumeralDeskModel", "subtractY", "()V"⟩
abbrev b_M_subtractY : ByteArray := prog_10_method_21_code
abbrev ws_M_subtractY : List Cond := WS y_M_subtractY b_M_subtractY 4 none
abbrev y_M_noRest : MethodName := ⟨"ScaledNumeralDeskModel", "noRest", "()V"⟩
abbrev b_M_noRest : ByteArray := prog_10_method_22_code
abbrev ws_M_noRest : List Cond := WS y_M_noRest b_M_noRest 2 none
abbrev y_M_quotient : MethodName := ⟨"ScaledNumeralDeskModel", "quotient", "(I)V"⟩
abbrev b_M_quotient : ByteArray := prog_10_method_23_code
abbrev ws_M_quotient : List Cond := WS y_M_quotient b_M_quotient 5 none
abbrev y_M_quotientScale : MethodName := ⟨"ScaledNumeralDeskModel", "quotientScale", "(II)I"⟩
abbrev b_M_quotientScale : ByteArray := prog_10_method_24_code
abbrev ws_M_quotientScale : List Cond := WS y_M_quotientScale b_M_quotientScale 5 (some .int)
abbrev y_M_divide : MethodName := ⟨"ScaledNumeralDeskModel", "divide", "(III)I"⟩
abbrev b_M_divide : ByteArray := prog_10_method_25_code
abbrev ws_M_divide : List Cond := WS y_M_divide b_M_divide 5 (some .int)
abbrev y_M_twentyfold : MethodName := ⟨"ScaledNumeralDeskModel", "twentyfold", "()V"⟩
abbrev b_M_twentyfold : ByteArray := prog_10_method_26_code
abbrev ws_M_twentyfold : List Cond := WS y_M_twentyfold b_M_twentyfold 4 none
abbrev y_M_twoMore : MethodName := ⟨"ScaledNumeralDeskModel", "twoMore", "()V"⟩
abbrev b_M_twoMore : ByteArray := prog_10_method_27_code
abbrev ws_M_twoMore : List Cond := WS y_M_twoMore b_M_twoMore 2 none
abbrev y_M_squareRoot : MethodName := ⟨"ScaledNumeralDeskModel", "squareRoot", "(I)V"⟩
abbrev b_M_squareRoot : ByteArray := prog_10_method_28_code
abbrev ws_M_squareRoot : List Cond := WS y_M_squareRoot b_M_squareRoot 5 none
abbrev y_M_type : MethodName := ⟨"ScaledNumeralDeskModel", "type", "(C)Z"⟩
abbrev b_M_type : ByteArray := prog_10_method_29_code
abbrev ws_M_type : List Cond := WS y_M_type b_M_type 2 (some .boolean)
abbrev y_M_isLetter : MethodName := ⟨"ScaledNumeralDeskModel", "isLetter", "(II)Z"⟩
abbrev b_M_isLetter : ByteArray := prog_10_method_30_code
abbrev ws_M_isLetter : List Cond := WS y_M_isLetter b_M_isLetter 3 (some .boolean)
abbrev y_M_isSign : MethodName := ⟨"ScaledNumeralDeskModel", "isSign", "(I)Z"⟩
abbrev b_M_isSign : ByteArray := prog_10_method_31_code
abbrev ws_M_isSign : List Cond := WS y_M_isSign b_M_isSign 2 (some .boolean)
abbrev y_M_isDigit : MethodName := ⟨"ScaledNumeralDeskModel", "isDigit", "(I)Z"⟩
abbrev b_M_isDigit : ByteArray := prog_10_method_32_code
abbrev ws_M_isDigit : List Cond := WS y_M_isDigit b_M_isDigit 2 (some .boolean)
abbrev y_M_letter : MethodName := ⟨"ScaledNumeralDeskModel", "letter", "(I)I"⟩
abbrev b_M_letter : ByteArray := prog_10_method_33_code
abbrev ws_M_letter : List Cond := WS y_M_letter b_M_letter 2 (some .int)
abbrev y_M_infinity : MethodName := ⟨"ScaledNumeralDeskModel", "infinity", "(I)Z"⟩
abbrev b_M_infinity : ByteArray := prog_10_method_34_code
abbrev ws_M_infinity : List Cond := WS y_M_infinity b_M_infinity 5 (some .boolean)
abbrev y_M_enter : MethodName := ⟨"ScaledNumeralDeskModel", "enter", "(I)I"⟩
abbrev b_M_enter : ByteArray := prog_10_method_35_code
abbrev ws_M_enter : List Cond := WS y_M_enter b_M_enter 5 (some .int)
abbrev y_M_number : MethodName := ⟨"ScaledNumeralDeskModel", "number", "(IIZ)I"⟩
abbrev b_M_number : ByteArray := prog_10_method_36_code
abbrev ws_M_number : List Cond := WS y_M_number b_M_number 12 (some .int)
abbrev y_M_writeDown : MethodName := ⟨"ScaledNumeralDeskModel", "writeDown", "(III)Z"⟩
abbrev b_M_writeDown : ByteArray := prog_10_method_37_code
abbrev ws_M_writeDown : List Cond := WS y_M_writeDown b_M_writeDown 8 (some .boolean)
abbrev y_M_whole : MethodName := ⟨"ScaledNumeralDeskModel", "whole", "(I)I"⟩
abbrev b_M_whole : ByteArray := prog_10_method_38_code
abbrev ws_M_whole : List Cond := WS y_M_whole b_M_whole 4 (some .int)
abbrev y_M_length : MethodName := ⟨"ScaledNumeralDeskModel", "length", "(I)I"⟩
abbrev b_M_length : ByteArray := prog_10_method_39_code
abbrev ws_M_length : List Cond := WS y_M_length b_M_length 2 (some .int)
abbrev y_M_character : MethodName := ⟨"ScaledNumeralDeskModel", "character", "(II)I"⟩
abbrev b_M_character : ByteArray := prog_10_method_40_code
abbrev ws_M_character : List Cond := WS y_M_character b_M_character 5 (some .int)
abbrev y_M_scale : MethodName := ⟨"ScaledNumeralDeskModel", "scale", "(I)I"⟩
abbrev b_M_scale : ByteArray := prog_10_method_41_code
abbrev ws_M_scale : List Cond := WS y_M_scale b_M_scale 2 (some .int)
abbrev y_M_apply : MethodName := ⟨"ScaledNumeralDeskModel", "apply", "(IIII)I"⟩
abbrev b_M_apply : ByteArray := prog_10_method_42_code
abbrev ws_M_apply : List Cond := WS y_M_apply b_M_apply 8 (some .int)
abbrev y_M_add : MethodName := ⟨"ScaledNumeralDeskModel", "add", "(IZI)I"⟩
abbrev b_M_add : ByteArray := prog_10_method_43_code
abbrev ws_M_add : List Cond := WS y_M_add b_M_add 5 (some .int)
abbrev y_M_multiply : MethodName := ⟨"ScaledNumeralDeskModel", "multiply", "(II)I"⟩
abbrev b_M_multiply : ByteArray := prog_10_method_44_code
abbrev ws_M_multiply : List Cond := WS y_M_multiply b_M_multiply 5 (some .int)
abbrev y_M_remainder : MethodName := ⟨"ScaledNumeralDeskModel", "remainder", "(II)I"⟩
abbrev b_M_remainder : ByteArray := prog_10_method_45_code
abbrev ws_M_remainder : List Cond := WS y_M_remainder b_M_remainder 4 (some .int)
abbrev y_M_zero : MethodName := ⟨"ScaledNumeralDeskModel", "zero", "(I)I"⟩
abbrev b_M_zero : ByteArray := prog_10_method_46_code
abbrev ws_M_zero : List Cond := WS y_M_zero b_M_zero 2 (some .int)
abbrev y_M_infinite : MethodName := ⟨"ScaledNumeralDeskModel", "infinite", "(IIII)I"⟩
abbrev b_M_infinite : ByteArray := prog_10_method_47_code
abbrev ws_M_infinite : List Cond := WS y_M_infinite b_M_infinite 8 (some .int)
abbrev y_M_copy : MethodName := ⟨"ScaledNumeralDeskModel", "copy", "(II)I"⟩
abbrev b_M_copy : ByteArray := prog_10_method_48_code
abbrev ws_M_copy : List Cond := WS y_M_copy b_M_copy 3 (some .int)
abbrev y_M_adjust : MethodName := ⟨"ScaledNumeralDeskModel", "adjust", "(IIII)I"⟩
abbrev b_M_adjust : ByteArray := prog_10_method_49_code
abbrev ws_M_adjust : List Cond := WS y_M_adjust b_M_adjust 7 (some .int)
abbrev y_M_toWhole : MethodName := ⟨"ScaledNumeralDeskModel", "toWhole", "(IZ)I"⟩
abbrev b_M_toWhole : ByteArray := prog_10_method_50_code
abbrev ws_M_toWhole : List Cond := WS y_M_toWhole b_M_toWhole 5 (some .int)
abbrev y_M_least : MethodName := ⟨"ScaledNumeralDeskModel", "least", "()I"⟩
abbrev b_M_least : ByteArray := prog_10_method_51_code
abbrev ws_M_least : List Cond := WS y_M_least b_M_least 3 (some .int)
abbrev y_M_fit : MethodName := ⟨"ScaledNumeralDeskModel", "fit", "(III)I"⟩
abbrev b_M_fit : ByteArray := prog_10_method_52_code
abbrev ws_M_fit : List Cond := WS y_M_fit b_M_fit 4 (some .int)
abbrev y_M_rank : MethodName := ⟨"ScaledNumeralDeskModel", "rank", "(I)I"⟩
abbrev b_M_rank : ByteArray := prog_10_method_53_code
abbrev ws_M_rank : List Cond := WS y_M_rank b_M_rank 2 (some .int)
abbrev y_M_compare : MethodName := ⟨"ScaledNumeralDeskModel", "compare", "(II)I"⟩
abbrev b_M_compare : ByteArray := prog_10_method_54_code
abbrev ws_M_compare : List Cond := WS y_M_compare b_M_compare 6 (some .int)
abbrev y_M_place : MethodName := ⟨"ScaledNumeralDeskModel", "place", "(II)I"⟩
abbrev b_M_place : ByteArray := prog_10_method_55_code
abbrev ws_M_place : List Cond := WS y_M_place b_M_place 3 (some .int)
abbrev y_M_gather : MethodName := ⟨"ScaledNumeralDeskModel", "gather", "(IIZ)V"⟩
abbrev b_M_gather : ByteArray := prog_10_method_56_code
abbrev ws_M_gather : List Cond := WS y_M_gather b_M_gather 6 none
abbrev y_M_accept : MethodName := ⟨"ScaledNumeralDeskModel", "accept", "(II)I"⟩
abbrev b_M_accept : ByteArray := prog_10_method_57_code
abbrev ws_M_accept : List Cond := WS y_M_accept b_M_accept 3 (some .int)
abbrev y_M_discard : MethodName := ⟨"ScaledNumeralDeskModel", "discard", "(II)I"⟩
abbrev b_M_discard : ByteArray := prog_10_method_58_code
abbrev ws_M_discard : List Cond := WS y_M_discard b_M_discard 3 (some .int)
abbrev y_M_merge : MethodName := ⟨"ScaledNumeralDeskModel", "merge", "(II)I"⟩
abbrev b_M_merge : ByteArray := prog_10_method_59_code
abbrev ws_M_merge : List Cond := WS y_M_merge b_M_merge 4 (some .int)
abbrev y_M_reset : MethodName := ⟨"ScaledNumeralDeskModel", "reset", "(I)Z"⟩
abbrev b_M_reset : ByteArray := prog_10_method_60_code
abbrev ws_M_reset : List Cond := WS y_M_reset b_M_reset 3 (some .boolean)
abbrev y_M_count : MethodName := ⟨"ScaledNumeralDeskModel", "count", "(I)I"⟩
abbrev b_M_count : ByteArray := prog_10_method_61_code
abbrev ws_M_count : List Cond := WS y_M_count b_M_count 4 (some .int)
abbrev y_M_result : MethodName := ⟨"ScaledNumeralDeskModel", "result", "(II)I"⟩
abbrev b_M_result : ByteArray := prog_10_method_62_code
abbrev ws_M_result : List Cond := WS y_M_result b_M_result 8 (some .int)
abbrev y_M_total : MethodName := ⟨"ScaledNumeralDeskModel", "total", "(II)I"⟩
abbrev b_M_total : ByteArray := prog_10_method_63_code
abbrev ws_M_total : List Cond := WS y_M_total b_M_total 3 (some .int)
abbrev y_M_average : MethodName := ⟨"ScaledNumeralDeskModel", "average", "(II)I"⟩
abbrev b_M_average : ByteArray := prog_10_method_64_code
abbrev ws_M_average : List Cond := WS y_M_average b_M_average 6 (some .int)
abbrev y_A_init : MethodName := ⟨"ScaledNumeralDesk$Amount", "<init>", "()V"⟩
abbrev b_A_init : ByteArray := prog_2_method_1_code
abbrev ws_A_init : List Cond := WS y_A_init b_A_init 1 none
abbrev y_A_clear : MethodName := ⟨"ScaledNumeralDesk$Amount", "clear", "()V"⟩
abbrev b_A_clear : ByteArray := prog_2_method_2_code
abbrev ws_A_clear : List Cond := WS y_A_clear b_A_clear 1 none
abbrev y_A_take : MethodName := ⟨"ScaledNumeralDesk$Amount", "take", "(LScaledNumeralDesk$Amount;)V"⟩
abbrev b_A_take : ByteArray := prog_2_method_3_code
abbrev ws_A_take : List Cond := WS y_A_take b_A_take 2 none
abbrev y_A_isZero : MethodName := ⟨"ScaledNumeralDesk$Amount", "isZero", "()Z"⟩
abbrev b_A_isZero : ByteArray := prog_2_method_4_code
abbrev ws_A_isZero : List Cond := WS y_A_isZero b_A_isZero 1 (some .boolean)
abbrev y_A_sign : MethodName := ⟨"ScaledNumeralDesk$Amount", "sign", "()I"⟩
abbrev b_A_sign : ByteArray := prog_2_method_5_code
abbrev ws_A_sign : List Cond := WS y_A_sign b_A_sign 1 (some .int)
abbrev y_A_signAs : MethodName := ⟨"ScaledNumeralDesk$Amount", "signAs", "(Z)V"⟩
abbrev b_A_signAs : ByteArray := prog_2_method_6_code
abbrev ws_A_signAs : List Cond := WS y_A_signAs b_A_signAs 2 none
abbrev y_A_increase : MethodName := ⟨"ScaledNumeralDesk$Amount", "increase", "(LScaledNumeralDesk$Amount;Z)V"⟩
abbrev b_A_increase : ByteArray := prog_2_method_7_code
abbrev ws_A_increase : List Cond := WS y_A_increase b_A_increase 4 none
abbrev y_A_comparedWith : MethodName := ⟨"ScaledNumeralDesk$Amount", "comparedWith", "(LScaledNumeralDesk$Amount;)I"⟩
abbrev b_A_comparedWith : ByteArray := prog_2_method_8_code
abbrev ws_A_comparedWith : List Cond := WS y_A_comparedWith b_A_comparedWith 3 (some .int)
abbrev y_A_reachesTenTo : MethodName := ⟨"ScaledNumeralDesk$Amount", "reachesTenTo", "(I)Z"⟩
abbrev b_A_reachesTenTo : ByteArray := prog_2_method_9_code
abbrev ws_A_reachesTenTo : List Cond := WS y_A_reachesTenTo b_A_reachesTenTo 2 (some .boolean)
abbrev y_A_weight : MethodName := ⟨"ScaledNumeralDesk$Amount", "weight", "()I"⟩
abbrev b_A_weight : ByteArray := prog_2_method_10_code
abbrev ws_A_weight : List Cond := WS y_A_weight b_A_weight 2 (some .int)
abbrev y_A_lead : MethodName := ⟨"ScaledNumeralDesk$Amount", "lead", "()I"⟩
abbrev b_A_lead : ByteArray := prog_2_method_11_code
abbrev ws_A_lead : List Cond := WS y_A_lead b_A_lead 2 (some .int)
abbrev y_B_init : MethodName := ⟨"ScaledNumeralDesk$Bench", "<init>", "()V"⟩
abbrev b_B_init : ByteArray := prog_3_method_1_code
abbrev ws_B_init : List Cond := WS y_B_init b_B_init 1 none
abbrev y_B_combine : MethodName := ⟨"ScaledNumeralDesk$Bench", "combine", "(ILScaledNumeralDesk$Numeral;LScaledNumeralDesk$Numeral;LScaledNumeralDesk$Numeral;)I"⟩
abbrev b_B_combine : ByteArray := prog_3_method_2_code
abbrev ws_B_combine : List Cond := WS y_B_combine b_B_combine 6 (some .int)
abbrev y_B_share : MethodName := ⟨"ScaledNumeralDesk$Bench", "share", "(ILScaledNumeralDesk$Numeral;LScaledNumeralDesk$Numeral;ZLScaledNumeralDesk$Numeral;)I"⟩
abbrev b_B_share : ByteArray := prog_3_method_3_code
abbrev ws_B_share : List Cond := WS y_B_share b_B_share 6 (some .int)
abbrev y_B_add : MethodName := ⟨"ScaledNumeralDesk$Bench", "add", "(LScaledNumeralDesk$Numeral;LScaledNumeralDesk$Numeral;ZLScaledNumeralDesk$Numeral;)I"⟩
abbrev b_B_add : ByteArray := prog_3_method_4_code
abbrev ws_B_add : List Cond := WS y_B_add b_B_add 5 (some .int)
abbrev y_B_addInfinite : MethodName := ⟨"ScaledNumeralDesk$Bench", "addInfinite", "(LScaledNumeralDesk$Numeral;LScaledNumeralDesk$Numeral;ZLScaledNumeralDesk$Numeral;)I"⟩
abbrev b_B_addInfinite : ByteArray := prog_3_method_5_code
abbrev ws_B_addInfinite : List Cond := WS y_B_addInfinite b_B_addInfinite 8 (some .int)
abbrev y_B_multiply : MethodName := ⟨"ScaledNumeralDesk$Bench", "multiply", "(LScaledNumeralDesk$Numeral;LScaledNumeralDesk$Numeral;LScaledNumeralDesk$Numeral;)I"⟩
abbrev b_B_multiply : ByteArray := prog_3_method_6_code
abbrev ws_B_multiply : List Cond := WS y_B_multiply b_B_multiply 5 (some .int)
abbrev y_B_multiplyInfinite : MethodName := ⟨"ScaledNumeralDesk$Bench", "multiplyInfinite", "(LScaledNumeralDesk$Numeral;LScaledNumeralDesk$Numeral;LScaledNumeralDesk$Numeral;)I"⟩
abbrev b_B_multiplyInfinite : ByteArray := prog_3_method_7_code
abbrev ws_B_multiplyInfinite : List Cond := WS y_B_multiplyInfinite b_B_multiplyInfinite 5 (some .int)
abbrev y_B_divide : MethodName := ⟨"ScaledNumeralDesk$Bench", "divide", "(LScaledNumeralDesk$Numeral;LScaledNumeralDesk$Numeral;LScaledNumeralDesk$Numeral;)I"⟩
abbrev b_B_divide : ByteArray := prog_3_method_8_code
abbrev ws_B_divide : List Cond := WS y_B_divide b_B_divide 4 (some .int)
abbrev y_B_placesOfDivision : MethodName := ⟨"ScaledNumeralDesk$Bench", "placesOfDivision", "(LScaledNumeralDesk$Numeral;LScaledNumeralDesk$Numeral;)I"⟩
abbrev b_B_placesOfDivision : ByteArray := prog_3_method_9_code
abbrev ws_B_placesOfDivision : List Cond := WS y_B_placesOfDivision b_B_placesOfDivision 4 (some .int)
abbrev y_B_divideInfinite : MethodName := ⟨"ScaledNumeralDesk$Bench", "divideInfinite", "(LScaledNumeralDesk$Numeral;LScaledNumeralDesk$Numeral;LScaledNumeralDesk$Numeral;)I"⟩
abbrev b_B_divideInfinite : ByteArray := prog_3_method_10_code
abbrev ws_B_divideInfinite : List Cond := WS y_B_divideInfinite b_B_divideInfinite 4 (some .int)
abbrev y_B_quotient : MethodName := ⟨"ScaledNumeralDesk$Bench", "quotient", "(LScaledNumeralDesk$Numeral;LScaledNumeralDesk$Numeral;LScaledNumeralDesk$Numeral;)I"⟩
abbrev b_B_quotient : ByteArray := prog_3_method_11_code
abbrev ws_B_quotient : List Cond := WS y_B_quotient b_B_quotient 4 (some .int)
abbrev y_B_remainder : MethodName := ⟨"ScaledNumeralDesk$Bench", "remainder", "(LScaledNumeralDesk$Numeral;LScaledNumeralDesk$Numeral;LScaledNumeralDesk$Numeral;)I"⟩
abbrev b_B_remainder : ByteArray := prog_3_method_12_code
abbrev ws_B_remainder : List Cond := WS y_B_remainder b_B_remainder 4 (some .int)
abbrev y_B_remainderInfinite : MethodName := ⟨"ScaledNumeralDesk$Bench", "remainderInfinite", "(LScaledNumeralDesk$Numeral;LScaledNumeralDesk$Numeral;)I"⟩
abbrev b_B_remainderInfinite : ByteArray := prog_3_method_13_code
abbrev ws_B_remainderInfinite : List Cond := WS y_B_remainderInfinite b_B_remainderInfinite 3 (some .int)
abbrev y_B_alter : MethodName := ⟨"ScaledNumeralDesk$Bench", "alter", "(ILScaledNumeralDesk$Numeral;ILScaledNumeralDesk$Numeral;)I"⟩
abbrev b_B_alter : ByteArray := prog_3_method_14_code
abbrev ws_B_alter : List Cond := WS y_B_alter b_B_alter 6 (some .int)
abbrev y_B_alterOther : MethodName := ⟨"ScaledNumeralDesk$Bench", "alterOther", "(ILScaledNumeralDesk$Numeral;)I"⟩
abbrev b_B_alterOther : ByteArray := prog_3_method_15_code
abbrev ws_B_alterOther : List Cond := WS y_B_alterOther b_B_alterOther 3 (some .int)
abbrev y_B_root : MethodName := ⟨"ScaledNumeralDesk$Bench", "root", "(LScaledNumeralDesk$Numeral;LScaledNumeralDesk$Numeral;)I"⟩
abbrev b_B_root : ByteArray := prog_3_method_16_code
abbrev ws_B_root : List Cond := WS y_B_root b_B_root 4 (some .int)
abbrev y_B_nextRootLimb : MethodName := ⟨"ScaledNumeralDesk$Bench", "nextRootLimb", "(I)I"⟩
abbrev b_B_nextRootLimb : ByteArray := prog_3_method_17_code
abbrev ws_B_nextRootLimb : List Cond := WS y_B_nextRootLimb b_B_nextRootLimb 4 (some .int)
abbrev y_B_rootLimbFits : MethodName := ⟨"ScaledNumeralDesk$Bench", "rootLimbFits", "(II)Z"⟩
abbrev b_B_rootLimbFits : ByteArray := prog_3_method_18_code
abbrev ws_B_rootLimbFits : List Cond := WS y_B_rootLimbFits b_B_rootLimbFits 3 (some .boolean)
abbrev y_B_load : MethodName := ⟨"ScaledNumeralDesk$Bench", "load", "(LScaledNumeralDesk$Numeral;I)V"⟩
abbrev b_B_load : ByteArray := prog_3_method_19_code
abbrev ws_B_load : List Cond := WS y_B_load b_B_load 3 none
abbrev y_B_settle : MethodName := ⟨"ScaledNumeralDesk$Bench", "settle", "([IIIZLScaledNumeralDesk$Numeral;)I"⟩
abbrev b_B_settle : ByteArray := prog_3_method_20_code
abbrev ws_B_settle : List Cond := WS y_B_settle b_B_settle 6 (some .int)
abbrev y_B_judged : MethodName := ⟨"ScaledNumeralDesk$Bench", "judged", "(LScaledNumeralDesk$Numeral;)I"⟩
abbrev b_B_judged : ByteArray := prog_3_method_21_code
abbrev ws_B_judged : List Cond := WS y_B_judged b_B_judged 1 (some .int)
abbrev y_U_init : MethodName := ⟨"ScaledNumeralDesk$Buffer", "<init>", "()V"⟩
abbrev b_U_init : ByteArray := prog_4_method_1_code
abbrev ws_U_init : List Cond := WS y_U_init b_U_init 1 none
abbrev y_U_append : MethodName := ⟨"ScaledNumeralDesk$Buffer", "append", "(C)Z"⟩
abbrev b_U_append : ByteArray := prog_4_method_2_code
abbrev ws_U_append : List Cond := WS y_U_append b_U_append 2 (some .boolean)
abbrev y_U_empty : MethodName := ⟨"ScaledNumeralDesk$Buffer", "empty", "()V"⟩
abbrev b_U_empty : ByteArray := prog_4_method_3_code
abbrev ws_U_empty : List Cond := WS y_U_empty b_U_empty 1 none
abbrev y_U_readInto : MethodName := ⟨"ScaledNumeralDesk$Buffer", "readInto", "(LScaledNumeralDesk$Numeral;)I"⟩
abbrev b_U_readInto : ByteArray := prog_4_method_4_code
abbrev ws_U_readInto : List Cond := WS y_U_readInto b_U_readInto 4 (some .int)
abbrev y_U_readFinite : MethodName := ⟨"ScaledNumeralDesk$Buffer", "readFinite", "(IZLScaledNumeralDesk$Numeral;)I"⟩
abbrev b_U_readFinite : ByteArray := prog_4_method_5_code
abbrev ws_U_readFinite : List Cond := WS y_U_readFinite b_U_readFinite 11 (some .int)
abbrev y_U_placeDigits : MethodName := ⟨"ScaledNumeralDesk$Buffer", "placeDigits", "(III[I)Z"⟩
abbrev b_U_placeDigits : ByteArray := prog_4_method_6_code
abbrev ws_U_placeDigits : List Cond := WS y_U_placeDigits b_U_placeDigits 9 (some .boolean)
abbrev y_U_endOfDigits : MethodName := ⟨"ScaledNumeralDesk$Buffer", "endOfDigits", "(I)I"⟩
abbrev b_U_endOfDigits : ByteArray := prog_4_method_7_code
abbrev ws_U_endOfDigits : List Cond := WS y_U_endOfDigits b_U_endOfDigits 4 (some .int)
abbrev y_U_pointBetween : MethodName := ⟨"ScaledNumeralDesk$Buffer", "pointBetween", "(II)I"⟩
abbrev b_U_pointBetween : ByteArray := prog_4_method_8_code
abbrev ws_U_pointBetween : List Cond := WS y_U_pointBetween b_U_pointBetween 4 (some .int)
abbrev y_U_exponentFrom : MethodName := ⟨"ScaledNumeralDesk$Buffer", "exponentFrom", "(I)I"⟩
abbrev b_U_exponentFrom : ByteArray := prog_4_method_9_code
abbrev ws_U_exponentFrom : List Cond := WS y_U_exponentFrom b_U_exponentFrom 5 (some .int)
abbrev y_U_isWordFrom : MethodName := ⟨"ScaledNumeralDesk$Buffer", "isWordFrom", "(ILjava/lang/String;)Z"⟩
abbrev b_U_isWordFrom : ByteArray := prog_4_method_10_code
abbrev ws_U_isWordFrom : List Cond := WS y_U_isWordFrom b_U_isWordFrom 4 (some .boolean)
abbrev y_U_isSignAt : MethodName := ⟨"ScaledNumeralDesk$Buffer", "isSignAt", "(I)Z"⟩
abbrev b_U_isSignAt : ByteArray := prog_4_method_11_code
abbrev ws_U_isSignAt : List Cond := WS y_U_isSignAt b_U_isSignAt 2 (some .boolean)
abbrev y_U_isDigitAt : MethodName := ⟨"ScaledNumeralDesk$Buffer", "isDigitAt", "(I)Z"⟩
abbrev b_U_isDigitAt : ByteArray := prog_4_method_12_code
abbrev ws_U_isDigitAt : List Cond := WS y_U_isDigitAt b_U_isDigitAt 2 (some .boolean)
abbrev y_U_lower : MethodName := ⟨"ScaledNumeralDesk$Buffer", "lower", "(C)I"⟩
abbrev b_U_lower : ByteArray := prog_4_method_13_code
abbrev ws_U_lower : List Cond := WS y_U_lower b_U_lower 1 (some .int)
abbrev y_N_init : MethodName := ⟨"ScaledNumeralDesk$Numeral", "<init>", "()V"⟩
abbrev b_N_init : ByteArray := prog_6_method_1_code
abbrev ws_N_init : List Cond := WS y_N_init b_N_init 1 none
abbrev y_N_isFinite : MethodName := ⟨"ScaledNumeralDesk$Numeral", "isFinite", "()Z"⟩
abbrev b_N_isFinite : ByteArray := prog_6_method_2_code
abbrev ws_N_isFinite : List Cond := WS y_N_isFinite b_N_isFinite 1 (some .boolean)
abbrev y_N_take : MethodName := ⟨"ScaledNumeralDesk$Numeral", "take", "(LScaledNumeralDesk$Numeral;)V"⟩
abbrev b_N_take : ByteArray := prog_6_method_3_code
abbrev ws_N_take : List Cond := WS y_N_take b_N_take 2 none
abbrev y_N_become : MethodName := ⟨"ScaledNumeralDesk$Numeral", "become", "(LScaledNumeralDesk$Kind;)V"⟩
abbrev b_N_become : ByteArray := prog_6_method_4_code
abbrev ws_N_become : List Cond := WS y_N_become b_N_become 2 none
abbrev y_N_becomeInfinite : MethodName := ⟨"ScaledNumeralDesk$Numeral", "becomeInfinite", "(I)V"⟩
abbrev b_N_becomeInfinite : ByteArray := prog_6_method_5_code
abbrev ws_N_becomeInfinite : List Cond := WS y_N_becomeInfinite b_N_becomeInfinite 2 none
abbrev y_N_becomeSmall : MethodName := ⟨"ScaledNumeralDesk$Numeral", "becomeSmall", "(I)V"⟩
abbrev b_N_becomeSmall : ByteArray := prog_6_method_6_code
abbrev ws_N_becomeSmall : List Cond := WS y_N_becomeSmall b_N_becomeSmall 2 none
abbrev y_N_sign : MethodName := ⟨"ScaledNumeralDesk$Numeral", "sign", "()I"⟩
abbrev b_N_sign : ByteArray := prog_6_method_7_code
abbrev ws_N_sign : List Cond := WS y_N_sign b_N_sign 1 (some .int)
abbrev y_N_isZero : MethodName := ⟨"ScaledNumeralDesk$Numeral", "isZero", "()Z"⟩
abbrev b_N_isZero : ByteArray := prog_6_method_8_code
abbrev ws_N_isZero : List Cond := WS y_N_isZero b_N_isZero 1 (some .boolean)
abbrev y_N_isTooLarge : MethodName := ⟨"ScaledNumeralDesk$Numeral", "isTooLarge", "()Z"⟩
abbrev b_N_isTooLarge : ByteArray := prog_6_method_9_code
abbrev ws_N_isTooLarge : List Cond := WS y_N_isTooLarge b_N_isTooLarge 1 (some .boolean)
abbrev y_N_roundAt : MethodName := ⟨"ScaledNumeralDesk$Numeral", "roundAt", "(I)V"⟩
abbrev b_N_roundAt : ByteArray := prog_6_method_10_code
abbrev ws_N_roundAt : List Cond := WS y_N_roundAt b_N_roundAt 2 none
abbrev y_N_truncateAt : MethodName := ⟨"ScaledNumeralDesk$Numeral", "truncateAt", "(I)V"⟩
abbrev b_N_truncateAt : ByteArray := prog_6_method_11_code
abbrev ws_N_truncateAt : List Cond := WS y_N_truncateAt b_N_truncateAt 2 none
abbrev y_N_keepSignAndPlaces : MethodName := ⟨"ScaledNumeralDesk$Numeral", "keepSignAndPlaces", "(I)V"⟩
abbrev b_N_keepSignAndPlaces : ByteArray := prog_6_method_12_code
abbrev ws_N_keepSignAndPlaces : List Cond := WS y_N_keepSignAndPlaces b_N_keepSignAndPlaces 2 none
abbrev y_N_makeWhole : MethodName := ⟨"ScaledNumeralDesk$Numeral", "makeWhole", "(Z)V"⟩
abbrev b_N_makeWhole : ByteArray := prog_6_method_13_code
abbrev ws_N_makeWhole : List Cond := WS y_N_makeWhole b_N_makeWhole 4 none
abbrev y_N_hasFraction : MethodName := ⟨"ScaledNumeralDesk$Numeral", "hasFraction", "()Z"⟩
abbrev b_N_hasFraction : ByteArray := prog_6_method_14_code
abbrev ws_N_hasFraction : List Cond := WS y_N_hasFraction b_N_hasFraction 2 (some .boolean)
abbrev y_N_trim : MethodName := ⟨"ScaledNumeralDesk$Numeral", "trim", "()V"⟩
abbrev b_N_trim : ByteArray := prog_6_method_15_code
abbrev ws_N_trim : List Cond := WS y_N_trim b_N_trim 1 none
abbrev y_N_comparedWith : MethodName := ⟨"ScaledNumeralDesk$Numeral", "comparedWith", "(LScaledNumeralDesk$Numeral;)I"⟩
abbrev b_N_comparedWith : ByteArray := prog_6_method_16_code
abbrev ws_N_comparedWith : List Cond := WS y_N_comparedWith b_N_comparedWith 2 (some .int)
abbrev y_N_textLength : MethodName := ⟨"ScaledNumeralDesk$Numeral", "textLength", "()I"⟩
abbrev b_N_textLength : ByteArray := prog_6_method_17_code
abbrev ws_N_textLength : List Cond := WS y_N_textLength b_N_textLength 2 (some .int)
abbrev y_N_textCharacter : MethodName := ⟨"ScaledNumeralDesk$Numeral", "textCharacter", "(I)I"⟩
abbrev b_N_textCharacter : ByteArray := prog_6_method_18_code
abbrev ws_N_textCharacter : List Cond := WS y_N_textCharacter b_N_textCharacter 4 (some .int)
abbrev y_N_wholeDigits : MethodName := ⟨"ScaledNumeralDesk$Numeral", "wholeDigits", "()I"⟩
abbrev b_N_wholeDigits : ByteArray := prog_6_method_19_code
abbrev ws_N_wholeDigits : List Cond := WS y_N_wholeDigits b_N_wholeDigits 1 (some .int)
abbrev y_R_topLimb : MethodName := ⟨"ScaledNumeralDesk$Row", "topLimb", "([I)I"⟩
abbrev b_R_topLimb : ByteArray := prog_7_method_2_code
abbrev ws_R_topLimb : List Cond := WS y_R_topLimb b_R_topLimb 2 (some .int)
abbrev y_R_digits : MethodName := ⟨"ScaledNumeralDesk$Row", "digits", "([I)I"⟩
abbrev b_R_digits : ByteArray := prog_7_method_3_code
abbrev ws_R_digits : List Cond := WS y_R_digits b_R_digits 4 (some .int)
abbrev y_R_digitAt : MethodName := ⟨"ScaledNumeralDesk$Row", "digitAt", "([II)I"⟩
abbrev b_R_digitAt : ByteArray := prog_7_method_4_code
abbrev ws_R_digitAt : List Cond := WS y_R_digitAt b_R_digitAt 2 (some .int)
abbrev y_R_cut : MethodName := ⟨"ScaledNumeralDesk$Row", "cut", "([II)V"⟩
abbrev b_R_cut : ByteArray := prog_7_method_5_code
abbrev ws_R_cut : List Cond := WS y_R_cut b_R_cut 4 none
abbrev y_R_roundOff : MethodName := ⟨"ScaledNumeralDesk$Row", "roundOff", "([II)V"⟩
abbrev b_R_roundOff : ByteArray := prog_7_method_6_code
abbrev ws_R_roundOff : List Cond := WS y_R_roundOff b_R_roundOff 3 none
abbrev y_R_addOneAt : MethodName := ⟨"ScaledNumeralDesk$Row", "addOneAt", "([II)V"⟩
abbrev b_R_addOneAt : ByteArray := prog_7_method_7_code
abbrev ws_R_addOneAt : List Cond := WS y_R_addOneAt b_R_addOneAt 5 none
abbrev y_R_add : MethodName := ⟨"ScaledNumeralDesk$Row", "add", "([I[I)V"⟩
abbrev b_R_add : ByteArray := prog_7_method_8_code
abbrev ws_R_add : List Cond := WS y_R_add b_R_add 5 none
abbrev y_R_subtract : MethodName := ⟨"ScaledNumeralDesk$Row", "subtract", "([I[I[I)V"⟩
abbrev b_R_subtract : ByteArray := prog_7_method_9_code
abbrev ws_R_subtract : List Cond := WS y_R_subtract b_R_subtract 6 none
abbrev y_R_order : MethodName := ⟨"ScaledNumeralDesk$Row", "order", "([I[I)I"⟩
abbrev b_R_order : ByteArray := prog_7_method_10_code
abbrev ws_R_order : List Cond := WS y_R_order b_R_order 3 (some .int)
abbrev y_R_multiplyByLimb : MethodName := ⟨"ScaledNumeralDesk$Row", "multiplyByLimb", "([I[III)V"⟩
abbrev b_R_multiplyByLimb : ByteArray := prog_7_method_11_code
abbrev ws_R_multiplyByLimb : List Cond := WS y_R_multiplyByLimb b_R_multiplyByLimb 4 none
abbrev y_R_multiply : MethodName := ⟨"ScaledNumeralDesk$Row", "multiply", "([I[I[I)V"⟩
abbrev b_R_multiply : ByteArray := prog_7_method_12_code
abbrev ws_R_multiply : List Cond := WS y_R_multiply b_R_multiply 4 none
abbrev y_R_addMultiple : MethodName := ⟨"ScaledNumeralDesk$Row", "addMultiple", "([I[III)V"⟩
abbrev b_R_addMultiple : ByteArray := prog_7_method_13_code
abbrev ws_R_addMultiple : List Cond := WS y_R_addMultiple b_R_addMultiple 8 none
abbrev y_R_divide : MethodName := ⟨"ScaledNumeralDesk$Row", "divide", "([I[I[I)V"⟩
abbrev b_R_divide : ByteArray := prog_7_method_14_code
abbrev ws_R_divide : List Cond := WS y_R_divide b_R_divide 8 none
abbrev y_R_head : MethodName := ⟨"ScaledNumeralDesk$Row", "head", "([III)J"⟩
abbrev b_R_head : ByteArray := prog_7_method_15_code
abbrev ws_R_head : List Cond := WS y_R_head b_R_head 6 (some .long)
abbrev y_R_takeMultiple : MethodName := ⟨"ScaledNumeralDesk$Row", "takeMultiple", "([I[IIII)V"⟩
abbrev b_R_takeMultiple : ByteArray := prog_7_method_16_code
abbrev ws_R_takeMultiple : List Cond := WS y_R_takeMultiple b_R_takeMultiple 8 none
abbrev y_R_isStillIn : MethodName := ⟨"ScaledNumeralDesk$Row", "isStillIn", "([I[III)Z"⟩
abbrev b_R_isStillIn : ByteArray := prog_7_method_17_code
abbrev ws_R_isStillIn : List Cond := WS y_R_isStillIn b_R_isStillIn 5 (some .boolean)
abbrev y_S_init : MethodName := ⟨"ScaledNumeralDesk$Sum", "<init>", "()V"⟩
abbrev b_S_init : ByteArray := prog_8_method_1_code
abbrev ws_S_init : List Cond := WS y_S_init b_S_init 1 none
abbrev y_S_clear : MethodName := ⟨"ScaledNumeralDesk$Sum", "clear", "()V"⟩
abbrev b_S_clear : ByteArray := prog_8_method_2_code
abbrev ws_S_clear : List Cond := WS y_S_clear b_S_clear 1 none
abbrev y_S_putIn : MethodName := ⟨"ScaledNumeralDesk$Sum", "putIn", "(LScaledNumeralDesk$Numeral;)I"⟩
abbrev b_S_putIn : ByteArray := prog_8_method_3_code
abbrev ws_S_putIn : List Cond := WS y_S_putIn b_S_putIn 2 (some .int)
abbrev y_S_takeOut : MethodName := ⟨"ScaledNumeralDesk$Sum", "takeOut", "(LScaledNumeralDesk$Numeral;)I"⟩
abbrev b_S_takeOut : ByteArray := prog_8_method_4_code
abbrev ws_S_takeOut : List Cond := WS y_S_takeOut b_S_takeOut 2 (some .int)
abbrev y_S_change : MethodName := ⟨"ScaledNumeralDesk$Sum", "change", "(LScaledNumeralDesk$Numeral;I)V"⟩
abbrev b_S_change : ByteArray := prog_8_method_5_code
abbrev ws_S_change : List Cond := WS y_S_change b_S_change 3 none
abbrev y_S_countOf : MethodName := ⟨"ScaledNumeralDesk$Sum", "countOf", "(LScaledNumeralDesk$Numeral;)I"⟩
abbrev b_S_countOf : ByteArray := prog_8_method_6_code
abbrev ws_S_countOf : List Cond := WS y_S_countOf b_S_countOf 1 (some .int)
abbrev y_S_join : MethodName := ⟨"ScaledNumeralDesk$Sum", "join", "(LScaledNumeralDesk$Sum;)I"⟩
abbrev b_S_join : ByteArray := prog_8_method_7_code
abbrev ws_S_join : List Cond := WS y_S_join b_S_join 3 (some .int)
abbrev y_S_members : MethodName := ⟨"ScaledNumeralDesk$Sum", "members", "()I"⟩
abbrev b_S_members : ByteArray := prog_8_method_8_code
abbrev ws_S_members : List Cond := WS y_S_members b_S_members 3 (some .int)
abbrev y_S_resultInto : MethodName := ⟨"ScaledNumeralDesk$Sum", "resultInto", "(LScaledNumeralDesk$Numeral;)I"⟩
abbrev b_S_resultInto : ByteArray := prog_8_method_9_code
abbrev ws_S_resultInto : List Cond := WS y_S_resultInto b_S_resultInto 4 (some .int)
abbrev y_S_greatestPlaces : MethodName := ⟨"ScaledNumeralDesk$Sum", "greatestPlaces", "()I"⟩
abbrev b_S_greatestPlaces : ByteArray := prog_8_method_10_code
abbrev ws_S_greatestPlaces : List Cond := WS y_S_greatestPlaces b_S_greatestPlaces 2 (some .int)
abbrev y_JO_init : MethodName := ⟨"java/lang/Object", "<init>", "()V"⟩
abbrev b_JO_init : ByteArray := object_method_1_code
abbrev ws_JO_init : List Cond := WS y_JO_init b_JO_init 1 none
abbrev y_JI_signum : MethodName := ⟨"java/lang/Integer", "signum", "(I)I"⟩
abbrev b_JI_signum : ByteArray := prog_12_method_56_code
abbrev ws_JI_signum : List Cond := WS y_JI_signum b_JI_signum 1 (some .int)
abbrev y_JM_floorDiv : MethodName := ⟨"java/lang/Math", "floorDiv", "(II)I"⟩
abbrev b_JM_floorDiv : ByteArray := prog_13_method_47_code
abbrev ws_JM_floorDiv : List Cond := WS y_JM_floorDiv b_JM_floorDiv 3 (some .int)
abbrev y_JM_max : MethodName := ⟨"java/lang/Math", "max", "(II)I"⟩
abbrev b_JM_max : ByteArray := prog_13_method_65_code
abbrev ws_JM_max : List Cond := WS y_JM_max b_JM_max 2 (some .int)
abbrev y_JM_min : MethodName := ⟨"java/lang/Math", "min", "(II)I"⟩
abbrev b_JM_min : ByteArray := prog_13_method_69_code
abbrev ws_JM_min : List Cond := WS y_JM_min b_JM_min 2 (some .int)
abbrev y_JS_charAt : MethodName := ⟨"java/lang/String", "charAt", "(I)C"⟩
abbrev b_JS_charAt : ByteArray := prog_14_method_56_code
abbrev ws_JS_charAt : List Cond := WS y_JS_charAt b_JS_charAt 2 (some .char)
abbrev y_JS_checkIndex : MethodName := ⟨"java/lang/String", "checkIndex", "(II)V"⟩
abbrev b_JS_checkIndex : ByteArray := prog_14_method_155_code
abbrev ws_JS_checkIndex : List Cond := WS y_JS_checkIndex b_JS_checkIndex 2 none
abbrev y_JS_coder : MethodName := ⟨"java/lang/String", "coder", "()B"⟩
abbrev b_JS_coder : ByteArray := prog_14_method_152_code
abbrev ws_JS_coder : List Cond := WS y_JS_coder b_JS_coder 1 (some .byte)
abbrev y_JS_isLatin1 : MethodName := ⟨"java/lang/String", "isLatin1", "()Z"⟩
abbrev b_JS_isLatin1 : ByteArray := prog_14_method_154_code
abbrev ws_JS_isLatin1 : List Cond := WS y_JS_isLatin1 b_JS_isLatin1 1 (some .boolean)
abbrev y_JS_length : MethodName := ⟨"java/lang/String", "length", "()I"⟩
abbrev b_JS_length : ByteArray := prog_14_method_54_code
abbrev ws_JS_length : List Cond := WS y_JS_length b_JS_length 1 (some .int)
abbrev y_JL_charAt : MethodName := ⟨"java/lang/StringLatin1", "charAt", "([BI)C"⟩
abbrev b_JL_charAt : ByteArray := prog_15_method_2_code
abbrev ws_JL_charAt : List Cond := WS y_JL_charAt b_JL_charAt 2 (some .char)
abbrev y_JU_charAt : MethodName := ⟨"java/lang/StringUTF16", "charAt", "([BI)C"⟩
abbrev b_JU_charAt : ByteArray := prog_16_method_83_code
abbrev ws_JU_charAt : List Cond := WS y_JU_charAt b_JU_charAt 2 (some .char)
abbrev y_JU_checkIndex : MethodName := ⟨"java/lang/StringUTF16", "checkIndex", "(I[B)V"⟩
abbrev b_JU_checkIndex : ByteArray := prog_16_method_91_code
abbrev ws_JU_checkIndex : List Cond := WS y_JU_checkIndex b_JU_checkIndex 2 none
abbrev y_JU_getChar : MethodName := ⟨"java/lang/StringUTF16", "getChar", "([BI)C"⟩
abbrev b_JU_getChar : ByteArray := prog_16_method_5_code
abbrev ws_JU_getChar : List Cond := WS y_JU_getChar b_JU_getChar 2 (some .char)
abbrev y_JU_length : MethodName := ⟨"java/lang/StringUTF16", "length", "([B)I"⟩
abbrev b_JU_length : ByteArray := prog_16_method_6_code
abbrev ws_JU_length : List Cond := WS y_JU_length b_JU_length 1 (some .int)
abbrev y_JA_fill : MethodName := ⟨"java/util/Arrays", "fill", "([II)V"⟩
abbrev b_JA_fill : ByteArray := prog_18_method_103_code
abbrev ws_JA_fill : List Cond := WS y_JA_fill b_JA_fill 4 none
abbrev y_JP_checkIndex : MethodName := ⟨"jdk/internal/util/Preconditions", "checkIndex", "(IILjava/util/function/BiFunction;)I"⟩
abbrev b_JP_checkIndex : ByteArray := prog_19_method_11_code
abbrev ws_JP_checkIndex : List Cond := WS y_JP_checkIndex b_JP_checkIndex 3 (some .int)
def TA : u_T := fun k => match k with
  | 0 => ("ScaledNumeralDesk$Amount", "limbs", "[I", true)
  | _ => ("ScaledNumeralDesk$Amount", "negative", "Z", false)
def tyA : Nat → FieldType := fun k => match k with
  | 0 => .array .int
  | _ => .boolean
theorem nmA : ∀ a, a < 2 → ∀ b, b < 2 → a ≠ b → (TA a).2.1 ≠ (TA b).2.1 := by decide +kernel
theorem tyA_ok : ∀ k, k < 2 → parseFieldDescriptor (TA k).2.2.1 = some (tyA k) := by decide +kernel
def TN : u_T := fun k => match k with
  | 0 => ("ScaledNumeralDesk$Numeral", "kind", "LScaledNumeralDesk$Kind;", false)
  | 1 => ("ScaledNumeralDesk$Numeral", "places", "I", false)
  | _ => ("ScaledNumeralDesk$Numeral", "amount", "LScaledNumeralDesk$Amount;", true)
def tyN : Nat → FieldType := fun k => match k with
  | 0 => .object "ScaledNumeralDesk$Kind"
  | 1 => .int
  | _ => .object "ScaledNumeralDesk$Amount"
theorem nmN : ∀ a, a < 3 → ∀ b, b < 3 → a ≠ b → (TN a).2.1 ≠ (TN b).2.1 := by decide +kernel
theorem tyN_ok : ∀ k, k < 3 → parseFieldDescriptor (TN k).2.2.1 = some (tyN k) := by decide +kernel
def TS : u_T := fun k => match k with
  | 0 => ("ScaledNumeralDesk$Sum", "value", "LScaledNumeralDesk$Amount;", true)
  | 1 => ("ScaledNumeralDesk$Sum", "counts", "[I", true)
  | _ => ("ScaledNumeralDesk$Sum", "size", "I", false)
def tyS : Nat → FieldType := fun k => match k with
  | 0 => .object "ScaledNumeralDesk$Amount"
  | 1 => .array .int
  | _ => .int
theorem nmS : ∀ a, a < 3 → ∀ b, b < 3 → a ≠ b → (TS a).2.1 ≠ (TS b).2.1 := by decide +kernel
theorem tyS_ok : ∀ k, k < 3 → parseFieldDescriptor (TS k).2.2.1 = some (tyS k) := by decide +kernel
def TU : u_T := fun k => match k with
  | 0 => ("ScaledNumeralDesk$Buffer", "characters", "[C", true)
  | _ => ("ScaledNumeralDesk$Buffer", "used", "I", false)
def tyU : Nat → FieldType := fun k => match k with
  | 0 => .array .char
  | _ => .int
theorem nmU : ∀ a, a < 2 → ∀ b, b < 2 → a ≠ b → (TU a).2.1 ≠ (TU b).2.1 := by decide +kernel
theorem tyU_ok : ∀ k, k < 2 → parseFieldDescriptor (TU k).2.2.1 = some (tyU k) := by decide +kernel
def TB : u_T := fun k => match k with
  | 0 => ("ScaledNumeralDesk$Bench", "rest", "[I", true)
  | 1 => ("ScaledNumeralDesk$Bench", "answer", "[I", true)
  | 2 => ("ScaledNumeralDesk$Bench", "doubled", "[I", true)
  | _ => ("ScaledNumeralDesk$Bench", "trial", "[I", true)
def tyB : Nat → FieldType := fun k => match k with
  | 0 => .array .int
  | 1 => .array .int
  | 2 => .array .int
  | _ => .array .int
theorem nmB : ∀ a, a < 4 → ∀ b, b < 4 → a ≠ b → (TB a).2.1 ≠ (TB b).2.1 := by decide +kernel
theorem tyB_ok : ∀ k, k < 4 → parseFieldDescriptor (TB k).2.2.1 = some (tyB k) := by decide +kernel
def TD : u_T := fun k => match k with
  | 0 => ("ScaledNumeralDesk", "registers", "[LScaledNumeralDesk$Numeral;", true)
  | 1 => ("ScaledNumeralDesk", "sums", "[LScaledNumeralDesk$Sum;", true)
  | 2 => ("ScaledNumeralDesk", "buffer", "LScaledNumeralDesk$Buffer;", true)
  | 3 => ("ScaledNumeralDesk", "bench", "LScaledNumeralDesk$Bench;", true)
  | 4 => ("ScaledNumeralDesk", "outcome", "LScaledNumeralDesk$Numeral;", true)
  | 5 => ("ScaledNumeralDesk", "dividend", "LScaledNumeralDesk$Numeral;", true)
  | _ => ("ScaledNumeralDesk", "divisor", "LScaledNumeralDesk$Numeral;", true)
def tyD : Nat → FieldType := fun k => match k with
  | 0 => .array (.object "ScaledNumeralDesk$Numeral")
  | 1 => .array (.object "ScaledNumeralDesk$Sum")
  | 2 => .object "ScaledNumeralDesk$Buffer"
  | 3 => .object "ScaledNumeralDesk$Bench"
  | 4 => .object "ScaledNumeralDesk$Numeral"
  | 5 => .object "ScaledNumeralDesk$Numeral"
  | _ => .object "ScaledNumeralDesk$Numeral"
theorem nmD : ∀ a, a < 7 → ∀ b, b < 7 → a ≠ b → (TD a).2.1 ≠ (TD b).2.1 := by decide +kernel
theorem tyD_ok : ∀ k, k < 7 → parseFieldDescriptor (TD k).2.2.1 = some (tyD k) := by decide +kernel
def TM : u_T := fun k => match k with
  | 0 => ("ScaledNumeralDeskModel", "kind", "[I", false)
  | 1 => ("ScaledNumeralDeskModel", "minus", "[Z", false)
  | 2 => ("ScaledNumeralDeskModel", "scales", "[I", false)
  | 3 => ("ScaledNumeralDeskModel", "digits", "[I", false)
  | 4 => ("ScaledNumeralDeskModel", "typed", "I", false)
  | 5 => ("ScaledNumeralDeskModel", "buffer", "[I", false)
  | 6 => ("ScaledNumeralDeskModel", "sums", "[I", false)
  | 7 => ("ScaledNumeralDeskModel", "sizes", "[I", false)
  | 8 => ("ScaledNumeralDeskModel", "counts", "[I", false)
  | 9 => ("ScaledNumeralDeskModel", "x", "[I", false)
  | 10 => ("ScaledNumeralDeskModel", "y", "[I", false)
  | 11 => ("ScaledNumeralDeskModel", "xMinus", "Z", false)
  | 12 => ("ScaledNumeralDeskModel", "yMinus", "Z", false)
  | 13 => ("ScaledNumeralDeskModel", "paper", "[I", false)
  | 14 => ("ScaledNumeralDeskModel", "negative", "Z", false)
  | 15 => ("ScaledNumeralDeskModel", "rest", "[I", false)
  | _ => ("ScaledNumeralDeskModel", "root", "[I", false)
def tyM : Nat → FieldType := fun k => match k with
  | 0 => .array .int
  | 1 => .array .boolean
  | 2 => .array .int
  | 3 => .array .int
  | 4 => .int
  | 5 => .array .int
  | 6 => .array .int
  | 7 => .array .int
  | 8 => .array .int
  | 9 => .array .int
  | 10 => .array .int
  | 11 => .boolean
  | 12 => .boolean
  | 13 => .array .int
  | 14 => .boolean
  | 15 => .array .int
  | _ => .array .int
theorem nmM : ∀ a, a < 17 → ∀ b, b < 17 → a ≠ b → (TM a).2.1 ≠ (TM b).2.1 := by decide +kernel
theorem tyM_ok : ∀ k, k < 17 → parseFieldDescriptor (TM k).2.2.1 = some (tyM k) := by decide +kernel
abbrev vwCl : List vw_C := [("ScaledNumeralDesk$Amount", TA, 2), ("ScaledNumeralDesk$Numeral", TN, 3), ("ScaledNumeralDesk$Sum", TS, 3), ("ScaledNumeralDesk$Buffer", TU, 2), ("ScaledNumeralDesk$Bench", TB, 4), ("ScaledNumeralDesk", TD, 7), ("ScaledNumeralDeskModel", TM, 17)]
theorem wm_0 : Cond.initialized "ScaledNumeralDeskLaw" ∈ GW := gw_in 0 (by decide +kernel) (by decide +kernel)
theorem wm_1 : Cond.initialized "ScaledNumeralDesk" ∈ GW := gw_in 1 (by decide +kernel) (by decide +kernel)
theorem wm_2 : Cond.initialized "ScaledNumeralDesk$Numeral" ∈ GW := gw_in 2 (by decide +kernel) (by decide +kernel)
theorem wm_3 : Cond.initialized "java/lang/Enum" ∈ GW := gw_in 3 (by decide +kernel) (by decide +kernel)
theorem wm_4 : Cond.initialized "ScaledNumeralDesk$Kind" ∈ GW := gw_in 4 (by decide +kernel) (by decide +kernel)
theorem wm_5 : Cond.initialized "ScaledNumeralDesk$Amount" ∈ GW := gw_in 5 (by decide +kernel) (by decide +kernel)
theorem wm_6 : Cond.initialized "ScaledNumeralDesk$Sum" ∈ GW := gw_in 6 (by decide +kernel) (by decide +kernel)
theorem wm_7 : Cond.initialized "ScaledNumeralDesk$Buffer" ∈ GW := gw_in 7 (by decide +kernel) (by decide +kernel)
theorem wm_8 : Cond.initialized "ScaledNumeralDesk$Bench" ∈ GW := gw_in 8 (by decide +kernel) (by decide +kernel)
theorem wm_9 : Cond.initialized "ScaledNumeralDeskModel" ∈ GW := gw_in 9 (by decide +kernel) (by decide +kernel)
theorem wm_10 : Cond.initialized "java/lang/String" ∈ GW := gw_in 10 (by decide +kernel) (by decide +kernel)
theorem wm_11 : Cond.initialized "java/lang/StringLatin1" ∈ GW := gw_in 11 (by decide +kernel) (by decide +kernel)
theorem wm_12 : Cond.initialized "jdk/internal/util/Preconditions" ∈ GW := gw_in 12 (by decide +kernel) (by decide +kernel)
theorem wm_13 : Cond.initialized "java/lang/StringUTF16" ∈ GW := gw_in 13 (by decide +kernel) (by decide +kernel)
theorem wm_14 : Cond.initialized "java/util/Arrays" ∈ GW := gw_in 14 (by decide +kernel) (by decide +kernel)
theorem wm_15 : Cond.initialized "java/lang/Math" ∈ GW := gw_in 15 (by decide +kernel) (by decide +kernel)
theorem wm_16 : Cond.initialized "ScaledNumeralDesk$Row" ∈ GW := gw_in 16 (by decide +kernel) (by decide +kernel)
theorem wm_17 : Cond.initialized "java/lang/System" ∈ GW := gw_in 17 (by decide +kernel) (by decide +kernel)
theorem wm_18 : Cond.initialized "java/lang/Integer" ∈ GW := gw_in 18 (by decide +kernel) (by decide +kernel)
theorem wm_19 : Cond.classLink "ScaledNumeralDeskLaw" 7 "ScaledNumeralDesk" ∈ GW := gw_in 19 (by decide +kernel) (by decide +kernel)
theorem wm_20 : Cond.instantiable "ScaledNumeralDesk" 7 ∈ GW := gw_in 20 (by decide +kernel) (by decide +kernel)
theorem wm_21 : Cond.methodLink "ScaledNumeralDeskLaw" 9 y_D_init ∈ GW := gw_in 21 (by decide +kernel) (by decide +kernel)
theorem wm_22 : Cond.instanceMethod y_D_init ∈ GW := gw_in 22 (by decide +kernel) (by decide +kernel)
theorem wm_23 : Cond.code y_D_init prog_1_method_1_code 2 none ∈ GW := gw_in 23 (by decide +kernel) (by decide +kernel)
theorem wm_24 : Cond.methodLink "ScaledNumeralDesk" 3 y_JO_init ∈ GW := gw_in 24 (by decide +kernel) (by decide +kernel)
theorem wm_25 : Cond.instanceMethod y_JO_init ∈ GW := gw_in 25 (by decide +kernel) (by decide +kernel)
theorem wm_26 : Cond.code y_JO_init object_method_1_code 1 none ∈ GW := gw_in 26 (by decide +kernel) (by decide +kernel)
theorem wm_27 : Cond.classLink "ScaledNumeralDesk" 9 "ScaledNumeralDesk$Numeral" ∈ GW := gw_in 27 (by decide +kernel) (by decide +kernel)
theorem wm_29 : Cond.instantiable "ScaledNumeralDesk$Numeral" 3 ∈ GW := gw_in 29 (by decide +kernel) (by decide +kernel)
theorem wm_31 : Cond.instanceMethod y_N_init ∈ GW := gw_in 31 (by decide +kernel) (by decide +kernel)
theorem wm_32 : Cond.code y_N_init prog_6_method_1_code 1 none ∈ GW := gw_in 32 (by decide +kernel) (by decide +kernel)
theorem wm_33 : Cond.methodLink "ScaledNumeralDesk$Numeral" 3 y_JO_init ∈ GW := gw_in 33 (by decide +kernel) (by decide +kernel)
theorem wm_34 : Cond.fieldLink "ScaledNumeralDesk$Numeral" 9 "ScaledNumeralDesk$Kind" "FINITE" "LScaledNumeralDesk$Kind;" ∈ GW := gw_in 34 (by decide +kernel) (by decide +kernel)
theorem wm_36 : Cond.classLink "ScaledNumeralDesk$Numeral" 20 "ScaledNumeralDesk$Amount" ∈ GW := gw_in 36 (by decide +kernel) (by decide +kernel)
theorem wm_37 : Cond.instantiable "ScaledNumeralDesk$Amount" 2 ∈ GW := gw_in 37 (by decide +kernel) (by decide +kernel)
theorem wm_39 : Cond.instanceMethod y_A_init ∈ GW := gw_in 39 (by decide +kernel) (by decide +kernel)
theorem wm_40 : Cond.code y_A_init prog_2_method_1_code 1 none ∈ GW := gw_in 40 (by decide +kernel) (by decide +kernel)
theorem wm_41 : Cond.methodLink "ScaledNumeralDesk$Amount" 3 y_JO_init ∈ GW := gw_in 41 (by decide +kernel) (by decide +kernel)
theorem wm_42 : Cond.fieldLink "ScaledNumeralDesk$Amount" 9 "ScaledNumeralDesk$Amount" "limbs" "[I" ∈ GW := gw_in 42 (by decide +kernel) (by decide +kernel)
theorem wm_43 : Cond.fieldLink "ScaledNumeralDesk$Buffer" 82 "ScaledNumeralDesk$Amount" "limbs" "[I" ∈ GW := gw_in 43 (by decide +kernel) (by decide +kernel)
theorem wm_44 : Cond.fieldLink "ScaledNumeralDesk$Bench" 116 "ScaledNumeralDesk$Amount" "limbs" "[I" ∈ GW := gw_in 44 (by decide +kernel) (by decide +kernel)
theorem wm_45 : Cond.fieldLink "ScaledNumeralDesk$Numeral" 48 "ScaledNumeralDesk$Amount" "limbs" "[I" ∈ GW := gw_in 45 (by decide +kernel) (by decide +kernel)
theorem wm_46 : Cond.fieldLink "ScaledNumeralDesk$Amount" 21 "ScaledNumeralDesk$Amount" "negative" "Z" ∈ GW := gw_in 46 (by decide +kernel) (by decide +kernel)
theorem wm_47 : Cond.fieldLink "ScaledNumeralDesk$Bench" 127 "ScaledNumeralDesk$Amount" "negative" "Z" ∈ GW := gw_in 47 (by decide +kernel) (by decide +kernel)
theorem wm_48 : Cond.fieldLink "ScaledNumeralDesk$Numeral" 80 "ScaledNumeralDesk$Amount" "negative" "Z" ∈ GW := gw_in 48 (by decide +kernel) (by decide +kernel)
theorem wm_49 : Cond.laysFinal "ScaledNumeralDesk$Amount" "ScaledNumeralDesk$Amount" "limbs" "[I" ∈ GW := gw_in 49 (by decide +kernel) (by decide +kernel)
theorem wm_51 : Cond.lays "ScaledNumeralDesk$Amount" "ScaledNumeralDesk$Amount" "negative" "Z" ∈ GW := gw_in 51 (by decide +kernel) (by decide +kernel)
theorem wm_54 : Cond.arrayClass FieldType.int ∈ GW := gw_in 54 (by decide +kernel) (by decide +kernel)
theorem wm_55 : Cond.fieldLink "ScaledNumeralDesk$Numeral" 15 "ScaledNumeralDesk$Numeral" "kind" "LScaledNumeralDesk$Kind;" ∈ GW := gw_in 55 (by decide +kernel) (by decide +kernel)
theorem wm_56 : Cond.fieldLink "ScaledNumeralDesk$Bench" 24 "ScaledNumeralDesk$Numeral" "kind" "LScaledNumeralDesk$Kind;" ∈ GW := gw_in 56 (by decide +kernel) (by decide +kernel)
theorem wm_57 : Cond.fieldLink "ScaledNumeralDesk$Sum" 59 "ScaledNumeralDesk$Numeral" "kind" "LScaledNumeralDesk$Kind;" ∈ GW := gw_in 57 (by decide +kernel) (by decide +kernel)
theorem wm_58 : Cond.fieldLink "ScaledNumeralDesk" 90 "ScaledNumeralDesk$Numeral" "kind" "LScaledNumeralDesk$Kind;" ∈ GW := gw_in 58 (by decide +kernel) (by decide +kernel)
theorem wm_59 : Cond.fieldLink "ScaledNumeralDesk$Numeral" 27 "ScaledNumeralDesk$Numeral" "places" "I" ∈ GW := gw_in 59 (by decide +kernel) (by decide +kernel)
theorem wm_60 : Cond.fieldLink "ScaledNumeralDesk$Bench" 94 "ScaledNumeralDesk$Numeral" "places" "I" ∈ GW := gw_in 60 (by decide +kernel) (by decide +kernel)
theorem wm_61 : Cond.fieldLink "ScaledNumeralDesk$Buffer" 75 "ScaledNumeralDesk$Numeral" "places" "I" ∈ GW := gw_in 61 (by decide +kernel) (by decide +kernel)
theorem wm_62 : Cond.fieldLink "ScaledNumeralDesk$Sum" 56 "ScaledNumeralDesk$Numeral" "places" "I" ∈ GW := gw_in 62 (by decide +kernel) (by decide +kernel)
theorem wm_63 : Cond.fieldLink "ScaledNumeralDesk" 78 "ScaledNumeralDesk$Numeral" "places" "I" ∈ GW := gw_in 63 (by decide +kernel) (by decide +kernel)
theorem wm_64 : Cond.fieldLink "ScaledNumeralDesk$Numeral" 23 "ScaledNumeralDesk$Numeral" "amount" "LScaledNumeralDesk$Amount;" ∈ GW := gw_in 64 (by decide +kernel) (by decide +kernel)
theorem wm_65 : Cond.fieldLink "ScaledNumeralDesk$Bench" 84 "ScaledNumeralDesk$Numeral" "amount" "LScaledNumeralDesk$Amount;" ∈ GW := gw_in 65 (by decide +kernel) (by decide +kernel)
theorem wm_66 : Cond.fieldLink "ScaledNumeralDesk$Sum" 49 "ScaledNumeralDesk$Numeral" "amount" "LScaledNumeralDesk$Amount;" ∈ GW := gw_in 66 (by decide +kernel) (by decide +kernel)
theorem wm_67 : Cond.fieldLink "ScaledNumeralDesk$Buffer" 78 "ScaledNumeralDesk$Numeral" "amount" "LScaledNumeralDesk$Amount;" ∈ GW := gw_in 67 (by decide +kernel) (by decide +kernel)
theorem wm_68 : Cond.fieldLink "ScaledNumeralDesk" 107 "ScaledNumeralDesk$Numeral" "amount" "LScaledNumeralDesk$Amount;" ∈ GW := gw_in 68 (by decide +kernel) (by decide +kernel)
theorem wm_69 : Cond.lays "ScaledNumeralDesk$Numeral" "ScaledNumeralDesk$Numeral" "kind" "LScaledNumeralDesk$Kind;" ∈ GW := gw_in 69 (by decide +kernel) (by decide +kernel)
theorem wm_71 : Cond.lays "ScaledNumeralDesk$Numeral" "ScaledNumeralDesk$Numeral" "places" "I" ∈ GW := gw_in 71 (by decide +kernel) (by decide +kernel)
theorem wm_73 : Cond.laysFinal "ScaledNumeralDesk$Numeral" "ScaledNumeralDesk$Numeral" "amount" "LScaledNumeralDesk$Amount;" ∈ GW := gw_in 73 (by decide +kernel) (by decide +kernel)
theorem wm_76 : Cond.classLink "ScaledNumeralDesk" 16 "ScaledNumeralDesk$Sum" ∈ GW := gw_in 76 (by decide +kernel) (by decide +kernel)
theorem wm_78 : Cond.instantiable "ScaledNumeralDesk$Sum" 3 ∈ GW := gw_in 78 (by decide +kernel) (by decide +kernel)
theorem wm_80 : Cond.instanceMethod y_S_init ∈ GW := gw_in 80 (by decide +kernel) (by decide +kernel)
theorem wm_81 : Cond.code y_S_init prog_8_method_1_code 1 none ∈ GW := gw_in 81 (by decide +kernel) (by decide +kernel)
theorem wm_82 : Cond.methodLink "ScaledNumeralDesk$Sum" 3 y_JO_init ∈ GW := gw_in 82 (by decide +kernel) (by decide +kernel)
theorem wm_83 : Cond.classLink "ScaledNumeralDesk$Sum" 9 "ScaledNumeralDesk$Amount" ∈ GW := gw_in 83 (by decide +kernel) (by decide +kernel)
theorem wm_85 : Cond.fieldLink "ScaledNumeralDesk$Sum" 12 "ScaledNumeralDesk$Sum" "value" "LScaledNumeralDesk$Amount;" ∈ GW := gw_in 85 (by decide +kernel) (by decide +kernel)
theorem wm_86 : Cond.fieldLink "ScaledNumeralDesk$Sum" 18 "ScaledNumeralDesk$Sum" "counts" "[I" ∈ GW := gw_in 86 (by decide +kernel) (by decide +kernel)
theorem wm_87 : Cond.fieldLink "ScaledNumeralDesk$Sum" 31 "ScaledNumeralDesk$Sum" "size" "I" ∈ GW := gw_in 87 (by decide +kernel) (by decide +kernel)
theorem wm_88 : Cond.laysFinal "ScaledNumeralDesk$Sum" "ScaledNumeralDesk$Sum" "value" "LScaledNumeralDesk$Amount;" ∈ GW := gw_in 88 (by decide +kernel) (by decide +kernel)
theorem wm_90 : Cond.laysFinal "ScaledNumeralDesk$Sum" "ScaledNumeralDesk$Sum" "counts" "[I" ∈ GW := gw_in 90 (by decide +kernel) (by decide +kernel)
theorem wm_92 : Cond.lays "ScaledNumeralDesk$Sum" "ScaledNumeralDesk$Sum" "size" "I" ∈ GW := gw_in 92 (by decide +kernel) (by decide +kernel)
theorem wm_95 : Cond.classLink "ScaledNumeralDesk" 23 "ScaledNumeralDesk$Buffer" ∈ GW := gw_in 95 (by decide +kernel) (by decide +kernel)
theorem wm_96 : Cond.instantiable "ScaledNumeralDesk$Buffer" 2 ∈ GW := gw_in 96 (by decide +kernel) (by decide +kernel)
theorem wm_98 : Cond.instanceMethod y_U_init ∈ GW := gw_in 98 (by decide +kernel) (by decide +kernel)
theorem wm_99 : Cond.code y_U_init prog_4_method_1_code 1 none ∈ GW := gw_in 99 (by decide +kernel) (by decide +kernel)
theorem wm_100 : Cond.methodLink "ScaledNumeralDesk$Buffer" 3 y_JO_init ∈ GW := gw_in 100 (by decide +kernel) (by decide +kernel)
theorem wm_101 : Cond.fieldLink "ScaledNumeralDesk$Buffer" 11 "ScaledNumeralDesk$Buffer" "characters" "[C" ∈ GW := gw_in 101 (by decide +kernel) (by decide +kernel)
theorem wm_102 : Cond.fieldLink "ScaledNumeralDesk$Buffer" 15 "ScaledNumeralDesk$Buffer" "used" "I" ∈ GW := gw_in 102 (by decide +kernel) (by decide +kernel)
theorem wm_103 : Cond.laysFinal "ScaledNumeralDesk$Buffer" "ScaledNumeralDesk$Buffer" "characters" "[C" ∈ GW := gw_in 103 (by decide +kernel) (by decide +kernel)
theorem wm_105 : Cond.lays "ScaledNumeralDesk$Buffer" "ScaledNumeralDesk$Buffer" "used" "I" ∈ GW := gw_in 105 (by decide +kernel) (by decide +kernel)
theorem wm_108 : Cond.arrayClass FieldType.char ∈ GW := gw_in 108 (by decide +kernel) (by decide +kernel)
theorem wm_109 : Cond.classLink "ScaledNumeralDesk" 30 "ScaledNumeralDesk$Bench" ∈ GW := gw_in 109 (by decide +kernel) (by decide +kernel)
theorem wm_110 : Cond.instantiable "ScaledNumeralDesk$Bench" 4 ∈ GW := gw_in 110 (by decide +kernel) (by decide +kernel)
theorem wm_112 : Cond.instanceMethod y_B_init ∈ GW := gw_in 112 (by decide +kernel) (by decide +kernel)
theorem wm_113 : Cond.code y_B_init prog_3_method_1_code 1 none ∈ GW := gw_in 113 (by decide +kernel) (by decide +kernel)
theorem wm_114 : Cond.methodLink "ScaledNumeralDesk$Bench" 5 y_JO_init ∈ GW := gw_in 114 (by decide +kernel) (by decide +kernel)
theorem wm_115 : Cond.fieldLink "ScaledNumeralDesk$Bench" 11 "ScaledNumeralDesk$Bench" "rest" "[I" ∈ GW := gw_in 115 (by decide +kernel) (by decide +kernel)
theorem wm_116 : Cond.fieldLink "ScaledNumeralDesk$Bench" 15 "ScaledNumeralDesk$Bench" "answer" "[I" ∈ GW := gw_in 116 (by decide +kernel) (by decide +kernel)
theorem wm_117 : Cond.fieldLink "ScaledNumeralDesk$Bench" 18 "ScaledNumeralDesk$Bench" "doubled" "[I" ∈ GW := gw_in 117 (by decide +kernel) (by decide +kernel)
theorem wm_118 : Cond.fieldLink "ScaledNumeralDesk$Bench" 21 "ScaledNumeralDesk$Bench" "trial" "[I" ∈ GW := gw_in 118 (by decide +kernel) (by decide +kernel)
theorem wm_119 : Cond.laysFinal "ScaledNumeralDesk$Bench" "ScaledNumeralDesk$Bench" "rest" "[I" ∈ GW := gw_in 119 (by decide +kernel) (by decide +kernel)
theorem wm_121 : Cond.laysFinal "ScaledNumeralDesk$Bench" "ScaledNumeralDesk$Bench" "answer" "[I" ∈ GW := gw_in 121 (by decide +kernel) (by decide +kernel)
theorem wm_123 : Cond.laysFinal "ScaledNumeralDesk$Bench" "ScaledNumeralDesk$Bench" "doubled" "[I" ∈ GW := gw_in 123 (by decide +kernel) (by decide +kernel)
theorem wm_125 : Cond.laysFinal "ScaledNumeralDesk$Bench" "ScaledNumeralDesk$Bench" "trial" "[I" ∈ GW := gw_in 125 (by decide +kernel) (by decide +kernel)
theorem wm_128 : Cond.fieldLink "ScaledNumeralDesk" 11 "ScaledNumeralDesk" "registers" "[LScaledNumeralDesk$Numeral;" ∈ GW := gw_in 128 (by decide +kernel) (by decide +kernel)
theorem wm_129 : Cond.fieldLink "ScaledNumeralDesk" 18 "ScaledNumeralDesk" "sums" "[LScaledNumeralDesk$Sum;" ∈ GW := gw_in 129 (by decide +kernel) (by decide +kernel)
theorem wm_130 : Cond.fieldLink "ScaledNumeralDesk" 26 "ScaledNumeralDesk" "buffer" "LScaledNumeralDesk$Buffer;" ∈ GW := gw_in 130 (by decide +kernel) (by decide +kernel)
theorem wm_131 : Cond.fieldLink "ScaledNumeralDesk" 33 "ScaledNumeralDesk" "bench" "LScaledNumeralDesk$Bench;" ∈ GW := gw_in 131 (by decide +kernel) (by decide +kernel)
theorem wm_132 : Cond.fieldLink "ScaledNumeralDesk" 37 "ScaledNumeralDesk" "outcome" "LScaledNumeralDesk$Numeral;" ∈ GW := gw_in 132 (by decide +kernel) (by decide +kernel)
theorem wm_133 : Cond.fieldLink "ScaledNumeralDesk" 41 "ScaledNumeralDesk" "dividend" "LScaledNumeralDesk$Numeral;" ∈ GW := gw_in 133 (by decide +kernel) (by decide +kernel)
theorem wm_134 : Cond.fieldLink "ScaledNumeralDesk" 44 "ScaledNumeralDesk" "divisor" "LScaledNumeralDesk$Numeral;" ∈ GW := gw_in 134 (by decide +kernel) (by decide +kernel)
theorem wm_135 : Cond.laysFinal "ScaledNumeralDesk" "ScaledNumeralDesk" "registers" "[LScaledNumeralDesk$Numeral;" ∈ GW := gw_in 135 (by decide +kernel) (by decide +kernel)
theorem wm_137 : Cond.laysFinal "ScaledNumeralDesk" "ScaledNumeralDesk" "sums" "[LScaledNumeralDesk$Sum;" ∈ GW := gw_in 137 (by decide +kernel) (by decide +kernel)
theorem wm_139 : Cond.laysFinal "ScaledNumeralDesk" "ScaledNumeralDesk" "buffer" "LScaledNumeralDesk$Buffer;" ∈ GW := gw_in 139 (by decide +kernel) (by decide +kernel)
theorem wm_141 : Cond.laysFinal "ScaledNumeralDesk" "ScaledNumeralDesk" "bench" "LScaledNumeralDesk$Bench;" ∈ GW := gw_in 141 (by decide +kernel) (by decide +kernel)
theorem wm_143 : Cond.laysFinal "ScaledNumeralDesk" "ScaledNumeralDesk" "outcome" "LScaledNumeralDesk$Numeral;" ∈ GW := gw_in 143 (by decide +kernel) (by decide +kernel)
theorem wm_145 : Cond.laysFinal "ScaledNumeralDesk" "ScaledNumeralDesk" "dividend" "LScaledNumeralDesk$Numeral;" ∈ GW := gw_in 145 (by decide +kernel) (by decide +kernel)
theorem wm_147 : Cond.laysFinal "ScaledNumeralDesk" "ScaledNumeralDesk" "divisor" "LScaledNumeralDesk$Numeral;" ∈ GW := gw_in 147 (by decide +kernel) (by decide +kernel)
theorem wm_150 : Cond.methodLink "ScaledNumeralDeskLaw" 13 y_D_type ∈ GW := gw_in 150 (by decide +kernel) (by decide +kernel)
theorem wm_151 : Cond.instanceMethod y_D_type ∈ GW := gw_in 151 (by decide +kernel) (by decide +kernel)
theorem wm_152 : Cond.selects "ScaledNumeralDesk" y_D_type y_D_type ∈ GW := gw_in 152 (by decide +kernel) (by decide +kernel)
theorem wm_153 : Cond.code y_D_type prog_1_method_2_code 2 (some FieldType.boolean) ∈ GW := gw_in 153 (by decide +kernel) (by decide +kernel)
theorem wm_154 : Cond.methodLink "ScaledNumeralDesk" 47 y_U_append ∈ GW := gw_in 154 (by decide +kernel) (by decide +kernel)
theorem wm_155 : Cond.instanceMethod y_U_append ∈ GW := gw_in 155 (by decide +kernel) (by decide +kernel)
theorem wm_156 : Cond.selects "ScaledNumeralDesk$Buffer" y_U_append y_U_append ∈ GW := gw_in 156 (by decide +kernel) (by decide +kernel)
theorem wm_157 : Cond.code y_U_append prog_4_method_2_code 2 (some FieldType.boolean) ∈ GW := gw_in 157 (by decide +kernel) (by decide +kernel)
theorem wm_158 : Cond.methodLink "ScaledNumeralDeskLaw" 18 y_D_enter ∈ GW := gw_in 158 (by decide +kernel) (by decide +kernel)
theorem wm_159 : Cond.instanceMethod y_D_enter ∈ GW := gw_in 159 (by decide +kernel) (by decide +kernel)
theorem wm_160 : Cond.selects "ScaledNumeralDesk" y_D_enter y_D_enter ∈ GW := gw_in 160 (by decide +kernel) (by decide +kernel)
theorem wm_161 : Cond.code y_D_enter prog_1_method_3_code 3 (some FieldType.int) ∈ GW := gw_in 161 (by decide +kernel) (by decide +kernel)
theorem wm_162 : Cond.methodLink "ScaledNumeralDesk" 51 y_D_isRegister ∈ GW := gw_in 162 (by decide +kernel) (by decide +kernel)
theorem wm_163 : Cond.static y_D_isRegister ∈ GW := gw_in 163 (by decide +kernel) (by decide +kernel)
theorem wm_164 : Cond.code y_D_isRegister prog_1_method_18_code 1 (some FieldType.boolean) ∈ GW := gw_in 164 (by decide +kernel) (by decide +kernel)
theorem wm_165 : Cond.methodLink "ScaledNumeralDesk" 55 y_U_readInto ∈ GW := gw_in 165 (by decide +kernel) (by decide +kernel)
theorem wm_166 : Cond.instanceMethod y_U_readInto ∈ GW := gw_in 166 (by decide +kernel) (by decide +kernel)
theorem wm_167 : Cond.selects "ScaledNumeralDesk$Buffer" y_U_readInto y_U_readInto ∈ GW := gw_in 167 (by decide +kernel) (by decide +kernel)
theorem wm_168 : Cond.code y_U_readInto prog_4_method_4_code 4 (some FieldType.int) ∈ GW := gw_in 168 (by decide +kernel) (by decide +kernel)
theorem wm_170 : Cond.methodLink "ScaledNumeralDesk$Buffer" 21 y_U_isWordFrom ∈ GW := gw_in 170 (by decide +kernel) (by decide +kernel)
theorem wm_172 : Cond.instanceMethod y_U_isWordFrom ∈ GW := gw_in 172 (by decide +kernel) (by decide +kernel)
theorem wm_173 : Cond.code y_U_isWordFrom prog_4_method_10_code 4 (some FieldType.boolean) ∈ GW := gw_in 173 (by decide +kernel) (by decide +kernel)
theorem wm_174 : Cond.methodLink "ScaledNumeralDesk$Buffer" 116 y_JS_length ∈ GW := gw_in 174 (by decide +kernel) (by decide +kernel)
theorem wm_175 : Cond.instanceMethod y_JS_length ∈ GW := gw_in 175 (by decide +kernel) (by decide +kernel)
theorem wm_176 : Cond.selects "java/lang/String" y_JS_length y_JS_length ∈ GW := gw_in 176 (by decide +kernel) (by decide +kernel)
theorem wm_177 : Cond.code y_JS_length prog_14_method_54_code 1 (some FieldType.int) ∈ GW := gw_in 177 (by decide +kernel) (by decide +kernel)
theorem wm_178 : Cond.methodLink "java/lang/String" 335 y_JS_coder ∈ GW := gw_in 178 (by decide +kernel) (by decide +kernel)
theorem wm_179 : Cond.instanceMethod y_JS_coder ∈ GW := gw_in 179 (by decide +kernel) (by decide +kernel)
theorem wm_180 : Cond.selects "java/lang/String" y_JS_coder y_JS_coder ∈ GW := gw_in 180 (by decide +kernel) (by decide +kernel)
theorem wm_181 : Cond.code y_JS_coder prog_14_method_152_code 1 (some FieldType.byte) ∈ GW := gw_in 181 (by decide +kernel) (by decide +kernel)
theorem wm_182 : Cond.fieldLink "java/lang/String" 38 "java/lang/String" "COMPACT_STRINGS" "Z" ∈ GW := gw_in 182 (by decide +kernel) (by decide +kernel)
theorem wm_184 : Cond.methodLink "ScaledNumeralDesk$Buffer" 112 y_U_lower ∈ GW := gw_in 184 (by decide +kernel) (by decide +kernel)
theorem wm_185 : Cond.static y_U_lower ∈ GW := gw_in 185 (by decide +kernel) (by decide +kernel)
theorem wm_186 : Cond.code y_U_lower prog_4_method_13_code 1 (some FieldType.int) ∈ GW := gw_in 186 (by decide +kernel) (by decide +kernel)
theorem wm_187 : Cond.methodLink "ScaledNumeralDesk$Buffer" 122 y_JS_charAt ∈ GW := gw_in 187 (by decide +kernel) (by decide +kernel)
theorem wm_188 : Cond.instanceMethod y_JS_charAt ∈ GW := gw_in 188 (by decide +kernel) (by decide +kernel)
theorem wm_189 : Cond.selects "java/lang/String" y_JS_charAt y_JS_charAt ∈ GW := gw_in 189 (by decide +kernel) (by decide +kernel)
theorem wm_190 : Cond.code y_JS_charAt prog_14_method_56_code 2 (some FieldType.char) ∈ GW := gw_in 190 (by decide +kernel) (by decide +kernel)
theorem wm_191 : Cond.methodLink "java/lang/String" 492 y_JS_isLatin1 ∈ GW := gw_in 191 (by decide +kernel) (by decide +kernel)
theorem wm_192 : Cond.instanceMethod y_JS_isLatin1 ∈ GW := gw_in 192 (by decide +kernel) (by decide +kernel)
theorem wm_193 : Cond.selects "java/lang/String" y_JS_isLatin1 y_JS_isLatin1 ∈ GW := gw_in 193 (by decide +kernel) (by decide +kernel)
theorem wm_194 : Cond.code y_JS_isLatin1 prog_14_method_154_code 1 (some FieldType.boolean) ∈ GW := gw_in 194 (by decide +kernel) (by decide +kernel)
theorem wm_195 : Cond.methodLink "java/lang/String" 495 y_JL_charAt ∈ GW := gw_in 195 (by decide +kernel) (by decide +kernel)
theorem wm_196 : Cond.static y_JL_charAt ∈ GW := gw_in 196 (by decide +kernel) (by decide +kernel)
theorem wm_197 : Cond.code y_JL_charAt prog_15_method_2_code 2 (some FieldType.char) ∈ GW := gw_in 197 (by decide +kernel) (by decide +kernel)
theorem wm_198 : Cond.methodLink "java/lang/StringLatin1" 9 y_JS_checkIndex ∈ GW := gw_in 198 (by decide +kernel) (by decide +kernel)
theorem wm_199 : Cond.static y_JS_checkIndex ∈ GW := gw_in 199 (by decide +kernel) (by decide +kernel)
theorem wm_200 : Cond.code y_JS_checkIndex prog_14_method_155_code 2 none ∈ GW := gw_in 200 (by decide +kernel) (by decide +kernel)
theorem wm_201 : Cond.fieldLink "java/lang/String" 1053 "jdk/internal/util/Preconditions" "SIOOBE_FORMATTER" "Ljava/util/function/BiFunction;" ∈ GW := gw_in 201 (by decide +kernel) (by decide +kernel)
theorem wm_203 : Cond.methodLink "java/lang/String" 1059 y_JP_checkIndex ∈ GW := gw_in 203 (by decide +kernel) (by decide +kernel)
theorem wm_204 : Cond.static y_JP_checkIndex ∈ GW := gw_in 204 (by decide +kernel) (by decide +kernel)
theorem wm_205 : Cond.code y_JP_checkIndex prog_19_method_11_code 3 (some FieldType.int) ∈ GW := gw_in 205 (by decide +kernel) (by decide +kernel)
theorem wm_206 : Cond.methodLink "java/lang/String" 498 y_JU_charAt ∈ GW := gw_in 206 (by decide +kernel) (by decide +kernel)
theorem wm_207 : Cond.static y_JU_charAt ∈ GW := gw_in 207 (by decide +kernel) (by decide +kernel)
theorem wm_208 : Cond.code y_JU_charAt prog_16_method_83_code 2 (some FieldType.char) ∈ GW := gw_in 208 (by decide +kernel) (by decide +kernel)
theorem wm_209 : Cond.methodLink "java/lang/StringUTF16" 67 y_JU_checkIndex ∈ GW := gw_in 209 (by decide +kernel) (by decide +kernel)
theorem wm_210 : Cond.static y_JU_checkIndex ∈ GW := gw_in 210 (by decide +kernel) (by decide +kernel)
theorem wm_211 : Cond.code y_JU_checkIndex prog_16_method_91_code 2 none ∈ GW := gw_in 211 (by decide +kernel) (by decide +kernel)
theorem wm_212 : Cond.methodLink "java/lang/StringUTF16" 48 y_JU_length ∈ GW := gw_in 212 (by decide +kernel) (by decide +kernel)
theorem wm_213 : Cond.static y_JU_length ∈ GW := gw_in 213 (by decide +kernel) (by decide +kernel)
theorem wm_214 : Cond.code y_JU_length prog_16_method_6_code 1 (some FieldType.int) ∈ GW := gw_in 214 (by decide +kernel) (by decide +kernel)
theorem wm_215 : Cond.methodLink "java/lang/StringUTF16" 414 y_JS_checkIndex ∈ GW := gw_in 215 (by decide +kernel) (by decide +kernel)
theorem wm_216 : Cond.methodLink "java/lang/StringUTF16" 71 y_JU_getChar ∈ GW := gw_in 216 (by decide +kernel) (by decide +kernel)
theorem wm_217 : Cond.static y_JU_getChar ∈ GW := gw_in 217 (by decide +kernel) (by decide +kernel)
theorem wm_218 : Cond.code y_JU_getChar prog_16_method_5_code 2 (some FieldType.char) ∈ GW := gw_in 218 (by decide +kernel) (by decide +kernel)
theorem wm_219 : Cond.fieldLink "java/lang/StringUTF16" 44 "java/lang/StringUTF16" "$assertionsDisabled" "Z" ∈ GW := gw_in 219 (by decide +kernel) (by decide +kernel)
theorem wm_221 : Cond.fieldLink "java/lang/StringUTF16" 59 "java/lang/StringUTF16" "HI_BYTE_SHIFT" "I" ∈ GW := gw_in 221 (by decide +kernel) (by decide +kernel)
theorem wm_223 : Cond.fieldLink "java/lang/StringUTF16" 63 "java/lang/StringUTF16" "LO_BYTE_SHIFT" "I" ∈ GW := gw_in 223 (by decide +kernel) (by decide +kernel)
theorem wm_225 : Cond.fieldLink "ScaledNumeralDesk$Buffer" 25 "ScaledNumeralDesk$Kind" "NAN" "LScaledNumeralDesk$Kind;" ∈ GW := gw_in 225 (by decide +kernel) (by decide +kernel)
theorem wm_227 : Cond.methodLink "ScaledNumeralDesk$Buffer" 31 y_N_become ∈ GW := gw_in 227 (by decide +kernel) (by decide +kernel)
theorem wm_228 : Cond.instanceMethod y_N_become ∈ GW := gw_in 228 (by decide +kernel) (by decide +kernel)
theorem wm_229 : Cond.selects "ScaledNumeralDesk$Numeral" y_N_become y_N_become ∈ GW := gw_in 229 (by decide +kernel) (by decide +kernel)
theorem wm_230 : Cond.code y_N_become prog_6_method_4_code 2 none ∈ GW := gw_in 230 (by decide +kernel) (by decide +kernel)
theorem wm_231 : Cond.methodLink "ScaledNumeralDesk$Numeral" 35 y_A_clear ∈ GW := gw_in 231 (by decide +kernel) (by decide +kernel)
theorem wm_232 : Cond.instanceMethod y_A_clear ∈ GW := gw_in 232 (by decide +kernel) (by decide +kernel)
theorem wm_233 : Cond.selects "ScaledNumeralDesk$Amount" y_A_clear y_A_clear ∈ GW := gw_in 233 (by decide +kernel) (by decide +kernel)
theorem wm_234 : Cond.code y_A_clear prog_2_method_2_code 1 none ∈ GW := gw_in 234 (by decide +kernel) (by decide +kernel)
theorem wm_235 : Cond.methodLink "ScaledNumeralDesk$Amount" 15 y_JA_fill ∈ GW := gw_in 235 (by decide +kernel) (by decide +kernel)
theorem wm_236 : Cond.static y_JA_fill ∈ GW := gw_in 236 (by decide +kernel) (by decide +kernel)
theorem wm_237 : Cond.code y_JA_fill prog_18_method_103_code 4 none ∈ GW := gw_in 237 (by decide +kernel) (by decide +kernel)
theorem wm_238 : Cond.methodLink "ScaledNumeralDesk$Buffer" 37 y_U_isSignAt ∈ GW := gw_in 238 (by decide +kernel) (by decide +kernel)
theorem wm_240 : Cond.instanceMethod y_U_isSignAt ∈ GW := gw_in 240 (by decide +kernel) (by decide +kernel)
theorem wm_241 : Cond.code y_U_isSignAt prog_4_method_11_code 2 (some FieldType.boolean) ∈ GW := gw_in 241 (by decide +kernel) (by decide +kernel)
theorem wm_244 : Cond.methodLink "ScaledNumeralDesk$Buffer" 45 y_N_becomeInfinite ∈ GW := gw_in 244 (by decide +kernel) (by decide +kernel)
theorem wm_245 : Cond.instanceMethod y_N_becomeInfinite ∈ GW := gw_in 245 (by decide +kernel) (by decide +kernel)
theorem wm_246 : Cond.selects "ScaledNumeralDesk$Numeral" y_N_becomeInfinite y_N_becomeInfinite ∈ GW := gw_in 246 (by decide +kernel) (by decide +kernel)
theorem wm_247 : Cond.code y_N_becomeInfinite prog_6_method_5_code 2 none ∈ GW := gw_in 247 (by decide +kernel) (by decide +kernel)
theorem wm_248 : Cond.fieldLink "ScaledNumeralDesk$Numeral" 38 "ScaledNumeralDesk$Kind" "MINUS" "LScaledNumeralDesk$Kind;" ∈ GW := gw_in 248 (by decide +kernel) (by decide +kernel)
theorem wm_250 : Cond.fieldLink "ScaledNumeralDesk$Numeral" 41 "ScaledNumeralDesk$Kind" "PLUS" "LScaledNumeralDesk$Kind;" ∈ GW := gw_in 250 (by decide +kernel) (by decide +kernel)
theorem wm_252 : Cond.methodLink "ScaledNumeralDesk$Numeral" 44 y_N_become ∈ GW := gw_in 252 (by decide +kernel) (by decide +kernel)
theorem wm_253 : Cond.methodLink "ScaledNumeralDesk$Buffer" 49 y_U_readFinite ∈ GW := gw_in 253 (by decide +kernel) (by decide +kernel)
theorem wm_255 : Cond.instanceMethod y_U_readFinite ∈ GW := gw_in 255 (by decide +kernel) (by decide +kernel)
theorem wm_256 : Cond.code y_U_readFinite prog_4_method_5_code 11 (some FieldType.int) ∈ GW := gw_in 256 (by decide +kernel) (by decide +kernel)
theorem wm_257 : Cond.methodLink "ScaledNumeralDesk$Buffer" 53 y_U_endOfDigits ∈ GW := gw_in 257 (by decide +kernel) (by decide +kernel)
theorem wm_259 : Cond.instanceMethod y_U_endOfDigits ∈ GW := gw_in 259 (by decide +kernel) (by decide +kernel)
theorem wm_260 : Cond.code y_U_endOfDigits prog_4_method_7_code 4 (some FieldType.int) ∈ GW := gw_in 260 (by decide +kernel) (by decide +kernel)
theorem wm_261 : Cond.methodLink "ScaledNumeralDesk$Buffer" 109 y_U_isDigitAt ∈ GW := gw_in 261 (by decide +kernel) (by decide +kernel)
theorem wm_263 : Cond.instanceMethod y_U_isDigitAt ∈ GW := gw_in 263 (by decide +kernel) (by decide +kernel)
theorem wm_264 : Cond.code y_U_isDigitAt prog_4_method_12_code 2 (some FieldType.boolean) ∈ GW := gw_in 264 (by decide +kernel) (by decide +kernel)
theorem wm_265 : Cond.methodLink "ScaledNumeralDesk$Buffer" 57 y_U_pointBetween ∈ GW := gw_in 265 (by decide +kernel) (by decide +kernel)
theorem wm_267 : Cond.instanceMethod y_U_pointBetween ∈ GW := gw_in 267 (by decide +kernel) (by decide +kernel)
theorem wm_268 : Cond.code y_U_pointBetween prog_4_method_8_code 4 (some FieldType.int) ∈ GW := gw_in 268 (by decide +kernel) (by decide +kernel)
theorem wm_269 : Cond.methodLink "ScaledNumeralDesk$Buffer" 61 y_U_exponentFrom ∈ GW := gw_in 269 (by decide +kernel) (by decide +kernel)
theorem wm_271 : Cond.instanceMethod y_U_exponentFrom ∈ GW := gw_in 271 (by decide +kernel) (by decide +kernel)
theorem wm_272 : Cond.code y_U_exponentFrom prog_4_method_9_code 5 (some FieldType.int) ∈ GW := gw_in 272 (by decide +kernel) (by decide +kernel)
theorem wm_273 : Cond.methodLink "ScaledNumeralDesk$Buffer" 64 y_JM_max ∈ GW := gw_in 273 (by decide +kernel) (by decide +kernel)
theorem wm_274 : Cond.static y_JM_max ∈ GW := gw_in 274 (by decide +kernel) (by decide +kernel)
theorem wm_275 : Cond.code y_JM_max prog_13_method_65_code 2 (some FieldType.int) ∈ GW := gw_in 275 (by decide +kernel) (by decide +kernel)
theorem wm_276 : Cond.fieldLink "ScaledNumeralDesk$Buffer" 69 "ScaledNumeralDesk$Kind" "FINITE" "LScaledNumeralDesk$Kind;" ∈ GW := gw_in 276 (by decide +kernel) (by decide +kernel)
theorem wm_277 : Cond.methodLink "ScaledNumeralDesk$Buffer" 72 y_JM_min ∈ GW := gw_in 277 (by decide +kernel) (by decide +kernel)
theorem wm_278 : Cond.static y_JM_min ∈ GW := gw_in 278 (by decide +kernel) (by decide +kernel)
theorem wm_279 : Cond.code y_JM_min prog_13_method_69_code 2 (some FieldType.int) ∈ GW := gw_in 279 (by decide +kernel) (by decide +kernel)
theorem wm_280 : Cond.methodLink "ScaledNumeralDesk$Buffer" 88 y_U_placeDigits ∈ GW := gw_in 280 (by decide +kernel) (by decide +kernel)
theorem wm_282 : Cond.instanceMethod y_U_placeDigits ∈ GW := gw_in 282 (by decide +kernel) (by decide +kernel)
theorem wm_283 : Cond.code y_U_placeDigits prog_4_method_6_code 9 (some FieldType.boolean) ∈ GW := gw_in 283 (by decide +kernel) (by decide +kernel)
theorem wm_286 : Cond.methodLink "ScaledNumeralDesk$Buffer" 103 y_R_addOneAt ∈ GW := gw_in 286 (by decide +kernel) (by decide +kernel)
theorem wm_287 : Cond.static y_R_addOneAt ∈ GW := gw_in 287 (by decide +kernel) (by decide +kernel)
theorem wm_288 : Cond.code y_R_addOneAt prog_7_method_7_code 5 none ∈ GW := gw_in 288 (by decide +kernel) (by decide +kernel)
theorem wm_290 : Cond.methodLink "ScaledNumeralDesk$Buffer" 92 y_A_signAs ∈ GW := gw_in 290 (by decide +kernel) (by decide +kernel)
theorem wm_291 : Cond.instanceMethod y_A_signAs ∈ GW := gw_in 291 (by decide +kernel) (by decide +kernel)
theorem wm_292 : Cond.selects "ScaledNumeralDesk$Amount" y_A_signAs y_A_signAs ∈ GW := gw_in 292 (by decide +kernel) (by decide +kernel)
theorem wm_293 : Cond.code y_A_signAs prog_2_method_6_code 2 none ∈ GW := gw_in 293 (by decide +kernel) (by decide +kernel)
theorem wm_294 : Cond.methodLink "ScaledNumeralDesk$Amount" 37 y_A_isZero ∈ GW := gw_in 294 (by decide +kernel) (by decide +kernel)
theorem wm_295 : Cond.instanceMethod y_A_isZero ∈ GW := gw_in 295 (by decide +kernel) (by decide +kernel)
theorem wm_296 : Cond.selects "ScaledNumeralDesk$Amount" y_A_isZero y_A_isZero ∈ GW := gw_in 296 (by decide +kernel) (by decide +kernel)
theorem wm_297 : Cond.code y_A_isZero prog_2_method_4_code 1 (some FieldType.boolean) ∈ GW := gw_in 297 (by decide +kernel) (by decide +kernel)
theorem wm_298 : Cond.methodLink "ScaledNumeralDesk$Amount" 31 y_R_topLimb ∈ GW := gw_in 298 (by decide +kernel) (by decide +kernel)
theorem wm_299 : Cond.static y_R_topLimb ∈ GW := gw_in 299 (by decide +kernel) (by decide +kernel)
theorem wm_300 : Cond.code y_R_topLimb prog_7_method_2_code 2 (some FieldType.int) ∈ GW := gw_in 300 (by decide +kernel) (by decide +kernel)
theorem wm_301 : Cond.methodLink "ScaledNumeralDesk$Buffer" 96 y_N_isTooLarge ∈ GW := gw_in 301 (by decide +kernel) (by decide +kernel)
theorem wm_302 : Cond.instanceMethod y_N_isTooLarge ∈ GW := gw_in 302 (by decide +kernel) (by decide +kernel)
theorem wm_303 : Cond.selects "ScaledNumeralDesk$Numeral" y_N_isTooLarge y_N_isTooLarge ∈ GW := gw_in 303 (by decide +kernel) (by decide +kernel)
theorem wm_304 : Cond.code y_N_isTooLarge prog_6_method_9_code 1 (some FieldType.boolean) ∈ GW := gw_in 304 (by decide +kernel) (by decide +kernel)
theorem wm_305 : Cond.methodLink "ScaledNumeralDesk$Numeral" 63 y_A_reachesTenTo ∈ GW := gw_in 305 (by decide +kernel) (by decide +kernel)
theorem wm_306 : Cond.instanceMethod y_A_reachesTenTo ∈ GW := gw_in 306 (by decide +kernel) (by decide +kernel)
theorem wm_307 : Cond.selects "ScaledNumeralDesk$Amount" y_A_reachesTenTo y_A_reachesTenTo ∈ GW := gw_in 307 (by decide +kernel) (by decide +kernel)
theorem wm_308 : Cond.code y_A_reachesTenTo prog_2_method_9_code 2 (some FieldType.boolean) ∈ GW := gw_in 308 (by decide +kernel) (by decide +kernel)
theorem wm_309 : Cond.methodLink "ScaledNumeralDesk$Amount" 57 y_R_digits ∈ GW := gw_in 309 (by decide +kernel) (by decide +kernel)
theorem wm_310 : Cond.static y_R_digits ∈ GW := gw_in 310 (by decide +kernel) (by decide +kernel)
theorem wm_311 : Cond.code y_R_digits prog_7_method_3_code 4 (some FieldType.int) ∈ GW := gw_in 311 (by decide +kernel) (by decide +kernel)
theorem wm_312 : Cond.methodLink "ScaledNumeralDesk$Row" 9 y_R_topLimb ∈ GW := gw_in 312 (by decide +kernel) (by decide +kernel)
theorem wm_313 : Cond.methodLink "ScaledNumeralDesk" 59 y_U_empty ∈ GW := gw_in 313 (by decide +kernel) (by decide +kernel)
theorem wm_314 : Cond.instanceMethod y_U_empty ∈ GW := gw_in 314 (by decide +kernel) (by decide +kernel)
theorem wm_315 : Cond.selects "ScaledNumeralDesk$Buffer" y_U_empty y_U_empty ∈ GW := gw_in 315 (by decide +kernel) (by decide +kernel)
theorem wm_316 : Cond.code y_U_empty prog_4_method_3_code 1 none ∈ GW := gw_in 316 (by decide +kernel) (by decide +kernel)
theorem wm_317 : Cond.methodLink "ScaledNumeralDesk" 62 y_D_store ∈ GW := gw_in 317 (by decide +kernel) (by decide +kernel)
theorem wm_319 : Cond.instanceMethod y_D_store ∈ GW := gw_in 319 (by decide +kernel) (by decide +kernel)
theorem wm_320 : Cond.code y_D_store prog_1_method_20_code 3 (some FieldType.int) ∈ GW := gw_in 320 (by decide +kernel) (by decide +kernel)
theorem wm_321 : Cond.methodLink "ScaledNumeralDesk" 99 y_N_take ∈ GW := gw_in 321 (by decide +kernel) (by decide +kernel)
theorem wm_322 : Cond.instanceMethod y_N_take ∈ GW := gw_in 322 (by decide +kernel) (by decide +kernel)
theorem wm_323 : Cond.selects "ScaledNumeralDesk$Numeral" y_N_take y_N_take ∈ GW := gw_in 323 (by decide +kernel) (by decide +kernel)
theorem wm_324 : Cond.code y_N_take prog_6_method_3_code 2 none ∈ GW := gw_in 324 (by decide +kernel) (by decide +kernel)
theorem wm_325 : Cond.methodLink "ScaledNumeralDesk$Numeral" 31 y_A_take ∈ GW := gw_in 325 (by decide +kernel) (by decide +kernel)
theorem wm_326 : Cond.instanceMethod y_A_take ∈ GW := gw_in 326 (by decide +kernel) (by decide +kernel)
theorem wm_327 : Cond.selects "ScaledNumeralDesk$Amount" y_A_take y_A_take ∈ GW := gw_in 327 (by decide +kernel) (by decide +kernel)
theorem wm_328 : Cond.code y_A_take prog_2_method_3_code 2 none ∈ GW := gw_in 328 (by decide +kernel) (by decide +kernel)
theorem wm_329 : Cond.methodLink "ScaledNumeralDesk$Amount" 25 ⟨"java/lang/System", "arraycopy", "(Ljava/lang/Object;ILjava/lang/Object;II)V"⟩ ∈ GW := gw_in 329 (by decide +kernel) (by decide +kernel)
theorem wm_330 : Cond.static ⟨"java/lang/System", "arraycopy", "(Ljava/lang/Object;ILjava/lang/Object;II)V"⟩ ∈ GW := gw_in 330 (by decide +kernel) (by decide +kernel)
theorem wm_331 : Cond.native ⟨"java/lang/System", "arraycopy", "(Ljava/lang/Object;ILjava/lang/Object;II)V"⟩ ∈ GW := gw_in 331 (by decide +kernel) (by decide +kernel)
theorem wm_332 : Cond.arrayClass FieldType.byte ∈ GW := gw_in 332 (by decide +kernel) (by decide +kernel)
theorem wm_333 : Cond.methodLink "ScaledNumeralDeskLaw" 23 y_D_length ∈ GW := gw_in 333 (by decide +kernel) (by decide +kernel)
theorem wm_334 : Cond.instanceMethod y_D_length ∈ GW := gw_in 334 (by decide +kernel) (by decide +kernel)
theorem wm_335 : Cond.selects "ScaledNumeralDesk" y_D_length y_D_length ∈ GW := gw_in 335 (by decide +kernel) (by decide +kernel)
theorem wm_336 : Cond.code y_D_length prog_1_method_4_code 2 (some FieldType.int) ∈ GW := gw_in 336 (by decide +kernel) (by decide +kernel)
theorem wm_337 : Cond.methodLink "ScaledNumeralDesk" 66 y_N_textLength ∈ GW := gw_in 337 (by decide +kernel) (by decide +kernel)
theorem wm_338 : Cond.instanceMethod y_N_textLength ∈ GW := gw_in 338 (by decide +kernel) (by decide +kernel)
theorem wm_339 : Cond.selects "ScaledNumeralDesk$Numeral" y_N_textLength y_N_textLength ∈ GW := gw_in 339 (by decide +kernel) (by decide +kernel)
theorem wm_340 : Cond.code y_N_textLength prog_6_method_17_code 2 (some FieldType.int) ∈ GW := gw_in 340 (by decide +kernel) (by decide +kernel)
theorem wm_341 : Cond.methodLink "ScaledNumeralDesk$Numeral" 52 y_N_isFinite ∈ GW := gw_in 341 (by decide +kernel) (by decide +kernel)
theorem wm_342 : Cond.instanceMethod y_N_isFinite ∈ GW := gw_in 342 (by decide +kernel) (by decide +kernel)
theorem wm_343 : Cond.selects "ScaledNumeralDesk$Numeral" y_N_isFinite y_N_isFinite ∈ GW := gw_in 343 (by decide +kernel) (by decide +kernel)
theorem wm_344 : Cond.code y_N_isFinite prog_6_method_2_code 1 (some FieldType.boolean) ∈ GW := gw_in 344 (by decide +kernel) (by decide +kernel)
theorem wm_345 : Cond.methodLink "ScaledNumeralDesk$Numeral" 124 y_JS_length ∈ GW := gw_in 345 (by decide +kernel) (by decide +kernel)
theorem wm_346 : Cond.methodLink "ScaledNumeralDesk$Numeral" 129 y_N_wholeDigits ∈ GW := gw_in 346 (by decide +kernel) (by decide +kernel)
theorem wm_348 : Cond.instanceMethod y_N_wholeDigits ∈ GW := gw_in 348 (by decide +kernel) (by decide +kernel)
theorem wm_349 : Cond.code y_N_wholeDigits prog_6_method_19_code 1 (some FieldType.int) ∈ GW := gw_in 349 (by decide +kernel) (by decide +kernel)
theorem wm_350 : Cond.methodLink "ScaledNumeralDesk$Numeral" 136 y_R_digits ∈ GW := gw_in 350 (by decide +kernel) (by decide +kernel)
theorem wm_351 : Cond.methodLink "ScaledNumeralDesk$Numeral" 88 y_JM_max ∈ GW := gw_in 351 (by decide +kernel) (by decide +kernel)
theorem wm_352 : Cond.methodLink "ScaledNumeralDeskLaw" 27 y_D_character ∈ GW := gw_in 352 (by decide +kernel) (by decide +kernel)
theorem wm_353 : Cond.instanceMethod y_D_character ∈ GW := gw_in 353 (by decide +kernel) (by decide +kernel)
theorem wm_354 : Cond.selects "ScaledNumeralDesk" y_D_character y_D_character ∈ GW := gw_in 354 (by decide +kernel) (by decide +kernel)
theorem wm_355 : Cond.code y_D_character prog_1_method_5_code 3 (some FieldType.int) ∈ GW := gw_in 355 (by decide +kernel) (by decide +kernel)
theorem wm_356 : Cond.methodLink "ScaledNumeralDesk" 70 y_N_textCharacter ∈ GW := gw_in 356 (by decide +kernel) (by decide +kernel)
theorem wm_357 : Cond.instanceMethod y_N_textCharacter ∈ GW := gw_in 357 (by decide +kernel) (by decide +kernel)
theorem wm_358 : Cond.selects "ScaledNumeralDesk$Numeral" y_N_textCharacter y_N_textCharacter ∈ GW := gw_in 358 (by decide +kernel) (by decide +kernel)
theorem wm_359 : Cond.code y_N_textCharacter prog_6_method_18_code 4 (some FieldType.int) ∈ GW := gw_in 359 (by decide +kernel) (by decide +kernel)
theorem wm_360 : Cond.methodLink "ScaledNumeralDesk$Numeral" 132 y_JS_charAt ∈ GW := gw_in 360 (by decide +kernel) (by decide +kernel)
theorem wm_361 : Cond.methodLink "ScaledNumeralDesk$Numeral" 103 y_R_digitAt ∈ GW := gw_in 361 (by decide +kernel) (by decide +kernel)
theorem wm_362 : Cond.static y_R_digitAt ∈ GW := gw_in 362 (by decide +kernel) (by decide +kernel)
theorem wm_363 : Cond.code y_R_digitAt prog_7_method_4_code 2 (some FieldType.int) ∈ GW := gw_in 363 (by decide +kernel) (by decide +kernel)
theorem wm_364 : Cond.methodLink "ScaledNumeralDeskLaw" 32 y_D_scale ∈ GW := gw_in 364 (by decide +kernel) (by decide +kernel)
theorem wm_365 : Cond.instanceMethod y_D_scale ∈ GW := gw_in 365 (by decide +kernel) (by decide +kernel)
theorem wm_366 : Cond.selects "ScaledNumeralDesk" y_D_scale y_D_scale ∈ GW := gw_in 366 (by decide +kernel) (by decide +kernel)
theorem wm_367 : Cond.code y_D_scale prog_1_method_6_code 2 (some FieldType.int) ∈ GW := gw_in 367 (by decide +kernel) (by decide +kernel)
theorem wm_368 : Cond.methodLink "ScaledNumeralDesk" 74 y_N_isFinite ∈ GW := gw_in 368 (by decide +kernel) (by decide +kernel)
theorem wm_369 : Cond.methodLink "ScaledNumeralDeskLaw" 36 y_D_apply ∈ GW := gw_in 369 (by decide +kernel) (by decide +kernel)
theorem wm_370 : Cond.instanceMethod y_D_apply ∈ GW := gw_in 370 (by decide +kernel) (by decide +kernel)
theorem wm_371 : Cond.selects "ScaledNumeralDesk" y_D_apply y_D_apply ∈ GW := gw_in 371 (by decide +kernel) (by decide +kernel)
theorem wm_372 : Cond.code y_D_apply prog_1_method_7_code 5 (some FieldType.int) ∈ GW := gw_in 372 (by decide +kernel) (by decide +kernel)
theorem wm_373 : Cond.methodLink "ScaledNumeralDesk" 82 y_B_combine ∈ GW := gw_in 373 (by decide +kernel) (by decide +kernel)
theorem wm_374 : Cond.instanceMethod y_B_combine ∈ GW := gw_in 374 (by decide +kernel) (by decide +kernel)
theorem wm_375 : Cond.selects "ScaledNumeralDesk$Bench" y_B_combine y_B_combine ∈ GW := gw_in 375 (by decide +kernel) (by decide +kernel)
theorem wm_376 : Cond.code y_B_combine prog_3_method_2_code 6 (some FieldType.int) ∈ GW := gw_in 376 (by decide +kernel) (by decide +kernel)
theorem wm_377 : Cond.fieldLink "ScaledNumeralDesk$Bench" 30 "ScaledNumeralDesk$Kind" "NAN" "LScaledNumeralDesk$Kind;" ∈ GW := gw_in 377 (by decide +kernel) (by decide +kernel)
theorem wm_378 : Cond.methodLink "ScaledNumeralDesk$Bench" 35 y_N_become ∈ GW := gw_in 378 (by decide +kernel) (by decide +kernel)
theorem wm_379 : Cond.methodLink "ScaledNumeralDesk$Bench" 39 y_N_isFinite ∈ GW := gw_in 379 (by decide +kernel) (by decide +kernel)
theorem wm_380 : Cond.methodLink "ScaledNumeralDesk$Bench" 43 y_B_add ∈ GW := gw_in 380 (by decide +kernel) (by decide +kernel)
theorem wm_382 : Cond.instanceMethod y_B_add ∈ GW := gw_in 382 (by decide +kernel) (by decide +kernel)
theorem wm_383 : Cond.code y_B_add prog_3_method_4_code 5 (some FieldType.int) ∈ GW := gw_in 383 (by decide +kernel) (by decide +kernel)
theorem wm_384 : Cond.methodLink "ScaledNumeralDesk$Bench" 80 y_N_take ∈ GW := gw_in 384 (by decide +kernel) (by decide +kernel)
theorem wm_385 : Cond.methodLink "ScaledNumeralDesk$Bench" 88 y_A_increase ∈ GW := gw_in 385 (by decide +kernel) (by decide +kernel)
theorem wm_386 : Cond.instanceMethod y_A_increase ∈ GW := gw_in 386 (by decide +kernel) (by decide +kernel)
theorem wm_387 : Cond.selects "ScaledNumeralDesk$Amount" y_A_increase y_A_increase ∈ GW := gw_in 387 (by decide +kernel) (by decide +kernel)
theorem wm_388 : Cond.code y_A_increase prog_2_method_7_code 4 none ∈ GW := gw_in 388 (by decide +kernel) (by decide +kernel)
theorem wm_389 : Cond.methodLink "ScaledNumeralDesk$Amount" 41 y_R_add ∈ GW := gw_in 389 (by decide +kernel) (by decide +kernel)
theorem wm_390 : Cond.static y_R_add ∈ GW := gw_in 390 (by decide +kernel) (by decide +kernel)
theorem wm_391 : Cond.code y_R_add prog_7_method_8_code 5 none ∈ GW := gw_in 391 (by decide +kernel) (by decide +kernel)
theorem wm_392 : Cond.methodLink "ScaledNumeralDesk$Amount" 45 y_R_order ∈ GW := gw_in 392 (by decide +kernel) (by decide +kernel)
theorem wm_393 : Cond.static y_R_order ∈ GW := gw_in 393 (by decide +kernel) (by decide +kernel)
theorem wm_394 : Cond.code y_R_order prog_7_method_10_code 3 (some FieldType.int) ∈ GW := gw_in 394 (by decide +kernel) (by decide +kernel)
theorem wm_395 : Cond.methodLink "ScaledNumeralDesk$Row" 19 y_JM_min ∈ GW := gw_in 395 (by decide +kernel) (by decide +kernel)
theorem wm_396 : Cond.methodLink "ScaledNumeralDesk$Amount" 49 y_R_subtract ∈ GW := gw_in 396 (by decide +kernel) (by decide +kernel)
theorem wm_397 : Cond.static y_R_subtract ∈ GW := gw_in 397 (by decide +kernel) (by decide +kernel)
theorem wm_398 : Cond.code y_R_subtract prog_7_method_9_code 6 none ∈ GW := gw_in 398 (by decide +kernel) (by decide +kernel)
theorem wm_399 : Cond.methodLink "ScaledNumeralDesk$Amount" 53 y_A_signAs ∈ GW := gw_in 399 (by decide +kernel) (by decide +kernel)
theorem wm_400 : Cond.methodLink "ScaledNumeralDesk$Bench" 98 y_JM_max ∈ GW := gw_in 400 (by decide +kernel) (by decide +kernel)
theorem wm_401 : Cond.methodLink "ScaledNumeralDesk$Bench" 104 y_B_judged ∈ GW := gw_in 401 (by decide +kernel) (by decide +kernel)
theorem wm_402 : Cond.static y_B_judged ∈ GW := gw_in 402 (by decide +kernel) (by decide +kernel)
theorem wm_403 : Cond.code y_B_judged prog_3_method_21_code 1 (some FieldType.int) ∈ GW := gw_in 403 (by decide +kernel) (by decide +kernel)
theorem wm_404 : Cond.methodLink "ScaledNumeralDesk$Bench" 220 y_N_isTooLarge ∈ GW := gw_in 404 (by decide +kernel) (by decide +kernel)
theorem wm_405 : Cond.methodLink "ScaledNumeralDesk$Bench" 47 y_B_addInfinite ∈ GW := gw_in 405 (by decide +kernel) (by decide +kernel)
theorem wm_407 : Cond.instanceMethod y_B_addInfinite ∈ GW := gw_in 407 (by decide +kernel) (by decide +kernel)
theorem wm_408 : Cond.code y_B_addInfinite prog_3_method_5_code 8 (some FieldType.int) ∈ GW := gw_in 408 (by decide +kernel) (by decide +kernel)
theorem wm_409 : Cond.methodLink "ScaledNumeralDesk$Bench" 108 y_N_sign ∈ GW := gw_in 409 (by decide +kernel) (by decide +kernel)
theorem wm_410 : Cond.instanceMethod y_N_sign ∈ GW := gw_in 410 (by decide +kernel) (by decide +kernel)
theorem wm_411 : Cond.selects "ScaledNumeralDesk$Numeral" y_N_sign y_N_sign ∈ GW := gw_in 411 (by decide +kernel) (by decide +kernel)
theorem wm_412 : Cond.code y_N_sign prog_6_method_7_code 1 (some FieldType.int) ∈ GW := gw_in 412 (by decide +kernel) (by decide +kernel)
theorem wm_413 : Cond.methodLink "ScaledNumeralDesk$Numeral" 56 y_A_sign ∈ GW := gw_in 413 (by decide +kernel) (by decide +kernel)
theorem wm_414 : Cond.instanceMethod y_A_sign ∈ GW := gw_in 414 (by decide +kernel) (by decide +kernel)
theorem wm_415 : Cond.selects "ScaledNumeralDesk$Amount" y_A_sign y_A_sign ∈ GW := gw_in 415 (by decide +kernel) (by decide +kernel)
theorem wm_416 : Cond.code y_A_sign prog_2_method_5_code 1 (some FieldType.int) ∈ GW := gw_in 416 (by decide +kernel) (by decide +kernel)
theorem wm_417 : Cond.methodLink "ScaledNumeralDesk$Bench" 112 y_N_becomeInfinite ∈ GW := gw_in 417 (by decide +kernel) (by decide +kernel)
theorem wm_418 : Cond.methodLink "ScaledNumeralDesk$Bench" 50 y_B_multiply ∈ GW := gw_in 418 (by decide +kernel) (by decide +kernel)
theorem wm_420 : Cond.instanceMethod y_B_multiply ∈ GW := gw_in 420 (by decide +kernel) (by decide +kernel)
theorem wm_421 : Cond.code y_B_multiply prog_3_method_6_code 5 (some FieldType.int) ∈ GW := gw_in 421 (by decide +kernel) (by decide +kernel)
theorem wm_422 : Cond.methodLink "ScaledNumeralDesk$Bench" 119 y_R_multiply ∈ GW := gw_in 422 (by decide +kernel) (by decide +kernel)
theorem wm_423 : Cond.static y_R_multiply ∈ GW := gw_in 423 (by decide +kernel) (by decide +kernel)
theorem wm_424 : Cond.code y_R_multiply prog_7_method_12_code 4 none ∈ GW := gw_in 424 (by decide +kernel) (by decide +kernel)
theorem wm_425 : Cond.methodLink "ScaledNumeralDesk$Row" 36 y_JA_fill ∈ GW := gw_in 425 (by decide +kernel) (by decide +kernel)
theorem wm_426 : Cond.methodLink "ScaledNumeralDesk$Row" 41 y_R_addMultiple ∈ GW := gw_in 426 (by decide +kernel) (by decide +kernel)
theorem wm_427 : Cond.static y_R_addMultiple ∈ GW := gw_in 427 (by decide +kernel) (by decide +kernel)
theorem wm_428 : Cond.code y_R_addMultiple prog_7_method_13_code 8 none ∈ GW := gw_in 428 (by decide +kernel) (by decide +kernel)
theorem wm_429 : Cond.methodLink "ScaledNumeralDesk$Bench" 124 y_JM_min ∈ GW := gw_in 429 (by decide +kernel) (by decide +kernel)
theorem wm_430 : Cond.methodLink "ScaledNumeralDesk$Bench" 131 y_B_settle ∈ GW := gw_in 430 (by decide +kernel) (by decide +kernel)
theorem wm_431 : Cond.static y_B_settle ∈ GW := gw_in 431 (by decide +kernel) (by decide +kernel)
theorem wm_432 : Cond.code y_B_settle prog_3_method_20_code 6 (some FieldType.int) ∈ GW := gw_in 432 (by decide +kernel) (by decide +kernel)
theorem wm_433 : Cond.methodLink "ScaledNumeralDesk$Bench" 213 y_R_roundOff ∈ GW := gw_in 433 (by decide +kernel) (by decide +kernel)
theorem wm_434 : Cond.static y_R_roundOff ∈ GW := gw_in 434 (by decide +kernel) (by decide +kernel)
theorem wm_435 : Cond.code y_R_roundOff prog_7_method_6_code 3 none ∈ GW := gw_in 435 (by decide +kernel) (by decide +kernel)
theorem wm_436 : Cond.methodLink "ScaledNumeralDesk$Row" 25 y_R_digitAt ∈ GW := gw_in 436 (by decide +kernel) (by decide +kernel)
theorem wm_437 : Cond.methodLink "ScaledNumeralDesk$Row" 29 y_R_cut ∈ GW := gw_in 437 (by decide +kernel) (by decide +kernel)
theorem wm_438 : Cond.static y_R_cut ∈ GW := gw_in 438 (by decide +kernel) (by decide +kernel)
theorem wm_439 : Cond.code y_R_cut prog_7_method_5_code 4 none ∈ GW := gw_in 439 (by decide +kernel) (by decide +kernel)
theorem wm_440 : Cond.methodLink "ScaledNumeralDesk$Row" 33 y_R_addOneAt ∈ GW := gw_in 440 (by decide +kernel) (by decide +kernel)
theorem wm_441 : Cond.methodLink "ScaledNumeralDesk$Bench" 216 y_R_digits ∈ GW := gw_in 441 (by decide +kernel) (by decide +kernel)
theorem wm_442 : Cond.fieldLink "ScaledNumeralDesk$Bench" 150 "ScaledNumeralDesk$Kind" "FINITE" "LScaledNumeralDesk$Kind;" ∈ GW := gw_in 442 (by decide +kernel) (by decide +kernel)
theorem wm_443 : Cond.methodLink "ScaledNumeralDesk$Bench" 207 ⟨"java/lang/System", "arraycopy", "(Ljava/lang/Object;ILjava/lang/Object;II)V"⟩ ∈ GW := gw_in 443 (by decide +kernel) (by decide +kernel)
theorem wm_444 : Cond.methodLink "ScaledNumeralDesk$Bench" 171 y_A_signAs ∈ GW := gw_in 444 (by decide +kernel) (by decide +kernel)
theorem wm_445 : Cond.methodLink "ScaledNumeralDesk$Bench" 54 y_B_multiplyInfinite ∈ GW := gw_in 445 (by decide +kernel) (by decide +kernel)
theorem wm_447 : Cond.instanceMethod y_B_multiplyInfinite ∈ GW := gw_in 447 (by decide +kernel) (by decide +kernel)
theorem wm_448 : Cond.code y_B_multiplyInfinite prog_3_method_7_code 5 (some FieldType.int) ∈ GW := gw_in 448 (by decide +kernel) (by decide +kernel)
theorem wm_449 : Cond.methodLink "ScaledNumeralDesk$Bench" 57 y_N_isZero ∈ GW := gw_in 449 (by decide +kernel) (by decide +kernel)
theorem wm_450 : Cond.instanceMethod y_N_isZero ∈ GW := gw_in 450 (by decide +kernel) (by decide +kernel)
theorem wm_451 : Cond.selects "ScaledNumeralDesk$Numeral" y_N_isZero y_N_isZero ∈ GW := gw_in 451 (by decide +kernel) (by decide +kernel)
theorem wm_452 : Cond.code y_N_isZero prog_6_method_8_code 1 (some FieldType.boolean) ∈ GW := gw_in 452 (by decide +kernel) (by decide +kernel)
theorem wm_453 : Cond.methodLink "ScaledNumeralDesk$Numeral" 60 y_A_isZero ∈ GW := gw_in 453 (by decide +kernel) (by decide +kernel)
theorem wm_454 : Cond.methodLink "ScaledNumeralDesk$Bench" 60 y_B_share ∈ GW := gw_in 454 (by decide +kernel) (by decide +kernel)
theorem wm_456 : Cond.instanceMethod y_B_share ∈ GW := gw_in 456 (by decide +kernel) (by decide +kernel)
theorem wm_457 : Cond.code y_B_share prog_3_method_3_code 6 (some FieldType.int) ∈ GW := gw_in 457 (by decide +kernel) (by decide +kernel)
theorem wm_458 : Cond.methodLink "ScaledNumeralDesk$Bench" 64 y_B_divide ∈ GW := gw_in 458 (by decide +kernel) (by decide +kernel)
theorem wm_460 : Cond.instanceMethod y_B_divide ∈ GW := gw_in 460 (by decide +kernel) (by decide +kernel)
theorem wm_461 : Cond.code y_B_divide prog_3_method_8_code 4 (some FieldType.int) ∈ GW := gw_in 461 (by decide +kernel) (by decide +kernel)
theorem wm_462 : Cond.methodLink "ScaledNumeralDesk$Bench" 135 y_B_load ∈ GW := gw_in 462 (by decide +kernel) (by decide +kernel)
theorem wm_464 : Cond.instanceMethod y_B_load ∈ GW := gw_in 464 (by decide +kernel) (by decide +kernel)
theorem wm_465 : Cond.code y_B_load prog_3_method_19_code 3 none ∈ GW := gw_in 465 (by decide +kernel) (by decide +kernel)
theorem wm_466 : Cond.methodLink "ScaledNumeralDesk$Bench" 180 y_JA_fill ∈ GW := gw_in 466 (by decide +kernel) (by decide +kernel)
theorem wm_467 : Cond.methodLink "ScaledNumeralDesk$Bench" 139 y_R_divide ∈ GW := gw_in 467 (by decide +kernel) (by decide +kernel)
theorem wm_468 : Cond.static y_R_divide ∈ GW := gw_in 468 (by decide +kernel) (by decide +kernel)
theorem wm_469 : Cond.code y_R_divide prog_7_method_14_code 8 none ∈ GW := gw_in 469 (by decide +kernel) (by decide +kernel)
theorem wm_470 : Cond.methodLink "ScaledNumeralDesk$Row" 45 y_R_head ∈ GW := gw_in 470 (by decide +kernel) (by decide +kernel)
theorem wm_471 : Cond.static y_R_head ∈ GW := gw_in 471 (by decide +kernel) (by decide +kernel)
theorem wm_472 : Cond.code y_R_head prog_7_method_15_code 6 (some FieldType.long) ∈ GW := gw_in 472 (by decide +kernel) (by decide +kernel)
theorem wm_473 : Cond.constantLong "ScaledNumeralDesk$Row" 57 (10000 : Int64) ∈ GW := gw_in 473 (by decide +kernel) (by decide +kernel)
theorem wm_474 : Cond.methodLink "ScaledNumeralDesk$Row" 49 y_R_takeMultiple ∈ GW := gw_in 474 (by decide +kernel) (by decide +kernel)
theorem wm_475 : Cond.static y_R_takeMultiple ∈ GW := gw_in 475 (by decide +kernel) (by decide +kernel)
theorem wm_476 : Cond.code y_R_takeMultiple prog_7_method_16_code 8 none ∈ GW := gw_in 476 (by decide +kernel) (by decide +kernel)
theorem wm_477 : Cond.methodLink "ScaledNumeralDesk$Row" 59 y_JM_floorDiv ∈ GW := gw_in 477 (by decide +kernel) (by decide +kernel)
theorem wm_478 : Cond.static y_JM_floorDiv ∈ GW := gw_in 478 (by decide +kernel) (by decide +kernel)
theorem wm_479 : Cond.code y_JM_floorDiv prog_13_method_47_code 3 (some FieldType.int) ∈ GW := gw_in 479 (by decide +kernel) (by decide +kernel)
theorem wm_480 : Cond.methodLink "ScaledNumeralDesk$Row" 53 y_R_isStillIn ∈ GW := gw_in 480 (by decide +kernel) (by decide +kernel)
theorem wm_481 : Cond.static y_R_isStillIn ∈ GW := gw_in 481 (by decide +kernel) (by decide +kernel)
theorem wm_482 : Cond.code y_R_isStillIn prog_7_method_17_code 5 (some FieldType.boolean) ∈ GW := gw_in 482 (by decide +kernel) (by decide +kernel)
theorem wm_483 : Cond.methodLink "ScaledNumeralDesk$Bench" 141 y_B_placesOfDivision ∈ GW := gw_in 483 (by decide +kernel) (by decide +kernel)
theorem wm_484 : Cond.static y_B_placesOfDivision ∈ GW := gw_in 484 (by decide +kernel) (by decide +kernel)
theorem wm_485 : Cond.code y_B_placesOfDivision prog_3_method_9_code 4 (some FieldType.int) ∈ GW := gw_in 485 (by decide +kernel) (by decide +kernel)
theorem wm_486 : Cond.methodLink "ScaledNumeralDesk$Bench" 144 y_A_weight ∈ GW := gw_in 486 (by decide +kernel) (by decide +kernel)
theorem wm_487 : Cond.instanceMethod y_A_weight ∈ GW := gw_in 487 (by decide +kernel) (by decide +kernel)
theorem wm_488 : Cond.selects "ScaledNumeralDesk$Amount" y_A_weight y_A_weight ∈ GW := gw_in 488 (by decide +kernel) (by decide +kernel)
theorem wm_489 : Cond.code y_A_weight prog_2_method_10_code 2 (some FieldType.int) ∈ GW := gw_in 489 (by decide +kernel) (by decide +kernel)
theorem wm_490 : Cond.methodLink "ScaledNumeralDesk$Bench" 147 y_A_lead ∈ GW := gw_in 490 (by decide +kernel) (by decide +kernel)
theorem wm_491 : Cond.instanceMethod y_A_lead ∈ GW := gw_in 491 (by decide +kernel) (by decide +kernel)
theorem wm_492 : Cond.selects "ScaledNumeralDesk$Amount" y_A_lead y_A_lead ∈ GW := gw_in 492 (by decide +kernel) (by decide +kernel)
theorem wm_493 : Cond.code y_A_lead prog_2_method_11_code 2 (some FieldType.int) ∈ GW := gw_in 493 (by decide +kernel) (by decide +kernel)
theorem wm_494 : Cond.methodLink "ScaledNumeralDesk$Bench" 67 y_B_divideInfinite ∈ GW := gw_in 494 (by decide +kernel) (by decide +kernel)
theorem wm_496 : Cond.instanceMethod y_B_divideInfinite ∈ GW := gw_in 496 (by decide +kernel) (by decide +kernel)
theorem wm_497 : Cond.code y_B_divideInfinite prog_3_method_10_code 4 (some FieldType.int) ∈ GW := gw_in 497 (by decide +kernel) (by decide +kernel)
theorem wm_498 : Cond.methodLink "ScaledNumeralDesk$Bench" 70 y_B_quotient ∈ GW := gw_in 498 (by decide +kernel) (by decide +kernel)
theorem wm_500 : Cond.instanceMethod y_B_quotient ∈ GW := gw_in 500 (by decide +kernel) (by decide +kernel)
theorem wm_501 : Cond.code y_B_quotient prog_3_method_11_code 4 (some FieldType.int) ∈ GW := gw_in 501 (by decide +kernel) (by decide +kernel)
theorem wm_502 : Cond.methodLink "ScaledNumeralDesk$Bench" 153 y_R_cut ∈ GW := gw_in 502 (by decide +kernel) (by decide +kernel)
theorem wm_503 : Cond.methodLink "ScaledNumeralDesk$Bench" 73 y_B_remainder ∈ GW := gw_in 503 (by decide +kernel) (by decide +kernel)
theorem wm_505 : Cond.instanceMethod y_B_remainder ∈ GW := gw_in 505 (by decide +kernel) (by decide +kernel)
theorem wm_506 : Cond.code y_B_remainder prog_3_method_12_code 4 (some FieldType.int) ∈ GW := gw_in 506 (by decide +kernel) (by decide +kernel)
theorem wm_507 : Cond.methodLink "ScaledNumeralDesk$Bench" 76 y_B_remainderInfinite ∈ GW := gw_in 507 (by decide +kernel) (by decide +kernel)
theorem wm_509 : Cond.instanceMethod y_B_remainderInfinite ∈ GW := gw_in 509 (by decide +kernel) (by decide +kernel)
theorem wm_510 : Cond.code y_B_remainderInfinite prog_3_method_13_code 3 (some FieldType.int) ∈ GW := gw_in 510 (by decide +kernel) (by decide +kernel)
theorem wm_511 : Cond.methodLink "ScaledNumeralDeskLaw" 41 y_D_adjust ∈ GW := gw_in 511 (by decide +kernel) (by decide +kernel)
theorem wm_512 : Cond.instanceMethod y_D_adjust ∈ GW := gw_in 512 (by decide +kernel) (by decide +kernel)
theorem wm_513 : Cond.selects "ScaledNumeralDesk" y_D_adjust y_D_adjust ∈ GW := gw_in 513 (by decide +kernel) (by decide +kernel)
theorem wm_514 : Cond.code y_D_adjust prog_1_method_8_code 5 (some FieldType.int) ∈ GW := gw_in 514 (by decide +kernel) (by decide +kernel)
theorem wm_515 : Cond.methodLink "ScaledNumeralDesk" 86 y_B_alter ∈ GW := gw_in 515 (by decide +kernel) (by decide +kernel)
theorem wm_516 : Cond.instanceMethod y_B_alter ∈ GW := gw_in 516 (by decide +kernel) (by decide +kernel)
theorem wm_517 : Cond.selects "ScaledNumeralDesk$Bench" y_B_alter y_B_alter ∈ GW := gw_in 517 (by decide +kernel) (by decide +kernel)
theorem wm_518 : Cond.code y_B_alter prog_3_method_14_code 6 (some FieldType.int) ∈ GW := gw_in 518 (by decide +kernel) (by decide +kernel)
theorem wm_519 : Cond.methodLink "ScaledNumeralDesk$Bench" 157 y_B_alterOther ∈ GW := gw_in 519 (by decide +kernel) (by decide +kernel)
theorem wm_521 : Cond.instanceMethod y_B_alterOther ∈ GW := gw_in 521 (by decide +kernel) (by decide +kernel)
theorem wm_522 : Cond.code y_B_alterOther prog_3_method_15_code 3 (some FieldType.int) ∈ GW := gw_in 522 (by decide +kernel) (by decide +kernel)
theorem wm_523 : Cond.methodLink "ScaledNumeralDesk$Bench" 161 y_N_roundAt ∈ GW := gw_in 523 (by decide +kernel) (by decide +kernel)
theorem wm_524 : Cond.instanceMethod y_N_roundAt ∈ GW := gw_in 524 (by decide +kernel) (by decide +kernel)
theorem wm_525 : Cond.selects "ScaledNumeralDesk$Numeral" y_N_roundAt y_N_roundAt ∈ GW := gw_in 525 (by decide +kernel) (by decide +kernel)
theorem wm_526 : Cond.code y_N_roundAt prog_6_method_10_code 2 none ∈ GW := gw_in 526 (by decide +kernel) (by decide +kernel)
theorem wm_527 : Cond.methodLink "ScaledNumeralDesk$Numeral" 67 y_R_roundOff ∈ GW := gw_in 527 (by decide +kernel) (by decide +kernel)
theorem wm_528 : Cond.methodLink "ScaledNumeralDesk$Numeral" 73 y_N_keepSignAndPlaces ∈ GW := gw_in 528 (by decide +kernel) (by decide +kernel)
theorem wm_530 : Cond.instanceMethod y_N_keepSignAndPlaces ∈ GW := gw_in 530 (by decide +kernel) (by decide +kernel)
theorem wm_531 : Cond.code y_N_keepSignAndPlaces prog_6_method_12_code 2 none ∈ GW := gw_in 531 (by decide +kernel) (by decide +kernel)
theorem wm_532 : Cond.methodLink "ScaledNumeralDesk$Numeral" 84 y_A_signAs ∈ GW := gw_in 532 (by decide +kernel) (by decide +kernel)
theorem wm_533 : Cond.methodLink "ScaledNumeralDesk$Bench" 164 y_N_truncateAt ∈ GW := gw_in 533 (by decide +kernel) (by decide +kernel)
theorem wm_534 : Cond.instanceMethod y_N_truncateAt ∈ GW := gw_in 534 (by decide +kernel) (by decide +kernel)
theorem wm_535 : Cond.selects "ScaledNumeralDesk$Numeral" y_N_truncateAt y_N_truncateAt ∈ GW := gw_in 535 (by decide +kernel) (by decide +kernel)
theorem wm_536 : Cond.code y_N_truncateAt prog_6_method_11_code 2 none ∈ GW := gw_in 536 (by decide +kernel) (by decide +kernel)
theorem wm_537 : Cond.methodLink "ScaledNumeralDesk$Numeral" 77 y_R_cut ∈ GW := gw_in 537 (by decide +kernel) (by decide +kernel)
theorem wm_538 : Cond.methodLink "ScaledNumeralDesk$Bench" 167 y_N_makeWhole ∈ GW := gw_in 538 (by decide +kernel) (by decide +kernel)
theorem wm_539 : Cond.instanceMethod y_N_makeWhole ∈ GW := gw_in 539 (by decide +kernel) (by decide +kernel)
theorem wm_540 : Cond.selects "ScaledNumeralDesk$Numeral" y_N_makeWhole y_N_makeWhole ∈ GW := gw_in 540 (by decide +kernel) (by decide +kernel)
theorem wm_541 : Cond.code y_N_makeWhole prog_6_method_13_code 4 none ∈ GW := gw_in 541 (by decide +kernel) (by decide +kernel)
theorem wm_542 : Cond.methodLink "ScaledNumeralDesk$Numeral" 94 y_N_hasFraction ∈ GW := gw_in 542 (by decide +kernel) (by decide +kernel)
theorem wm_544 : Cond.instanceMethod y_N_hasFraction ∈ GW := gw_in 544 (by decide +kernel) (by decide +kernel)
theorem wm_545 : Cond.code y_N_hasFraction prog_6_method_14_code 2 (some FieldType.boolean) ∈ GW := gw_in 545 (by decide +kernel) (by decide +kernel)
theorem wm_546 : Cond.methodLink "ScaledNumeralDesk$Numeral" 97 y_N_truncateAt ∈ GW := gw_in 546 (by decide +kernel) (by decide +kernel)
theorem wm_547 : Cond.methodLink "ScaledNumeralDesk$Numeral" 100 y_R_addOneAt ∈ GW := gw_in 547 (by decide +kernel) (by decide +kernel)
theorem wm_548 : Cond.methodLink "ScaledNumeralDesk$Bench" 174 y_N_trim ∈ GW := gw_in 548 (by decide +kernel) (by decide +kernel)
theorem wm_549 : Cond.instanceMethod y_N_trim ∈ GW := gw_in 549 (by decide +kernel) (by decide +kernel)
theorem wm_550 : Cond.selects "ScaledNumeralDesk$Numeral" y_N_trim y_N_trim ∈ GW := gw_in 550 (by decide +kernel) (by decide +kernel)
theorem wm_551 : Cond.code y_N_trim prog_6_method_15_code 1 none ∈ GW := gw_in 551 (by decide +kernel) (by decide +kernel)
theorem wm_552 : Cond.methodLink "ScaledNumeralDesk$Bench" 177 y_B_root ∈ GW := gw_in 552 (by decide +kernel) (by decide +kernel)
theorem wm_554 : Cond.instanceMethod y_B_root ∈ GW := gw_in 554 (by decide +kernel) (by decide +kernel)
theorem wm_555 : Cond.code y_B_root prog_3_method_16_code 4 (some FieldType.int) ∈ GW := gw_in 555 (by decide +kernel) (by decide +kernel)
theorem wm_556 : Cond.methodLink "ScaledNumeralDesk$Bench" 185 y_B_nextRootLimb ∈ GW := gw_in 556 (by decide +kernel) (by decide +kernel)
theorem wm_558 : Cond.instanceMethod y_B_nextRootLimb ∈ GW := gw_in 558 (by decide +kernel) (by decide +kernel)
theorem wm_559 : Cond.code y_B_nextRootLimb prog_3_method_17_code 4 (some FieldType.int) ∈ GW := gw_in 559 (by decide +kernel) (by decide +kernel)
theorem wm_560 : Cond.methodLink "ScaledNumeralDesk$Bench" 189 y_B_rootLimbFits ∈ GW := gw_in 560 (by decide +kernel) (by decide +kernel)
theorem wm_562 : Cond.instanceMethod y_B_rootLimbFits ∈ GW := gw_in 562 (by decide +kernel) (by decide +kernel)
theorem wm_563 : Cond.code y_B_rootLimbFits prog_3_method_18_code 3 (some FieldType.boolean) ∈ GW := gw_in 563 (by decide +kernel) (by decide +kernel)
theorem wm_564 : Cond.methodLink "ScaledNumeralDesk$Bench" 199 y_R_multiplyByLimb ∈ GW := gw_in 564 (by decide +kernel) (by decide +kernel)
theorem wm_565 : Cond.static y_R_multiplyByLimb ∈ GW := gw_in 565 (by decide +kernel) (by decide +kernel)
theorem wm_566 : Cond.code y_R_multiplyByLimb prog_7_method_11_code 4 none ∈ GW := gw_in 566 (by decide +kernel) (by decide +kernel)
theorem wm_567 : Cond.methodLink "ScaledNumeralDesk$Bench" 203 y_R_order ∈ GW := gw_in 567 (by decide +kernel) (by decide +kernel)
theorem wm_568 : Cond.methodLink "ScaledNumeralDesk$Bench" 193 y_R_subtract ∈ GW := gw_in 568 (by decide +kernel) (by decide +kernel)
theorem wm_569 : Cond.methodLink "ScaledNumeralDesk$Bench" 196 y_R_addOneAt ∈ GW := gw_in 569 (by decide +kernel) (by decide +kernel)
theorem wm_570 : Cond.methodLink "ScaledNumeralDeskLaw" 45 y_D_fit ∈ GW := gw_in 570 (by decide +kernel) (by decide +kernel)
theorem wm_571 : Cond.instanceMethod y_D_fit ∈ GW := gw_in 571 (by decide +kernel) (by decide +kernel)
theorem wm_572 : Cond.selects "ScaledNumeralDesk" y_D_fit y_D_fit ∈ GW := gw_in 572 (by decide +kernel) (by decide +kernel)
theorem wm_573 : Cond.code y_D_fit prog_1_method_9_code 5 (some FieldType.int) ∈ GW := gw_in 573 (by decide +kernel) (by decide +kernel)
theorem wm_574 : Cond.fieldLink "ScaledNumeralDesk" 94 "ScaledNumeralDesk$Kind" "NAN" "LScaledNumeralDesk$Kind;" ∈ GW := gw_in 574 (by decide +kernel) (by decide +kernel)
theorem wm_575 : Cond.methodLink "ScaledNumeralDesk" 103 y_N_roundAt ∈ GW := gw_in 575 (by decide +kernel) (by decide +kernel)
theorem wm_576 : Cond.methodLink "ScaledNumeralDesk" 111 y_A_reachesTenTo ∈ GW := gw_in 576 (by decide +kernel) (by decide +kernel)
theorem wm_577 : Cond.methodLink "ScaledNumeralDesk" 116 y_N_isTooLarge ∈ GW := gw_in 577 (by decide +kernel) (by decide +kernel)
theorem wm_578 : Cond.methodLink "ScaledNumeralDeskLaw" 50 y_D_compare ∈ GW := gw_in 578 (by decide +kernel) (by decide +kernel)
theorem wm_579 : Cond.instanceMethod y_D_compare ∈ GW := gw_in 579 (by decide +kernel) (by decide +kernel)
theorem wm_580 : Cond.selects "ScaledNumeralDesk" y_D_compare y_D_compare ∈ GW := gw_in 580 (by decide +kernel) (by decide +kernel)
theorem wm_581 : Cond.code y_D_compare prog_1_method_10_code 3 (some FieldType.int) ∈ GW := gw_in 581 (by decide +kernel) (by decide +kernel)
theorem wm_582 : Cond.methodLink "ScaledNumeralDesk" 119 y_N_comparedWith ∈ GW := gw_in 582 (by decide +kernel) (by decide +kernel)
theorem wm_583 : Cond.instanceMethod y_N_comparedWith ∈ GW := gw_in 583 (by decide +kernel) (by decide +kernel)
theorem wm_584 : Cond.selects "ScaledNumeralDesk$Numeral" y_N_comparedWith y_N_comparedWith ∈ GW := gw_in 584 (by decide +kernel) (by decide +kernel)
theorem wm_585 : Cond.code y_N_comparedWith prog_6_method_16_code 2 (some FieldType.int) ∈ GW := gw_in 585 (by decide +kernel) (by decide +kernel)
theorem wm_586 : Cond.methodLink "ScaledNumeralDesk$Numeral" 107 y_A_comparedWith ∈ GW := gw_in 586 (by decide +kernel) (by decide +kernel)
theorem wm_587 : Cond.instanceMethod y_A_comparedWith ∈ GW := gw_in 587 (by decide +kernel) (by decide +kernel)
theorem wm_588 : Cond.selects "ScaledNumeralDesk$Amount" y_A_comparedWith y_A_comparedWith ∈ GW := gw_in 588 (by decide +kernel) (by decide +kernel)
theorem wm_589 : Cond.code y_A_comparedWith prog_2_method_8_code 3 (some FieldType.int) ∈ GW := gw_in 589 (by decide +kernel) (by decide +kernel)
theorem wm_590 : Cond.methodLink "ScaledNumeralDesk$Numeral" 114 y_JI_signum ∈ GW := gw_in 590 (by decide +kernel) (by decide +kernel)
theorem wm_591 : Cond.static y_JI_signum ∈ GW := gw_in 591 (by decide +kernel) (by decide +kernel)
theorem wm_592 : Cond.code y_JI_signum prog_12_method_56_code 1 (some FieldType.int) ∈ GW := gw_in 592 (by decide +kernel) (by decide +kernel)
theorem wm_593 : Cond.methodLink "ScaledNumeralDeskLaw" 54 y_D_accept ∈ GW := gw_in 593 (by decide +kernel) (by decide +kernel)
theorem wm_594 : Cond.instanceMethod y_D_accept ∈ GW := gw_in 594 (by decide +kernel) (by decide +kernel)
theorem wm_595 : Cond.selects "ScaledNumeralDesk" y_D_accept y_D_accept ∈ GW := gw_in 595 (by decide +kernel) (by decide +kernel)
theorem wm_596 : Cond.code y_D_accept prog_1_method_11_code 3 (some FieldType.int) ∈ GW := gw_in 596 (by decide +kernel) (by decide +kernel)
theorem wm_597 : Cond.methodLink "ScaledNumeralDesk" 122 y_D_isSum ∈ GW := gw_in 597 (by decide +kernel) (by decide +kernel)
theorem wm_598 : Cond.static y_D_isSum ∈ GW := gw_in 598 (by decide +kernel) (by decide +kernel)
theorem wm_599 : Cond.code y_D_isSum prog_1_method_19_code 1 (some FieldType.boolean) ∈ GW := gw_in 599 (by decide +kernel) (by decide +kernel)
theorem wm_600 : Cond.methodLink "ScaledNumeralDesk" 125 y_S_putIn ∈ GW := gw_in 600 (by decide +kernel) (by decide +kernel)
theorem wm_601 : Cond.instanceMethod y_S_putIn ∈ GW := gw_in 601 (by decide +kernel) (by decide +kernel)
theorem wm_602 : Cond.selects "ScaledNumeralDesk$Sum" y_S_putIn y_S_putIn ∈ GW := gw_in 602 (by decide +kernel) (by decide +kernel)
theorem wm_603 : Cond.code y_S_putIn prog_8_method_3_code 2 (some FieldType.int) ∈ GW := gw_in 603 (by decide +kernel) (by decide +kernel)
theorem wm_604 : Cond.methodLink "ScaledNumeralDesk$Sum" 35 y_S_change ∈ GW := gw_in 604 (by decide +kernel) (by decide +kernel)
theorem wm_606 : Cond.instanceMethod y_S_change ∈ GW := gw_in 606 (by decide +kernel) (by decide +kernel)
theorem wm_607 : Cond.code y_S_change prog_8_method_5_code 3 none ∈ GW := gw_in 607 (by decide +kernel) (by decide +kernel)
theorem wm_608 : Cond.methodLink "ScaledNumeralDesk$Sum" 39 y_S_countOf ∈ GW := gw_in 608 (by decide +kernel) (by decide +kernel)
theorem wm_609 : Cond.static y_S_countOf ∈ GW := gw_in 609 (by decide +kernel) (by decide +kernel)
theorem wm_610 : Cond.code y_S_countOf prog_8_method_6_code 1 (some FieldType.int) ∈ GW := gw_in 610 (by decide +kernel) (by decide +kernel)
theorem wm_611 : Cond.methodLink "ScaledNumeralDesk$Sum" 43 y_N_isFinite ∈ GW := gw_in 611 (by decide +kernel) (by decide +kernel)
theorem wm_612 : Cond.fieldLink "ScaledNumeralDesk$Sum" 63 "ScaledNumeralDesk$Kind" "NAN" "LScaledNumeralDesk$Kind;" ∈ GW := gw_in 612 (by decide +kernel) (by decide +kernel)
theorem wm_613 : Cond.fieldLink "ScaledNumeralDesk$Sum" 68 "ScaledNumeralDesk$Kind" "PLUS" "LScaledNumeralDesk$Kind;" ∈ GW := gw_in 613 (by decide +kernel) (by decide +kernel)
theorem wm_614 : Cond.methodLink "ScaledNumeralDesk$Sum" 52 y_A_increase ∈ GW := gw_in 614 (by decide +kernel) (by decide +kernel)
theorem wm_615 : Cond.methodLink "ScaledNumeralDeskLaw" 58 y_D_discard ∈ GW := gw_in 615 (by decide +kernel) (by decide +kernel)
theorem wm_616 : Cond.instanceMethod y_D_discard ∈ GW := gw_in 616 (by decide +kernel) (by decide +kernel)
theorem wm_617 : Cond.selects "ScaledNumeralDesk" y_D_discard y_D_discard ∈ GW := gw_in 617 (by decide +kernel) (by decide +kernel)
theorem wm_618 : Cond.code y_D_discard prog_1_method_12_code 3 (some FieldType.int) ∈ GW := gw_in 618 (by decide +kernel) (by decide +kernel)
theorem wm_619 : Cond.methodLink "ScaledNumeralDesk" 128 y_S_takeOut ∈ GW := gw_in 619 (by decide +kernel) (by decide +kernel)
theorem wm_620 : Cond.instanceMethod y_S_takeOut ∈ GW := gw_in 620 (by decide +kernel) (by decide +kernel)
theorem wm_621 : Cond.selects "ScaledNumeralDesk$Sum" y_S_takeOut y_S_takeOut ∈ GW := gw_in 621 (by decide +kernel) (by decide +kernel)
theorem wm_622 : Cond.code y_S_takeOut prog_8_method_4_code 2 (some FieldType.int) ∈ GW := gw_in 622 (by decide +kernel) (by decide +kernel)
theorem wm_623 : Cond.methodLink "ScaledNumeralDeskLaw" 62 y_D_merge ∈ GW := gw_in 623 (by decide +kernel) (by decide +kernel)
theorem wm_624 : Cond.instanceMethod y_D_merge ∈ GW := gw_in 624 (by decide +kernel) (by decide +kernel)
theorem wm_625 : Cond.selects "ScaledNumeralDesk" y_D_merge y_D_merge ∈ GW := gw_in 625 (by decide +kernel) (by decide +kernel)
theorem wm_626 : Cond.code y_D_merge prog_1_method_13_code 3 (some FieldType.int) ∈ GW := gw_in 626 (by decide +kernel) (by decide +kernel)
theorem wm_627 : Cond.methodLink "ScaledNumeralDesk" 131 y_S_join ∈ GW := gw_in 627 (by decide +kernel) (by decide +kernel)
theorem wm_628 : Cond.instanceMethod y_S_join ∈ GW := gw_in 628 (by decide +kernel) (by decide +kernel)
theorem wm_629 : Cond.selects "ScaledNumeralDesk$Sum" y_S_join y_S_join ∈ GW := gw_in 629 (by decide +kernel) (by decide +kernel)
theorem wm_630 : Cond.code y_S_join prog_8_method_7_code 3 (some FieldType.int) ∈ GW := gw_in 630 (by decide +kernel) (by decide +kernel)
theorem wm_631 : Cond.methodLink "ScaledNumeralDeskLaw" 66 y_D_reset ∈ GW := gw_in 631 (by decide +kernel) (by decide +kernel)
theorem wm_632 : Cond.instanceMethod y_D_reset ∈ GW := gw_in 632 (by decide +kernel) (by decide +kernel)
theorem wm_633 : Cond.selects "ScaledNumeralDesk" y_D_reset y_D_reset ∈ GW := gw_in 633 (by decide +kernel) (by decide +kernel)
theorem wm_634 : Cond.code y_D_reset prog_1_method_14_code 2 (some FieldType.boolean) ∈ GW := gw_in 634 (by decide +kernel) (by decide +kernel)
theorem wm_635 : Cond.methodLink "ScaledNumeralDesk" 135 y_S_clear ∈ GW := gw_in 635 (by decide +kernel) (by decide +kernel)
theorem wm_636 : Cond.instanceMethod y_S_clear ∈ GW := gw_in 636 (by decide +kernel) (by decide +kernel)
theorem wm_637 : Cond.selects "ScaledNumeralDesk$Sum" y_S_clear y_S_clear ∈ GW := gw_in 637 (by decide +kernel) (by decide +kernel)
theorem wm_638 : Cond.code y_S_clear prog_8_method_2_code 1 none ∈ GW := gw_in 638 (by decide +kernel) (by decide +kernel)
theorem wm_639 : Cond.methodLink "ScaledNumeralDesk$Sum" 22 y_A_clear ∈ GW := gw_in 639 (by decide +kernel) (by decide +kernel)
theorem wm_640 : Cond.methodLink "ScaledNumeralDesk$Sum" 25 y_JA_fill ∈ GW := gw_in 640 (by decide +kernel) (by decide +kernel)
theorem wm_641 : Cond.methodLink "ScaledNumeralDeskLaw" 71 y_D_count ∈ GW := gw_in 641 (by decide +kernel) (by decide +kernel)
theorem wm_642 : Cond.instanceMethod y_D_count ∈ GW := gw_in 642 (by decide +kernel) (by decide +kernel)
theorem wm_643 : Cond.selects "ScaledNumeralDesk" y_D_count y_D_count ∈ GW := gw_in 643 (by decide +kernel) (by decide +kernel)
theorem wm_644 : Cond.code y_D_count prog_1_method_15_code 2 (some FieldType.int) ∈ GW := gw_in 644 (by decide +kernel) (by decide +kernel)
theorem wm_645 : Cond.methodLink "ScaledNumeralDesk" 138 y_S_members ∈ GW := gw_in 645 (by decide +kernel) (by decide +kernel)
theorem wm_646 : Cond.instanceMethod y_S_members ∈ GW := gw_in 646 (by decide +kernel) (by decide +kernel)
theorem wm_647 : Cond.selects "ScaledNumeralDesk$Sum" y_S_members y_S_members ∈ GW := gw_in 647 (by decide +kernel) (by decide +kernel)
theorem wm_648 : Cond.code y_S_members prog_8_method_8_code 3 (some FieldType.int) ∈ GW := gw_in 648 (by decide +kernel) (by decide +kernel)
theorem wm_649 : Cond.methodLink "ScaledNumeralDeskLaw" 75 y_D_total ∈ GW := gw_in 649 (by decide +kernel) (by decide +kernel)
theorem wm_650 : Cond.instanceMethod y_D_total ∈ GW := gw_in 650 (by decide +kernel) (by decide +kernel)
theorem wm_651 : Cond.selects "ScaledNumeralDesk" y_D_total y_D_total ∈ GW := gw_in 651 (by decide +kernel) (by decide +kernel)
theorem wm_652 : Cond.code y_D_total prog_1_method_16_code 3 (some FieldType.int) ∈ GW := gw_in 652 (by decide +kernel) (by decide +kernel)
theorem wm_653 : Cond.methodLink "ScaledNumeralDesk" 141 y_S_resultInto ∈ GW := gw_in 653 (by decide +kernel) (by decide +kernel)
theorem wm_654 : Cond.instanceMethod y_S_resultInto ∈ GW := gw_in 654 (by decide +kernel) (by decide +kernel)
theorem wm_655 : Cond.selects "ScaledNumeralDesk$Sum" y_S_resultInto y_S_resultInto ∈ GW := gw_in 655 (by decide +kernel) (by decide +kernel)
theorem wm_656 : Cond.code y_S_resultInto prog_8_method_9_code 4 (some FieldType.int) ∈ GW := gw_in 656 (by decide +kernel) (by decide +kernel)
theorem wm_657 : Cond.methodLink "ScaledNumeralDesk$Sum" 71 y_S_members ∈ GW := gw_in 657 (by decide +kernel) (by decide +kernel)
theorem wm_658 : Cond.methodLink "ScaledNumeralDesk$Sum" 75 y_N_become ∈ GW := gw_in 658 (by decide +kernel) (by decide +kernel)
theorem wm_659 : Cond.methodLink "ScaledNumeralDesk$Sum" 79 y_N_becomeInfinite ∈ GW := gw_in 659 (by decide +kernel) (by decide +kernel)
theorem wm_660 : Cond.fieldLink "ScaledNumeralDesk$Sum" 83 "ScaledNumeralDesk$Kind" "FINITE" "LScaledNumeralDesk$Kind;" ∈ GW := gw_in 660 (by decide +kernel) (by decide +kernel)
theorem wm_661 : Cond.methodLink "ScaledNumeralDesk$Sum" 86 y_A_take ∈ GW := gw_in 661 (by decide +kernel) (by decide +kernel)
theorem wm_662 : Cond.methodLink "ScaledNumeralDesk$Sum" 90 y_S_greatestPlaces ∈ GW := gw_in 662 (by decide +kernel) (by decide +kernel)
theorem wm_664 : Cond.instanceMethod y_S_greatestPlaces ∈ GW := gw_in 664 (by decide +kernel) (by decide +kernel)
theorem wm_665 : Cond.code y_S_greatestPlaces prog_8_method_10_code 2 (some FieldType.int) ∈ GW := gw_in 665 (by decide +kernel) (by decide +kernel)
theorem wm_666 : Cond.methodLink "ScaledNumeralDesk$Sum" 93 y_N_roundAt ∈ GW := gw_in 666 (by decide +kernel) (by decide +kernel)
theorem wm_667 : Cond.methodLink "ScaledNumeralDesk$Sum" 96 y_N_isTooLarge ∈ GW := gw_in 667 (by decide +kernel) (by decide +kernel)
theorem wm_668 : Cond.methodLink "ScaledNumeralDeskLaw" 79 y_D_average ∈ GW := gw_in 668 (by decide +kernel) (by decide +kernel)
theorem wm_669 : Cond.instanceMethod y_D_average ∈ GW := gw_in 669 (by decide +kernel) (by decide +kernel)
theorem wm_670 : Cond.selects "ScaledNumeralDesk" y_D_average y_D_average ∈ GW := gw_in 670 (by decide +kernel) (by decide +kernel)
theorem wm_671 : Cond.code y_D_average prog_1_method_17_code 4 (some FieldType.int) ∈ GW := gw_in 671 (by decide +kernel) (by decide +kernel)
theorem wm_672 : Cond.methodLink "ScaledNumeralDesk" 144 y_N_becomeSmall ∈ GW := gw_in 672 (by decide +kernel) (by decide +kernel)
theorem wm_673 : Cond.instanceMethod y_N_becomeSmall ∈ GW := gw_in 673 (by decide +kernel) (by decide +kernel)
theorem wm_674 : Cond.selects "ScaledNumeralDesk$Numeral" y_N_becomeSmall y_N_becomeSmall ∈ GW := gw_in 674 (by decide +kernel) (by decide +kernel)
theorem wm_675 : Cond.code y_N_becomeSmall prog_6_method_6_code 2 none ∈ GW := gw_in 675 (by decide +kernel) (by decide +kernel)
theorem wm_676 : Cond.classLink "ScaledNumeralDeskLaw" 10 "ScaledNumeralDeskModel" ∈ GW := gw_in 676 (by decide +kernel) (by decide +kernel)
theorem wm_677 : Cond.instantiable "ScaledNumeralDeskModel" 17 ∈ GW := gw_in 677 (by decide +kernel) (by decide +kernel)
theorem wm_678 : Cond.methodLink "ScaledNumeralDeskLaw" 12 y_M_init ∈ GW := gw_in 678 (by decide +kernel) (by decide +kernel)
theorem wm_679 : Cond.instanceMethod y_M_init ∈ GW := gw_in 679 (by decide +kernel) (by decide +kernel)
theorem wm_680 : Cond.code y_M_init prog_10_method_1_code 1 none ∈ GW := gw_in 680 (by decide +kernel) (by decide +kernel)
theorem wm_681 : Cond.methodLink "ScaledNumeralDeskModel" 1 y_JO_init ∈ GW := gw_in 681 (by decide +kernel) (by decide +kernel)
theorem wm_682 : Cond.fieldLink "ScaledNumeralDeskModel" 7 "ScaledNumeralDeskModel" "kind" "[I" ∈ GW := gw_in 682 (by decide +kernel) (by decide +kernel)
theorem wm_683 : Cond.fieldLink "ScaledNumeralDeskModel" 13 "ScaledNumeralDeskModel" "minus" "[Z" ∈ GW := gw_in 683 (by decide +kernel) (by decide +kernel)
theorem wm_684 : Cond.fieldLink "ScaledNumeralDeskModel" 17 "ScaledNumeralDeskModel" "scales" "[I" ∈ GW := gw_in 684 (by decide +kernel) (by decide +kernel)
theorem wm_685 : Cond.fieldLink "ScaledNumeralDeskModel" 20 "ScaledNumeralDeskModel" "digits" "[I" ∈ GW := gw_in 685 (by decide +kernel) (by decide +kernel)
theorem wm_686 : Cond.fieldLink "ScaledNumeralDeskModel" 123 "ScaledNumeralDeskModel" "typed" "I" ∈ GW := gw_in 686 (by decide +kernel) (by decide +kernel)
theorem wm_687 : Cond.fieldLink "ScaledNumeralDeskModel" 23 "ScaledNumeralDeskModel" "buffer" "[I" ∈ GW := gw_in 687 (by decide +kernel) (by decide +kernel)
theorem wm_688 : Cond.fieldLink "ScaledNumeralDeskModel" 26 "ScaledNumeralDeskModel" "sums" "[I" ∈ GW := gw_in 688 (by decide +kernel) (by decide +kernel)
theorem wm_689 : Cond.fieldLink "ScaledNumeralDeskModel" 29 "ScaledNumeralDeskModel" "sizes" "[I" ∈ GW := gw_in 689 (by decide +kernel) (by decide +kernel)
theorem wm_690 : Cond.fieldLink "ScaledNumeralDeskModel" 32 "ScaledNumeralDeskModel" "counts" "[I" ∈ GW := gw_in 690 (by decide +kernel) (by decide +kernel)
theorem wm_691 : Cond.fieldLink "ScaledNumeralDeskModel" 35 "ScaledNumeralDeskModel" "x" "[I" ∈ GW := gw_in 691 (by decide +kernel) (by decide +kernel)
theorem wm_692 : Cond.fieldLink "ScaledNumeralDeskModel" 38 "ScaledNumeralDeskModel" "y" "[I" ∈ GW := gw_in 692 (by decide +kernel) (by decide +kernel)
theorem wm_693 : Cond.fieldLink "ScaledNumeralDeskModel" 76 "ScaledNumeralDeskModel" "xMinus" "Z" ∈ GW := gw_in 693 (by decide +kernel) (by decide +kernel)
theorem wm_694 : Cond.fieldLink "ScaledNumeralDeskModel" 79 "ScaledNumeralDeskModel" "yMinus" "Z" ∈ GW := gw_in 694 (by decide +kernel) (by decide +kernel)
theorem wm_695 : Cond.fieldLink "ScaledNumeralDeskModel" 41 "ScaledNumeralDeskModel" "paper" "[I" ∈ GW := gw_in 695 (by decide +kernel) (by decide +kernel)
theorem wm_696 : Cond.fieldLink "ScaledNumeralDeskModel" 50 "ScaledNumeralDeskModel" "negative" "Z" ∈ GW := gw_in 696 (by decide +kernel) (by decide +kernel)
theorem wm_697 : Cond.fieldLink "ScaledNumeralDeskModel" 44 "ScaledNumeralDeskModel" "rest" "[I" ∈ GW := gw_in 697 (by decide +kernel) (by decide +kernel)
theorem wm_698 : Cond.fieldLink "ScaledNumeralDeskModel" 47 "ScaledNumeralDeskModel" "root" "[I" ∈ GW := gw_in 698 (by decide +kernel) (by decide +kernel)
theorem wm_699 : Cond.lays "ScaledNumeralDeskModel" "ScaledNumeralDeskModel" "kind" "[I" ∈ GW := gw_in 699 (by decide +kernel) (by decide +kernel)
theorem wm_701 : Cond.lays "ScaledNumeralDeskModel" "ScaledNumeralDeskModel" "minus" "[Z" ∈ GW := gw_in 701 (by decide +kernel) (by decide +kernel)
theorem wm_703 : Cond.lays "ScaledNumeralDeskModel" "ScaledNumeralDeskModel" "scales" "[I" ∈ GW := gw_in 703 (by decide +kernel) (by decide +kernel)
theorem wm_705 : Cond.lays "ScaledNumeralDeskModel" "ScaledNumeralDeskModel" "digits" "[I" ∈ GW := gw_in 705 (by decide +kernel) (by decide +kernel)
theorem wm_707 : Cond.lays "ScaledNumeralDeskModel" "ScaledNumeralDeskModel" "typed" "I" ∈ GW := gw_in 707 (by decide +kernel) (by decide +kernel)
theorem wm_709 : Cond.lays "ScaledNumeralDeskModel" "ScaledNumeralDeskModel" "buffer" "[I" ∈ GW := gw_in 709 (by decide +kernel) (by decide +kernel)
theorem wm_711 : Cond.lays "ScaledNumeralDeskModel" "ScaledNumeralDeskModel" "sums" "[I" ∈ GW := gw_in 711 (by decide +kernel) (by decide +kernel)
theorem wm_713 : Cond.lays "ScaledNumeralDeskModel" "ScaledNumeralDeskModel" "sizes" "[I" ∈ GW := gw_in 713 (by decide +kernel) (by decide +kernel)
theorem wm_715 : Cond.lays "ScaledNumeralDeskModel" "ScaledNumeralDeskModel" "counts" "[I" ∈ GW := gw_in 715 (by decide +kernel) (by decide +kernel)
theorem wm_717 : Cond.lays "ScaledNumeralDeskModel" "ScaledNumeralDeskModel" "x" "[I" ∈ GW := gw_in 717 (by decide +kernel) (by decide +kernel)
theorem wm_719 : Cond.lays "ScaledNumeralDeskModel" "ScaledNumeralDeskModel" "y" "[I" ∈ GW := gw_in 719 (by decide +kernel) (by decide +kernel)
theorem wm_721 : Cond.lays "ScaledNumeralDeskModel" "ScaledNumeralDeskModel" "xMinus" "Z" ∈ GW := gw_in 721 (by decide +kernel) (by decide +kernel)
theorem wm_723 : Cond.lays "ScaledNumeralDeskModel" "ScaledNumeralDeskModel" "yMinus" "Z" ∈ GW := gw_in 723 (by decide +kernel) (by decide +kernel)
theorem wm_725 : Cond.lays "ScaledNumeralDeskModel" "ScaledNumeralDeskModel" "paper" "[I" ∈ GW := gw_in 725 (by decide +kernel) (by decide +kernel)
theorem wm_727 : Cond.lays "ScaledNumeralDeskModel" "ScaledNumeralDeskModel" "negative" "Z" ∈ GW := gw_in 727 (by decide +kernel) (by decide +kernel)
theorem wm_729 : Cond.lays "ScaledNumeralDeskModel" "ScaledNumeralDeskModel" "rest" "[I" ∈ GW := gw_in 729 (by decide +kernel) (by decide +kernel)
theorem wm_731 : Cond.lays "ScaledNumeralDeskModel" "ScaledNumeralDeskModel" "root" "[I" ∈ GW := gw_in 731 (by decide +kernel) (by decide +kernel)
theorem wm_734 : Cond.arrayClass FieldType.boolean ∈ GW := gw_in 734 (by decide +kernel) (by decide +kernel)
theorem wm_735 : Cond.methodLink "ScaledNumeralDeskLaw" 17 y_M_type ∈ GW := gw_in 735 (by decide +kernel) (by decide +kernel)
theorem wm_736 : Cond.instanceMethod y_M_type ∈ GW := gw_in 736 (by decide +kernel) (by decide +kernel)
theorem wm_737 : Cond.selects "ScaledNumeralDeskModel" y_M_type y_M_type ∈ GW := gw_in 737 (by decide +kernel) (by decide +kernel)
theorem wm_738 : Cond.code y_M_type prog_10_method_29_code 2 (some FieldType.boolean) ∈ GW := gw_in 738 (by decide +kernel) (by decide +kernel)
theorem wm_739 : Cond.methodLink "ScaledNumeralDeskLaw" 22 y_M_enter ∈ GW := gw_in 739 (by decide +kernel) (by decide +kernel)
theorem wm_740 : Cond.instanceMethod y_M_enter ∈ GW := gw_in 740 (by decide +kernel) (by decide +kernel)
theorem wm_741 : Cond.selects "ScaledNumeralDeskModel" y_M_enter y_M_enter ∈ GW := gw_in 741 (by decide +kernel) (by decide +kernel)
theorem wm_742 : Cond.code y_M_enter prog_10_method_35_code 5 (some FieldType.int) ∈ GW := gw_in 742 (by decide +kernel) (by decide +kernel)
theorem wm_743 : Cond.methodLink "ScaledNumeralDeskModel" 135 y_M_out ∈ GW := gw_in 743 (by decide +kernel) (by decide +kernel)
theorem wm_745 : Cond.instanceMethod y_M_out ∈ GW := gw_in 745 (by decide +kernel) (by decide +kernel)
theorem wm_746 : Cond.code y_M_out prog_10_method_2_code 3 (some FieldType.boolean) ∈ GW := gw_in 746 (by decide +kernel) (by decide +kernel)
theorem wm_747 : Cond.methodLink "ScaledNumeralDeskModel" 131 y_M_isLetter ∈ GW := gw_in 747 (by decide +kernel) (by decide +kernel)
theorem wm_749 : Cond.instanceMethod y_M_isLetter ∈ GW := gw_in 749 (by decide +kernel) (by decide +kernel)
theorem wm_750 : Cond.code y_M_isLetter prog_10_method_30_code 3 (some FieldType.boolean) ∈ GW := gw_in 750 (by decide +kernel) (by decide +kernel)
theorem wm_751 : Cond.methodLink "ScaledNumeralDeskModel" 138 y_M_special ∈ GW := gw_in 751 (by decide +kernel) (by decide +kernel)
theorem wm_753 : Cond.instanceMethod y_M_special ∈ GW := gw_in 753 (by decide +kernel) (by decide +kernel)
theorem wm_754 : Cond.code y_M_special prog_10_method_11_code 3 (some FieldType.int) ∈ GW := gw_in 754 (by decide +kernel) (by decide +kernel)
theorem wm_755 : Cond.methodLink "ScaledNumeralDeskModel" 141 y_M_isSign ∈ GW := gw_in 755 (by decide +kernel) (by decide +kernel)
theorem wm_757 : Cond.instanceMethod y_M_isSign ∈ GW := gw_in 757 (by decide +kernel) (by decide +kernel)
theorem wm_758 : Cond.code y_M_isSign prog_10_method_31_code 2 (some FieldType.boolean) ∈ GW := gw_in 758 (by decide +kernel) (by decide +kernel)
theorem wm_759 : Cond.methodLink "ScaledNumeralDeskModel" 144 y_M_infinity ∈ GW := gw_in 759 (by decide +kernel) (by decide +kernel)
theorem wm_761 : Cond.instanceMethod y_M_infinity ∈ GW := gw_in 761 (by decide +kernel) (by decide +kernel)
theorem wm_762 : Cond.code y_M_infinity prog_10_method_34_code 5 (some FieldType.boolean) ∈ GW := gw_in 762 (by decide +kernel) (by decide +kernel)
theorem wm_763 : Cond.methodLink "ScaledNumeralDeskModel" 127 y_M_letter ∈ GW := gw_in 763 (by decide +kernel) (by decide +kernel)
theorem wm_765 : Cond.instanceMethod y_M_letter ∈ GW := gw_in 765 (by decide +kernel) (by decide +kernel)
theorem wm_766 : Cond.code y_M_letter prog_10_method_33_code 2 (some FieldType.int) ∈ GW := gw_in 766 (by decide +kernel) (by decide +kernel)
theorem wm_767 : Cond.methodLink "ScaledNumeralDeskModel" 147 y_M_number ∈ GW := gw_in 767 (by decide +kernel) (by decide +kernel)
theorem wm_769 : Cond.instanceMethod y_M_number ∈ GW := gw_in 769 (by decide +kernel) (by decide +kernel)
theorem wm_770 : Cond.code y_M_number prog_10_method_36_code 12 (some FieldType.int) ∈ GW := gw_in 770 (by decide +kernel) (by decide +kernel)
theorem wm_771 : Cond.methodLink "ScaledNumeralDeskModel" 151 y_M_isDigit ∈ GW := gw_in 771 (by decide +kernel) (by decide +kernel)
theorem wm_773 : Cond.instanceMethod y_M_isDigit ∈ GW := gw_in 773 (by decide +kernel) (by decide +kernel)
theorem wm_774 : Cond.code y_M_isDigit prog_10_method_32_code 2 (some FieldType.boolean) ∈ GW := gw_in 774 (by decide +kernel) (by decide +kernel)
theorem wm_775 : Cond.methodLink "ScaledNumeralDeskModel" 82 y_M_clear ∈ GW := gw_in 775 (by decide +kernel) (by decide +kernel)
theorem wm_777 : Cond.instanceMethod y_M_clear ∈ GW := gw_in 777 (by decide +kernel) (by decide +kernel)
theorem wm_778 : Cond.code y_M_clear prog_10_method_3_code 2 none ∈ GW := gw_in 778 (by decide +kernel) (by decide +kernel)
theorem wm_779 : Cond.methodLink "ScaledNumeralDeskModel" 154 y_M_writeDown ∈ GW := gw_in 779 (by decide +kernel) (by decide +kernel)
theorem wm_781 : Cond.instanceMethod y_M_writeDown ∈ GW := gw_in 781 (by decide +kernel) (by decide +kernel)
theorem wm_782 : Cond.code y_M_writeDown prog_10_method_37_code 8 (some FieldType.boolean) ∈ GW := gw_in 782 (by decide +kernel) (by decide +kernel)
theorem wm_783 : Cond.methodLink "ScaledNumeralDeskModel" 114 y_M_finish ∈ GW := gw_in 783 (by decide +kernel) (by decide +kernel)
theorem wm_785 : Cond.instanceMethod y_M_finish ∈ GW := gw_in 785 (by decide +kernel) (by decide +kernel)
theorem wm_786 : Cond.code y_M_finish prog_10_method_10_code 3 (some FieldType.int) ∈ GW := gw_in 786 (by decide +kernel) (by decide +kernel)
theorem wm_787 : Cond.methodLink "ScaledNumeralDeskModel" 69 y_M_roundAt ∈ GW := gw_in 787 (by decide +kernel) (by decide +kernel)
theorem wm_789 : Cond.instanceMethod y_M_roundAt ∈ GW := gw_in 789 (by decide +kernel) (by decide +kernel)
theorem wm_790 : Cond.code y_M_roundAt prog_10_method_7_code 4 none ∈ GW := gw_in 790 (by decide +kernel) (by decide +kernel)
theorem wm_791 : Cond.methodLink "ScaledNumeralDeskModel" 58 y_M_settle ∈ GW := gw_in 791 (by decide +kernel) (by decide +kernel)
theorem wm_793 : Cond.instanceMethod y_M_settle ∈ GW := gw_in 793 (by decide +kernel) (by decide +kernel)
theorem wm_794 : Cond.code y_M_settle prog_10_method_5_code 3 none ∈ GW := gw_in 794 (by decide +kernel) (by decide +kernel)
theorem wm_795 : Cond.methodLink "ScaledNumeralDeskModel" 54 y_M_carry ∈ GW := gw_in 795 (by decide +kernel) (by decide +kernel)
theorem wm_797 : Cond.instanceMethod y_M_carry ∈ GW := gw_in 797 (by decide +kernel) (by decide +kernel)
theorem wm_798 : Cond.code y_M_carry prog_10_method_4_code 4 (some FieldType.int) ∈ GW := gw_in 798 (by decide +kernel) (by decide +kernel)
theorem wm_799 : Cond.methodLink "ScaledNumeralDeskModel" 61 y_M_cut ∈ GW := gw_in 799 (by decide +kernel) (by decide +kernel)
theorem wm_801 : Cond.instanceMethod y_M_cut ∈ GW := gw_in 801 (by decide +kernel) (by decide +kernel)
theorem wm_802 : Cond.code y_M_cut prog_10_method_6_code 3 none ∈ GW := gw_in 802 (by decide +kernel) (by decide +kernel)
theorem wm_803 : Cond.methodLink "ScaledNumeralDeskModel" 72 y_M_keep ∈ GW := gw_in 803 (by decide +kernel) (by decide +kernel)
theorem wm_805 : Cond.instanceMethod y_M_keep ∈ GW := gw_in 805 (by decide +kernel) (by decide +kernel)
theorem wm_806 : Cond.code y_M_keep prog_10_method_9_code 4 (some FieldType.int) ∈ GW := gw_in 806 (by decide +kernel) (by decide +kernel)
theorem wm_807 : Cond.methodLink "ScaledNumeralDeskModel" 65 y_M_reaches ∈ GW := gw_in 807 (by decide +kernel) (by decide +kernel)
theorem wm_809 : Cond.instanceMethod y_M_reaches ∈ GW := gw_in 809 (by decide +kernel) (by decide +kernel)
theorem wm_810 : Cond.code y_M_reaches prog_10_method_8_code 3 (some FieldType.boolean) ∈ GW := gw_in 810 (by decide +kernel) (by decide +kernel)
theorem wm_811 : Cond.methodLink "ScaledNumeralDeskLaw" 26 y_M_length ∈ GW := gw_in 811 (by decide +kernel) (by decide +kernel)
theorem wm_812 : Cond.instanceMethod y_M_length ∈ GW := gw_in 812 (by decide +kernel) (by decide +kernel)
theorem wm_813 : Cond.selects "ScaledNumeralDeskModel" y_M_length y_M_length ∈ GW := gw_in 813 (by decide +kernel) (by decide +kernel)
theorem wm_814 : Cond.code y_M_length prog_10_method_39_code 2 (some FieldType.int) ∈ GW := gw_in 814 (by decide +kernel) (by decide +kernel)
theorem wm_815 : Cond.methodLink "ScaledNumeralDeskModel" 158 y_M_whole ∈ GW := gw_in 815 (by decide +kernel) (by decide +kernel)
theorem wm_817 : Cond.instanceMethod y_M_whole ∈ GW := gw_in 817 (by decide +kernel) (by decide +kernel)
theorem wm_818 : Cond.code y_M_whole prog_10_method_38_code 4 (some FieldType.int) ∈ GW := gw_in 818 (by decide +kernel) (by decide +kernel)
theorem wm_819 : Cond.methodLink "ScaledNumeralDeskLaw" 31 y_M_character ∈ GW := gw_in 819 (by decide +kernel) (by decide +kernel)
theorem wm_820 : Cond.instanceMethod y_M_character ∈ GW := gw_in 820 (by decide +kernel) (by decide +kernel)
theorem wm_821 : Cond.selects "ScaledNumeralDeskModel" y_M_character y_M_character ∈ GW := gw_in 821 (by decide +kernel) (by decide +kernel)
theorem wm_822 : Cond.code y_M_character prog_10_method_40_code 5 (some FieldType.int) ∈ GW := gw_in 822 (by decide +kernel) (by decide +kernel)
theorem wm_823 : Cond.methodLink "ScaledNumeralDeskModel" 161 y_M_length ∈ GW := gw_in 823 (by decide +kernel) (by decide +kernel)
theorem wm_824 : Cond.methodLink "ScaledNumeralDeskLaw" 35 y_M_scale ∈ GW := gw_in 824 (by decide +kernel) (by decide +kernel)
theorem wm_825 : Cond.instanceMethod y_M_scale ∈ GW := gw_in 825 (by decide +kernel) (by decide +kernel)
theorem wm_826 : Cond.selects "ScaledNumeralDeskModel" y_M_scale y_M_scale ∈ GW := gw_in 826 (by decide +kernel) (by decide +kernel)
theorem wm_827 : Cond.code y_M_scale prog_10_method_41_code 2 (some FieldType.int) ∈ GW := gw_in 827 (by decide +kernel) (by decide +kernel)
theorem wm_828 : Cond.methodLink "ScaledNumeralDeskLaw" 40 y_M_apply ∈ GW := gw_in 828 (by decide +kernel) (by decide +kernel)
theorem wm_829 : Cond.instanceMethod y_M_apply ∈ GW := gw_in 829 (by decide +kernel) (by decide +kernel)
theorem wm_830 : Cond.selects "ScaledNumeralDeskModel" y_M_apply y_M_apply ∈ GW := gw_in 830 (by decide +kernel) (by decide +kernel)
theorem wm_831 : Cond.code y_M_apply prog_10_method_42_code 8 (some FieldType.int) ∈ GW := gw_in 831 (by decide +kernel) (by decide +kernel)
theorem wm_832 : Cond.methodLink "ScaledNumeralDeskModel" 164 y_M_infinite ∈ GW := gw_in 832 (by decide +kernel) (by decide +kernel)
theorem wm_834 : Cond.instanceMethod y_M_infinite ∈ GW := gw_in 834 (by decide +kernel) (by decide +kernel)
theorem wm_835 : Cond.code y_M_infinite prog_10_method_47_code 8 (some FieldType.int) ∈ GW := gw_in 835 (by decide +kernel) (by decide +kernel)
theorem wm_836 : Cond.methodLink "ScaledNumeralDeskModel" 188 y_M_sign ∈ GW := gw_in 836 (by decide +kernel) (by decide +kernel)
theorem wm_838 : Cond.instanceMethod y_M_sign ∈ GW := gw_in 838 (by decide +kernel) (by decide +kernel)
theorem wm_839 : Cond.code y_M_sign prog_10_method_18_code 4 (some FieldType.int) ∈ GW := gw_in 839 (by decide +kernel) (by decide +kernel)
theorem wm_840 : Cond.methodLink "ScaledNumeralDeskModel" 191 y_M_copy ∈ GW := gw_in 840 (by decide +kernel) (by decide +kernel)
theorem wm_842 : Cond.instanceMethod y_M_copy ∈ GW := gw_in 842 (by decide +kernel) (by decide +kernel)
theorem wm_843 : Cond.code y_M_copy prog_10_method_48_code 3 (some FieldType.int) ∈ GW := gw_in 843 (by decide +kernel) (by decide +kernel)
theorem wm_844 : Cond.methodLink "ScaledNumeralDeskModel" 168 y_M_takeX ∈ GW := gw_in 844 (by decide +kernel) (by decide +kernel)
theorem wm_846 : Cond.instanceMethod y_M_takeX ∈ GW := gw_in 846 (by decide +kernel) (by decide +kernel)
theorem wm_847 : Cond.code y_M_takeX prog_10_method_12_code 3 none ∈ GW := gw_in 847 (by decide +kernel) (by decide +kernel)
theorem wm_848 : Cond.methodLink "ScaledNumeralDeskModel" 197 y_M_spread ∈ GW := gw_in 848 (by decide +kernel) (by decide +kernel)
theorem wm_850 : Cond.instanceMethod y_M_spread ∈ GW := gw_in 850 (by decide +kernel) (by decide +kernel)
theorem wm_851 : Cond.code y_M_spread prog_10_method_14_code 2 none ∈ GW := gw_in 851 (by decide +kernel) (by decide +kernel)
theorem wm_852 : Cond.methodLink "ScaledNumeralDeskModel" 194 y_M_zero ∈ GW := gw_in 852 (by decide +kernel) (by decide +kernel)
theorem wm_854 : Cond.instanceMethod y_M_zero ∈ GW := gw_in 854 (by decide +kernel) (by decide +kernel)
theorem wm_855 : Cond.code y_M_zero prog_10_method_46_code 2 (some FieldType.int) ∈ GW := gw_in 855 (by decide +kernel) (by decide +kernel)
theorem wm_856 : Cond.methodLink "ScaledNumeralDeskModel" 171 y_M_takeY ∈ GW := gw_in 856 (by decide +kernel) (by decide +kernel)
theorem wm_858 : Cond.instanceMethod y_M_takeY ∈ GW := gw_in 858 (by decide +kernel) (by decide +kernel)
theorem wm_859 : Cond.code y_M_takeY prog_10_method_13_code 3 none ∈ GW := gw_in 859 (by decide +kernel) (by decide +kernel)
theorem wm_860 : Cond.methodLink "ScaledNumeralDeskModel" 85 y_M_top ∈ GW := gw_in 860 (by decide +kernel) (by decide +kernel)
theorem wm_862 : Cond.instanceMethod y_M_top ∈ GW := gw_in 862 (by decide +kernel) (by decide +kernel)
theorem wm_863 : Cond.code y_M_top prog_10_method_15_code 5 (some FieldType.int) ∈ GW := gw_in 863 (by decide +kernel) (by decide +kernel)
theorem wm_864 : Cond.methodLink "ScaledNumeralDeskModel" 174 y_M_add ∈ GW := gw_in 864 (by decide +kernel) (by decide +kernel)
theorem wm_866 : Cond.instanceMethod y_M_add ∈ GW := gw_in 866 (by decide +kernel) (by decide +kernel)
theorem wm_867 : Cond.code y_M_add prog_10_method_43_code 5 (some FieldType.int) ∈ GW := gw_in 867 (by decide +kernel) (by decide +kernel)
theorem wm_868 : Cond.methodLink "ScaledNumeralDeskModel" 178 y_M_multiply ∈ GW := gw_in 868 (by decide +kernel) (by decide +kernel)
theorem wm_870 : Cond.instanceMethod y_M_multiply ∈ GW := gw_in 870 (by decide +kernel) (by decide +kernel)
theorem wm_871 : Cond.code y_M_multiply prog_10_method_44_code 5 (some FieldType.int) ∈ GW := gw_in 871 (by decide +kernel) (by decide +kernel)
theorem wm_872 : Cond.methodLink "ScaledNumeralDeskModel" 181 y_M_divide ∈ GW := gw_in 872 (by decide +kernel) (by decide +kernel)
theorem wm_874 : Cond.instanceMethod y_M_divide ∈ GW := gw_in 874 (by decide +kernel) (by decide +kernel)
theorem wm_875 : Cond.code y_M_divide prog_10_method_25_code 5 (some FieldType.int) ∈ GW := gw_in 875 (by decide +kernel) (by decide +kernel)
theorem wm_876 : Cond.methodLink "ScaledNumeralDeskModel" 108 y_M_quotientScale ∈ GW := gw_in 876 (by decide +kernel) (by decide +kernel)
theorem wm_878 : Cond.instanceMethod y_M_quotientScale ∈ GW := gw_in 878 (by decide +kernel) (by decide +kernel)
theorem wm_879 : Cond.code y_M_quotientScale prog_10_method_24_code 5 (some FieldType.int) ∈ GW := gw_in 879 (by decide +kernel) (by decide +kernel)
theorem wm_880 : Cond.methodLink "ScaledNumeralDeskModel" 102 y_M_weight ∈ GW := gw_in 880 (by decide +kernel) (by decide +kernel)
theorem wm_882 : Cond.instanceMethod y_M_weight ∈ GW := gw_in 882 (by decide +kernel) (by decide +kernel)
theorem wm_883 : Cond.code y_M_weight prog_10_method_16_code 3 (some FieldType.int) ∈ GW := gw_in 883 (by decide +kernel) (by decide +kernel)
theorem wm_884 : Cond.methodLink "ScaledNumeralDeskModel" 105 y_M_lead ∈ GW := gw_in 884 (by decide +kernel) (by decide +kernel)
theorem wm_886 : Cond.instanceMethod y_M_lead ∈ GW := gw_in 886 (by decide +kernel) (by decide +kernel)
theorem wm_887 : Cond.code y_M_lead prog_10_method_17_code 5 (some FieldType.int) ∈ GW := gw_in 887 (by decide +kernel) (by decide +kernel)
theorem wm_888 : Cond.methodLink "ScaledNumeralDeskModel" 111 y_M_quotient ∈ GW := gw_in 888 (by decide +kernel) (by decide +kernel)
theorem wm_890 : Cond.instanceMethod y_M_quotient ∈ GW := gw_in 890 (by decide +kernel) (by decide +kernel)
theorem wm_891 : Cond.code y_M_quotient prog_10_method_23_code 5 none ∈ GW := gw_in 891 (by decide +kernel) (by decide +kernel)
theorem wm_892 : Cond.methodLink "ScaledNumeralDeskModel" 89 y_M_noRest ∈ GW := gw_in 892 (by decide +kernel) (by decide +kernel)
theorem wm_894 : Cond.instanceMethod y_M_noRest ∈ GW := gw_in 894 (by decide +kernel) (by decide +kernel)
theorem wm_895 : Cond.code y_M_noRest prog_10_method_22_code 2 none ∈ GW := gw_in 895 (by decide +kernel) (by decide +kernel)
theorem wm_896 : Cond.methodLink "ScaledNumeralDeskModel" 92 y_M_bring ∈ GW := gw_in 896 (by decide +kernel) (by decide +kernel)
theorem wm_898 : Cond.instanceMethod y_M_bring ∈ GW := gw_in 898 (by decide +kernel) (by decide +kernel)
theorem wm_899 : Cond.code y_M_bring prog_10_method_19_code 3 none ∈ GW := gw_in 899 (by decide +kernel) (by decide +kernel)
theorem wm_900 : Cond.methodLink "ScaledNumeralDeskModel" 95 y_M_holdsY ∈ GW := gw_in 900 (by decide +kernel) (by decide +kernel)
theorem wm_902 : Cond.instanceMethod y_M_holdsY ∈ GW := gw_in 902 (by decide +kernel) (by decide +kernel)
theorem wm_903 : Cond.code y_M_holdsY prog_10_method_20_code 3 (some FieldType.boolean) ∈ GW := gw_in 903 (by decide +kernel) (by decide +kernel)
theorem wm_904 : Cond.methodLink "ScaledNumeralDeskModel" 99 y_M_subtractY ∈ GW := gw_in 904 (by decide +kernel) (by decide +kernel)
theorem wm_906 : Cond.instanceMethod y_M_subtractY ∈ GW := gw_in 906 (by decide +kernel) (by decide +kernel)
theorem wm_907 : Cond.code y_M_subtractY prog_10_method_21_code 4 none ∈ GW := gw_in 907 (by decide +kernel) (by decide +kernel)
theorem wm_908 : Cond.methodLink "ScaledNumeralDeskModel" 185 y_M_remainder ∈ GW := gw_in 908 (by decide +kernel) (by decide +kernel)
theorem wm_910 : Cond.instanceMethod y_M_remainder ∈ GW := gw_in 910 (by decide +kernel) (by decide +kernel)
theorem wm_911 : Cond.code y_M_remainder prog_10_method_45_code 4 (some FieldType.int) ∈ GW := gw_in 911 (by decide +kernel) (by decide +kernel)
theorem wm_912 : Cond.methodLink "ScaledNumeralDeskLaw" 44 y_M_adjust ∈ GW := gw_in 912 (by decide +kernel) (by decide +kernel)
theorem wm_913 : Cond.instanceMethod y_M_adjust ∈ GW := gw_in 913 (by decide +kernel) (by decide +kernel)
theorem wm_914 : Cond.selects "ScaledNumeralDeskModel" y_M_adjust y_M_adjust ∈ GW := gw_in 914 (by decide +kernel) (by decide +kernel)
theorem wm_915 : Cond.code y_M_adjust prog_10_method_49_code 7 (some FieldType.int) ∈ GW := gw_in 915 (by decide +kernel) (by decide +kernel)
theorem wm_916 : Cond.methodLink "ScaledNumeralDeskModel" 200 y_M_toWhole ∈ GW := gw_in 916 (by decide +kernel) (by decide +kernel)
theorem wm_918 : Cond.instanceMethod y_M_toWhole ∈ GW := gw_in 918 (by decide +kernel) (by decide +kernel)
theorem wm_919 : Cond.code y_M_toWhole prog_10_method_50_code 5 (some FieldType.int) ∈ GW := gw_in 919 (by decide +kernel) (by decide +kernel)
theorem wm_920 : Cond.methodLink "ScaledNumeralDeskModel" 204 y_M_least ∈ GW := gw_in 920 (by decide +kernel) (by decide +kernel)
theorem wm_922 : Cond.instanceMethod y_M_least ∈ GW := gw_in 922 (by decide +kernel) (by decide +kernel)
theorem wm_923 : Cond.code y_M_least prog_10_method_51_code 3 (some FieldType.int) ∈ GW := gw_in 923 (by decide +kernel) (by decide +kernel)
theorem wm_924 : Cond.methodLink "ScaledNumeralDeskModel" 207 y_M_squareRoot ∈ GW := gw_in 924 (by decide +kernel) (by decide +kernel)
theorem wm_926 : Cond.instanceMethod y_M_squareRoot ∈ GW := gw_in 926 (by decide +kernel) (by decide +kernel)
theorem wm_927 : Cond.code y_M_squareRoot prog_10_method_28_code 5 none ∈ GW := gw_in 927 (by decide +kernel) (by decide +kernel)
theorem wm_928 : Cond.methodLink "ScaledNumeralDeskModel" 117 y_M_twentyfold ∈ GW := gw_in 928 (by decide +kernel) (by decide +kernel)
theorem wm_930 : Cond.instanceMethod y_M_twentyfold ∈ GW := gw_in 930 (by decide +kernel) (by decide +kernel)
theorem wm_931 : Cond.code y_M_twentyfold prog_10_method_26_code 4 none ∈ GW := gw_in 931 (by decide +kernel) (by decide +kernel)
theorem wm_932 : Cond.methodLink "ScaledNumeralDeskModel" 120 y_M_twoMore ∈ GW := gw_in 932 (by decide +kernel) (by decide +kernel)
theorem wm_934 : Cond.instanceMethod y_M_twoMore ∈ GW := gw_in 934 (by decide +kernel) (by decide +kernel)
theorem wm_935 : Cond.code y_M_twoMore prog_10_method_27_code 2 none ∈ GW := gw_in 935 (by decide +kernel) (by decide +kernel)
theorem wm_936 : Cond.methodLink "ScaledNumeralDeskLaw" 49 y_M_fit ∈ GW := gw_in 936 (by decide +kernel) (by decide +kernel)
theorem wm_937 : Cond.instanceMethod y_M_fit ∈ GW := gw_in 937 (by decide +kernel) (by decide +kernel)
theorem wm_938 : Cond.selects "ScaledNumeralDeskModel" y_M_fit y_M_fit ∈ GW := gw_in 938 (by decide +kernel) (by decide +kernel)
theorem wm_939 : Cond.code y_M_fit prog_10_method_52_code 4 (some FieldType.int) ∈ GW := gw_in 939 (by decide +kernel) (by decide +kernel)
theorem wm_940 : Cond.methodLink "ScaledNumeralDeskLaw" 53 y_M_compare ∈ GW := gw_in 940 (by decide +kernel) (by decide +kernel)
theorem wm_941 : Cond.instanceMethod y_M_compare ∈ GW := gw_in 941 (by decide +kernel) (by decide +kernel)
theorem wm_942 : Cond.selects "ScaledNumeralDeskModel" y_M_compare y_M_compare ∈ GW := gw_in 942 (by decide +kernel) (by decide +kernel)
theorem wm_943 : Cond.code y_M_compare prog_10_method_54_code 6 (some FieldType.int) ∈ GW := gw_in 943 (by decide +kernel) (by decide +kernel)
theorem wm_944 : Cond.methodLink "ScaledNumeralDeskModel" 210 y_M_rank ∈ GW := gw_in 944 (by decide +kernel) (by decide +kernel)
theorem wm_946 : Cond.instanceMethod y_M_rank ∈ GW := gw_in 946 (by decide +kernel) (by decide +kernel)
theorem wm_947 : Cond.code y_M_rank prog_10_method_53_code 2 (some FieldType.int) ∈ GW := gw_in 947 (by decide +kernel) (by decide +kernel)
theorem wm_948 : Cond.methodLink "ScaledNumeralDeskLaw" 57 y_M_accept ∈ GW := gw_in 948 (by decide +kernel) (by decide +kernel)
theorem wm_949 : Cond.instanceMethod y_M_accept ∈ GW := gw_in 949 (by decide +kernel) (by decide +kernel)
theorem wm_950 : Cond.selects "ScaledNumeralDeskModel" y_M_accept y_M_accept ∈ GW := gw_in 950 (by decide +kernel) (by decide +kernel)
theorem wm_951 : Cond.code y_M_accept prog_10_method_57_code 3 (some FieldType.int) ∈ GW := gw_in 951 (by decide +kernel) (by decide +kernel)
theorem wm_952 : Cond.methodLink "ScaledNumeralDeskModel" 216 y_M_gather ∈ GW := gw_in 952 (by decide +kernel) (by decide +kernel)
theorem wm_954 : Cond.instanceMethod y_M_gather ∈ GW := gw_in 954 (by decide +kernel) (by decide +kernel)
theorem wm_955 : Cond.code y_M_gather prog_10_method_56_code 6 none ∈ GW := gw_in 955 (by decide +kernel) (by decide +kernel)
theorem wm_956 : Cond.methodLink "ScaledNumeralDeskModel" 213 y_M_place ∈ GW := gw_in 956 (by decide +kernel) (by decide +kernel)
theorem wm_958 : Cond.instanceMethod y_M_place ∈ GW := gw_in 958 (by decide +kernel) (by decide +kernel)
theorem wm_959 : Cond.code y_M_place prog_10_method_55_code 3 (some FieldType.int) ∈ GW := gw_in 959 (by decide +kernel) (by decide +kernel)
theorem wm_960 : Cond.methodLink "ScaledNumeralDeskLaw" 61 y_M_discard ∈ GW := gw_in 960 (by decide +kernel) (by decide +kernel)
theorem wm_961 : Cond.instanceMethod y_M_discard ∈ GW := gw_in 961 (by decide +kernel) (by decide +kernel)
theorem wm_962 : Cond.selects "ScaledNumeralDeskModel" y_M_discard y_M_discard ∈ GW := gw_in 962 (by decide +kernel) (by decide +kernel)
theorem wm_963 : Cond.code y_M_discard prog_10_method_58_code 3 (some FieldType.int) ∈ GW := gw_in 963 (by decide +kernel) (by decide +kernel)
theorem wm_964 : Cond.methodLink "ScaledNumeralDeskLaw" 65 y_M_merge ∈ GW := gw_in 964 (by decide +kernel) (by decide +kernel)
theorem wm_965 : Cond.instanceMethod y_M_merge ∈ GW := gw_in 965 (by decide +kernel) (by decide +kernel)
theorem wm_966 : Cond.selects "ScaledNumeralDeskModel" y_M_merge y_M_merge ∈ GW := gw_in 966 (by decide +kernel) (by decide +kernel)
theorem wm_967 : Cond.code y_M_merge prog_10_method_59_code 4 (some FieldType.int) ∈ GW := gw_in 967 (by decide +kernel) (by decide +kernel)
theorem wm_968 : Cond.methodLink "ScaledNumeralDeskLaw" 70 y_M_reset ∈ GW := gw_in 968 (by decide +kernel) (by decide +kernel)
theorem wm_969 : Cond.instanceMethod y_M_reset ∈ GW := gw_in 969 (by decide +kernel) (by decide +kernel)
theorem wm_970 : Cond.selects "ScaledNumeralDeskModel" y_M_reset y_M_reset ∈ GW := gw_in 970 (by decide +kernel) (by decide +kernel)
theorem wm_971 : Cond.code y_M_reset prog_10_method_60_code 3 (some FieldType.boolean) ∈ GW := gw_in 971 (by decide +kernel) (by decide +kernel)
theorem wm_972 : Cond.methodLink "ScaledNumeralDeskLaw" 74 y_M_count ∈ GW := gw_in 972 (by decide +kernel) (by decide +kernel)
theorem wm_973 : Cond.instanceMethod y_M_count ∈ GW := gw_in 973 (by decide +kernel) (by decide +kernel)
theorem wm_974 : Cond.selects "ScaledNumeralDeskModel" y_M_count y_M_count ∈ GW := gw_in 974 (by decide +kernel) (by decide +kernel)
theorem wm_975 : Cond.code y_M_count prog_10_method_61_code 4 (some FieldType.int) ∈ GW := gw_in 975 (by decide +kernel) (by decide +kernel)
theorem wm_976 : Cond.methodLink "ScaledNumeralDeskLaw" 78 y_M_total ∈ GW := gw_in 976 (by decide +kernel) (by decide +kernel)
theorem wm_977 : Cond.instanceMethod y_M_total ∈ GW := gw_in 977 (by decide +kernel) (by decide +kernel)
theorem wm_978 : Cond.selects "ScaledNumeralDeskModel" y_M_total y_M_total ∈ GW := gw_in 978 (by decide +kernel) (by decide +kernel)
theorem wm_979 : Cond.code y_M_total prog_10_method_63_code 3 (some FieldType.int) ∈ GW := gw_in 979 (by decide +kernel) (by decide +kernel)
theorem wm_980 : Cond.methodLink "ScaledNumeralDeskModel" 220 y_M_count ∈ GW := gw_in 980 (by decide +kernel) (by decide +kernel)
theorem wm_981 : Cond.methodLink "ScaledNumeralDeskModel" 223 y_M_result ∈ GW := gw_in 981 (by decide +kernel) (by decide +kernel)
theorem wm_983 : Cond.instanceMethod y_M_result ∈ GW := gw_in 983 (by decide +kernel) (by decide +kernel)
theorem wm_984 : Cond.code y_M_result prog_10_method_62_code 8 (some FieldType.int) ∈ GW := gw_in 984 (by decide +kernel) (by decide +kernel)
theorem wm_985 : Cond.methodLink "ScaledNumeralDeskLaw" 82 y_M_average ∈ GW := gw_in 985 (by decide +kernel) (by decide +kernel)
theorem wm_986 : Cond.instanceMethod y_M_average ∈ GW := gw_in 986 (by decide +kernel) (by decide +kernel)
theorem wm_987 : Cond.selects "ScaledNumeralDeskModel" y_M_average y_M_average ∈ GW := gw_in 987 (by decide +kernel) (by decide +kernel)
theorem wm_988 : Cond.code y_M_average prog_10_method_64_code 6 (some FieldType.int) ∈ GW := gw_in 988 (by decide +kernel) (by decide +kernel)
theorem wm_989 : Cond.methodLink "ScaledNumeralDeskModel" 226 y_M_total ∈ GW := gw_in 989 (by decide +kernel) (by decide +kernel)
theorem wm_990 : Cond.fieldLink "java/lang/String" 9 "java/lang/String" "value" "[B" ∈ GW := gw_in 990 (by decide +kernel) (by decide +kernel)
theorem wm_991 : Cond.fieldLink "java/lang/String" 15 "java/lang/String" "coder" "B" ∈ GW := gw_in 991 (by decide +kernel) (by decide +kernel)
theorem wm_992 : Cond.fieldLink "ScaledNumeralDesk$Numeral" 120 "ScaledNumeralDesk$Kind" "text" "Ljava/lang/String;" ∈ GW := gw_in 992 (by decide +kernel) (by decide +kernel)
theorem wm_993 : Cond.fieldLink "ScaledNumeralDesk$Numeral" 111 "ScaledNumeralDesk$Kind" "rank" "I" ∈ GW := gw_in 993 (by decide +kernel) (by decide +kernel)
theorem wm_s0 : Cond.selects "ScaledNumeralDesk$Buffer" y_U_isWordFrom y_U_isWordFrom ∈ GW := gw_sel (q := (y_U_isWordFrom, 2)) 0 (by decide +kernel) (by decide +kernel)
theorem wm_s1 : Cond.selects "ScaledNumeralDesk$Buffer" y_U_isSignAt y_U_isSignAt ∈ GW := gw_sel (q := (y_U_isSignAt, 2)) 1 (by decide +kernel) (by decide +kernel)
theorem wm_s2 : Cond.selects "ScaledNumeralDesk$Buffer" y_U_readFinite y_U_readFinite ∈ GW := gw_sel (q := (y_U_readFinite, 2)) 2 (by decide +kernel) (by decide +kernel)
theorem wm_s3 : Cond.selects "ScaledNumeralDesk$Buffer" y_U_endOfDigits y_U_endOfDigits ∈ GW := gw_sel (q := (y_U_endOfDigits, 2)) 3 (by decide +kernel) (by decide +kernel)
theorem wm_s4 : Cond.selects "ScaledNumeralDesk$Buffer" y_U_isDigitAt y_U_isDigitAt ∈ GW := gw_sel (q := (y_U_isDigitAt, 2)) 4 (by decide +kernel) (by decide +kernel)
theorem wm_s5 : Cond.selects "ScaledNumeralDesk$Buffer" y_U_pointBetween y_U_pointBetween ∈ GW := gw_sel (q := (y_U_pointBetween, 2)) 5 (by decide +kernel) (by decide +kernel)
theorem wm_s6 : Cond.selects "ScaledNumeralDesk$Buffer" y_U_exponentFrom y_U_exponentFrom ∈ GW := gw_sel (q := (y_U_exponentFrom, 2)) 6 (by decide +kernel) (by decide +kernel)
theorem wm_s7 : Cond.selects "ScaledNumeralDesk$Buffer" y_U_placeDigits y_U_placeDigits ∈ GW := gw_sel (q := (y_U_placeDigits, 2)) 7 (by decide +kernel) (by decide +kernel)
theorem wm_s8 : Cond.selects "ScaledNumeralDesk" y_D_store y_D_store ∈ GW := gw_sel (q := (y_D_store, 7)) 8 (by decide +kernel) (by decide +kernel)
theorem wm_s9 : Cond.selects "ScaledNumeralDesk$Numeral" y_N_wholeDigits y_N_wholeDigits ∈ GW := gw_sel (q := (y_N_wholeDigits, 3)) 9 (by decide +kernel) (by decide +kernel)
theorem wm_s10 : Cond.selects "ScaledNumeralDesk$Bench" y_B_add y_B_add ∈ GW := gw_sel (q := (y_B_add, 4)) 10 (by decide +kernel) (by decide +kernel)
theorem wm_s11 : Cond.selects "ScaledNumeralDesk$Bench" y_B_addInfinite y_B_addInfinite ∈ GW := gw_sel (q := (y_B_addInfinite, 4)) 11 (by decide +kernel) (by decide +kernel)
theorem wm_s12 : Cond.selects "ScaledNumeralDesk$Bench" y_B_multiply y_B_multiply ∈ GW := gw_sel (q := (y_B_multiply, 4)) 12 (by decide +kernel) (by decide +kernel)
theorem wm_s13 : Cond.selects "ScaledNumeralDesk$Bench" y_B_multiplyInfinite y_B_multiplyInfinite ∈ GW := gw_sel (q := (y_B_multiplyInfinite, 4)) 13 (by decide +kernel) (by decide +kernel)
theorem wm_s14 : Cond.selects "ScaledNumeralDesk$Bench" y_B_share y_B_share ∈ GW := gw_sel (q := (y_B_share, 4)) 14 (by decide +kernel) (by decide +kernel)
theorem wm_s15 : Cond.selects "ScaledNumeralDesk$Bench" y_B_divide y_B_divide ∈ GW := gw_sel (q := (y_B_divide, 4)) 15 (by decide +kernel) (by decide +kernel)
theorem wm_s16 : Cond.selects "ScaledNumeralDesk$Bench" y_B_load y_B_load ∈ GW := gw_sel (q := (y_B_load, 4)) 16 (by decide +kernel) (by decide +kernel)
theorem wm_s17 : Cond.selects "ScaledNumeralDesk$Bench" y_B_divideInfinite y_B_divideInfinite ∈ GW := gw_sel (q := (y_B_divideInfinite, 4)) 17 (by decide +kernel) (by decide +kernel)
theorem wm_s18 : Cond.selects "ScaledNumeralDesk$Bench" y_B_quotient y_B_quotient ∈ GW := gw_sel (q := (y_B_quotient, 4)) 18 (by decide +kernel) (by decide +kernel)
theorem wm_s19 : Cond.selects "ScaledNumeralDesk$Bench" y_B_remainder y_B_remainder ∈ GW := gw_sel (q := (y_B_remainder, 4)) 19 (by decide +kernel) (by decide +kernel)
theorem wm_s20 : Cond.selects "ScaledNumeralDesk$Bench" y_B_remainderInfinite y_B_remainderInfinite ∈ GW := gw_sel (q := (y_B_remainderInfinite, 4)) 20 (by decide +kernel) (by decide +kernel)
theorem wm_s21 : Cond.selects "ScaledNumeralDesk$Bench" y_B_alterOther y_B_alterOther ∈ GW := gw_sel (q := (y_B_alterOther, 4)) 21 (by decide +kernel) (by decide +kernel)
theorem wm_s22 : Cond.selects "ScaledNumeralDesk$Numeral" y_N_keepSignAndPlaces y_N_keepSignAndPlaces ∈ GW := gw_sel (q := (y_N_keepSignAndPlaces, 3)) 22 (by decide +kernel) (by decide +kernel)
theorem wm_s23 : Cond.selects "ScaledNumeralDesk$Numeral" y_N_hasFraction y_N_hasFraction ∈ GW := gw_sel (q := (y_N_hasFraction, 3)) 23 (by decide +kernel) (by decide +kernel)
theorem wm_s24 : Cond.selects "ScaledNumeralDesk$Bench" y_B_root y_B_root ∈ GW := gw_sel (q := (y_B_root, 4)) 24 (by decide +kernel) (by decide +kernel)
theorem wm_s25 : Cond.selects "ScaledNumeralDesk$Bench" y_B_nextRootLimb y_B_nextRootLimb ∈ GW := gw_sel (q := (y_B_nextRootLimb, 4)) 25 (by decide +kernel) (by decide +kernel)
theorem wm_s26 : Cond.selects "ScaledNumeralDesk$Bench" y_B_rootLimbFits y_B_rootLimbFits ∈ GW := gw_sel (q := (y_B_rootLimbFits, 4)) 26 (by decide +kernel) (by decide +kernel)
theorem wm_s27 : Cond.selects "ScaledNumeralDesk$Sum" y_S_change y_S_change ∈ GW := gw_sel (q := (y_S_change, 3)) 27 (by decide +kernel) (by decide +kernel)
theorem wm_s28 : Cond.selects "ScaledNumeralDesk$Sum" y_S_greatestPlaces y_S_greatestPlaces ∈ GW := gw_sel (q := (y_S_greatestPlaces, 3)) 28 (by decide +kernel) (by decide +kernel)
theorem wm_s29 : Cond.selects "ScaledNumeralDeskModel" y_M_out y_M_out ∈ GW := gw_sel (q := (y_M_out, 17)) 29 (by decide +kernel) (by decide +kernel)
theorem wm_s30 : Cond.selects "ScaledNumeralDeskModel" y_M_isLetter y_M_isLetter ∈ GW := gw_sel (q := (y_M_isLetter, 17)) 30 (by decide +kernel) (by decide +kernel)
theorem wm_s31 : Cond.selects "ScaledNumeralDeskModel" y_M_special y_M_special ∈ GW := gw_sel (q := (y_M_special, 17)) 31 (by decide +kernel) (by decide +kernel)
theorem wm_s32 : Cond.selects "ScaledNumeralDeskModel" y_M_isSign y_M_isSign ∈ GW := gw_sel (q := (y_M_isSign, 17)) 32 (by decide +kernel) (by decide +kernel)
theorem wm_s33 : Cond.selects "ScaledNumeralDeskModel" y_M_infinity y_M_infinity ∈ GW := gw_sel (q := (y_M_infinity, 17)) 33 (by decide +kernel) (by decide +kernel)
theorem wm_s34 : Cond.selects "ScaledNumeralDeskModel" y_M_letter y_M_letter ∈ GW := gw_sel (q := (y_M_letter, 17)) 34 (by decide +kernel) (by decide +kernel)
theorem wm_s35 : Cond.selects "ScaledNumeralDeskModel" y_M_number y_M_number ∈ GW := gw_sel (q := (y_M_number, 17)) 35 (by decide +kernel) (by decide +kernel)
theorem wm_s36 : Cond.selects "ScaledNumeralDeskModel" y_M_isDigit y_M_isDigit ∈ GW := gw_sel (q := (y_M_isDigit, 17)) 36 (by decide +kernel) (by decide +kernel)
theorem wm_s37 : Cond.selects "ScaledNumeralDeskModel" y_M_clear y_M_clear ∈ GW := gw_sel (q := (y_M_clear, 17)) 37 (by decide +kernel) (by decide +kernel)
theorem wm_s38 : Cond.selects "ScaledNumeralDeskModel" y_M_writeDown y_M_writeDown ∈ GW := gw_sel (q := (y_M_writeDown, 17)) 38 (by decide +kernel) (by decide +kernel)
theorem wm_s39 : Cond.selects "ScaledNumeralDeskModel" y_M_finish y_M_finish ∈ GW := gw_sel (q := (y_M_finish, 17)) 39 (by decide +kernel) (by decide +kernel)
theorem wm_s40 : Cond.selects "ScaledNumeralDeskModel" y_M_roundAt y_M_roundAt ∈ GW := gw_sel (q := (y_M_roundAt, 17)) 40 (by decide +kernel) (by decide +kernel)
theorem wm_s41 : Cond.selects "ScaledNumeralDeskModel" y_M_settle y_M_settle ∈ GW := gw_sel (q := (y_M_settle, 17)) 41 (by decide +kernel) (by decide +kernel)
theorem wm_s42 : Cond.selects "ScaledNumeralDeskModel" y_M_carry y_M_carry ∈ GW := gw_sel (q := (y_M_carry, 17)) 42 (by decide +kernel) (by decide +kernel)
theorem wm_s43 : Cond.selects "ScaledNumeralDeskModel" y_M_cut y_M_cut ∈ GW := gw_sel (q := (y_M_cut, 17)) 43 (by decide +kernel) (by decide +kernel)
theorem wm_s44 : Cond.selects "ScaledNumeralDeskModel" y_M_keep y_M_keep ∈ GW := gw_sel (q := (y_M_keep, 17)) 44 (by decide +kernel) (by decide +kernel)
theorem wm_s45 : Cond.selects "ScaledNumeralDeskModel" y_M_reaches y_M_reaches ∈ GW := gw_sel (q := (y_M_reaches, 17)) 45 (by decide +kernel) (by decide +kernel)
theorem wm_s46 : Cond.selects "ScaledNumeralDeskModel" y_M_whole y_M_whole ∈ GW := gw_sel (q := (y_M_whole, 17)) 46 (by decide +kernel) (by decide +kernel)
theorem wm_s47 : Cond.selects "ScaledNumeralDeskModel" y_M_infinite y_M_infinite ∈ GW := gw_sel (q := (y_M_infinite, 17)) 47 (by decide +kernel) (by decide +kernel)
theorem wm_s48 : Cond.selects "ScaledNumeralDeskModel" y_M_sign y_M_sign ∈ GW := gw_sel (q := (y_M_sign, 17)) 48 (by decide +kernel) (by decide +kernel)
theorem wm_s49 : Cond.selects "ScaledNumeralDeskModel" y_M_copy y_M_copy ∈ GW := gw_sel (q := (y_M_copy, 17)) 49 (by decide +kernel) (by decide +kernel)
theorem wm_s50 : Cond.selects "ScaledNumeralDeskModel" y_M_takeX y_M_takeX ∈ GW := gw_sel (q := (y_M_takeX, 17)) 50 (by decide +kernel) (by decide +kernel)
theorem wm_s51 : Cond.selects "ScaledNumeralDeskModel" y_M_spread y_M_spread ∈ GW := gw_sel (q := (y_M_spread, 17)) 51 (by decide +kernel) (by decide +kernel)
theorem wm_s52 : Cond.selects "ScaledNumeralDeskModel" y_M_zero y_M_zero ∈ GW := gw_sel (q := (y_M_zero, 17)) 52 (by decide +kernel) (by decide +kernel)
theorem wm_s53 : Cond.selects "ScaledNumeralDeskModel" y_M_takeY y_M_takeY ∈ GW := gw_sel (q := (y_M_takeY, 17)) 53 (by decide +kernel) (by decide +kernel)
theorem wm_s54 : Cond.selects "ScaledNumeralDeskModel" y_M_top y_M_top ∈ GW := gw_sel (q := (y_M_top, 17)) 54 (by decide +kernel) (by decide +kernel)
theorem wm_s55 : Cond.selects "ScaledNumeralDeskModel" y_M_add y_M_add ∈ GW := gw_sel (q := (y_M_add, 17)) 55 (by decide +kernel) (by decide +kernel)
theorem wm_s56 : Cond.selects "ScaledNumeralDeskModel" y_M_multiply y_M_multiply ∈ GW := gw_sel (q := (y_M_multiply, 17)) 56 (by decide +kernel) (by decide +kernel)
theorem wm_s57 : Cond.selects "ScaledNumeralDeskModel" y_M_divide y_M_divide ∈ GW := gw_sel (q := (y_M_divide, 17)) 57 (by decide +kernel) (by decide +kernel)
theorem wm_s58 : Cond.selects "ScaledNumeralDeskModel" y_M_quotientScale y_M_quotientScale ∈ GW := gw_sel (q := (y_M_quotientScale, 17)) 58 (by decide +kernel) (by decide +kernel)
theorem wm_s59 : Cond.selects "ScaledNumeralDeskModel" y_M_weight y_M_weight ∈ GW := gw_sel (q := (y_M_weight, 17)) 59 (by decide +kernel) (by decide +kernel)
theorem wm_s60 : Cond.selects "ScaledNumeralDeskModel" y_M_lead y_M_lead ∈ GW := gw_sel (q := (y_M_lead, 17)) 60 (by decide +kernel) (by decide +kernel)
theorem wm_s61 : Cond.selects "ScaledNumeralDeskModel" y_M_quotient y_M_quotient ∈ GW := gw_sel (q := (y_M_quotient, 17)) 61 (by decide +kernel) (by decide +kernel)
theorem wm_s62 : Cond.selects "ScaledNumeralDeskModel" y_M_noRest y_M_noRest ∈ GW := gw_sel (q := (y_M_noRest, 17)) 62 (by decide +kernel) (by decide +kernel)
theorem wm_s63 : Cond.selects "ScaledNumeralDeskModel" y_M_bring y_M_bring ∈ GW := gw_sel (q := (y_M_bring, 17)) 63 (by decide +kernel) (by decide +kernel)
theorem wm_s64 : Cond.selects "ScaledNumeralDeskModel" y_M_holdsY y_M_holdsY ∈ GW := gw_sel (q := (y_M_holdsY, 17)) 64 (by decide +kernel) (by decide +kernel)
theorem wm_s65 : Cond.selects "ScaledNumeralDeskModel" y_M_subtractY y_M_subtractY ∈ GW := gw_sel (q := (y_M_subtractY, 17)) 65 (by decide +kernel) (by decide +kernel)
theorem wm_s66 : Cond.selects "ScaledNumeralDeskModel" y_M_remainder y_M_remainder ∈ GW := gw_sel (q := (y_M_remainder, 17)) 66 (by decide +kernel) (by decide +kernel)
theorem wm_s67 : Cond.selects "ScaledNumeralDeskModel" y_M_toWhole y_M_toWhole ∈ GW := gw_sel (q := (y_M_toWhole, 17)) 67 (by decide +kernel) (by decide +kernel)
theorem wm_s68 : Cond.selects "ScaledNumeralDeskModel" y_M_least y_M_least ∈ GW := gw_sel (q := (y_M_least, 17)) 68 (by decide +kernel) (by decide +kernel)
theorem wm_s69 : Cond.selects "ScaledNumeralDeskModel" y_M_squareRoot y_M_squareRoot ∈ GW := gw_sel (q := (y_M_squareRoot, 17)) 69 (by decide +kernel) (by decide +kernel)
theorem wm_s70 : Cond.selects "ScaledNumeralDeskModel" y_M_twentyfold y_M_twentyfold ∈ GW := gw_sel (q := (y_M_twentyfold, 17)) 70 (by decide +kernel) (by decide +kernel)
theorem wm_s71 : Cond.selects "ScaledNumeralDeskModel" y_M_twoMore y_M_twoMore ∈ GW := gw_sel (q := (y_M_twoMore, 17)) 71 (by decide +kernel) (by decide +kernel)
theorem wm_s72 : Cond.selects "ScaledNumeralDeskModel" y_M_rank y_M_rank ∈ GW := gw_sel (q := (y_M_rank, 17)) 72 (by decide +kernel) (by decide +kernel)
theorem wm_s73 : Cond.selects "ScaledNumeralDeskModel" y_M_gather y_M_gather ∈ GW := gw_sel (q := (y_M_gather, 17)) 73 (by decide +kernel) (by decide +kernel)
theorem wm_s74 : Cond.selects "ScaledNumeralDeskModel" y_M_place y_M_place ∈ GW := gw_sel (q := (y_M_place, 17)) 74 (by decide +kernel) (by decide +kernel)
theorem wm_s75 : Cond.selects "ScaledNumeralDeskModel" y_M_result y_M_result ∈ GW := gw_sel (q := (y_M_result, 17)) 75 (by decide +kernel) (by decide +kernel)
theorem uA_in : ∀ w ∈ u_ws "ScaledNumeralDesk$Amount" TA 2, w ∈ GW := by decide +kernel
theorem uN_in : ∀ w ∈ u_ws "ScaledNumeralDesk$Numeral" TN 3, w ∈ GW := by decide +kernel
theorem uS_in : ∀ w ∈ u_ws "ScaledNumeralDesk$Sum" TS 3, w ∈ GW := by decide +kernel
theorem uU_in : ∀ w ∈ u_ws "ScaledNumeralDesk$Buffer" TU 2, w ∈ GW := by decide +kernel
theorem uB_in : ∀ w ∈ u_ws "ScaledNumeralDesk$Bench" TB 4, w ∈ GW := by decide +kernel
theorem uD_in : ∀ w ∈ u_ws "ScaledNumeralDesk" TD 7, w ∈ GW := by decide +kernel
theorem uM_in : ∀ w ∈ u_ws "ScaledNumeralDeskModel" TM 17, w ∈ GW := by decide +kernel
end
section
/-! The layer of whole numbers over the kit's rows: an int of the machine is 'iI z' of a whole number z, a row of ints is 'ar f' of a function f of whole numbers; a world is a function from places to contents. -/
def iI (z : Int) : Int32 := Int32.ofInt z
abbrev zr (z : Int) : Prop := -2147483648 ≤ z ∧ z < 2147483648
theorem iI_toInt {z : Int} (h1 : -2147483648 ≤ z) (h2 : z < 2147483648) : (iI z).toInt = z := Int32.toInt_ofInt_of_le h1 h2
theorem iI_of (x : Int32) : ∃ z : Int, x = iI z ∧ -2147483648 ≤ z ∧ z < 2147483648 :=
  ⟨x.toInt, (Int32.ofInt_toInt x).symm, Int32.le_toInt x, Int32.toInt_lt x⟩
theorem iI_add (a b : Int) : iI a + iI b = iI (a + b) := (Int32.ofInt_add a b).symm
theorem iI_sub (a b : Int) : iI a - iI b = iI (a - b) := (Int32.ofInt_sub a b).symm
theorem iI_mul (a b : Int) : iI a * iI b = iI (a * b) := (Int32.ofInt_mul a b).symm
theorem iI_neg (a : Int) : -iI a = iI (-a) := (Int32.ofInt_neg a).symm
theorem iI_lt {a b : Int} (ha : zr a) (hb : zr b) : iI a < iI b ↔ a < b := by
  rw [Int32.lt_iff_toInt_lt, iI_toInt ha.1 ha.2, iI_toInt hb.1 hb.2]
theorem iI_le {a b : Int} (ha : zr a) (hb : zr b) : iI a ≤ iI b ↔ a ≤ b := by
  rw [Int32.le_iff_toInt_le, iI_toInt ha.1 ha.2, iI_toInt hb.1 hb.2]
theorem iI_eq {a b : Int} (ha : zr a) (hb : zr b) : iI a = iI b ↔ a = b := by
  rw [← Int32.toInt_inj, iI_toInt ha.1 ha.2, iI_toInt hb.1 hb.2]
theorem iI_0 : iI 0 = 0 := rfl
theorem zr_0 : zr 0 := ⟨by decide, by decide⟩
theorem iI_div {a b : Int} (ha : 0 ≤ a) (ha2 : a < 2147483648) (hb : 0 < b) (hb2 : b < 2147483648) : iI a / iI b = iI (a / b) := by
  apply Int32.toInt_inj.mp
  have h1 : 0 ≤ a / b := Int.ediv_nonneg ha (by omega)
  have h2 : a / b ≤ a := Int.ediv_le_self b ha
  rw [lg_idiv_nonneg (by rw [iI_toInt (by omega) ha2]; exact ha) (by rw [iI_toInt (by omega) hb2]; exact hb), iI_toInt (by omega) ha2, iI_toInt (by omega) hb2, iI_toInt (by omega) (by omega)]
theorem iI_rem {a b : Int} (ha : 0 ≤ a) (ha2 : a < 2147483648) (hb : 0 < b) (hb2 : b < 2147483648) : iI a - iI a / iI b * iI b = iI (a % b) := by
  rw [iI_div ha ha2 hb hb2, iI_mul, iI_sub, Int.mul_comm (a / b) b]
  exact congrArg iI (by have := Int.mul_ediv_add_emod a b; omega)
theorem iI_in {i : Int} {N : Nat} (h0 : 0 ≤ i) (h1 : i < N) (hN : N < 2147483648) : vp_in (iI i) N := by
  rw [vp_in_iff, iI_toInt (by omega) (by omega)]
  exact ⟨h0, h1⟩
theorem iI_cl {i : Int} (h0 : 0 ≤ i) (h1 : i < 2147483648) : ((iI i).toNatClampNeg : Int) = i := by
  show (((iI i).toInt.toNat : Nat) : Int) = i
  rw [iI_toInt (by omega) h1]
  omega
/-- a row of ints -/
def ar (f : Int → Int) : Nat → Int32 := fun k => iI (f k)
/-- a place of a row is set -/
def up (f : Int → Int) (k x : Int) : Int → Int := fun j => if j = k then x else f j
theorem up_at (f : Int → Int) (k x : Int) : up f k x k = x := if_pos rfl
theorem up_ne {f : Int → Int} {k x j : Int} (h : j ≠ k) : up f k x j = f j := if_neg h
theorem ar_get {f : Int → Int} {i : Int} (h0 : 0 ≤ i) (h1 : i < 2147483648) : ar f (iI i).toNatClampNeg = iI (f i) := by
  show iI (f _) = _
  rw [iI_cl h0 h1]
theorem ar_upd {f : Int → Int} {i x : Int} (h0 : 0 ≤ i) (h1 : i < 2147483648) : upd (ar f) (iI i).toNatClampNeg (iI x) = ar (up f i x) := by
  funext j
  have e := iI_cl h0 h1
  show (if j = (iI i).toNatClampNeg then iI x else iI (f j)) = iI (if (j : Int) = i then x else f j)
  by_cases h : j = (iI i).toNatClampNeg
  · have h' : (j : Int) = i := by omega
    rw [if_pos h, if_pos h']
  · have h' : ¬ (j : Int) = i := by omega
    rw [if_neg h, if_neg h']
/-- the world's fixed things: class numbers and slots; addresses by place; how many places; array classes; addresses of the constants -/
abbrev zE : Type := va_G × (Nat → Nat) × Nat × (Nat → ClassId) × (Nat → Nat)
abbrev zD (E : zE) : va_G := E.1
abbrev ad (E : zE) : Nat → Nat := E.2.1
abbrev zn (E : zE) : Nat := E.2.2.1
abbrev ca (E : zE) : Nat → ClassId := E.2.2.2.1
abbrev zg (E : zE) : Nat → Nat := E.2.2.2.2
abbrev zW : Type := Nat → va_E
def wl (E : zE) (w : zW) : va_W := (List.range (zn E)).map (fun k => (ad E k, w k))
theorem wl_get {E : zE} {w : zW} {q : Nat} (h : q < zn E) : (wl E w)[q]? = some (ad E q, w q) := by
  simp [wl, List.getElem?_map, List.getElem?_range h]
def uw (w : zW) (q : Nat) (e : va_E) : zW := fun k => if k = q then e else w k
theorem wl_set {E : zE} {w : zW} {q : Nat} {e : va_E} : (wl E w).set q (ad E q, e) = wl E (uw w q e) := by
  apply List.ext_getElem?
  intro k
  by_cases hk : k < zn E
  · rw [wl_get hk]
    by_cases h : q = k
    · subst h
      rw [List.getElem?_set_self (by simpa [wl] using hk)]
      simp [uw]
    · rw [List.getElem?_set_ne h, wl_get hk]
      have h' : ¬ k = q := fun z => h z.symm
      simp [uw, h']
  · rw [List.getElem?_eq_none (by simpa [wl] using hk), List.getElem?_eq_none (by simpa [wl] using hk)]
abbrev ztys (E : zE) : List (ClassId × FieldType) := [(ca E 0, .int), (ca E 1, .char), (ca E 2, .boolean), (ca E 3, .object "ScaledNumeralDesk$Numeral"), (ca E 4, .object "ScaledNumeralDesk$Sum")]
abbrev zar (E : zE) (N : Nat) (f : Int → Int) : va_E := .inl (ca E 0, N, .inl (ar f))
abbrev zac (E : zE) (N : Nat) (f : Int → Int) : va_E := .inl (ca E 1, N, .inl (ar f))
abbrev zaz (E : zE) (N : Nat) (f : Int → Int) : va_E := .inl (ca E 2, N, .inl (ar f))
abbrev zK (E : zE) (U : State) : Prop := va_K (zD E) vwCl (ztys E) U
/-- the heap holds the world w; since the start nothing outside A has changed -/
def zH (E : zE) (w : zW) (A : Nat → Prop) (H0 H : Heap) (locs : List Loc) : Prop := va_P (zD E) vwCl (wl E w) H ∧ va_D A (wl E w) ∧ va_S A H0 H locs
def tens (j : Nat) : Int := 10 ^ j
def Tp (i : Int) : Int := 10 ^ i.toNat
theorem Tp_in {i : Int} (h0 : 0 ≤ i) (h1 : i < 4) : 1 ≤ Tp i ∧ Tp i ≤ 1000 := by
  have c : i = 0 ∨ i = 1 ∨ i = 2 ∨ i = 3 := by omega
  rcases c with c | c | c | c <;> rw [c] <;> decide
/-- the texts: of the four kinds, then the words of the buffer -/
def lenS : List Nat := [9, 0, 8, 3, 3, 8, 3]
def bytS : List (List Int32) := [[45, 73, 110, 102, 105, 110, 105, 116, 121], [], [73, 110, 102, 105, 110, 105, 116, 121], [78, 97, 78], [110, 97, 110], [105, 110, 102, 105, 110, 105, 116, 121], [105, 110, 102]]
def zT (E : zE) (A : Nat → Prop) (U : State) (H : Heap) : Prop :=
  (∀ i, i < 4 → va_OF "ScaledNumeralDesk$Kind" "text" "Ljava/lang/String;" (.ref (zg E (5 + i))) (zg E (1 + i)) A U H) ∧ vk_S 7 lenS bytS (fun i => zg E (5 + i)) (fun i => zg E (12 + i)) A U H ∧
  va_Z "java/lang/String" "COMPACT_STRINGS" "Z" (.int 1) A U H ∧ va_Zq "jdk/internal/util/Preconditions" "SIOOBE_FORMATTER" "Ljava/util/function/BiFunction;" A U H
theorem zT.kept {E : zE} {A : Nat → Prop} {U : State} {H H1 : Heap} (h : zT E A U H) (hq : ∀ a : Nat, a < H.size → ¬ A a → H1[a]? = H[a]?) : zT E A U H1 := ⟨fun i hi => (h.1 i hi).kept hq, h.2.1.kept hq, h.2.2.1.kept hq, h.2.2.2.kept hq⟩
theorem zT.narrow {E : zE} {A B : Nat → Prop} {U : State} {H : Heap} (h : zT E A U H) (hAB : ∀ q, B q → A q) : zT E B U H := ⟨fun i hi => (h.1 i hi).narrow hAB, h.2.1.narrow hAB, h.2.2.1.narrow hAB, h.2.2.2.narrow hAB⟩
theorem zT.moved {E : zE} {A : Nat → Prop} {u U : State} {H : Heap} (hvm : u.vm.Alike U.vm) (h : zT E A u H) : zT E A U H := ⟨fun i hi => va_OF.moved hvm (h.1 i hi), vk_S.moved hvm h.2.1, va_Z.moved hvm h.2.2.1, va_Zq.moved hvm h.2.2.2⟩
/-- the constants -/
def zG (E : zE) (A : Nat → Prop) (U : State) (H : Heap) : Prop :=
  va_Z "ScaledNumeralDesk" "TENS" "[I" (.ref (zg E 0)) A U H ∧ va_T .int (zg E 0) 4 (fun j => .int (iI (tens j))) A U H ∧
  va_En "ScaledNumeralDesk$Kind" "LScaledNumeralDesk$Kind;" ["MINUS", "FINITE", "PLUS", "NAN"] [("ScaledNumeralDesk$Kind", "rank", "I", [0, 1, 2, 3])] (fun i => zg E (1 + i)) A U H ∧ zT E A U H
theorem zG.kept {E : zE} {A : Nat → Prop} {U : State} {H H1 : Heap} (h : zG E A U H) (hq : ∀ a : Nat, a < H.size → ¬ A a → H1[a]? = H[a]?) : zG E A U H1 := ⟨h.1.kept hq, h.2.1.kept hq, h.2.2.1.kept hq, h.2.2.2.kept hq⟩
theorem zG.narrow {E : zE} {A B : Nat → Prop} {U : State} {H : Heap} (h : zG E A U H) (hAB : ∀ q, B q → A q) : zG E B U H := ⟨h.1.narrow hAB, h.2.1.narrow hAB, h.2.2.1.narrow hAB, h.2.2.2.narrow hAB⟩
theorem zG.moved {E : zE} {A : Nat → Prop} {u U : State} {H : Heap} (hvm : u.vm.Alike U.vm) (h : zG E A u H) : zG E A U H := ⟨va_Z.moved hvm h.1, va_T.moved hvm h.2.1, va_En.moved hvm h.2.2.1, zT.moved hvm h.2.2.2⟩
/-- links of nest mates, and the words of the buffer -/
def zN (E : zE) (U : State) : Prop := va_Nw (.fieldLinkNest "ScaledNumeralDesk$Row" 15 "ScaledNumeralDesk" "TENS" "[I" "ScaledNumeralDesk") U ∧ va_Nw (.fieldLinkNest "ScaledNumeralDesk$Buffer" 100 "ScaledNumeralDesk" "TENS" "[I" "ScaledNumeralDesk") U ∧
  vk_R "ScaledNumeralDesk$Buffer" 19 "nan" (zg E 9) U ∧ vk_R "ScaledNumeralDesk$Buffer" 41 "infinity" (zg E 10) U ∧ vk_R "ScaledNumeralDesk$Buffer" 43 "inf" (zg E 11) U
theorem zN.warm {E : zE} {s U : State} (hW : s.WarmedH U.vm) (h : zN E s) : zN E U := ⟨va_Nw.warmF hW h.1, va_Nw.warmF hW h.2.1, vk_R.warm hW h.2.2.1, vk_R.warm hW h.2.2.2.1, vk_R.warm hW h.2.2.2.2⟩
theorem zN.same {E : zE} {u U : State} (hv : u.vm = U.vm) (h : zN E u) : zN E U := ⟨va_Nw.same rfl hv h.1, va_Nw.same rfl hv h.2.1, vk_R.same hv.symm h.2.2.1, vk_R.same hv.symm h.2.2.2.1, vk_R.same hv.symm h.2.2.2.2⟩
/-- a contract's start and end -/
def zPre (E : zE) (w : zW) (sz : Nat) (U : State) : Prop :=
  U.heap.size = sz ∧ va_P (zD E) vwCl (wl E w) U.heap ∧ zK E U ∧ va_D (fun _ => True) (wl E w) ∧ zG E (va_A (wl E w) sz) U U.heap ∧ zN E U
def zB (E : zE) (w : zW) (sz : Nat) (w' : zW) (t : State) : Prop := va_P (zD E) vwCl (wl E w') t.heap ∧ va_D (va_A (wl E w) sz) (wl E w')
abbrev zQi (E : zE) (w : zW) (post : Int → zW → Prop) (sz : Nat) : Array Value → State → Outcome → State → Prop := va_Qi (fun r w' => ∃ z, r = iI z ∧ post z w') (zB E w sz) (va_A (wl E w) sz)
abbrev zQl (E : zE) (w : zW) (post : Int → zW → Prop) (sz : Nat) : Array Value → State → Outcome → State → Prop := va_Ql (fun r w' => ∃ z, r = Int64.ofInt z ∧ post z w') (zB E w sz) (va_A (wl E w) sz)
abbrev zQv (E : zE) (w : zW) (post : zW → Prop) (sz : Nat) : Array Value → State → Outcome → State → Prop := va_Qv post (zB E w sz) (va_A (wl E w) sz)
/-- a contract: the world w, the arguments vs, the end Q -/
def zM (l : Launch) (y : MethodName) (ws : List Cond) (rm : Room) (E : zE) (vs : List Value) (w : zW) (Q : Nat → Array Value → State → Outcome → State → Prop) : Prop :=
  ∀ sz : Nat, Met l y ws rm (va_Pc vs (zPre E w sz)) (Q sz) 0 0 (va_A (wl E w) sz)
/-- what a walk stands on -/
def zC (E : zE) (w : zW) (cc : ByteArray) (maxL : Nat) (ret : Option FieldType) (ws : List Cond) (own : String) (p : Program) (s : State) (m : MethodId) (args : Array Value) (meth : Method) (c : Code) : Prop :=
  (p.tables.exec = Jvm.exec ∧ c.code = cc ∧ c.maxLocals = maxL ∧ s.vm.findClass own = some m.cls ∧ ∀ w ∈ ws, w.before args s = true) ∧ meth.sig.returnType = ret ∧ meth.locks = false ∧ zK E s ∧ zG E (va_A (wl E w) s.heap.size) s s.heap ∧ zN E s
theorem z_met {l : Launch} {y : MethodName} {ws ws' : List Cond} {rm : Room} {E : zE} {vs : List Value} {w : zW} {Q : Nat → Array Value → State → Outcome → State → Prop} {cc : ByteArray} {maxL : Nat} {ret : Option FieldType}
    (hy : plainFor y = true) (hw : ws = Cond.code y cc maxL ret :: ws') (hl : (lg_sl vs).length ≤ maxL)
    (body : ∀ (p : Program) (e : Env) (s : State) (m : MethodId) (below : List Frame) (meth : Method) (c : Code) (ls : Array Slot) (a : Array Value) (Qf : State → Prop), Qf = MQ below (Q s.heap.size) a s 0 0 (va_A (wl E w) s.heap.size) → zC E w cc maxL ret ws y.cls p s m a meth c → lv_has ls maxL (lv_args 0 vs) → zH E w (va_A (wl E w) s.heap.size) s.heap s.heap [] →
      W p l e rm s m a below meth c s.heap [] 0 0 Qf (F0 m 0 ls [])) : zM l y ws rm E vs w Q := by
  intro sz
  refine va_MetF (cc := cc) (maxL := maxL) (ret := ret) hy hw ?_
  intro p e s m args below meth c s₁ B hml hv
  obtain ⟨rfl, hsz, hP, hK, hD0, hG, hn⟩ := hv
  subst hsz
  rw [lg_entry_eq]
  exact body p e s m below meth c _ _ _ rfl ⟨⟨B.exec, B.bytes, hml, findClass_of_methodNamed B.named, atoms_spec (ws := ws) B.pre⟩, B.returns, B.notSynchronized, hK, hG, hn⟩ (lv_entry vs hl) ⟨hP, hD0.self, va_S.rf⟩
section ZL
variable {p : Program} {l : Launch} {e : Env} {R : Room} {s : State} {m : MethodId} {args : Array Value} {below : List Frame} {meth : Method} {c : Code} {H : Heap} {locs : List Loc} {cells slots : Nat} {Q : State → Prop}
variable {cc : ByteArray} {pc : Nat} {ls : Array Slot} {rest st0 : List Value} {E : zE} {w w0 : zW} {A : Nat → Prop} {H0 : Heap}
theorem zv_iconst (hexec : p.tables.exec = Jvm.exec) (hb : c.code = cc) {n : Int} (hdg : decode cc pc = .ok (.iconst n, 1)) (k : W p l e R s m args below meth c H locs cells slots Q (F0 m (pc + 1) ls (.int (iI n) :: rest))) : W p l e R s m args below meth c H locs cells slots Q (F0 m pc ls rest) := lv_iconst hexec hb hdg rfl k
theorem zv_bipush (hexec : p.tables.exec = Jvm.exec) (hb : c.code = cc) {n : Int} (hdg : decode cc pc = .ok (.bipush n, 2)) (hn : (Int8.ofInt n).toInt32 = iI n) (k : W p l e R s m args below meth c H locs cells slots Q (F0 m (pc + 2) ls (.int (iI n) :: rest))) : W p l e R s m args below meth c H locs cells slots Q (F0 m pc ls rest) := lv_bipush hexec hb hdg hn k
theorem zv_sipush (hexec : p.tables.exec = Jvm.exec) (hb : c.code = cc) {n : Int} (hdg : decode cc pc = .ok (.sipush n, 3)) (hn : (Int16.ofInt n).toInt32 = iI n) (k : W p l e R s m args below meth c H locs cells slots Q (F0 m (pc + 3) ls (.int (iI n) :: rest))) : W p l e R s m args below meth c H locs cells slots Q (F0 m pc ls rest) := lv_sipush hexec hb hdg hn k
theorem zv_iadd (hexec : p.tables.exec = Jvm.exec) (hb : c.code = cc) {x y : Int} (hdg : decode cc pc = .ok (.iadd, 1)) (k : W p l e R s m args below meth c H locs cells slots Q (F0 m (pc + 1) ls (.int (iI (x + y)) :: rest))) : W p l e R s m args below meth c H locs cells slots Q (F0 m pc ls (.int (iI y) :: .int (iI x) :: rest)) :=
  lv_iadd hexec hb hdg (by rw [iI_add]; exact k)
theorem zv_isub (hexec : p.tables.exec = Jvm.exec) (hb : c.code = cc) {x y : Int} (hdg : decode cc pc = .ok (.isub, 1)) (k : W p l e R s m args below meth c H locs cells slots Q (F0 m (pc + 1) ls (.int (iI (x - y)) :: rest))) : W p l e R s m args below meth c H locs cells slots Q (F0 m pc ls (.int (iI y) :: .int (iI x) :: rest)) :=
  lv_isub hexec hb hdg (by rw [iI_sub]; exact k)
theorem zv_imul (hexec : p.tables.exec = Jvm.exec) (hb : c.code = cc) {x y : Int} (hdg : decode cc pc = .ok (.imul, 1)) (k : W p l e R s m args below meth c H locs cells slots Q (F0 m (pc + 1) ls (.int (iI (x * y)) :: rest))) : W p l e R s m args below meth c H locs cells slots Q (F0 m pc ls (.int (iI y) :: .int (iI x) :: rest)) :=
  lv_imul hexec hb hdg (by rw [iI_mul]; exact k)
theorem zv_ineg (hexec : p.tables.exec = Jvm.exec) (hb : c.code = cc) {x : Int} (hdg : decode cc pc = .ok (.ineg, 1)) (k : W p l e R s m args below meth c H locs cells slots Q (F0 m (pc + 1) ls (.int (iI (-x)) :: rest))) : W p l e R s m args below meth c H locs cells slots Q (F0 m pc ls (.int (iI x) :: rest)) :=
  lv_ineg hexec hb hdg (by rw [iI_neg]; exact k)
theorem zv_idiv (hexec : p.tables.exec = Jvm.exec) (hb : c.code = cc) {x y : Int} (h1 : 0 ≤ x) (h2 : x < 2147483648) (h3 : 0 < y) (h4 : y < 2147483648) (hdg : decode cc pc = .ok (.idiv, 1)) (k : W p l e R s m args below meth c H locs cells slots Q (F0 m (pc + 1) ls (.int (iI (x / y)) :: rest))) : W p l e R s m args below meth c H locs cells slots Q (F0 m pc ls (.int (iI y) :: .int (iI x) :: rest)) :=
  lv_idiv hexec hb hdg (by rw [← iI_0, iI_eq ⟨by omega, h4⟩ zr_0]; omega) (by rw [iI_div h1 h2 h3 h4]; exact k)
theorem zv_irem (hexec : p.tables.exec = Jvm.exec) (hb : c.code = cc) {x y : Int} (h1 : 0 ≤ x) (h2 : x < 2147483648) (h3 : 0 < y) (h4 : y < 2147483648) (hdg : decode cc pc = .ok (.irem, 1)) (k : W p l e R s m args below meth c H locs cells slots Q (F0 m (pc + 1) ls (.int (iI (x % y)) :: rest))) : W p l e R s m args below meth c H locs cells slots Q (F0 m pc ls (.int (iI y) :: .int (iI x) :: rest)) :=
  lv_irem hexec hb hdg (by rw [← iI_0, iI_eq ⟨by omega, h4⟩ zr_0]; omega) (by rw [iI_rem h1 h2 h3 h4]; exact k)
theorem zv_iinc (hexec : p.tables.exec = Jvm.exec) (hb : c.code = cc) {i nL k : Nat} {n x : Int} {lv lv' : List (Nat × Value)} (hdg : decode cc pc = .ok (.iinc i n, 3)) (h : lv_has ls nL lv) (hk : lv[k]? = some (i, .int (iI x))) (hn : i < nL) (hl : (i, Value.int (iI (x + n))) :: lv.filter (fun q => !(q.1 == i) && !(q.1 + 1 == i && q.2.category == 2)) = lv') (kk : ∀ ls' : Array Slot, lv_has ls' nL lv' → W p l e R s m args below meth c H locs cells slots Q (F0 m (pc + 3) ls' rest)) : W p l e R s m args below meth c H locs cells slots Q (F0 m pc ls rest) :=
  lv_iinc hexec hb hdg h hk (iI_add x n) hn hl kk
theorem zv_icmp_eq (hexec : p.tables.exec = Jvm.exec) (hb : c.code = cc) {x y : Int} {off : Int} {tgt : Nat} (hdg : decode cc pc = .ok (.if_icmp .eq off, 3)) (ht : (pc : Int) + off = (tgt : Int)) (hx : zr x) (hy : zr y) (kt : x = y → W p l e R s m args below meth c H locs cells slots Q (F0 m tgt ls rest)) (kf : ¬ x = y → W p l e R s m args below meth c H locs cells slots Q (F0 m (pc + 3) ls rest)) : W p l e R s m args below meth c H locs cells slots Q (F0 m pc ls (.int (iI y) :: .int (iI x) :: rest)) :=
  lv_icmp_eq hexec hb hdg ht (fun h => kt ((iI_eq hx hy).mp h)) (fun h => kf (fun z => h ((iI_eq hx hy).mpr z)))
theorem zv_if_eq (hexec : p.tables.exec = Jvm.exec) (hb : c.code = cc) {x : Int} {off : Int} {tgt : Nat} (hdg : decode cc pc = .ok (.ifCond .eq off, 3)) (ht : (pc : Int) + off = (tgt : Int)) (hx : zr x) (kt : x = 0 → W p l e R s m args below meth c H locs cells slots Q (F0 m tgt ls rest)) (kf : ¬ x = 0 → W p l e R s m args below meth c H locs cells slots Q (F0 m (pc + 3) ls rest)) : W p l e R s m args below meth c H locs cells slots Q (F0 m pc ls (.int (iI x) :: rest)) :=
  lv_if_eq hexec hb hdg ht (fun h => kt ((iI_eq hx zr_0).mp h)) (fun h => kf (fun z => h ((iI_eq hx zr_0).mpr z)))
theorem zv_icmp_ne (hexec : p.tables.exec = Jvm.exec) (hb : c.code = cc) {x y : Int} {off : Int} {tgt : Nat} (hdg : decode cc pc = .ok (.if_icmp .ne off, 3)) (ht : (pc : Int) + off = (tgt : Int)) (hx : zr x) (hy : zr y) (kt : ¬ x = y → W p l e R s m args below meth c H locs cells slots Q (F0 m tgt ls rest)) (kf : x = y → W p l e R s m args below meth c H locs cells slots Q (F0 m (pc + 3) ls rest)) : W p l e R s m args below meth c H locs cells slots Q (F0 m pc ls (.int (iI y) :: .int (iI x) :: rest)) :=
  lv_icmp_ne hexec hb hdg ht (fun h => kt (fun z => h ((iI_eq hx hy).mpr z))) (fun h => kf ((iI_eq hx hy).mp h))
theorem zv_if_ne (hexec : p.tables.exec = Jvm.exec) (hb : c.code = cc) {x : Int} {off : Int} {tgt : Nat} (hdg : decode cc pc = .ok (.ifCond .ne off, 3)) (ht : (pc : Int) + off = (tgt : Int)) (hx : zr x) (kt : ¬ x = 0 → W p l e R s m args below meth c H locs cells slots Q (F0 m tgt ls rest)) (kf : x = 0 → W p l e R s m args below meth c H locs cells slots Q (F0 m (pc + 3) ls rest)) : W p l e R s m args below meth c H locs cells slots Q (F0 m pc ls (.int (iI x) :: rest)) :=
  lv_if_ne hexec hb hdg ht (fun h => kt (fun z => h ((iI_eq hx zr_0).mpr z))) (fun h => kf ((iI_eq hx zr_0).mp h))
theorem zv_icmp_lt (hexec : p.tables.exec = Jvm.exec) (hb : c.code = cc) {x y : Int} {off : Int} {tgt : Nat} (hdg : decode cc pc = .ok (.if_icmp .lt off, 3)) (ht : (pc : Int) + off = (tgt : Int)) (hx : zr x) (hy : zr y) (kt : x < y → W p l e R s m args below meth c H locs cells slots Q (F0 m tgt ls rest)) (kf : y ≤ x → W p l e R s m args below meth c H locs cells slots Q (F0 m (pc + 3) ls rest)) : W p l e R s m args below meth c H locs cells slots Q (F0 m pc ls (.int (iI y) :: .int (iI x) :: rest)) :=
  lv_icmp_lt hexec hb hdg ht (fun h => kt ((iI_lt hx hy).mp h)) (fun h => kf (Int.not_lt.mp (fun z => h ((iI_lt hx hy).mpr z))))
theorem zv_if_lt (hexec : p.tables.exec = Jvm.exec) (hb : c.code = cc) {x : Int} {off : Int} {tgt : Nat} (hdg : decode cc pc = .ok (.ifCond .lt off, 3)) (ht : (pc : Int) + off = (tgt : Int)) (hx : zr x) (kt : x < 0 → W p l e R s m args below meth c H locs cells slots Q (F0 m tgt ls rest)) (kf : 0 ≤ x → W p l e R s m args below meth c H locs cells slots Q (F0 m (pc + 3) ls rest)) : W p l e R s m args below meth c H locs cells slots Q (F0 m pc ls (.int (iI x) :: rest)) :=
  lv_if_lt hexec hb hdg ht (fun h => kt ((iI_lt hx zr_0).mp h)) (fun h => kf (Int.not_lt.mp (fun z => h ((iI_lt hx zr_0).mpr z))))
theorem zv_icmp_ge (hexec : p.tables.exec = Jvm.exec) (hb : c.code = cc) {x y : Int} {off : Int} {tgt : Nat} (hdg : decode cc pc = .ok (.if_icmp .ge off, 3)) (ht : (pc : Int) + off = (tgt : Int)) (hx : zr x) (hy : zr y) (kt : y ≤ x → W p l e R s m args below meth c H locs cells slots Q (F0 m tgt ls rest)) (kf : x < y → W p l e R s m args below meth c H locs cells slots Q (F0 m (pc + 3) ls rest)) : W p l e R s m args below meth c H locs cells slots Q (F0 m pc ls (.int (iI y) :: .int (iI x) :: rest)) :=
  lv_icmp_ge hexec hb hdg ht (fun h => kt ((iI_le hy hx).mp h)) (fun h => kf (Int.not_le.mp (fun z => h ((iI_le hy hx).mpr z))))
theorem zv_if_ge (hexec : p.tables.exec = Jvm.exec) (hb : c.code = cc) {x : Int} {off : Int} {tgt : Nat} (hdg : decode cc pc = .ok (.ifCond .ge off, 3)) (ht : (pc : Int) + off = (tgt : Int)) (hx : zr x) (kt : 0 ≤ x → W p l e R s m args below meth c H locs cells slots Q (F0 m tgt ls rest)) (kf : x < 0 → W p l e R s m args below meth c H locs cells slots Q (F0 m (pc + 3) ls rest)) : W p l e R s m args below meth c H locs cells slots Q (F0 m pc ls (.int (iI x) :: rest)) :=
  lv_if_ge hexec hb hdg ht (fun h => kt ((iI_le zr_0 hx).mp h)) (fun h => kf (Int.not_le.mp (fun z => h ((iI_le zr_0 hx).mpr z))))
theorem zv_icmp_gt (hexec : p.tables.exec = Jvm.exec) (hb : c.code = cc) {x y : Int} {off : Int} {tgt : Nat} (hdg : decode cc pc = .ok (.if_icmp .gt off, 3)) (ht : (pc : Int) + off = (tgt : Int)) (hx : zr x) (hy : zr y) (kt : y < x → W p l e R s m args below meth c H locs cells slots Q (F0 m tgt ls rest)) (kf : x ≤ y → W p l e R s m args below meth c H locs cells slots Q (F0 m (pc + 3) ls rest)) : W p l e R s m args below meth c H locs cells slots Q (F0 m pc ls (.int (iI y) :: .int (iI x) :: rest)) :=
  lv_icmp_gt hexec hb hdg ht (fun h => kt ((iI_lt hy hx).mp h)) (fun h => kf (Int.not_lt.mp (fun z => h ((iI_lt hy hx).mpr z))))
theorem zv_if_gt (hexec : p.tables.exec = Jvm.exec) (hb : c.code = cc) {x : Int} {off : Int} {tgt : Nat} (hdg : decode cc pc = .ok (.ifCond .gt off, 3)) (ht : (pc : Int) + off = (tgt : Int)) (hx : zr x) (kt : 0 < x → W p l e R s m args below meth c H locs cells slots Q (F0 m tgt ls rest)) (kf : x ≤ 0 → W p l e R s m args below meth c H locs cells slots Q (F0 m (pc + 3) ls rest)) : W p l e R s m args below meth c H locs cells slots Q (F0 m pc ls (.int (iI x) :: rest)) :=
  lv_if_gt hexec hb hdg ht (fun h => kt ((iI_lt zr_0 hx).mp h)) (fun h => kf (Int.not_lt.mp (fun z => h ((iI_lt zr_0 hx).mpr z))))
theorem zv_icmp_le (hexec : p.tables.exec = Jvm.exec) (hb : c.code = cc) {x y : Int} {off : Int} {tgt : Nat} (hdg : decode cc pc = .ok (.if_icmp .le off, 3)) (ht : (pc : Int) + off = (tgt : Int)) (hx : zr x) (hy : zr y) (kt : x ≤ y → W p l e R s m args below meth c H locs cells slots Q (F0 m tgt ls rest)) (kf : y < x → W p l e R s m args below meth c H locs cells slots Q (F0 m (pc + 3) ls rest)) : W p l e R s m args below meth c H locs cells slots Q (F0 m pc ls (.int (iI y) :: .int (iI x) :: rest)) :=
  lv_icmp_le hexec hb hdg ht (fun h => kt ((iI_le hx hy).mp h)) (fun h => kf (Int.not_le.mp (fun z => h ((iI_le hx hy).mpr z))))
theorem zv_if_le (hexec : p.tables.exec = Jvm.exec) (hb : c.code = cc) {x : Int} {off : Int} {tgt : Nat} (hdg : decode cc pc = .ok (.ifCond .le off, 3)) (ht : (pc : Int) + off = (tgt : Int)) (hx : zr x) (kt : x ≤ 0 → W p l e R s m args below meth c H locs cells slots Q (F0 m tgt ls rest)) (kf : 0 < x → W p l e R s m args below meth c H locs cells slots Q (F0 m (pc + 3) ls rest)) : W p l e R s m args below meth c H locs cells slots Q (F0 m pc ls (.int (iI x) :: rest)) :=
  lv_if_le hexec hb hdg ht (fun h => kt ((iI_le hx zr_0).mp h)) (fun h => kf (Int.not_le.mp (fun z => h ((iI_le hx zr_0).mpr z))))
theorem zv_iald (hexec : p.tables.exec = Jvm.exec) (hb : c.code = cc) (hK : zK E s) (hH : zH E w A H0 H locs) {q : Nat} (hq : q < zn E) {N : Nat} {f : Int → Int} (he : w q = zar E N f) {i : Int} (h0 : 0 ≤ i) (h1 : i < N) (hN : N < 2147483648) (hdg : decode cc pc = .ok (.iaload, 1)) (kk : W p l e R s m args below meth c H locs cells slots Q (F0 m (pc + 1) ls (.int (iI (f i)) :: rest))) : W p l e R s m args below meth c H locs cells slots Q (F0 m pc ls (.int (iI i) :: .ref (ad E q) :: rest)) :=
  va_iald hexec hb hK hH.1 q 0 (by rw [wl_get hq, he]) rfl (iI_in h0 h1 hN) hdg (by rw [ar_get h0 (by omega)]; exact kk)
theorem zv_cald (hexec : p.tables.exec = Jvm.exec) (hb : c.code = cc) (hK : zK E s) (hH : zH E w A H0 H locs) {q : Nat} (hq : q < zn E) {N : Nat} {f : Int → Int} (he : w q = zac E N f) {i : Int} (h0 : 0 ≤ i) (h1 : i < N) (hN : N < 2147483648) (hdg : decode cc pc = .ok (.caload, 1)) (kk : W p l e R s m args below meth c H locs cells slots Q (F0 m (pc + 1) ls (.int (iI (f i)) :: rest))) : W p l e R s m args below meth c H locs cells slots Q (F0 m pc ls (.int (iI i) :: .ref (ad E q) :: rest)) :=
  va_cald hexec hb hK hH.1 q 1 (by rw [wl_get hq, he]) rfl (iI_in h0 h1 hN) hdg (by rw [ar_get h0 (by omega)]; exact kk)
theorem zv_zald (hexec : p.tables.exec = Jvm.exec) (hb : c.code = cc) (hK : zK E s) (hH : zH E w A H0 H locs) {q : Nat} (hq : q < zn E) {N : Nat} {f : Int → Int} (he : w q = zaz E N f) {i : Int} (h0 : 0 ≤ i) (h1 : i < N) (hN : N < 2147483648) (hdg : decode cc pc = .ok (.baload, 1)) (kk : W p l e R s m args below meth c H locs cells slots Q (F0 m (pc + 1) ls (.int (iI (f i)) :: rest))) : W p l e R s m args below meth c H locs cells slots Q (F0 m pc ls (.int (iI i) :: .ref (ad E q) :: rest)) :=
  va_zald hexec hb hK hH.1 q 2 (by rw [wl_get hq, he]) rfl (iI_in h0 h1 hN) hdg (by rw [ar_get h0 (by omega)]; exact kk)
theorem zv_iast (hexec : p.tables.exec = Jvm.exec) (hb : c.code = cc) (hK : zK E s) (hH : zH E w A H0 H locs) {q : Nat} (hq : q < zn E) {N : Nat} {f : Int → Int} (he : w q = zar E N f) {i x : Int} (h0 : 0 ≤ i) (h1 : i < N) (hN : N < 2147483648) (hdg : decode cc pc = .ok (.iastore, 1))
    (kk : ∀ (H1 : Heap) (locs1 : List Loc) (w1 : zW), zH E w1 A H0 H1 locs1 → w1 q = zar E N (up f i x) → (∀ k, k ≠ q → w1 k = w k) → W p l e R s m args below meth c H1 locs1 cells slots Q (F0 m (pc + 1) ls rest)) : W p l e R s m args below meth c H locs cells slots Q (F0 m pc ls (.int (iI x) :: .int (iI i) :: .ref (ad E q) :: rest)) :=
  va_iast hexec hb hK hH.1 hH.2.1 hH.2.2 q 0 (by rw [wl_get hq, he]) rfl (iI_in h0 h1 hN) hdg (fun H1 locs1 hP hD hS => by
    rw [ar_upd h0 (by omega), wl_set] at hP hD
    exact kk H1 locs1 _ ⟨hP, hD, hS⟩ (if_pos rfl) (fun k hk => if_neg hk))
theorem zv_alen (hexec : p.tables.exec = Jvm.exec) (hb : c.code = cc) (hK : zK E s) (hH : zH E w A H0 H locs) {q : Nat} (hq : q < zn E) {N : Nat} {f : Int → Int} (he : w q = zar E N f) (hdg : decode cc pc = .ok (.arraylength, 1)) (kk : W p l e R s m args below meth c H locs cells slots Q (F0 m (pc + 1) ls (.int (iI (N : Int)) :: rest))) : W p l e R s m args below meth c H locs cells slots Q (F0 m pc ls (.ref (ad E q) :: rest)) :=
  va_alen hexec hb hK hH.1 q 0 (x := (N, .inl (ar f))) (by rw [wl_get hq, he]) rfl (v := iI (N : Int)) (Int32.ofInt_eq_ofNat).symm hdg kk
theorem zv_get (hexec : p.tables.exec = Jvm.exec) (hb : c.code = cc) {own ref C : String} {T : u_T} {N ci index : Nat} {Ts : List Cond} (hts : ∀ w ∈ Ts, w.before args s = true) (hin : ∀ w ∈ u_ws C T N, w ∈ Ts) (hown : s.vm.findClass own = some m.cls) (hK : zK E s) (hH : zH E w A H0 H locs) {q : Nat} (hq : q < zn E) {fs : List Value} (he : w q = .inr (ci, fs)) (hc : vwCl[ci]? = some (C, T, N)) (k : Nat) (hk : k < N)
    (hlink : (Cond.fieldLink own index ref (T k).2.1 (T k).2.2.1).before args s = true) (hsame : ∀ x, s.fieldFound? (T k).1 (T k).2.1 (T k).2.2.1 = some x → s.fieldFound? ref (T k).2.1 (T k).2.2.1 = some x) {v : Value} (hv : fs[k]? = some v) (hdg : decode cc pc = .ok (.getfield index, 3)) (kk : W p l e R s m args below meth c H locs cells slots Q (F0 m (pc + 3) ls (v :: rest))) : W p l e R s m args below meth c H locs cells slots Q (F0 m pc ls (.ref (ad E q) :: rest)) :=
  va_get hexec hb hts hin hown hK hH.1 q (by rw [wl_get hq, he]) hc k hk hlink hsame hv hdg kk
theorem zv_getN (hexec : p.tables.exec = Jvm.exec) (hb : c.code = cc) {own ref C host : String} {T : u_T} {N ci index : Nat} {Ts : List Cond} (hts : ∀ w ∈ Ts, w.before args s = true) (hin : ∀ w ∈ u_ws C T N, w ∈ Ts) (hown : s.vm.findClass own = some m.cls) (hK : zK E s) (hH : zH E w A H0 H locs) {q : Nat} (hq : q < zn E) {fs : List Value} (he : w q = .inr (ci, fs)) (hc : vwCl[ci]? = some (C, T, N)) (k : Nat) (hk : k < N)
    (hlink : (Cond.fieldLinkNest own index ref (T k).2.1 (T k).2.2.1 host).before args s = true) (hsame : ∀ x, s.fieldFound? (T k).1 (T k).2.1 (T k).2.2.1 = some x → s.fieldFound? ref (T k).2.1 (T k).2.2.1 = some x) {v : Value} (hv : fs[k]? = some v) (hdg : decode cc pc = .ok (.getfield index, 3)) (kk : W p l e R s m args below meth c H locs cells slots Q (F0 m (pc + 3) ls (v :: rest))) : W p l e R s m args below meth c H locs cells slots Q (F0 m pc ls (.ref (ad E q) :: rest)) :=
  va_getN hexec hb hts hin hown hK hH.1 q (by rw [wl_get hq, he]) hc k hk hlink hsame hv hdg kk
theorem zv_put (hexec : p.tables.exec = Jvm.exec) (hb : c.code = cc) {own ref C : String} {T : u_T} {N ci index : Nat} {Ts : List Cond} (hts : ∀ w ∈ Ts, w.before args s = true) (hin : ∀ w ∈ u_ws C T N, w ∈ Ts) (ty0 : Nat → FieldType) (hty : ∀ k, k < N → parseFieldDescriptor (T k).2.2.1 = some (ty0 k)) (hnm : ∀ a, a < N → ∀ b, b < N → a ≠ b → (T a).2.1 ≠ (T b).2.1) (hown : s.vm.findClass own = some m.cls) (hK : zK E s) (hH : zH E w A H0 H locs) {q : Nat} (hq : q < zn E) {fs : List Value} (he : w q = .inr (ci, fs)) (hc : vwCl[ci]? = some (C, T, N)) (k : Nat) (hk : k < N)
    (hlink : (Cond.fieldLink own index ref (T k).2.1 (T k).2.2.1).before args s = true) (hsame : ∀ x, s.fieldFound? (T k).1 (T k).2.1 (T k).2.2.1 = some x → s.fieldFound? ref (T k).2.1 (T k).2.2.1 = some x) (hfin : (T k).2.2.2 = false) {ty : FieldType} {v : Value} (hd : parseFieldDescriptor (T k).2.2.1 = some ty) (hn : narrow ty v = v) (hfit : fits ty v = true) (hl : k < fs.length) (hdg : decode cc pc = .ok (.putfield index, 3)) {fs' : List Value} (hfs : fs.set k v = fs')
    (kk : ∀ (H1 : Heap) (locs1 : List Loc) (w1 : zW), zH E w1 A H0 H1 locs1 → w1 q = .inr (ci, fs') → (∀ k, k ≠ q → w1 k = w k) → W p l e R s m args below meth c H1 locs1 cells slots Q (F0 m (pc + 3) ls rest)) : W p l e R s m args below meth c H locs cells slots Q (F0 m pc ls (v :: .ref (ad E q) :: rest)) :=
  va_put hexec hb hts hin ty0 hty hnm hown hK hH.1 hH.2.1 hH.2.2 q (by rw [wl_get hq, he]) hc k hk hlink hsame hfin hd hn hfit hl hdg (fun H1 locs1 hP hD hS => by
    rw [wl_set] at hP hD
    subst hfs
    exact kk H1 locs1 _ ⟨hP, hD, hS⟩ (if_pos rfl) (fun k hk => if_neg hk))
theorem zv_putN (hexec : p.tables.exec = Jvm.exec) (hb : c.code = cc) {own ref C host : String} {T : u_T} {N ci index : Nat} {Ts : List Cond} (hts : ∀ w ∈ Ts, w.before args s = true) (hin : ∀ w ∈ u_ws C T N, w ∈ Ts) (ty0 : Nat → FieldType) (hty : ∀ k, k < N → parseFieldDescriptor (T k).2.2.1 = some (ty0 k)) (hnm : ∀ a, a < N → ∀ b, b < N → a ≠ b → (T a).2.1 ≠ (T b).2.1) (hown : s.vm.findClass own = some m.cls) (hK : zK E s) (hH : zH E w A H0 H locs) {q : Nat} (hq : q < zn E) {fs : List Value} (he : w q = .inr (ci, fs)) (hc : vwCl[ci]? = some (C, T, N)) (k : Nat) (hk : k < N)
    (hlink : (Cond.fieldLinkNest own index ref (T k).2.1 (T k).2.2.1 host).before args s = true) (hsame : ∀ x, s.fieldFound? (T k).1 (T k).2.1 (T k).2.2.1 = some x → s.fieldFound? ref (T k).2.1 (T k).2.2.1 = some x) (hfin : (T k).2.2.2 = false) {ty : FieldType} {v : Value} (hd : parseFieldDescriptor (T k).2.2.1 = some ty) (hn : narrow ty v = v) (hfit : fits ty v = true) (hl : k < fs.length) (hdg : decode cc pc = .ok (.putfield index, 3)) {fs' : List Value} (hfs : fs.set k v = fs')
    (kk : ∀ (H1 : Heap) (locs1 : List Loc) (w1 : zW), zH E w1 A H0 H1 locs1 → w1 q = .inr (ci, fs') → (∀ k, k ≠ q → w1 k = w k) → W p l e R s m args below meth c H1 locs1 cells slots Q (F0 m (pc + 3) ls rest)) : W p l e R s m args below meth c H locs cells slots Q (F0 m pc ls (v :: .ref (ad E q) :: rest)) :=
  va_putN hexec hb hts hin ty0 hty hnm hown hK hH.1 hH.2.1 hH.2.2 q (by rw [wl_get hq, he]) hc k hk hlink hsame hfin hd hn hfit hl hdg (fun H1 locs1 hP hD hS => by
    rw [wl_set] at hP hD
    subst hfs
    exact kk H1 locs1 _ ⟨hP, hD, hS⟩ (if_pos rfl) (fun k hk => if_neg hk))
/-- the table of tens -/
theorem zv_tens (hexec : p.tables.exec = Jvm.exec) (hb : c.code = cc) (hG : zG E A s s.heap) (hH : zH E w A s.heap H locs) {own ref : String} {index : Nat} (hown : s.vm.findClass own = some m.cls) (hlink : (Cond.fieldLinkNest own index ref "TENS" "[I" "ScaledNumeralDesk").before args s = true) (hsame : ∀ x, s.fieldFound? "ScaledNumeralDesk" "TENS" "[I" = some x → s.fieldFound? ref "TENS" "[I" = some x) (hdg : decode cc pc = .ok (.getstatic index, 3)) (kk : W p l e R s m args below meth c H locs cells slots Q (F0 m (pc + 3) ls (.ref (zg E 0) :: rest))) : W p l e R s m args below meth c H locs cells slots Q (F0 m pc ls rest) :=
  va_getsN hexec hb hG.1 hH.2.2 hown hlink hsame hdg kk
theorem zv_tenld (hexec : p.tables.exec = Jvm.exec) (hb : c.code = cc) (hG : zG E A s s.heap) (hH : zH E w A s.heap H locs) {i : Int} (h0 : 0 ≤ i) (h1 : i < 4) (hdg : decode cc pc = .ok (.iaload, 1)) (kk : W p l e R s m args below meth c H locs cells slots Q (F0 m (pc + 1) ls (.int (iI (Tp i)) :: rest))) : W p l e R s m args below meth c H locs cells slots Q (F0 m pc ls (.int (iI i) :: .ref (zg E 0) :: rest)) :=
  va_ti hexec hb hG.2.1 hH.2.2 (iI_in (N := 4) h0 (by omega) (by decide)) (v := .int (iI (Tp i))) (by
    have e := iI_cl h0 (by omega)
    show Value.int (iI (10 ^ (iI i).toNatClampNeg)) = _
    rw [show (iI i).toNatClampNeg = i.toNat by omega]; rfl) hdg kk
/-- calls -/
theorem z_in (hH : zH E w A s.heap H locs) (hA : ∀ q, s.heap.size ≤ q → A q) : ∀ q, va_A (wl E w) H.size q → A q := by
  intro q hq
  rcases hq with ⟨k, e9, h⟩ | h
  · exact hH.2.1.2 k (q, e9) h
  · exact hA q (Nat.le_trans hH.2.2.1 h)
theorem z_preAt (hK : zK E s) (hG : zG E A s s.heap) (hn : zN E s) (hH : zH E w A s.heap H locs) (hA : ∀ q, s.heap.size ≤ q → A q) {U : State} (hU : U.heap = H) (hW : s.WarmedH U.vm) : zPre E w H.size U := by
  refine ⟨by rw [hU], by rw [hU]; exact hH.1, va_K.moved hW.alike hK, hH.2.1.weaken (fun _ _ _ _ => trivial), ?_, zN.warm hW hn⟩
  rw [hU]
  exact zG.moved hW.alike ((hG.kept (fun a h1 h2 => hH.2.2.2.1 a h1 h2)).narrow (z_in hH hA))
theorem z_blind {vs : List Value} {sz : Nat} : FrameBlind (va_Pc vs (zPre E w sz)) := by
  intro a U g mk q
  obtain ⟨q0, q1, qP, qK, qD, qG, qn⟩ := q
  exact ⟨q0, q1, qP, va_K.moved (u := U) (U := U.calling g mk a) (Vm.Alike.refl U.vm) qK, qD, zG.moved (u := U) (U := U.calling g mk a) (Vm.Alike.refl U.vm) qG, zN.same (u := U) (U := U.calling g mk a) rfl qn⟩
theorem z_preS {As : List Value} (hK : zK E s) (hG : zG E A s s.heap) (hn : zN E s) (hH : zH E w A s.heap H locs) (hA : ∀ q, s.heap.size ≤ q → A q) : PreS s H (va_Pc As (zPre E w H.size)) As :=
  ⟨z_blind, fun _ hU hW => ⟨rfl, z_preAt hK hG hn hH hA hU hW⟩⟩
theorem z_preV {As : List Value} {q ci : Nat} {fs : List Value} {r : vw_C} (hK : zK E s) (hG : zG E A s s.heap) (hn : zN E s) (hH : zH E w A s.heap H locs) (hA : ∀ q, s.heap.size ≤ q → A q) (hq : q < zn E) (he : w q = .inr (ci, fs)) (hc : vwCl[ci]? = some r) : PreV s H r.1 (ad E q) (va_Pc (.ref (ad E q) :: As) (zPre E w H.size)) As :=
  ⟨z_blind, va_recv (q := r) hK hH.1 hc (q0 := q) (by rw [wl_get hq, he]), fun _ hU hW => ⟨rfl, z_preAt hK hG hn hH hA hU hW⟩⟩
theorem z_calli {post : Int → zW → Prop} {a : Array Value} (hr : va_Run p l e R s m args below meth c H locs cells slots 0 0 (F0 m pc ls st0) rest (zQi E w post H.size a) (va_A (wl E w) H.size)) (hH : zH E w A s.heap H locs) (hA : ∀ q, s.heap.size ≤ q → A q)
    (kk : ∀ (z : Int) (w' : zW) (H' : Heap) (locs' : List Loc), zH E w' A s.heap H' locs' → post z w' → W p l e R s m args below meth c H' locs' cells slots Q (F0 m (pc + 3) ls (.int (iI z) :: rest))) : W p l e R s m args below meth c H locs cells slots Q (F0 m pc ls st0) :=
  va_calli hr hH.2.2 (fun q _ h => z_in hH hA q h) (z_in hH hA) (fun r w' t H1 locs1 ht _ hp hB _ _ hS => by
    obtain ⟨z, rfl, hz⟩ := hp
    exact kk z w' H1 locs1 ⟨by rw [← ht]; exact hB.1, hB.2.weaken (fun _ q _ h => z_in hH hA q.1 h), hS⟩ hz)
theorem z_calll {post : Int → zW → Prop} {a : Array Value} (hr : va_Run p l e R s m args below meth c H locs cells slots 0 0 (F0 m pc ls st0) rest (zQl E w post H.size a) (va_A (wl E w) H.size)) (hH : zH E w A s.heap H locs) (hA : ∀ q, s.heap.size ≤ q → A q)
    (kk : ∀ (z : Int) (w' : zW) (H' : Heap) (locs' : List Loc), zH E w' A s.heap H' locs' → post z w' → W p l e R s m args below meth c H' locs' cells slots Q (F0 m (pc + 3) ls (.long (Int64.ofInt z) :: rest))) : W p l e R s m args below meth c H locs cells slots Q (F0 m pc ls st0) :=
  va_calll hr hH.2.2 (fun q _ h => z_in hH hA q h) (z_in hH hA) (fun r w' t H1 locs1 ht _ hp hB _ _ hS => by
    obtain ⟨z, rfl, hz⟩ := hp
    exact kk z w' H1 locs1 ⟨by rw [← ht]; exact hB.1, hB.2.weaken (fun _ q _ h => z_in hH hA q.1 h), hS⟩ hz)
theorem z_callv {post : zW → Prop} {a : Array Value} (hr : va_Run p l e R s m args below meth c H locs cells slots 0 0 (F0 m pc ls st0) rest (zQv E w post H.size a) (va_A (wl E w) H.size)) (hH : zH E w A s.heap H locs) (hA : ∀ q, s.heap.size ≤ q → A q)
    (kk : ∀ (w' : zW) (H' : Heap) (locs' : List Loc), zH E w' A s.heap H' locs' → post w' → W p l e R s m args below meth c H' locs' cells slots Q (F0 m (pc + 3) ls rest)) : W p l e R s m args below meth c H locs cells slots Q (F0 m pc ls st0) :=
  va_callv hr hH.2.2 (fun q _ h => z_in hH hA q h) (z_in hH hA) (fun w' t H1 locs1 ht _ hp hB _ _ hS =>
    kk w' H1 locs1 ⟨by rw [← ht]; exact hB.1, hB.2.weaken (fun _ q _ h => z_in hH hA q.1 h), hS⟩ hp)
theorem z_cwS {y : MethodName} {bytes : ByteArray} {maxL index : Nat} {ret : Option FieldType} {rm : Room} {own : String} (n : Nat) (hg : ∀ w ∈ GW, w.before args s = true) (hc : Cond.code y bytes maxL ret ∈ GW) (hl : Cond.methodLink own index y ∈ GW) (hi : Cond.initialized y.cls ∈ GW) (hst : Cond.static y ∈ GW)
    (hd : y.cls ≠ "java/lang/invoke/MethodHandle" ∧ y.cls ≠ "java/lang/invoke/VarHandle" ∧ (parseMethodDescriptor y.desc).map (fun d => d.parameters.length) = some n ∧ rm.cells = 0 ∧ rm.slots = 0) (hR : rm.frames + 1 ≤ R.frames ∧ 8 + (maxL + 11) + rm.locals ≤ R.locals) :
    CallB R s args own index y bytes maxL ret (WS y bytes maxL ret) rm 0 0 n ∧ (Cond.static y).before args s = true :=
  ⟨callB_of (Ts := GW) n hg (fun w hw => by have hm : w ∈ GW := (List.mem_cons.mp hw).elim (fun e => e ▸ hc) id; exact ⟨hm, gw_good hm⟩) rfl hd.2.2.2.1 hd.2.2.2.2 (hg _ hi) (hg _ hl) ⟨hd.1, hd.2.1, hd.2.2.1⟩ hR, hg _ hst⟩
theorem z_cwV {y : MethodName} {bytes : ByteArray} {maxL index : Nat} {ret : Option FieldType} {rm : Room} {own C : String} (n : Nat) (hg : ∀ w ∈ GW, w.before args s = true) (hc : Cond.code y bytes maxL ret ∈ GW) (hl : Cond.methodLink own index y ∈ GW) (hi : Cond.initialized y.cls ∈ GW) (him : Cond.instanceMethod y ∈ GW) (hse : Cond.selects C y y ∈ GW)
    (hd : y.cls ≠ "java/lang/invoke/MethodHandle" ∧ y.cls ≠ "java/lang/invoke/VarHandle" ∧ (parseMethodDescriptor y.desc).map (fun d => d.parameters.length) = some n ∧ rm.cells = 0 ∧ rm.slots = 0) (hR : rm.frames + 1 ≤ R.frames ∧ 8 + (maxL + 11) + rm.locals ≤ R.locals) :
    CallW R s args own C index y bytes maxL ret (WS y bytes maxL ret) rm 0 0 n :=
  ⟨callB_of (Ts := GW) n hg (fun w hw => by have hm : w ∈ GW := (List.mem_cons.mp hw).elim (fun e => e ▸ hc) id; exact ⟨hm, gw_good hm⟩) rfl hd.2.2.2.1 hd.2.2.2.2 (hg _ hi) (hg _ hl) ⟨hd.1, hd.2.1, hd.2.2.1⟩ hR, hg _ him, hg _ hse⟩
/-- ends -/
theorem z_iret {post : Int → zW → Prop} {z : Int} (hexec : p.tables.exec = Jvm.exec) (hb : c.code = cc) (hr : meth.sig.returnType = some .int) (hlocks : meth.locks = false) (hH : zH E w (va_A (wl E w0) s.heap.size) s.heap H locs) (hp : post z w) (hdg : decode cc pc = .ok (.ireturn, 1)) :
    W p l e R s m args below meth c H locs cells slots (MQ below (zQi E w0 post s.heap.size) args s cells slots (va_A (wl E w0) s.heap.size)) (F0 m pc ls [.int (iI z)]) :=
  W.iret hexec hb hr (fun t ht hW => ⟨⟨iI z, w, rfl, ⟨z, rfl, hp⟩, by rw [ht]; exact hH.1, hH.2.1⟩, hH.2.2.F ht⟩) hH.2.2.2.2 hdg hlocks
theorem z_zret {post : Int → zW → Prop} {z : Int} {ty : FieldType} (hexec : p.tables.exec = Jvm.exec) (hb : c.code = cc) (hr : meth.sig.returnType = some ty) (hlocks : meth.locks = false) (hH : zH E w (va_A (wl E w0) s.heap.size) s.heap H locs) (hp : post z w) (hn : narrow ty (.int (iI z)) = .int (iI z)) (hdg : decode cc pc = .ok (.ireturn, 1)) :
    W p l e R s m args below meth c H locs cells slots (MQ below (zQi E w0 post s.heap.size) args s cells slots (va_A (wl E w0) s.heap.size)) (F0 m pc ls [.int (iI z)]) :=
  W.zret hexec hb hr hn (fun t ht hW => ⟨⟨iI z, w, rfl, ⟨z, rfl, hp⟩, by rw [ht]; exact hH.1, hH.2.1⟩, hH.2.2.F ht⟩) hH.2.2.2.2 hdg hlocks
theorem z_lret {post : Int → zW → Prop} {z : Int} (hexec : p.tables.exec = Jvm.exec) (hb : c.code = cc) (hr : meth.sig.returnType = some .long) (hlocks : meth.locks = false) (hH : zH E w (va_A (wl E w0) s.heap.size) s.heap H locs) (hp : post z w) (hdg : decode cc pc = .ok (.lreturn, 1)) :
    W p l e R s m args below meth c H locs cells slots (MQ below (zQl E w0 post s.heap.size) args s cells slots (va_A (wl E w0) s.heap.size)) (F0 m pc ls [.long (Int64.ofInt z)]) :=
  W.lret hexec hb hr (fun t ht hW => ⟨⟨Int64.ofInt z, w, rfl, ⟨z, rfl, hp⟩, by rw [ht]; exact hH.1, hH.2.1⟩, hH.2.2.F ht⟩) hH.2.2.2.2 hdg hlocks
theorem z_vret {post : zW → Prop} (hexec : p.tables.exec = Jvm.exec) (hb : c.code = cc) (hr : meth.sig.returnType = none) (hlocks : meth.locks = false) (hH : zH E w (va_A (wl E w0) s.heap.size) s.heap H locs) (hp : post w) (hdg : decode cc pc = .ok (.return_, 1)) :
    W p l e R s m args below meth c H locs cells slots (MQ below (zQv E w0 post s.heap.size) args s cells slots (va_A (wl E w0) s.heap.size)) (F0 m pc ls []) :=
  W.vret hexec hb hr (fun t ht hW => ⟨⟨w, rfl, hp, by rw [ht]; exact hH.1, hH.2.1⟩, hH.2.2.F ht⟩) hH.2.2.2.2 hdg hlocks
end ZL
end
section
/-! Numbers out of rows of limbs (base 10000): pure rows. -/
abbrev bd (f : Int → Int) (N lo hi : Int) : Prop := ∀ i : Int, 0 ≤ i → i < N → lo ≤ f i ∧ f i ≤ hi
theorem bd_up {f : Int → Int} {N lo hi : Int} (h : bd f N lo hi) (k x : Int) (hx : lo ≤ x ∧ x ≤ hi) : bd (up f k x) N lo hi := by
  intro i h0 h1
  by_cases e : i = k
  · rw [e, up_at]; exact hx
  · rw [up_ne e]; exact h i h0 h1
def Bp (i : Int) : Int := 10000 ^ i.toNat
def Vn (f : Int → Int) : Nat → Int
  | 0 => 0
  | n + 1 => Vn f n + f n * 10000 ^ n
def V (f : Int → Int) (n : Int) : Int := Vn f n.toNat
theorem Bp_0 : Bp 0 = 1 := rfl
theorem Bp_s {i : Int} (h : 0 ≤ i) : Bp (i + 1) = 10000 * Bp i := by
  unfold Bp
  rw [show (i + 1).toNat = i.toNat + 1 by omega, Int.pow_succ, Int.mul_comm]
theorem Bp_pos (i : Int) : 0 < Bp i := Int.pow_pos (by decide)
theorem Bp_add {i j : Int} (hi : 0 ≤ i) (hj : 0 ≤ j) : Bp (i + j) = Bp i * Bp j := by
  unfold Bp
  rw [show (i + j).toNat = i.toNat + j.toNat by omega, Int.pow_add]
theorem Tp_0 : Tp 0 = 1 := rfl
theorem Tp_s {i : Int} (h : 0 ≤ i) : Tp (i + 1) = 10 * Tp i := by
  unfold Tp
  rw [show (i + 1).toNat = i.toNat + 1 by omega, Int.pow_succ, Int.mul_comm]
theorem Tp_pos (i : Int) : 0 < Tp i := Int.pow_pos (by decide)
theorem Tp_add {i j : Int} (hi : 0 ≤ i) (hj : 0 ≤ j) : Tp (i + j) = Tp i * Tp j := by
  unfold Tp
  rw [show (i + j).toNat = i.toNat + j.toNat by omega, Int.pow_add]
theorem Bp_Tp {i : Int} (h : 0 ≤ i) : Bp i = Tp (4 * i) := by
  unfold Bp Tp
  rw [show (4 * i).toNat = 4 * i.toNat by omega, Int.pow_mul]
  rfl
theorem V_0 (f : Int → Int) : V f 0 = 0 := rfl
theorem V_s (f : Int → Int) {i : Int} (h : 0 ≤ i) : V f (i + 1) = V f i + f i * Bp i := by
  unfold V Bp
  rw [show (i + 1).toNat = i.toNat + 1 by omega]
  show Vn f i.toNat + f (i.toNat : Int) * 10000 ^ i.toNat = _
  rw [show ((i.toNat : Nat) : Int) = i by omega]
theorem V_ext {f g : Int → Int} : ∀ {n : Int}, (∀ j, 0 ≤ j → j < n → f j = g j) → V f n = V g n := by
  intro n
  unfold V
  intro h
  have key : ∀ k : Nat, (k : Int) ≤ n ∨ k = 0 → Vn f k = Vn g k := by
    intro k
    induction k with
    | zero => intro _; rfl
    | succ k ih =>
      intro hk
      have hk' : ((k + 1 : Nat) : Int) ≤ n := by omega
      show Vn f k + f k * 10000 ^ k = Vn g k + g k * 10000 ^ k
      rw [ih (by omega), h k (by omega) (by omega)]
  exact key n.toNat (by omega)
theorem V_up {f : Int → Int} {n k x : Int} (h : n ≤ k) : V (up f k x) n = V f n := V_ext (fun _ _ h2 => up_ne (by omega))
theorem V_zero {f : Int → Int} {n : Int} (h0 : 0 ≤ n) (h : ∀ j, 0 ≤ j → j < n → f j = 0) : V f n = 0 := by
  rw [V_ext (g := fun _ => 0) h]
  unfold V
  generalize n.toNat = k
  induction k with
  | zero => rfl
  | succ k ih => show Vn _ k + 0 * 10000 ^ k = 0; rw [ih]; omega
theorem V_bd {f : Int → Int} {N : Int} (h : bd f N 0 9999) : ∀ n : Nat, (n : Int) ≤ N → 0 ≤ V f n ∧ V f n < Bp n := by
  intro n
  induction n with
  | zero => intro _; exact ⟨Int.le_refl 0, by rw [show ((0 : Nat) : Int) = 0 from rfl, V_0, Bp_0]; decide⟩
  | succ n ih =>
    intro hn
    have i1 := ih (by omega)
    have b := h n (by omega) (by omega)
    have e1 : ((n + 1 : Nat) : Int) = (n : Int) + 1 := by omega
    rw [e1, V_s f (by omega), Bp_s (by omega)]
    have p := Bp_pos (n : Int)
    have m1 : 0 ≤ f n * Bp n := Int.mul_nonneg b.1 (by omega)
    have m2 : f n * Bp n ≤ 9999 * Bp n := Int.mul_le_mul_of_nonneg_right b.2 (by omega)
    omega
theorem V_in {f : Int → Int} {N n : Int} (h : bd f N 0 9999) (h0 : 0 ≤ n) (h1 : n ≤ N) : 0 ≤ V f n ∧ V f n < Bp n := by
  have := V_bd h n.toNat (by omega)
  rwa [show ((n.toNat : Nat) : Int) = n by omega] at this
theorem dm4 (s b : Int) : (s % 10000) * b + (s / 10000) * (10000 * b) = s * b := by
  rw [← Int.mul_assoc, Int.mul_comm (s / 10000) 10000, ← Int.add_mul, Int.emod_add_mul_ediv]
theorem tl_step {f : Int → Int} {t N : Int} (h2 : ∀ j, t < j → j < N → f j = 0) (h : f t = 0) : ∀ j, t + (-1) < j → j < N → f j = 0 := by
  intro j g1 g2
  by_cases g : j = t
  · rw [g]; exact h
  · exact h2 j (by omega) g2
theorem ks_step {f h : Int → Int} {i x : Int} (hs : ∀ j, i ≤ j → h j = f j) : ∀ j, i + 1 ≤ j → up h i x j = f j := by
  intro j g
  rw [up_ne (by omega)]
  exact hs j (by omega)
theorem md_of {a b c v : Int} (h : v + c * b = a) (h0 : 0 ≤ v) (h1 : v < b) : v = a % b := by
  rw [← h, Int.add_mul_emod_self_right, Int.emod_eq_of_lt h0 h1]
theorem V_put (h : Int → Int) {i x : Int} (h0 : 0 ≤ i) : V (up h i x) (i + 1) = V h i + x * Bp i := by
  rw [V_s _ h0, V_up (Int.le_refl i), up_at]
theorem add_step {f g h : Int → Int} {i c : Int} (h0 : 0 ≤ i) (hs : h i = f i) (hv : V h i + c * Bp i = V f i + V g i) :
    V (up h i ((h i + g i + c) % 10000)) (i + 1) + (h i + g i + c) / 10000 * Bp (i + 1) = V f (i + 1) + V g (i + 1) := by
  rw [V_put h h0, V_s f h0, V_s g h0, Bp_s h0]
  have k := dm4 (h i + g i + c) (Bp i)
  rw [Int.add_mul, Int.add_mul] at k
  rw [hs] at k ⊢
  omega
theorem sub_step {f g h : Int → Int} {i c d b : Int} (h0 : 0 ≤ i) (hd : d = f i - g i - c) (hv : V h i - c * Bp i = V f i - V g i) :
    V (up h i (d + b * 10000)) (i + 1) - b * Bp (i + 1) = V f (i + 1) - V g (i + 1) := by
  rw [V_put h h0, V_s f h0, V_s g h0, Bp_s h0, hd, Int.add_mul, Int.sub_mul, Int.sub_mul, Int.mul_assoc b]
  omega
theorem addAA_step {f h : Int → Int} {i c : Int} (h0 : 0 ≤ i) (hs : h i = f i) (hv : V h i + c * Bp i = V f i + V f i) :
    V (up h i ((h i + h i + c) % 10000)) (i + 1) + (h i + h i + c) / 10000 * Bp (i + 1) = V f (i + 1) + V f (i + 1) := by
  have k := add_step (g := f) h0 hs hv
  rw [← hs] at k
  exact k
/-- what stands from n on, as a number -/
theorem V_hi (f : Int → Int) {n N : Int} (h0 : 0 ≤ n) (h1 : n ≤ N) : ∃ t : Int, ∀ g : Int → Int, (∀ j, n ≤ j → j < N → g j = f j) → V g N = V g n + t * Bp n := by
  have key : ∀ k : Nat, n + k ≤ N → ∃ t : Int, ∀ g : Int → Int, (∀ j, n ≤ j → j < N → g j = f j) → V g (n + k) = V g n + t * Bp n := by
    intro k
    induction k with
    | zero => intro _; exact ⟨0, fun g _ => by rw [show n + ((0 : Nat) : Int) = n by omega]; omega⟩
    | succ k ih =>
      intro hk
      obtain ⟨t, ht⟩ := ih (by omega)
      refine ⟨t + f (n + k) * Bp k, fun g hg => ?_⟩
      rw [show n + ((k + 1 : Nat) : Int) = (n + k) + 1 by omega, V_s g (by omega), ht g hg, hg (n + k) (by omega) (by omega), Bp_add h0 (by omega), Int.add_mul, Int.mul_assoc, Int.mul_comm (Bp n)]
      omega
  obtain ⟨t, ht⟩ := key (N - n).toNat (by omega)
  refine ⟨t, fun g hg => ?_⟩
  have := ht g hg
  rwa [show n + (((N - n).toNat : Nat) : Int) = N by omega] at this
theorem V_lt {f g : Int → Int} {N i : Int} (bf : bd f N 0 9999) (bg : bd g N 0 9999) (h0 : 0 ≤ i) (h1 : i < N) (he : ∀ j, i < j → j < N → f j = g j) (h : f i < g i) : V f N < V g N := by
  obtain ⟨t, ht⟩ := V_hi g (n := i + 1) (N := N) (by omega) (by omega)
  have e1 := ht g (fun _ _ _ => rfl)
  have e2 := ht f (fun j g1 g2 => he j (by omega) g2)
  rw [e1, e2, V_s f h0, V_s g h0]
  have a := V_in bf h0 (by omega)
  have b := V_in bg h0 (by omega)
  have m : (f i + 1) * Bp i ≤ g i * Bp i := Int.mul_le_mul_of_nonneg_right (by omega) (by omega)
  rw [Int.add_mul] at m
  omega
theorem V_eqv {f g : Int → Int} {N : Int} (he : ∀ j, -1 < j → j < N → f j = g j) : V f N = V g N := V_ext (fun j h0 h1 => he j (by omega) h1)
theorem one_step {f h : Int → Int} {i c T : Int} (h0 : 0 ≤ i) (hs : h i = f i) (hv : V h i + c * Bp i = V f i + T) :
    V (up h i ((h i + c) % 10000)) (i + 1) + (h i + c) / 10000 * Bp (i + 1) = V f (i + 1) + T := by
  rw [V_put h h0, V_s f h0, Bp_s h0]
  have k := dm4 (h i + c) (Bp i)
  rw [Int.add_mul] at k
  rw [hs] at k ⊢
  omega
theorem one_end {f h : Int → Int} {i N T : Int} (bh : bd h N 0 9999) (h0 : 0 ≤ i) (h1 : i ≤ N) (hs : ∀ j, i ≤ j → h j = f j) (hv : V h i + 0 * Bp i = V f i + T) : V h N = (V f N + T) % Bp N := by
  obtain ⟨t, ht⟩ := V_hi f h0 h1
  have e1 := ht h (fun j g1 _ => hs j g1)
  have e2 := ht f (fun _ _ _ => rfl)
  have b := V_in bh (by omega) (Int.le_refl N)
  exact md_of (c := 0) (by omega) b.1 b.2
theorem Tp_q {p : Int} (h : 0 ≤ p) : Tp p = Tp (p % 4) * Bp (p / 4) := by
  rw [Bp_Tp (by omega), ← Tp_add (by omega) (by omega)]
  exact congrArg Tp (by omega)
theorem edd (a c : Int) {b : Int} (hb : 0 < b) : a / (b * c) = a / b / c := by
  rw [Int.ediv_ediv, if_neg (fun h => absurd h.1 (by omega)), Int.sub_zero]
theorem V_dig {f : Int → Int} {N p : Int} (bf : bd f N 0 9999) (h0 : 0 ≤ p) (h1 : p < N * 4) : f (p / 4) / Tp (p % 4) % 10 = V f N / Tp p % 10 := by
  obtain ⟨t, ht⟩ := V_hi f (n := p / 4 + 1) (N := N) (by omega) (by omega)
  have e := ht f (fun _ _ _ => rfl)
  have b := V_in bf (n := p / 4) (by omega) (by omega)
  have p0 := Bp_pos (p / 4)
  rw [e, V_s f (by omega), Bp_s (by omega), Tp_q h0, Int.mul_comm (Tp (p % 4)), edd _ _ p0]
  rw [show V f (p / 4) + f (p / 4) * Bp (p / 4) + t * (10000 * Bp (p / 4)) = V f (p / 4) + (f (p / 4) + t * 10000) * Bp (p / 4) by rw [Int.add_mul, Int.mul_assoc]; omega]
  rw [Int.add_mul_ediv_right _ _ (by omega), Int.ediv_eq_zero_of_lt b.1 b.2]
  generalize f (p / 4) = x
  have c : p % 4 = 0 ∨ p % 4 = 1 ∨ p % 4 = 2 ∨ p % 4 = 3 := by omega
  rcases c with c | c | c | c <;> rw [c]
  · show x / 1 % 10 = (0 + (x + t * 10000)) / 1 % 10; omega
  · show x / 10 % 10 = (0 + (x + t * 10000)) / 10 % 10; omega
  · show x / 100 % 10 = (0 + (x + t * 10000)) / 100 % 10; omega
  · show x / 1000 % 10 = (0 + (x + t * 10000)) / 1000 % 10; omega
theorem V_big {f : Int → Int} {N p : Int} (bf : bd f N 0 9999) (hN : 0 ≤ N) (h1 : N * 4 ≤ p) : V f N / Tp p = 0 := by
  have b := V_in bf hN (Int.le_refl N)
  refine Int.ediv_eq_zero_of_lt b.1 (Int.lt_of_lt_of_le b.2 ?_)
  rw [Bp_Tp hN, show p = 4 * N + (p - 4 * N) by omega, Tp_add (by omega) (by omega)]
  have a := Tp_pos (4 * N)
  have d := Tp_pos (p - 4 * N)
  have := Int.mul_le_mul_of_nonneg_left (show 1 ≤ Tp (p - 4 * N) by omega) (show 0 ≤ Tp (4 * N) by omega)
  omega
/-- the lower places cut off -/
theorem V_cut {f h : Int → Int} {N d : Int} (bf : bd f N 0 9999) (h0 : 0 ≤ d) (h1 : d < N * 4) (hz : ∀ j, 0 ≤ j → j < d / 4 → h j = 0) (hs : ∀ j, d / 4 ≤ j → h j = f j) :
    V (up h (d / 4) (h (d / 4) - h (d / 4) % Tp (d % 4))) N = V f N / Tp d * Tp d := by
  obtain ⟨t, ht⟩ := V_hi f (n := d / 4 + 1) (N := N) (by omega) (by omega)
  have e1 := ht f (fun _ _ _ => rfl)
  have e2 := ht (up h (d / 4) (h (d / 4) - h (d / 4) % Tp (d % 4))) (fun j g1 g2 => by rw [up_ne (by omega)]; exact hs j (by omega))
  have b := V_in bf (n := d / 4) (by omega) (by omega)
  have bx := bf (d / 4) (by omega) (by omega)
  have p0 := Bp_pos (d / 4)
  rw [e2, V_put h (by omega), V_zero (by omega) hz, hs _ (Int.le_refl _), e1, V_s f (by omega), Bp_s (by omega), Tp_q h0]
  rw [show V f (d / 4) + f (d / 4) * Bp (d / 4) + t * (10000 * Bp (d / 4)) = V f (d / 4) + (f (d / 4) + t * 10000) * Bp (d / 4) by rw [Int.add_mul, Int.mul_assoc]; omega]
  rw [Int.mul_comm (Tp (d % 4)), edd _ _ p0, Int.add_mul_ediv_right _ _ (by omega), Int.ediv_eq_zero_of_lt b.1 b.2, Int.mul_comm (Bp (d / 4)), ← Int.mul_assoc ((0 + (f (d / 4) + t * 10000)) / Tp (d % 4))]
  rw [show 0 + (f (d / 4) - f (d / 4) % Tp (d % 4)) * Bp (d / 4) + t * (10000 * Bp (d / 4)) = (f (d / 4) - f (d / 4) % Tp (d % 4) + t * 10000) * Bp (d / 4) by rw [Int.add_mul, Int.mul_assoc]; omega]
  refine congrArg (· * Bp (d / 4)) ?_
  generalize f (d / 4) = x
  have c : d % 4 = 0 ∨ d % 4 = 1 ∨ d % 4 = 2 ∨ d % 4 = 3 := by omega
  rcases c with c | c | c | c <;> rw [c]
  · show x - x % 1 + t * 10000 = (0 + (x + t * 10000)) / 1 * 1; omega
  · show x - x % 10 + t * 10000 = (0 + (x + t * 10000)) / 10 * 10; omega
  · show x - x % 100 + t * 10000 = (0 + (x + t * 10000)) / 100 * 100; omega
  · show x - x % 1000 + t * 10000 = (0 + (x + t * 10000)) / 1000 * 1000; omega
theorem eq_step {f g : Int → Int} {t N : Int} (h2 : ∀ j, t < j → j < N → f j = g j) (h : f t = g t) : ∀ j, t + (-1) < j → j < N → f j = g j := by
  intro j g1 g2
  by_cases g : j = t
  · rw [g]; exact h
  · exact h2 j (by omega) g2
theorem z_step {h : Int → Int} {i : Int} (hz : ∀ j, 0 ≤ j → j < i → h j = 0) : ∀ j, 0 ≤ j → j < i + 1 → up h i 0 j = 0 := by
  intro j g1 g2
  by_cases g : j = i
  · rw [g, up_at]
  · rw [up_ne g]; exact hz j g1 (by omega)
/-- a row with zeros behind its end -/
def ex (g : Int → Int) (M : Int) : Int → Int := fun j => if j < M then g j else 0
theorem ex_lt {g : Int → Int} {M j : Int} (h : j < M) : ex g M j = g j := if_pos h
theorem ex_ge {g : Int → Int} {M j : Int} (h : M ≤ j) : ex g M j = 0 := if_neg (by omega)
theorem ex_bd {g : Int → Int} {M : Int} (h : bd g M 0 9999) {j : Int} (h0 : 0 ≤ j) : 0 ≤ ex g M j ∧ ex g M j ≤ 9999 := by
  by_cases hj : j < M
  · rw [ex_lt hj]; exact h j h0 hj
  · rw [ex_ge (by omega)]; omega
theorem V_ex {g : Int → Int} {M n : Int} (h : n ≤ M) : V (ex g M) n = V g n := V_ext (fun _ _ h2 => ex_lt (by omega))
theorem V_exM {g : Int → Int} {M n : Int} (h0 : 0 ≤ M) (h : M ≤ n) : V (ex g M) n = V g M := by
  have key : ∀ k : Nat, V (ex g M) (M + k) = V g M := by
    intro k
    induction k with
    | zero => rw [show M + ((0 : Nat) : Int) = M by omega]; exact V_ex (Int.le_refl M)
    | succ k ih => rw [show M + ((k + 1 : Nat) : Int) = (M + k) + 1 by omega, V_s _ (by omega), ih, ex_ge (by omega)]; omega
  have := key (n - M).toNat
  rwa [show M + (((n - M).toNat : Nat) : Int) = n by omega] at this
theorem mul_bd {a b : Int} (ha : 0 ≤ a ∧ a ≤ 9999) (hb : 0 ≤ b ∧ b ≤ 9999) : 0 ≤ a * b ∧ a * b ≤ 99980001 := by
  refine ⟨Int.mul_nonneg ha.1 hb.1, ?_⟩
  have h1 : a * b ≤ 9999 * b := Int.mul_le_mul_of_nonneg_right ha.2 hb.1
  omega
theorem am_step {f g h : Int → Int} {i c x L y : Int} (hx : 0 ≤ x) (hi : x ≤ i) (hs : h i = f i) (hy : y = g (i - x)) (hv : V h i + c * Bp i = V f i + L * V g (i - x) * Bp x) :
    V (up h i ((h i + y * L + c) % 10000)) (i + 1) + (h i + y * L + c) / 10000 * Bp (i + 1) = V f (i + 1) + L * V g (i + 1 - x) * Bp x := by
  rw [V_put h (by omega), V_s f (by omega), Bp_s (by omega), show i + 1 - x = (i - x) + 1 by omega, V_s g (by omega)]
  have k := dm4 (h i + y * L + c) (Bp i)
  have e : Bp i = Bp (i - x) * Bp x := by rw [← Bp_add (by omega) hx]; exact congrArg Bp (by omega)
  rw [Int.add_mul, Int.add_mul, Int.mul_comm y L, Int.mul_assoc L y] at k
  have e2 : L * (V g (i - x) + g (i - x) * Bp (i - x)) * Bp x = L * V g (i - x) * Bp x + L * (y * Bp i) := by
    rw [Int.mul_add, Int.add_mul, e, ← hy, Int.mul_assoc L (y * Bp (i - x)), Int.mul_assoc y]
  rw [e2, Int.mul_comm y L]
  rw [hs] at k ⊢
  omega
theorem am_end {f g h : Int → Int} {N M x L c : Int} (bh : bd h N 0 9999) (hM : 0 ≤ M) (hx : 0 ≤ x) (hN : x ≤ N) (hv : V h N + c * Bp N = V f N + L * V (ex g M) (N - x) * Bp x) : V h N = (V f N + L * V g M * Bp x) % Bp N := by
  have b := V_in bh (by omega) (Int.le_refl N)
  by_cases hm : M ≤ N - x
  · rw [V_exM hM hm] at hv
    exact md_of hv b.1 b.2
  · rw [V_ex (by omega)] at hv
    obtain ⟨t, ht⟩ := V_hi g (n := N - x) (N := M) (by omega) (by omega)
    have e := ht g (fun _ _ _ => rfl)
    have e1 : Bp N = Bp (N - x) * Bp x := by rw [← Bp_add (by omega) hx]; exact congrArg Bp (by omega)
    refine md_of (c := c + L * t) ?_ b.1 b.2
    rw [e, Int.add_mul c, Int.mul_add L, Int.add_mul (L * V g (N - x)), e1, Int.mul_assoc L t, Int.mul_assoc L (t * Bp (N - x)), Int.mul_assoc t]
    rw [e1] at hv
    omega
theorem V_top {f : Int → Int} {N t : Int} (h0 : 0 ≤ t) (h1 : t < N) (hz : ∀ j, t < j → j < N → f j = 0) : V f N = V f t + f t * Bp t := by
  obtain ⟨x, hx⟩ := V_hi (fun _ => 0) (n := t + 1) (N := N) (by omega) (by omega)
  have e0 := hx (fun _ => 0) (fun _ _ _ => rfl)
  rw [V_zero (by omega) (fun _ _ _ => rfl), V_zero (by omega) (fun _ _ _ => rfl)] at e0
  have e1 := hx f (fun j g1 g2 => hz j (by omega) g2)
  rw [e1, V_s f h0]
  omega
theorem dg_end {f : Int → Int} {N t k : Int} (bf : bd f N 0 9999) (h0 : 0 ≤ t) (h1 : t < N) (hz : ∀ j, t < j → j < N → f j = 0) (hk : 1 ≤ k) (g1 : Tp (k - 1) ≤ f t) (g2 : f t < Tp k) : Tp (t * 4 + k - 1) ≤ V f N ∧ V f N < Tp (t * 4 + k) := by
  have b := V_in bf h0 (by omega)
  rw [V_top h0 h1 hz, show t * 4 + k - 1 = (k - 1) + 4 * t by omega, show t * 4 + k = k + 4 * t by omega, Tp_add (by omega) (by omega), Tp_add (by omega) (by omega), ← Bp_Tp h0]
  have m1 := Int.mul_le_mul_of_nonneg_right g1 (show 0 ≤ Bp t by omega)
  have m2 := Int.mul_le_mul_of_nonneg_right (show f t + 1 ≤ Tp k by omega) (show 0 ≤ Bp t by omega)
  rw [Int.add_mul] at m2
  omega
/-- how many decimal digits -/
def dgs (v z : Int) : Prop := (z = 0 ∧ v = 0) ∨ (0 < z ∧ Tp (z - 1) ≤ v ∧ v < Tp z)
theorem Tp_mono {a b : Int} (h0 : 0 ≤ a) (h : a ≤ b) : Tp a ≤ Tp b := by
  rw [show b = a + (b - a) by omega, Tp_add h0 (by omega)]
  have x := Tp_pos (b - a)
  have y := Tp_pos a
  have := Int.mul_le_mul_of_nonneg_left (show 1 ≤ Tp (b - a) by omega) (show 0 ≤ Tp a by omega)
  omega
/-- more digits than n: the number reaches 10^n -/
theorem dgs_gt {v z n : Int} (h : dgs v z) (hv : 0 ≤ v) (hn : 0 ≤ n) : n < z ↔ Tp n ≤ v := by
  rcases h with ⟨rfl, rfl⟩ | ⟨h1, h2, h3⟩
  · have := Tp_pos n; omega
  · constructor
    · intro h; exact Int.le_trans (Tp_mono hn (by omega)) h2
    · intro h
      refine Int.not_le.mp (fun hz => ?_)
      have := Tp_mono (show 0 ≤ z by omega) hz
      omega
/-- rounded: the next digit decides -/
def Rn (v x : Int) : Int := if x ≤ 0 then v else (v / Tp x + (if 5 ≤ v / Tp (x - 1) % 10 then 1 else 0)) * Tp x
theorem Rn_up {v x b : Int} (hx : 0 < x) (h : 5 ≤ v / Tp (x - 1) % 10) : (v / Tp x * Tp x + Tp x) % b = Rn v x % b := by
  unfold Rn
  rw [if_neg (by omega), if_pos h, Int.add_mul, Int.one_mul]
theorem Rn_dn {v x b : Int} (hv : 0 ≤ v) (hb : v < b) (h : x ≤ 0 ∨ ¬ 5 ≤ v / Tp (x - 1) % 10) : (if x ≤ 0 then v else v / Tp x * Tp x) = Rn v x % b := by
  unfold Rn
  by_cases hx : x ≤ 0
  · rw [if_pos hx, if_pos hx, Int.emod_eq_of_lt hv hb]
  · have h' : ¬ 5 ≤ v / Tp (x - 1) % 10 := by omega
    rw [if_neg hx, if_neg hx, if_neg h']
    have p := Tp_pos x
    have a : 0 ≤ v / Tp x * Tp x := Int.mul_nonneg (Int.ediv_nonneg hv (by omega)) (by omega)
    have c := Int.ediv_mul_le v (show Tp x ≠ 0 by omega)
    rw [show v / Tp x + 0 = v / Tp x by omega, Int.emod_eq_of_lt a (by omega)]
theorem v_step {h : Int → Int} {i v : Int} (hz : ∀ j, 0 ≤ j → j < i → h j = v) : ∀ j, 0 ≤ j → j < i + 1 → up h i v j = v := by
  intro j g1 g2
  by_cases g : j = i
  · rw [g, up_at]
  · rw [up_ne g]; exact hz j g1 (by omega)
theorem fl_rng {x y : Int} (hx : -2147483648 < x ∧ x < 2147483648) (hy : 0 < y) : -2147483648 ≤ Int.tdiv x y * y ∧ Int.tdiv x y * y < 2147483648 := by
  have k : (Int.tdiv x y * y).natAbs ≤ x.natAbs := by
    rw [Int.natAbs_mul, Int.natAbs_tdiv]
    exact Nat.div_mul_le_self _ _
  omega
theorem emod_le {a b : Int} (h : 0 ≤ a) (hb : 0 < b) : a % b ≤ a := by
  have h1 := Int.mul_ediv_add_emod a b
  have h2 : 0 ≤ b * (a / b) := Int.mul_nonneg (by omega) (Int.ediv_nonneg h (by omega))
  omega
end
section
/-! Rows for longs, xor, signed division. -/
theorem lI_div {a b : Int} (ha : 0 ≤ a) (ha2 : a < 9223372036854775808) (hb : 0 < b) (hb2 : b < 9223372036854775808) : Int64.ofInt a / Int64.ofInt b = Int64.ofInt (a / b) := by
  obtain ⟨n, rfl⟩ : ∃ n : Nat, a = n := ⟨a.toNat, by omega⟩
  obtain ⟨k, rfl⟩ : ∃ n : Nat, b = n := ⟨b.toNat, by omega⟩
  have h := pk_lDiv (a := n) (b := k) (by omega) (by omega) (by omega)
  unfold lN at h
  rw [Int64.ofInt_eq_ofNat, Int64.ofInt_eq_ofNat, h, ← Int64.ofInt_eq_ofNat, Int.natCast_ediv]
theorem xor_neg {x y : Int32} (hy : 0 ≤ y.toInt) : (x ^^^ y).toInt < 0 ↔ x.toInt < 0 := by
  have h1 : (x ^^^ y).toBitVec.msb = (x.toBitVec.msb ^^ y.toBitVec.msb) := by rw [Int32.toBitVec_xor, BitVec.msb_xor]
  have h2 : y.toBitVec.msb = false := by rw [BitVec.msb_eq_toInt]; exact decide_eq_false (Int.not_lt.mpr hy)
  rw [h2, Bool.xor_false, BitVec.msb_eq_toInt, BitVec.msb_eq_toInt] at h1
  have h3 := decide_eq_decide.mp h1
  exact h3
theorem iI_divS {a b : Int} (ha : -2147483648 < a) (ha2 : a < 2147483648) (hb : 0 < b) (hb2 : b < 2147483648) : iI a / iI b = iI (a.tdiv b) := by
  apply Int32.toInt_inj.mp
  have hne : iI a ≠ Int32.minValue := fun h => by
    have e := congrArg Int32.toInt h
    rw [iI_toInt (by omega) ha2] at e
    have : Int32.minValue.toInt = -2147483648 := by decide
    omega
  have k1 : (a.tdiv b).natAbs ≤ a.natAbs := by rw [Int.natAbs_tdiv]; exact Nat.div_le_self _ _
  rw [Int32.toInt_div_of_ne_left _ _ hne, iI_toInt (by omega) ha2, iI_toInt (by omega) hb2, iI_toInt (by omega) (by omega)]
section ZLL
variable {p : Program} {l : Launch} {e : Env} {R : Room} {s : State} {m : MethodId} {args : Array Value} {below : List Frame} {meth : Method} {c : Code} {H : Heap} {locs : List Loc} {cells slots : Nat} {Q : State → Prop}
variable {cc : ByteArray} {pc : Nat} {ls : Array Slot} {rest : List Value}
theorem zv_ladd (hexec : p.tables.exec = Jvm.exec) (hb : c.code = cc) {x y : Int} (hdg : decode cc pc = .ok (.ladd, 1)) (k : W p l e R s m args below meth c H locs cells slots Q (F0 m (pc + 1) ls (.long (Int64.ofInt (x + y)) :: rest))) : W p l e R s m args below meth c H locs cells slots Q (F0 m pc ls (.long (Int64.ofInt y) :: .long (Int64.ofInt x) :: rest)) :=
  lv_ladd hexec hb hdg (by rw [← Int64.ofInt_add]; exact k)
theorem zv_lmul (hexec : p.tables.exec = Jvm.exec) (hb : c.code = cc) {x y : Int} (hdg : decode cc pc = .ok (.lmul, 1)) (k : W p l e R s m args below meth c H locs cells slots Q (F0 m (pc + 1) ls (.long (Int64.ofInt (x * y)) :: rest))) : W p l e R s m args below meth c H locs cells slots Q (F0 m pc ls (.long (Int64.ofInt y) :: .long (Int64.ofInt x) :: rest)) :=
  lv_lmul hexec hb hdg (by rw [← Int64.ofInt_mul]; exact k)
theorem zv_ldiv (hexec : p.tables.exec = Jvm.exec) (hb : c.code = cc) {x y : Int} (h1 : 0 ≤ x) (h2 : x < 9223372036854775808) (h3 : 0 < y) (h4 : y < 9223372036854775808) (hdg : decode cc pc = .ok (.ldiv, 1)) (k : W p l e R s m args below meth c H locs cells slots Q (F0 m (pc + 1) ls (.long (Int64.ofInt (x / y)) :: rest))) : W p l e R s m args below meth c H locs cells slots Q (F0 m pc ls (.long (Int64.ofInt y) :: .long (Int64.ofInt x) :: rest)) :=
  lv_ldiv hexec hb hdg (fun h => by
    have e := congrArg Int64.toInt h
    rw [Int64.toInt_ofInt_of_le (by omega) h4] at e
    have : (0 : Int64).toInt = 0 := by decide
    omega) (by rw [lI_div h1 h2 h3 h4]; exact k)
theorem zv_i2l (hexec : p.tables.exec = Jvm.exec) (hb : c.code = cc) {x : Int} (hx : zr x) (hdg : decode cc pc = .ok (.i2l, 1)) (k : W p l e R s m args below meth c H locs cells slots Q (F0 m (pc + 1) ls (.long (Int64.ofInt x) :: rest))) : W p l e R s m args below meth c H locs cells slots Q (F0 m pc ls (.int (iI x) :: rest)) :=
  lv_i2l hexec hb hdg (Int32.toInt64_ofInt (show (-2147483648 : Int) ≤ x from hx.1) (show x ≤ (2147483647 : Int) by have := hx.2; omega)) k
theorem zv_l2i (hexec : p.tables.exec = Jvm.exec) (hb : c.code = cc) {x : Int} (hdg : decode cc pc = .ok (.l2i, 1)) (k : W p l e R s m args below meth c H locs cells slots Q (F0 m (pc + 1) ls (.int (iI x) :: rest))) : W p l e R s m args below meth c H locs cells slots Q (F0 m pc ls (.long (Int64.ofInt x) :: rest)) :=
  lv_l2i hexec hb hdg Int64.toInt32_ofInt k
theorem zv_lconst_0 (hexec : p.tables.exec = Jvm.exec) (hb : c.code = cc) (hdg : decode cc pc = .ok (.lconst 0, 1)) (k : W p l e R s m args below meth c H locs cells slots Q (F0 m (pc + 1) ls (.long (Int64.ofInt 0) :: rest))) : W p l e R s m args below meth c H locs cells slots Q (F0 m pc ls rest) := lv_lconst hexec hb hdg rfl k
theorem zv_lconst_1 (hexec : p.tables.exec = Jvm.exec) (hb : c.code = cc) (hdg : decode cc pc = .ok (.lconst 1, 1)) (k : W p l e R s m args below meth c H locs cells slots Q (F0 m (pc + 1) ls (.long (Int64.ofInt 1) :: rest))) : W p l e R s m args below meth c H locs cells slots Q (F0 m pc ls rest) := lv_lconst hexec hb hdg rfl k
theorem zv_ldc2 (hexec : p.tables.exec = Jvm.exec) (hb : c.code = cc) {own : String} {index : Nat} {v : Int} (hown : s.vm.findClass own = some m.cls) (hconst : (Jvm.Cond.constantLong own index (Int64.ofInt v)).before args s = true) (hdg : decode cc pc = .ok (.ldc2_w index, 3)) (k : W p l e R s m args below meth c H locs cells slots Q (F0 m (pc + 3) ls (.long (Int64.ofInt v) :: rest))) : W p l e R s m args below meth c H locs cells slots Q (F0 m pc ls rest) := lv_ldc2 hexec hb hown hconst hdg k
theorem zv_idivS (hexec : p.tables.exec = Jvm.exec) (hb : c.code = cc) {x y : Int} (h1 : -2147483648 < x) (h2 : x < 2147483648) (h3 : 0 < y) (h4 : y < 2147483648) (hdg : decode cc pc = .ok (.idiv, 1)) (k : W p l e R s m args below meth c H locs cells slots Q (F0 m (pc + 1) ls (.int (iI (x.tdiv y)) :: rest))) : W p l e R s m args below meth c H locs cells slots Q (F0 m pc ls (.int (iI y) :: .int (iI x) :: rest)) :=
  lv_idiv hexec hb hdg (by rw [← iI_0, iI_eq ⟨by omega, h4⟩ zr_0]; omega) (by rw [iI_divS h1 h2 h3 h4]; exact k)
/-- xor with a number that isn't negative: only the sign is told -/
theorem zv_ixorS (hexec : p.tables.exec = Jvm.exec) (hb : c.code = cc) {x y : Int} (hx : zr x) (hy : 0 ≤ y ∧ y < 2147483648) (hdg : decode cc pc = .ok (.ixor, 1)) (k : ∀ v : Int, zr v → (v < 0 ↔ x < 0) → W p l e R s m args below meth c H locs cells slots Q (F0 m (pc + 1) ls (.int (iI v) :: rest))) : W p l e R s m args below meth c H locs cells slots Q (F0 m pc ls (.int (iI y) :: .int (iI x) :: rest)) :=
  lv_ixor hexec hb hdg (by
    obtain ⟨v, e1, v1, v2⟩ := iI_of (iI x ^^^ iI y)
    have h := xor_neg (x := iI x) (y := iI y) (by rw [iI_toInt (by omega) hy.2]; exact hy.1)
    rw [e1, iI_toInt v1 v2, iI_toInt hx.1 hx.2] at h
    rw [e1]
    exact k v ⟨v1, v2⟩ h)
end ZLL
theorem fl_dn {x y r : Int} (hy : 0 < y) (hr : r = x.tdiv y) (h : 0 ≤ x ∨ r * y = x) : r = x / y := by
  rcases h with h | h
  · rw [hr, Int.tdiv_eq_ediv_of_nonneg h]
  · rw [← h, Int.mul_ediv_cancel _ (by omega)]
theorem fl_up {x y r : Int} (hy : 0 < y) (hr : r = x.tdiv y) (hx : x < 0) (h : r * y ≠ x) : r - 1 = x / y := by
  have e := Int.tdiv_eq_ediv (a := x) (b := y)
  have hd : ¬ y ∣ x := fun ⟨k, hk⟩ => h (by rw [hr, hk, Int.mul_tdiv_cancel_left _ (by omega), Int.mul_comm])
  rw [if_neg (by intro hh; rcases hh with hh | hh; · omega
                 · exact hd hh), Int.sign_eq_one_of_pos hy] at e
  omega
end
section
theorem d_R_topLimb_0 : decode b_R_topLimb 0 = .ok (.aload_n 0, 1) := by decide +kernel
theorem d_R_topLimb_1 : decode b_R_topLimb 1 = .ok (.arraylength, 1) := by decide +kernel
theorem d_R_topLimb_2 : decode b_R_topLimb 2 = .ok (.iconst 1, 1) := by decide +kernel
theorem d_R_topLimb_3 : decode b_R_topLimb 3 = .ok (.isub, 1) := by decide +kernel
theorem d_R_topLimb_4 : decode b_R_topLimb 4 = .ok (.istore_n 1, 1) := by decide +kernel
theorem d_R_topLimb_5 : decode b_R_topLimb 5 = .ok (.iload_n 1, 1) := by decide +kernel
theorem d_R_topLimb_6 : decode b_R_topLimb 6 = .ok (.ifCond .lt 15, 3) := by decide +kernel
theorem d_R_topLimb_9 : decode b_R_topLimb 9 = .ok (.aload_n 0, 1) := by decide +kernel
theorem d_R_topLimb_10 : decode b_R_topLimb 10 = .ok (.iload_n 1, 1) := by decide +kernel
theorem d_R_topLimb_11 : decode b_R_topLimb 11 = .ok (.iaload, 1) := by decide +kernel
theorem d_R_topLimb_12 : decode b_R_topLimb 12 = .ok (.ifCond .ne 9, 3) := by decide +kernel
theorem d_R_topLimb_15 : decode b_R_topLimb 15 = .ok (.iinc 1 (-1), 3) := by decide +kernel
theorem d_R_topLimb_18 : decode b_R_topLimb 18 = .ok (.goto (-13), 3) := by decide +kernel
theorem d_R_topLimb_21 : decode b_R_topLimb 21 = .ok (.iload_n 1, 1) := by decide +kernel
theorem d_R_topLimb_22 : decode b_R_topLimb 22 = .ok (.ireturn, 1) := by decide +kernel
theorem d_R_digits_0 : decode b_R_digits 0 = .ok (.aload_n 0, 1) := by decide +kernel
theorem d_R_digits_1 : decode b_R_digits 1 = .ok (.invokestatic 9, 3) := by decide +kernel
theorem d_R_digits_4 : decode b_R_digits 4 = .ok (.istore_n 1, 1) := by decide +kernel
theorem d_R_digits_5 : decode b_R_digits 5 = .ok (.iload_n 1, 1) := by decide +kernel
theorem d_R_digits_6 : decode b_R_digits 6 = .ok (.ifCond .ge 5, 3) := by decide +kernel
theorem d_R_digits_9 : decode b_R_digits 9 = .ok (.iconst 0, 1) := by decide +kernel
theorem d_R_digits_10 : decode b_R_digits 10 = .ok (.ireturn, 1) := by decide +kernel
theorem d_R_digits_11 : decode b_R_digits 11 = .ok (.iload_n 1, 1) := by decide +kernel
theorem d_R_digits_12 : decode b_R_digits 12 = .ok (.iconst 4, 1) := by decide +kernel
theorem d_R_digits_13 : decode b_R_digits 13 = .ok (.imul, 1) := by decide +kernel
theorem d_R_digits_14 : decode b_R_digits 14 = .ok (.iconst 1, 1) := by decide +kernel
theorem d_R_digits_15 : decode b_R_digits 15 = .ok (.iadd, 1) := by decide +kernel
theorem d_R_digits_16 : decode b_R_digits 16 = .ok (.istore_n 2, 1) := by decide +kernel
theorem d_R_digits_17 : decode b_R_digits 17 = .ok (.iconst 1, 1) := by decide +kernel
theorem d_R_digits_18 : decode b_R_digits 18 = .ok (.istore_n 3, 1) := by decide +kernel
theorem d_R_digits_19 : decode b_R_digits 19 = .ok (.iload_n 3, 1) := by decide +kernel
theorem d_R_digits_20 : decode b_R_digits 20 = .ok (.iconst 4, 1) := by decide +kernel
theorem d_R_digits_21 : decode b_R_digits 21 = .ok (.if_icmp .ge 23, 3) := by decide +kernel
theorem d_R_digits_24 : decode b_R_digits 24 = .ok (.aload_n 0, 1) := by decide +kernel
theorem d_R_digits_25 : decode b_R_digits 25 = .ok (.iload_n 1, 1) := by decide +kernel
theorem d_R_digits_26 : decode b_R_digits 26 = .ok (.iaload, 1) := by decide +kernel
theorem d_R_digits_27 : decode b_R_digits 27 = .ok (.getstatic 15, 3) := by decide +kernel
theorem d_R_digits_30 : decode b_R_digits 30 = .ok (.iload_n 3, 1) := by decide +kernel
theorem d_R_digits_31 : decode b_R_digits 31 = .ok (.iaload, 1) := by decide +kernel
theorem d_R_digits_32 : decode b_R_digits 32 = .ok (.if_icmp .lt 12, 3) := by decide +kernel
theorem d_R_digits_35 : decode b_R_digits 35 = .ok (.iinc 2 1, 3) := by decide +kernel
theorem d_R_digits_38 : decode b_R_digits 38 = .ok (.iinc 3 1, 3) := by decide +kernel
theorem d_R_digits_41 : decode b_R_digits 41 = .ok (.goto (-22), 3) := by decide +kernel
theorem d_R_digits_44 : decode b_R_digits 44 = .ok (.iload_n 2, 1) := by decide +kernel
theorem d_R_digits_45 : decode b_R_digits 45 = .ok (.ireturn, 1) := by decide +kernel
theorem d_R_digitAt_0 : decode b_R_digitAt 0 = .ok (.iload_n 1, 1) := by decide +kernel
theorem d_R_digitAt_1 : decode b_R_digitAt 1 = .ok (.ifCond .lt 11, 3) := by decide +kernel
theorem d_R_digitAt_4 : decode b_R_digitAt 4 = .ok (.iload_n 1, 1) := by decide +kernel
theorem d_R_digitAt_5 : decode b_R_digitAt 5 = .ok (.aload_n 0, 1) := by decide +kernel
theorem d_R_digitAt_6 : decode b_R_digitAt 6 = .ok (.arraylength, 1) := by decide +kernel
theorem d_R_digitAt_7 : decode b_R_digitAt 7 = .ok (.iconst 4, 1) := by decide +kernel
theorem d_R_digitAt_8 : decode b_R_digitAt 8 = .ok (.imul, 1) := by decide +kernel
theorem d_R_digitAt_9 : decode b_R_digitAt 9 = .ok (.if_icmp .lt 5, 3) := by decide +kernel
theorem d_R_digitAt_12 : decode b_R_digitAt 12 = .ok (.iconst 0, 1) := by decide +kernel
theorem d_R_digitAt_13 : decode b_R_digitAt 13 = .ok (.ireturn, 1) := by decide +kernel
theorem d_R_digitAt_14 : decode b_R_digitAt 14 = .ok (.aload_n 0, 1) := by decide +kernel
theorem d_R_digitAt_15 : decode b_R_digitAt 15 = .ok (.iload_n 1, 1) := by decide +kernel
theorem d_R_digitAt_16 : decode b_R_digitAt 16 = .ok (.iconst 4, 1) := by decide +kernel
theorem d_R_digitAt_17 : decode b_R_digitAt 17 = .ok (.idiv, 1) := by decide +kernel
theorem d_R_digitAt_18 : decode b_R_digitAt 18 = .ok (.iaload, 1) := by decide +kernel
theorem d_R_digitAt_19 : decode b_R_digitAt 19 = .ok (.getstatic 15, 3) := by decide +kernel
theorem d_R_digitAt_22 : decode b_R_digitAt 22 = .ok (.iload_n 1, 1) := by decide +kernel
theorem d_R_digitAt_23 : decode b_R_digitAt 23 = .ok (.iconst 4, 1) := by decide +kernel
theorem d_R_digitAt_24 : decode b_R_digitAt 24 = .ok (.irem, 1) := by decide +kernel
theorem d_R_digitAt_25 : decode b_R_digitAt 25 = .ok (.iaload, 1) := by decide +kernel
theorem d_R_digitAt_26 : decode b_R_digitAt 26 = .ok (.idiv, 1) := by decide +kernel
theorem d_R_digitAt_27 : decode b_R_digitAt 27 = .ok (.bipush 10, 2) := by decide +kernel
theorem d_R_digitAt_29 : decode b_R_digitAt 29 = .ok (.irem, 1) := by decide +kernel
theorem d_R_digitAt_30 : decode b_R_digitAt 30 = .ok (.ireturn, 1) := by decide +kernel
theorem d_R_cut_0 : decode b_R_cut 0 = .ok (.iload_n 1, 1) := by decide +kernel
theorem d_R_cut_1 : decode b_R_cut 1 = .ok (.ifCond .gt 4, 3) := by decide +kernel
theorem d_R_cut_4 : decode b_R_cut 4 = .ok (.return_, 1) := by decide +kernel
theorem d_R_cut_5 : decode b_R_cut 5 = .ok (.iload_n 1, 1) := by decide +kernel
theorem d_R_cut_6 : decode b_R_cut 6 = .ok (.iconst 4, 1) := by decide +kernel
theorem d_R_cut_7 : decode b_R_cut 7 = .ok (.idiv, 1) := by decide +kernel
theorem d_R_cut_8 : decode b_R_cut 8 = .ok (.aload_n 0, 1) := by decide +kernel
theorem d_R_cut_9 : decode b_R_cut 9 = .ok (.arraylength, 1) := by decide +kernel
theorem d_R_cut_10 : decode b_R_cut 10 = .ok (.invokestatic 19, 3) := by decide +kernel
theorem d_R_cut_13 : decode b_R_cut 13 = .ok (.istore_n 2, 1) := by decide +kernel
theorem d_R_cut_14 : decode b_R_cut 14 = .ok (.iconst 0, 1) := by decide +kernel
theorem d_R_cut_15 : decode b_R_cut 15 = .ok (.istore_n 3, 1) := by decide +kernel
theorem d_R_cut_16 : decode b_R_cut 16 = .ok (.iload_n 3, 1) := by decide +kernel
theorem d_R_cut_17 : decode b_R_cut 17 = .ok (.iload_n 2, 1) := by decide +kernel
theorem d_R_cut_18 : decode b_R_cut 18 = .ok (.if_icmp .ge 13, 3) := by decide +kernel
theorem d_R_cut_21 : decode b_R_cut 21 = .ok (.aload_n 0, 1) := by decide +kernel
theorem d_R_cut_22 : decode b_R_cut 22 = .ok (.iload_n 3, 1) := by decide +kernel
theorem d_R_cut_23 : decode b_R_cut 23 = .ok (.iconst 0, 1) := by decide +kernel
theorem d_R_cut_24 : decode b_R_cut 24 = .ok (.iastore, 1) := by decide +kernel
theorem d_R_cut_25 : decode b_R_cut 25 = .ok (.iinc 3 1, 3) := by decide +kernel
theorem d_R_cut_28 : decode b_R_cut 28 = .ok (.goto (-12), 3) := by decide +kernel
theorem d_R_cut_31 : decode b_R_cut 31 = .ok (.iload_n 2, 1) := by decide +kernel
theorem d_R_cut_32 : decode b_R_cut 32 = .ok (.aload_n 0, 1) := by decide +kernel
theorem d_R_cut_33 : decode b_R_cut 33 = .ok (.arraylength, 1) := by decide +kernel
theorem d_R_cut_34 : decode b_R_cut 34 = .ok (.if_icmp .ge 20, 3) := by decide +kernel
theorem d_R_cut_37 : decode b_R_cut 37 = .ok (.aload_n 0, 1) := by decide +kernel
theorem d_R_cut_38 : decode b_R_cut 38 = .ok (.iload_n 2, 1) := by decide +kernel
theorem d_R_cut_39 : decode b_R_cut 39 = .ok (.dup2, 1) := by decide +kernel
theorem d_R_cut_40 : decode b_R_cut 40 = .ok (.iaload, 1) := by decide +kernel
theorem d_R_cut_41 : decode b_R_cut 41 = .ok (.aload_n 0, 1) := by decide +kernel
theorem d_R_cut_42 : decode b_R_cut 42 = .ok (.iload_n 2, 1) := by decide +kernel
theorem d_R_cut_43 : decode b_R_cut 43 = .ok (.iaload, 1) := by decide +kernel
theorem d_R_cut_44 : decode b_R_cut 44 = .ok (.getstatic 15, 3) := by decide +kernel
theorem d_R_cut_47 : decode b_R_cut 47 = .ok (.iload_n 1, 1) := by decide +kernel
theorem d_R_cut_48 : decode b_R_cut 48 = .ok (.iconst 4, 1) := by decide +kernel
theorem d_R_cut_49 : decode b_R_cut 49 = .ok (.irem, 1) := by decide +kernel
theorem d_R_cut_50 : decode b_R_cut 50 = .ok (.iaload, 1) := by decide +kernel
theorem d_R_cut_51 : decode b_R_cut 51 = .ok (.irem, 1) := by decide +kernel
theorem d_R_cut_52 : decode b_R_cut 52 = .ok (.isub, 1) := by decide +kernel
theorem d_R_cut_53 : decode b_R_cut 53 = .ok (.iastore, 1) := by decide +kernel
theorem d_R_cut_54 : decode b_R_cut 54 = .ok (.return_, 1) := by decide +kernel
theorem d_R_roundOff_0 : decode b_R_roundOff 0 = .ok (.aload_n 0, 1) := by decide +kernel
theorem d_R_roundOff_1 : decode b_R_roundOff 1 = .ok (.iload_n 1, 1) := by decide +kernel
theorem d_R_roundOff_2 : decode b_R_roundOff 2 = .ok (.iconst 1, 1) := by decide +kernel
theorem d_R_roundOff_3 : decode b_R_roundOff 3 = .ok (.isub, 1) := by decide +kernel
theorem d_R_roundOff_4 : decode b_R_roundOff 4 = .ok (.invokestatic 25, 3) := by decide +kernel
theorem d_R_roundOff_7 : decode b_R_roundOff 7 = .ok (.iconst 5, 1) := by decide +kernel
theorem d_R_roundOff_8 : decode b_R_roundOff 8 = .ok (.if_icmp .lt 7, 3) := by decide +kernel
theorem d_R_roundOff_11 : decode b_R_roundOff 11 = .ok (.iconst 1, 1) := by decide +kernel
theorem d_R_roundOff_12 : decode b_R_roundOff 12 = .ok (.goto 4, 3) := by decide +kernel
theorem d_R_roundOff_15 : decode b_R_roundOff 15 = .ok (.iconst 0, 1) := by decide +kernel
theorem d_R_roundOff_16 : decode b_R_roundOff 16 = .ok (.istore_n 2, 1) := by decide +kernel
theorem d_R_roundOff_17 : decode b_R_roundOff 17 = .ok (.aload_n 0, 1) := by decide +kernel
theorem d_R_roundOff_18 : decode b_R_roundOff 18 = .ok (.iload_n 1, 1) := by decide +kernel
theorem d_R_roundOff_19 : decode b_R_roundOff 19 = .ok (.invokestatic 29, 3) := by decide +kernel
theorem d_R_roundOff_22 : decode b_R_roundOff 22 = .ok (.iload_n 2, 1) := by decide +kernel
theorem d_R_roundOff_23 : decode b_R_roundOff 23 = .ok (.ifCond .eq 8, 3) := by decide +kernel
theorem d_R_roundOff_26 : decode b_R_roundOff 26 = .ok (.aload_n 0, 1) := by decide +kernel
theorem d_R_roundOff_27 : decode b_R_roundOff 27 = .ok (.iload_n 1, 1) := by decide +kernel
theorem d_R_roundOff_28 : decode b_R_roundOff 28 = .ok (.invokestatic 33, 3) := by decide +kernel
theorem d_R_roundOff_31 : decode b_R_roundOff 31 = .ok (.return_, 1) := by decide +kernel
theorem d_R_addOneAt_0 : decode b_R_addOneAt 0 = .ok (.iload_n 1, 1) := by decide +kernel
theorem d_R_addOneAt_1 : decode b_R_addOneAt 1 = .ok (.ifCond .ge 4, 3) := by decide +kernel
theorem d_R_addOneAt_4 : decode b_R_addOneAt 4 = .ok (.return_, 1) := by decide +kernel
theorem d_R_addOneAt_5 : decode b_R_addOneAt 5 = .ok (.getstatic 15, 3) := by decide +kernel
theorem d_R_addOneAt_8 : decode b_R_addOneAt 8 = .ok (.iload_n 1, 1) := by decide +kernel
theorem d_R_addOneAt_9 : decode b_R_addOneAt 9 = .ok (.iconst 4, 1) := by decide +kernel
theorem d_R_addOneAt_10 : decode b_R_addOneAt 10 = .ok (.irem, 1) := by decide +kernel
theorem d_R_addOneAt_11 : decode b_R_addOneAt 11 = .ok (.iaload, 1) := by decide +kernel
theorem d_R_addOneAt_12 : decode b_R_addOneAt 12 = .ok (.istore_n 2, 1) := by decide +kernel
theorem d_R_addOneAt_13 : decode b_R_addOneAt 13 = .ok (.iload_n 1, 1) := by decide +kernel
theorem d_R_addOneAt_14 : decode b_R_addOneAt 14 = .ok (.iconst 4, 1) := by decide +kernel
theorem d_R_addOneAt_15 : decode b_R_addOneAt 15 = .ok (.idiv, 1) := by decide +kernel
theorem d_R_addOneAt_16 : decode b_R_addOneAt 16 = .ok (.istore_n 3, 1) := by decide +kernel
theorem d_R_addOneAt_17 : decode b_R_addOneAt 17 = .ok (.iload_n 3, 1) := by decide +kernel
theorem d_R_addOneAt_18 : decode b_R_addOneAt 18 = .ok (.aload_n 0, 1) := by decide +kernel
theorem d_R_addOneAt_19 : decode b_R_addOneAt 19 = .ok (.arraylength, 1) := by decide +kernel
theorem d_R_addOneAt_20 : decode b_R_addOneAt 20 = .ok (.if_icmp .ge 36, 3) := by decide +kernel
theorem d_R_addOneAt_23 : decode b_R_addOneAt 23 = .ok (.iload_n 2, 1) := by decide +kernel
theorem d_R_addOneAt_24 : decode b_R_addOneAt 24 = .ok (.ifCond .le 32, 3) := by decide +kernel
theorem d_R_addOneAt_27 : decode b_R_addOneAt 27 = .ok (.aload_n 0, 1) := by decide +kernel
theorem d_R_addOneAt_28 : decode b_R_addOneAt 28 = .ok (.iload_n 3, 1) := by decide +kernel
theorem d_R_addOneAt_29 : decode b_R_addOneAt 29 = .ok (.iaload, 1) := by decide +kernel
theorem d_R_addOneAt_30 : decode b_R_addOneAt 30 = .ok (.iload_n 2, 1) := by decide +kernel
theorem d_R_addOneAt_31 : decode b_R_addOneAt 31 = .ok (.iadd, 1) := by decide +kernel
theorem d_R_addOneAt_32 : decode b_R_addOneAt 32 = .ok (.istore 4, 2) := by decide +kernel
theorem d_R_addOneAt_34 : decode b_R_addOneAt 34 = .ok (.iload 4, 2) := by decide +kernel
theorem d_R_addOneAt_36 : decode b_R_addOneAt 36 = .ok (.sipush 10000, 3) := by decide +kernel
theorem d_R_addOneAt_39 : decode b_R_addOneAt 39 = .ok (.idiv, 1) := by decide +kernel
theorem d_R_addOneAt_40 : decode b_R_addOneAt 40 = .ok (.istore_n 2, 1) := by decide +kernel
theorem d_R_addOneAt_41 : decode b_R_addOneAt 41 = .ok (.aload_n 0, 1) := by decide +kernel
theorem d_R_addOneAt_42 : decode b_R_addOneAt 42 = .ok (.iload_n 3, 1) := by decide +kernel
theorem d_R_addOneAt_43 : decode b_R_addOneAt 43 = .ok (.iload 4, 2) := by decide +kernel
theorem d_R_addOneAt_45 : decode b_R_addOneAt 45 = .ok (.sipush 10000, 3) := by decide +kernel
theorem d_R_addOneAt_48 : decode b_R_addOneAt 48 = .ok (.irem, 1) := by decide +kernel
theorem d_R_addOneAt_49 : decode b_R_addOneAt 49 = .ok (.iastore, 1) := by decide +kernel
theorem d_R_addOneAt_50 : decode b_R_addOneAt 50 = .ok (.iinc 3 1, 3) := by decide +kernel
theorem d_R_addOneAt_53 : decode b_R_addOneAt 53 = .ok (.goto (-36), 3) := by decide +kernel
theorem d_R_addOneAt_56 : decode b_R_addOneAt 56 = .ok (.return_, 1) := by decide +kernel
theorem d_R_add_0 : decode b_R_add 0 = .ok (.iconst 0, 1) := by decide +kernel
theorem d_R_add_1 : decode b_R_add 1 = .ok (.istore_n 2, 1) := by decide +kernel
theorem d_R_add_2 : decode b_R_add 2 = .ok (.iconst 0, 1) := by decide +kernel
theorem d_R_add_3 : decode b_R_add 3 = .ok (.istore_n 3, 1) := by decide +kernel
theorem d_R_add_4 : decode b_R_add 4 = .ok (.iload_n 3, 1) := by decide +kernel
theorem d_R_add_5 : decode b_R_add 5 = .ok (.aload_n 0, 1) := by decide +kernel
theorem d_R_add_6 : decode b_R_add 6 = .ok (.arraylength, 1) := by decide +kernel
theorem d_R_add_7 : decode b_R_add 7 = .ok (.if_icmp .ge 42, 3) := by decide +kernel
theorem d_R_add_10 : decode b_R_add 10 = .ok (.iload_n 3, 1) := by decide +kernel
theorem d_R_add_11 : decode b_R_add 11 = .ok (.aload_n 1, 1) := by decide +kernel
theorem d_R_add_12 : decode b_R_add 12 = .ok (.arraylength, 1) := by decide +kernel
theorem d_R_add_13 : decode b_R_add 13 = .ok (.if_icmp .ge 36, 3) := by decide +kernel
theorem d_R_add_16 : decode b_R_add 16 = .ok (.aload_n 0, 1) := by decide +kernel
theorem d_R_add_17 : decode b_R_add 17 = .ok (.iload_n 3, 1) := by decide +kernel
theorem d_R_add_18 : decode b_R_add 18 = .ok (.iaload, 1) := by decide +kernel
theorem d_R_add_19 : decode b_R_add 19 = .ok (.aload_n 1, 1) := by decide +kernel
theorem d_R_add_20 : decode b_R_add 20 = .ok (.iload_n 3, 1) := by decide +kernel
theorem d_R_add_21 : decode b_R_add 21 = .ok (.iaload, 1) := by decide +kernel
theorem d_R_add_22 : decode b_R_add 22 = .ok (.iadd, 1) := by decide +kernel
theorem d_R_add_23 : decode b_R_add 23 = .ok (.iload_n 2, 1) := by decide +kernel
theorem d_R_add_24 : decode b_R_add 24 = .ok (.iadd, 1) := by decide +kernel
theorem d_R_add_25 : decode b_R_add 25 = .ok (.istore 4, 2) := by decide +kernel
theorem d_R_add_27 : decode b_R_add 27 = .ok (.iload 4, 2) := by decide +kernel
theorem d_R_add_29 : decode b_R_add 29 = .ok (.sipush 10000, 3) := by decide +kernel
theorem d_R_add_32 : decode b_R_add 32 = .ok (.idiv, 1) := by decide +kernel
theorem d_R_add_33 : decode b_R_add 33 = .ok (.istore_n 2, 1) := by decide +kernel
theorem d_R_add_34 : decode b_R_add 34 = .ok (.aload_n 0, 1) := by decide +kernel
theorem d_R_add_35 : decode b_R_add 35 = .ok (.iload_n 3, 1) := by decide +kernel
theorem d_R_add_36 : decode b_R_add 36 = .ok (.iload 4, 2) := by decide +kernel
theorem d_R_add_38 : decode b_R_add 38 = .ok (.sipush 10000, 3) := by decide +kernel
theorem d_R_add_41 : decode b_R_add 41 = .ok (.irem, 1) := by decide +kernel
theorem d_R_add_42 : decode b_R_add 42 = .ok (.iastore, 1) := by decide +kernel
theorem d_R_add_43 : decode b_R_add 43 = .ok (.iinc 3 1, 3) := by decide +kernel
theorem d_R_add_46 : decode b_R_add 46 = .ok (.goto (-42), 3) := by decide +kernel
theorem d_R_add_49 : decode b_R_add 49 = .ok (.return_, 1) := by decide +kernel
theorem d_R_subtract_0 : decode b_R_subtract 0 = .ok (.iconst 0, 1) := by decide +kernel
theorem d_R_subtract_1 : decode b_R_subtract 1 = .ok (.istore_n 3, 1) := by decide +kernel
theorem d_R_subtract_2 : decode b_R_subtract 2 = .ok (.iconst 0, 1) := by decide +kernel
theorem d_R_subtract_3 : decode b_R_subtract 3 = .ok (.istore 4, 2) := by decide +kernel
theorem d_R_subtract_5 : decode b_R_subtract 5 = .ok (.iload 4, 2) := by decide +kernel
theorem d_R_subtract_7 : decode b_R_subtract 7 = .ok (.aload_n 0, 1) := by decide +kernel
theorem d_R_subtract_8 : decode b_R_subtract 8 = .ok (.arraylength, 1) := by decide +kernel
theorem d_R_subtract_9 : decode b_R_subtract 9 = .ok (.if_icmp .ge 59, 3) := by decide +kernel
theorem d_R_subtract_12 : decode b_R_subtract 12 = .ok (.iload 4, 2) := by decide +kernel
theorem d_R_subtract_14 : decode b_R_subtract 14 = .ok (.aload_n 1, 1) := by decide +kernel
theorem d_R_subtract_15 : decode b_R_subtract 15 = .ok (.arraylength, 1) := by decide +kernel
theorem d_R_subtract_16 : decode b_R_subtract 16 = .ok (.if_icmp .ge 52, 3) := by decide +kernel
theorem d_R_subtract_19 : decode b_R_subtract 19 = .ok (.iload 4, 2) := by decide +kernel
theorem d_R_subtract_21 : decode b_R_subtract 21 = .ok (.aload_n 2, 1) := by decide +kernel
theorem d_R_subtract_22 : decode b_R_subtract 22 = .ok (.arraylength, 1) := by decide +kernel
theorem d_R_subtract_23 : decode b_R_subtract 23 = .ok (.if_icmp .ge 45, 3) := by decide +kernel
theorem d_R_subtract_26 : decode b_R_subtract 26 = .ok (.aload_n 1, 1) := by decide +kernel
theorem d_R_subtract_27 : decode b_R_subtract 27 = .ok (.iload 4, 2) := by decide +kernel
theorem d_R_subtract_29 : decode b_R_subtract 29 = .ok (.iaload, 1) := by decide +kernel
theorem d_R_subtract_30 : decode b_R_subtract 30 = .ok (.aload_n 2, 1) := by decide +kernel
theorem d_R_subtract_31 : decode b_R_subtract 31 = .ok (.iload 4, 2) := by decide +kernel
theorem d_R_subtract_33 : decode b_R_subtract 33 = .ok (.iaload, 1) := by decide +kernel
theorem d_R_subtract_34 : decode b_R_subtract 34 = .ok (.isub, 1) := by decide +kernel
theorem d_R_subtract_35 : decode b_R_subtract 35 = .ok (.iload_n 3, 1) := by decide +kernel
theorem d_R_subtract_36 : decode b_R_subtract 36 = .ok (.isub, 1) := by decide +kernel
theorem d_R_subtract_37 : decode b_R_subtract 37 = .ok (.istore 5, 2) := by decide +kernel
theorem d_R_subtract_39 : decode b_R_subtract 39 = .ok (.iload 5, 2) := by decide +kernel
theorem d_R_subtract_41 : decode b_R_subtract 41 = .ok (.ifCond .ge 7, 3) := by decide +kernel
theorem d_R_subtract_44 : decode b_R_subtract 44 = .ok (.iconst 1, 1) := by decide +kernel
theorem d_R_subtract_45 : decode b_R_subtract 45 = .ok (.goto 4, 3) := by decide +kernel
theorem d_R_subtract_48 : decode b_R_subtract 48 = .ok (.iconst 0, 1) := by decide +kernel
theorem d_R_subtract_49 : decode b_R_subtract 49 = .ok (.istore_n 3, 1) := by decide +kernel
theorem d_R_subtract_50 : decode b_R_subtract 50 = .ok (.aload_n 0, 1) := by decide +kernel
theorem d_R_subtract_51 : decode b_R_subtract 51 = .ok (.iload 4, 2) := by decide +kernel
theorem d_R_subtract_53 : decode b_R_subtract 53 = .ok (.iload 5, 2) := by decide +kernel
theorem d_R_subtract_55 : decode b_R_subtract 55 = .ok (.iload_n 3, 1) := by decide +kernel
theorem d_R_subtract_56 : decode b_R_subtract 56 = .ok (.sipush 10000, 3) := by decide +kernel
theorem d_R_subtract_59 : decode b_R_subtract 59 = .ok (.imul, 1) := by decide +kernel
theorem d_R_subtract_60 : decode b_R_subtract 60 = .ok (.iadd, 1) := by decide +kernel
theorem d_R_subtract_61 : decode b_R_subtract 61 = .ok (.iastore, 1) := by decide +kernel
theorem d_R_subtract_62 : decode b_R_subtract 62 = .ok (.iinc 4 1, 3) := by decide +kernel
theorem d_R_subtract_65 : decode b_R_subtract 65 = .ok (.goto (-60), 3) := by decide +kernel
theorem d_R_subtract_68 : decode b_R_subtract 68 = .ok (.return_, 1) := by decide +kernel
theorem d_R_order_0 : decode b_R_order 0 = .ok (.aload_n 0, 1) := by decide +kernel
theorem d_R_order_1 : decode b_R_order 1 = .ok (.arraylength, 1) := by decide +kernel
theorem d_R_order_2 : decode b_R_order 2 = .ok (.aload_n 1, 1) := by decide +kernel
theorem d_R_order_3 : decode b_R_order 3 = .ok (.arraylength, 1) := by decide +kernel
theorem d_R_order_4 : decode b_R_order 4 = .ok (.invokestatic 19, 3) := by decide +kernel
theorem d_R_order_7 : decode b_R_order 7 = .ok (.iconst 1, 1) := by decide +kernel
theorem d_R_order_8 : decode b_R_order 8 = .ok (.isub, 1) := by decide +kernel
theorem d_R_order_9 : decode b_R_order 9 = .ok (.istore_n 2, 1) := by decide +kernel
theorem d_R_order_10 : decode b_R_order 10 = .ok (.iload_n 2, 1) := by decide +kernel
theorem d_R_order_11 : decode b_R_order 11 = .ok (.ifCond .lt 33, 3) := by decide +kernel
theorem d_R_order_14 : decode b_R_order 14 = .ok (.aload_n 0, 1) := by decide +kernel
theorem d_R_order_15 : decode b_R_order 15 = .ok (.iload_n 2, 1) := by decide +kernel
theorem d_R_order_16 : decode b_R_order 16 = .ok (.iaload, 1) := by decide +kernel
theorem d_R_order_17 : decode b_R_order 17 = .ok (.aload_n 1, 1) := by decide +kernel
theorem d_R_order_18 : decode b_R_order 18 = .ok (.iload_n 2, 1) := by decide +kernel
theorem d_R_order_19 : decode b_R_order 19 = .ok (.iaload, 1) := by decide +kernel
theorem d_R_order_20 : decode b_R_order 20 = .ok (.if_icmp .eq 18, 3) := by decide +kernel
theorem d_R_order_23 : decode b_R_order 23 = .ok (.aload_n 0, 1) := by decide +kernel
theorem d_R_order_24 : decode b_R_order 24 = .ok (.iload_n 2, 1) := by decide +kernel
theorem d_R_order_25 : decode b_R_order 25 = .ok (.iaload, 1) := by decide +kernel
theorem d_R_order_26 : decode b_R_order 26 = .ok (.aload_n 1, 1) := by decide +kernel
theorem d_R_order_27 : decode b_R_order 27 = .ok (.iload_n 2, 1) := by decide +kernel
theorem d_R_order_28 : decode b_R_order 28 = .ok (.iaload, 1) := by decide +kernel
theorem d_R_order_29 : decode b_R_order 29 = .ok (.if_icmp .ge 7, 3) := by decide +kernel
theorem d_R_order_32 : decode b_R_order 32 = .ok (.iconst (-1), 1) := by decide +kernel
theorem d_R_order_33 : decode b_R_order 33 = .ok (.goto 4, 3) := by decide +kernel
theorem d_R_order_36 : decode b_R_order 36 = .ok (.iconst 1, 1) := by decide +kernel
theorem d_R_order_37 : decode b_R_order 37 = .ok (.ireturn, 1) := by decide +kernel
theorem d_R_order_38 : decode b_R_order 38 = .ok (.iinc 2 (-1), 3) := by decide +kernel
theorem d_R_order_41 : decode b_R_order 41 = .ok (.goto (-31), 3) := by decide +kernel
theorem d_R_order_44 : decode b_R_order 44 = .ok (.iconst 0, 1) := by decide +kernel
theorem d_R_order_45 : decode b_R_order 45 = .ok (.ireturn, 1) := by decide +kernel
theorem d_R_multiplyByLimb_0 : decode b_R_multiplyByLimb 0 = .ok (.aload_n 0, 1) := by decide +kernel
theorem d_R_multiplyByLimb_1 : decode b_R_multiplyByLimb 1 = .ok (.iconst 0, 1) := by decide +kernel
theorem d_R_multiplyByLimb_2 : decode b_R_multiplyByLimb 2 = .ok (.invokestatic 36, 3) := by decide +kernel
theorem d_R_multiplyByLimb_5 : decode b_R_multiplyByLimb 5 = .ok (.aload_n 0, 1) := by decide +kernel
theorem d_R_multiplyByLimb_6 : decode b_R_multiplyByLimb 6 = .ok (.aload_n 1, 1) := by decide +kernel
theorem d_R_multiplyByLimb_7 : decode b_R_multiplyByLimb 7 = .ok (.iload_n 2, 1) := by decide +kernel
theorem d_R_multiplyByLimb_8 : decode b_R_multiplyByLimb 8 = .ok (.iload_n 3, 1) := by decide +kernel
theorem d_R_multiplyByLimb_9 : decode b_R_multiplyByLimb 9 = .ok (.invokestatic 41, 3) := by decide +kernel
theorem d_R_multiplyByLimb_12 : decode b_R_multiplyByLimb 12 = .ok (.return_, 1) := by decide +kernel
theorem d_R_multiply_0 : decode b_R_multiply 0 = .ok (.aload_n 0, 1) := by decide +kernel
theorem d_R_multiply_1 : decode b_R_multiply 1 = .ok (.iconst 0, 1) := by decide +kernel
theorem d_R_multiply_2 : decode b_R_multiply 2 = .ok (.invokestatic 36, 3) := by decide +kernel
theorem d_R_multiply_5 : decode b_R_multiply 5 = .ok (.iconst 0, 1) := by decide +kernel
theorem d_R_multiply_6 : decode b_R_multiply 6 = .ok (.istore_n 3, 1) := by decide +kernel
theorem d_R_multiply_7 : decode b_R_multiply 7 = .ok (.iload_n 3, 1) := by decide +kernel
theorem d_R_multiply_8 : decode b_R_multiply 8 = .ok (.aload_n 2, 1) := by decide +kernel
theorem d_R_multiply_9 : decode b_R_multiply 9 = .ok (.arraylength, 1) := by decide +kernel
theorem d_R_multiply_10 : decode b_R_multiply 10 = .ok (.if_icmp .ge 24, 3) := by decide +kernel
theorem d_R_multiply_13 : decode b_R_multiply 13 = .ok (.aload_n 2, 1) := by decide +kernel
theorem d_R_multiply_14 : decode b_R_multiply 14 = .ok (.iload_n 3, 1) := by decide +kernel
theorem d_R_multiply_15 : decode b_R_multiply 15 = .ok (.iaload, 1) := by decide +kernel
theorem d_R_multiply_16 : decode b_R_multiply 16 = .ok (.ifCond .eq 12, 3) := by decide +kernel
theorem d_R_multiply_19 : decode b_R_multiply 19 = .ok (.aload_n 0, 1) := by decide +kernel
theorem d_R_multiply_20 : decode b_R_multiply 20 = .ok (.aload_n 1, 1) := by decide +kernel
theorem d_R_multiply_21 : decode b_R_multiply 21 = .ok (.aload_n 2, 1) := by decide +kernel
theorem d_R_multiply_22 : decode b_R_multiply 22 = .ok (.iload_n 3, 1) := by decide +kernel
theorem d_R_multiply_23 : decode b_R_multiply 23 = .ok (.iaload, 1) := by decide +kernel
theorem d_R_multiply_24 : decode b_R_multiply 24 = .ok (.iload_n 3, 1) := by decide +kernel
theorem d_R_multiply_25 : decode b_R_multiply 25 = .ok (.invokestatic 41, 3) := by decide +kernel
theorem d_R_multiply_28 : decode b_R_multiply 28 = .ok (.iinc 3 1, 3) := by decide +kernel
theorem d_R_multiply_31 : decode b_R_multiply 31 = .ok (.goto (-24), 3) := by decide +kernel
theorem d_R_multiply_34 : decode b_R_multiply 34 = .ok (.return_, 1) := by decide +kernel
theorem d_R_addMultiple_0 : decode b_R_addMultiple 0 = .ok (.iconst 0, 1) := by decide +kernel
theorem d_R_addMultiple_1 : decode b_R_addMultiple 1 = .ok (.istore 4, 2) := by decide +kernel
theorem d_R_addMultiple_3 : decode b_R_addMultiple 3 = .ok (.iload_n 3, 1) := by decide +kernel
theorem d_R_addMultiple_4 : decode b_R_addMultiple 4 = .ok (.istore 5, 2) := by decide +kernel
theorem d_R_addMultiple_6 : decode b_R_addMultiple 6 = .ok (.iload 5, 2) := by decide +kernel
theorem d_R_addMultiple_8 : decode b_R_addMultiple 8 = .ok (.aload_n 0, 1) := by decide +kernel
theorem d_R_addMultiple_9 : decode b_R_addMultiple 9 = .ok (.arraylength, 1) := by decide +kernel
theorem d_R_addMultiple_10 : decode b_R_addMultiple 10 = .ok (.if_icmp .ge 62, 3) := by decide +kernel
theorem d_R_addMultiple_13 : decode b_R_addMultiple 13 = .ok (.iload 5, 2) := by decide +kernel
theorem d_R_addMultiple_15 : decode b_R_addMultiple 15 = .ok (.iload_n 3, 1) := by decide +kernel
theorem d_R_addMultiple_16 : decode b_R_addMultiple 16 = .ok (.isub, 1) := by decide +kernel
theorem d_R_addMultiple_17 : decode b_R_addMultiple 17 = .ok (.aload_n 1, 1) := by decide +kernel
theorem d_R_addMultiple_18 : decode b_R_addMultiple 18 = .ok (.arraylength, 1) := by decide +kernel
theorem d_R_addMultiple_19 : decode b_R_addMultiple 19 = .ok (.if_icmp .ge 12, 3) := by decide +kernel
theorem d_R_addMultiple_22 : decode b_R_addMultiple 22 = .ok (.aload_n 1, 1) := by decide +kernel
theorem d_R_addMultiple_23 : decode b_R_addMultiple 23 = .ok (.iload 5, 2) := by decide +kernel
theorem d_R_addMultiple_25 : decode b_R_addMultiple 25 = .ok (.iload_n 3, 1) := by decide +kernel
theorem d_R_addMultiple_26 : decode b_R_addMultiple 26 = .ok (.isub, 1) := by decide +kernel
theorem d_R_addMultiple_27 : decode b_R_addMultiple 27 = .ok (.iaload, 1) := by decide +kernel
theorem d_R_addMultiple_28 : decode b_R_addMultiple 28 = .ok (.goto 4, 3) := by decide +kernel
theorem d_R_addMultiple_31 : decode b_R_addMultiple 31 = .ok (.iconst 0, 1) := by decide +kernel
theorem d_R_addMultiple_32 : decode b_R_addMultiple 32 = .ok (.istore 6, 2) := by decide +kernel
theorem d_R_addMultiple_34 : decode b_R_addMultiple 34 = .ok (.aload_n 0, 1) := by decide +kernel
theorem d_R_addMultiple_35 : decode b_R_addMultiple 35 = .ok (.iload 5, 2) := by decide +kernel
theorem d_R_addMultiple_37 : decode b_R_addMultiple 37 = .ok (.iaload, 1) := by decide +kernel
theorem d_R_addMultiple_38 : decode b_R_addMultiple 38 = .ok (.iload 6, 2) := by decide +kernel
theorem d_R_addMultiple_40 : decode b_R_addMultiple 40 = .ok (.iload_n 2, 1) := by decide +kernel
theorem d_R_addMultiple_41 : decode b_R_addMultiple 41 = .ok (.imul, 1) := by decide +kernel
theorem d_R_addMultiple_42 : decode b_R_addMultiple 42 = .ok (.iadd, 1) := by decide +kernel
theorem d_R_addMultiple_43 : decode b_R_addMultiple 43 = .ok (.iload 4, 2) := by decide +kernel
theorem d_R_addMultiple_45 : decode b_R_addMultiple 45 = .ok (.iadd, 1) := by decide +kernel
theorem d_R_addMultiple_46 : decode b_R_addMultiple 46 = .ok (.istore 7, 2) := by decide +kernel
theorem d_R_addMultiple_48 : decode b_R_addMultiple 48 = .ok (.iload 7, 2) := by decide +kernel
theorem d_R_addMultiple_50 : decode b_R_addMultiple 50 = .ok (.sipush 10000, 3) := by decide +kernel
theorem d_R_addMultiple_53 : decode b_R_addMultiple 53 = .ok (.idiv, 1) := by decide +kernel
theorem d_R_addMultiple_54 : decode b_R_addMultiple 54 = .ok (.istore 4, 2) := by decide +kernel
theorem d_R_addMultiple_56 : decode b_R_addMultiple 56 = .ok (.aload_n 0, 1) := by decide +kernel
theorem d_R_addMultiple_57 : decode b_R_addMultiple 57 = .ok (.iload 5, 2) := by decide +kernel
theorem d_R_addMultiple_59 : decode b_R_addMultiple 59 = .ok (.iload 7, 2) := by decide +kernel
theorem d_R_addMultiple_61 : decode b_R_addMultiple 61 = .ok (.sipush 10000, 3) := by decide +kernel
theorem d_R_addMultiple_64 : decode b_R_addMultiple 64 = .ok (.irem, 1) := by decide +kernel
theorem d_R_addMultiple_65 : decode b_R_addMultiple 65 = .ok (.iastore, 1) := by decide +kernel
theorem d_R_addMultiple_66 : decode b_R_addMultiple 66 = .ok (.iinc 5 1, 3) := by decide +kernel
theorem d_R_addMultiple_69 : decode b_R_addMultiple 69 = .ok (.goto (-63), 3) := by decide +kernel
theorem d_R_addMultiple_72 : decode b_R_addMultiple 72 = .ok (.return_, 1) := by decide +kernel
theorem d_R_divide_0 : decode b_R_divide 0 = .ok (.aload_n 1, 1) := by decide +kernel
theorem d_R_divide_1 : decode b_R_divide 1 = .ok (.iconst 0, 1) := by decide +kernel
theorem d_R_divide_2 : decode b_R_divide 2 = .ok (.invokestatic 36, 3) := by decide +kernel
theorem d_R_divide_5 : decode b_R_divide 5 = .ok (.aload_n 2, 1) := by decide +kernel
theorem d_R_divide_6 : decode b_R_divide 6 = .ok (.invokestatic 9, 3) := by decide +kernel
theorem d_R_divide_9 : decode b_R_divide 9 = .ok (.istore_n 3, 1) := by decide +kernel
theorem d_R_divide_10 : decode b_R_divide 10 = .ok (.iload_n 3, 1) := by decide +kernel
theorem d_R_divide_11 : decode b_R_divide 11 = .ok (.ifCond .ge 4, 3) := by decide +kernel
theorem d_R_divide_14 : decode b_R_divide 14 = .ok (.return_, 1) := by decide +kernel
theorem d_R_divide_15 : decode b_R_divide 15 = .ok (.aload_n 2, 1) := by decide +kernel
theorem d_R_divide_16 : decode b_R_divide 16 = .ok (.iload_n 3, 1) := by decide +kernel
theorem d_R_divide_17 : decode b_R_divide 17 = .ok (.iconst 3, 1) := by decide +kernel
theorem d_R_divide_18 : decode b_R_divide 18 = .ok (.invokestatic 45, 3) := by decide +kernel
theorem d_R_divide_21 : decode b_R_divide 21 = .ok (.lconst 1, 1) := by decide +kernel
theorem d_R_divide_22 : decode b_R_divide 22 = .ok (.ladd, 1) := by decide +kernel
theorem d_R_divide_23 : decode b_R_divide 23 = .ok (.lstore 4, 2) := by decide +kernel
theorem d_R_divide_25 : decode b_R_divide 25 = .ok (.aload_n 0, 1) := by decide +kernel
theorem d_R_divide_26 : decode b_R_divide 26 = .ok (.invokestatic 9, 3) := by decide +kernel
theorem d_R_divide_29 : decode b_R_divide 29 = .ok (.iload_n 3, 1) := by decide +kernel
theorem d_R_divide_30 : decode b_R_divide 30 = .ok (.isub, 1) := by decide +kernel
theorem d_R_divide_31 : decode b_R_divide 31 = .ok (.istore 6, 2) := by decide +kernel
theorem d_R_divide_33 : decode b_R_divide 33 = .ok (.iload 6, 2) := by decide +kernel
theorem d_R_divide_35 : decode b_R_divide 35 = .ok (.ifCond .lt 65, 3) := by decide +kernel
theorem d_R_divide_38 : decode b_R_divide 38 = .ok (.aload_n 0, 1) := by decide +kernel
theorem d_R_divide_39 : decode b_R_divide 39 = .ok (.iload 6, 2) := by decide +kernel
theorem d_R_divide_41 : decode b_R_divide 41 = .ok (.iload_n 3, 1) := by decide +kernel
theorem d_R_divide_42 : decode b_R_divide 42 = .ok (.iadd, 1) := by decide +kernel
theorem d_R_divide_43 : decode b_R_divide 43 = .ok (.iconst 1, 1) := by decide +kernel
theorem d_R_divide_44 : decode b_R_divide 44 = .ok (.iadd, 1) := by decide +kernel
theorem d_R_divide_45 : decode b_R_divide 45 = .ok (.iconst 4, 1) := by decide +kernel
theorem d_R_divide_46 : decode b_R_divide 46 = .ok (.invokestatic 45, 3) := by decide +kernel
theorem d_R_divide_49 : decode b_R_divide 49 = .ok (.lload 4, 2) := by decide +kernel
theorem d_R_divide_51 : decode b_R_divide 51 = .ok (.ldiv, 1) := by decide +kernel
theorem d_R_divide_52 : decode b_R_divide 52 = .ok (.l2i, 1) := by decide +kernel
theorem d_R_divide_53 : decode b_R_divide 53 = .ok (.istore 7, 2) := by decide +kernel
theorem d_R_divide_55 : decode b_R_divide 55 = .ok (.aload_n 0, 1) := by decide +kernel
theorem d_R_divide_56 : decode b_R_divide 56 = .ok (.aload_n 2, 1) := by decide +kernel
theorem d_R_divide_57 : decode b_R_divide 57 = .ok (.iload 7, 2) := by decide +kernel
theorem d_R_divide_59 : decode b_R_divide 59 = .ok (.iload 6, 2) := by decide +kernel
theorem d_R_divide_61 : decode b_R_divide 61 = .ok (.iload_n 3, 1) := by decide +kernel
theorem d_R_divide_62 : decode b_R_divide 62 = .ok (.invokestatic 49, 3) := by decide +kernel
theorem d_R_divide_65 : decode b_R_divide 65 = .ok (.aload_n 0, 1) := by decide +kernel
theorem d_R_divide_66 : decode b_R_divide 66 = .ok (.aload_n 2, 1) := by decide +kernel
theorem d_R_divide_67 : decode b_R_divide 67 = .ok (.iload 6, 2) := by decide +kernel
theorem d_R_divide_69 : decode b_R_divide 69 = .ok (.iload_n 3, 1) := by decide +kernel
theorem d_R_divide_70 : decode b_R_divide 70 = .ok (.invokestatic 53, 3) := by decide +kernel
theorem d_R_divide_73 : decode b_R_divide 73 = .ok (.ifCond .eq 15, 3) := by decide +kernel
theorem d_R_divide_76 : decode b_R_divide 76 = .ok (.aload_n 0, 1) := by decide +kernel
theorem d_R_divide_77 : decode b_R_divide 77 = .ok (.aload_n 2, 1) := by decide +kernel
theorem d_R_divide_78 : decode b_R_divide 78 = .ok (.iconst 1, 1) := by decide +kernel
theorem d_R_divide_79 : decode b_R_divide 79 = .ok (.iload 6, 2) := by decide +kernel
theorem d_R_divide_81 : decode b_R_divide 81 = .ok (.iload_n 3, 1) := by decide +kernel
theorem d_R_divide_82 : decode b_R_divide 82 = .ok (.invokestatic 49, 3) := by decide +kernel
theorem d_R_divide_85 : decode b_R_divide 85 = .ok (.iinc 7 1, 3) := by decide +kernel
theorem d_R_divide_88 : decode b_R_divide 88 = .ok (.aload_n 1, 1) := by decide +kernel
theorem d_R_divide_89 : decode b_R_divide 89 = .ok (.iload 6, 2) := by decide +kernel
theorem d_R_divide_91 : decode b_R_divide 91 = .ok (.iload 7, 2) := by decide +kernel
theorem d_R_divide_93 : decode b_R_divide 93 = .ok (.iastore, 1) := by decide +kernel
theorem d_R_divide_94 : decode b_R_divide 94 = .ok (.iinc 6 (-1), 3) := by decide +kernel
theorem d_R_divide_97 : decode b_R_divide 97 = .ok (.goto (-64), 3) := by decide +kernel
theorem d_R_divide_100 : decode b_R_divide 100 = .ok (.return_, 1) := by decide +kernel
theorem d_R_head_0 : decode b_R_head 0 = .ok (.lconst 0, 1) := by decide +kernel
theorem d_R_head_1 : decode b_R_head 1 = .ok (.lstore_n 3, 1) := by decide +kernel
theorem d_R_head_2 : decode b_R_head 2 = .ok (.iload_n 1, 1) := by decide +kernel
theorem d_R_head_3 : decode b_R_head 3 = .ok (.istore 5, 2) := by decide +kernel
theorem d_R_head_5 : decode b_R_head 5 = .ok (.iload 5, 2) := by decide +kernel
theorem d_R_head_7 : decode b_R_head 7 = .ok (.iload_n 1, 1) := by decide +kernel
theorem d_R_head_8 : decode b_R_head 8 = .ok (.iload_n 2, 1) := by decide +kernel
theorem d_R_head_9 : decode b_R_head 9 = .ok (.isub, 1) := by decide +kernel
theorem d_R_head_10 : decode b_R_head 10 = .ok (.if_icmp .le 37, 3) := by decide +kernel
theorem d_R_head_13 : decode b_R_head 13 = .ok (.lload_n 3, 1) := by decide +kernel
theorem d_R_head_14 : decode b_R_head 14 = .ok (.ldc2_w 57, 3) := by decide +kernel
theorem d_R_head_17 : decode b_R_head 17 = .ok (.lmul, 1) := by decide +kernel
theorem d_R_head_18 : decode b_R_head 18 = .ok (.iload 5, 2) := by decide +kernel
theorem d_R_head_20 : decode b_R_head 20 = .ok (.ifCond .lt 17, 3) := by decide +kernel
theorem d_R_head_23 : decode b_R_head 23 = .ok (.iload 5, 2) := by decide +kernel
theorem d_R_head_25 : decode b_R_head 25 = .ok (.aload_n 0, 1) := by decide +kernel
theorem d_R_head_26 : decode b_R_head 26 = .ok (.arraylength, 1) := by decide +kernel
theorem d_R_head_27 : decode b_R_head 27 = .ok (.if_icmp .ge 10, 3) := by decide +kernel
theorem d_R_head_30 : decode b_R_head 30 = .ok (.aload_n 0, 1) := by decide +kernel
theorem d_R_head_31 : decode b_R_head 31 = .ok (.iload 5, 2) := by decide +kernel
theorem d_R_head_33 : decode b_R_head 33 = .ok (.iaload, 1) := by decide +kernel
theorem d_R_head_34 : decode b_R_head 34 = .ok (.goto 4, 3) := by decide +kernel
theorem d_R_head_37 : decode b_R_head 37 = .ok (.iconst 0, 1) := by decide +kernel
theorem d_R_head_38 : decode b_R_head 38 = .ok (.i2l, 1) := by decide +kernel
theorem d_R_head_39 : decode b_R_head 39 = .ok (.ladd, 1) := by decide +kernel
theorem d_R_head_40 : decode b_R_head 40 = .ok (.lstore_n 3, 1) := by decide +kernel
theorem d_R_head_41 : decode b_R_head 41 = .ok (.iinc 5 (-1), 3) := by decide +kernel
theorem d_R_head_44 : decode b_R_head 44 = .ok (.goto (-39), 3) := by decide +kernel
theorem d_R_head_47 : decode b_R_head 47 = .ok (.lload_n 3, 1) := by decide +kernel
theorem d_R_head_48 : decode b_R_head 48 = .ok (.lreturn, 1) := by decide +kernel
theorem d_R_takeMultiple_0 : decode b_R_takeMultiple 0 = .ok (.iconst 0, 1) := by decide +kernel
theorem d_R_takeMultiple_1 : decode b_R_takeMultiple 1 = .ok (.istore 5, 2) := by decide +kernel
theorem d_R_takeMultiple_3 : decode b_R_takeMultiple 3 = .ok (.iconst 0, 1) := by decide +kernel
theorem d_R_takeMultiple_4 : decode b_R_takeMultiple 4 = .ok (.istore 6, 2) := by decide +kernel
theorem d_R_takeMultiple_6 : decode b_R_takeMultiple 6 = .ok (.iload 6, 2) := by decide +kernel
theorem d_R_takeMultiple_8 : decode b_R_takeMultiple 8 = .ok (.iload 4, 2) := by decide +kernel
theorem d_R_takeMultiple_10 : decode b_R_takeMultiple 10 = .ok (.if_icmp .gt 52, 3) := by decide +kernel
theorem d_R_takeMultiple_13 : decode b_R_takeMultiple 13 = .ok (.aload_n 0, 1) := by decide +kernel
theorem d_R_takeMultiple_14 : decode b_R_takeMultiple 14 = .ok (.iload_n 3, 1) := by decide +kernel
theorem d_R_takeMultiple_15 : decode b_R_takeMultiple 15 = .ok (.iload 6, 2) := by decide +kernel
theorem d_R_takeMultiple_17 : decode b_R_takeMultiple 17 = .ok (.iadd, 1) := by decide +kernel
theorem d_R_takeMultiple_18 : decode b_R_takeMultiple 18 = .ok (.iaload, 1) := by decide +kernel
theorem d_R_takeMultiple_19 : decode b_R_takeMultiple 19 = .ok (.aload_n 1, 1) := by decide +kernel
theorem d_R_takeMultiple_20 : decode b_R_takeMultiple 20 = .ok (.iload 6, 2) := by decide +kernel
theorem d_R_takeMultiple_22 : decode b_R_takeMultiple 22 = .ok (.iaload, 1) := by decide +kernel
theorem d_R_takeMultiple_23 : decode b_R_takeMultiple 23 = .ok (.iload_n 2, 1) := by decide +kernel
theorem d_R_takeMultiple_24 : decode b_R_takeMultiple 24 = .ok (.imul, 1) := by decide +kernel
theorem d_R_takeMultiple_25 : decode b_R_takeMultiple 25 = .ok (.isub, 1) := by decide +kernel
theorem d_R_takeMultiple_26 : decode b_R_takeMultiple 26 = .ok (.iload 5, 2) := by decide +kernel
theorem d_R_takeMultiple_28 : decode b_R_takeMultiple 28 = .ok (.iadd, 1) := by decide +kernel
theorem d_R_takeMultiple_29 : decode b_R_takeMultiple 29 = .ok (.istore 7, 2) := by decide +kernel
theorem d_R_takeMultiple_31 : decode b_R_takeMultiple 31 = .ok (.iload 7, 2) := by decide +kernel
theorem d_R_takeMultiple_33 : decode b_R_takeMultiple 33 = .ok (.sipush 10000, 3) := by decide +kernel
theorem d_R_takeMultiple_36 : decode b_R_takeMultiple 36 = .ok (.invokestatic 59, 3) := by decide +kernel
theorem d_R_takeMultiple_39 : decode b_R_takeMultiple 39 = .ok (.istore 5, 2) := by decide +kernel
theorem d_R_takeMultiple_41 : decode b_R_takeMultiple 41 = .ok (.aload_n 0, 1) := by decide +kernel
theorem d_R_takeMultiple_42 : decode b_R_takeMultiple 42 = .ok (.iload_n 3, 1) := by decide +kernel
theorem d_R_takeMultiple_43 : decode b_R_takeMultiple 43 = .ok (.iload 6, 2) := by decide +kernel
theorem d_R_takeMultiple_45 : decode b_R_takeMultiple 45 = .ok (.iadd, 1) := by decide +kernel
theorem d_R_takeMultiple_46 : decode b_R_takeMultiple 46 = .ok (.iload 7, 2) := by decide +kernel
theorem d_R_takeMultiple_48 : decode b_R_takeMultiple 48 = .ok (.iload 5, 2) := by decide +kernel
theorem d_R_takeMultiple_50 : decode b_R_takeMultiple 50 = .ok (.sipush 10000, 3) := by decide +kernel
theorem d_R_takeMultiple_53 : decode b_R_takeMultiple 53 = .ok (.imul, 1) := by decide +kernel
theorem d_R_takeMultiple_54 : decode b_R_takeMultiple 54 = .ok (.isub, 1) := by decide +kernel
theorem d_R_takeMultiple_55 : decode b_R_takeMultiple 55 = .ok (.iastore, 1) := by decide +kernel
theorem d_R_takeMultiple_56 : decode b_R_takeMultiple 56 = .ok (.iinc 6 1, 3) := by decide +kernel
theorem d_R_takeMultiple_59 : decode b_R_takeMultiple 59 = .ok (.goto (-53), 3) := by decide +kernel
theorem d_R_takeMultiple_62 : decode b_R_takeMultiple 62 = .ok (.iload_n 3, 1) := by decide +kernel
theorem d_R_takeMultiple_63 : decode b_R_takeMultiple 63 = .ok (.iload 4, 2) := by decide +kernel
theorem d_R_takeMultiple_65 : decode b_R_takeMultiple 65 = .ok (.iadd, 1) := by decide +kernel
theorem d_R_takeMultiple_66 : decode b_R_takeMultiple 66 = .ok (.iconst 1, 1) := by decide +kernel
theorem d_R_takeMultiple_67 : decode b_R_takeMultiple 67 = .ok (.iadd, 1) := by decide +kernel
theorem d_R_takeMultiple_68 : decode b_R_takeMultiple 68 = .ok (.aload_n 0, 1) := by decide +kernel
theorem d_R_takeMultiple_69 : decode b_R_takeMultiple 69 = .ok (.arraylength, 1) := by decide +kernel
theorem d_R_takeMultiple_70 : decode b_R_takeMultiple 70 = .ok (.if_icmp .ge 16, 3) := by decide +kernel
theorem d_R_takeMultiple_73 : decode b_R_takeMultiple 73 = .ok (.aload_n 0, 1) := by decide +kernel
theorem d_R_takeMultiple_74 : decode b_R_takeMultiple 74 = .ok (.iload_n 3, 1) := by decide +kernel
theorem d_R_takeMultiple_75 : decode b_R_takeMultiple 75 = .ok (.iload 4, 2) := by decide +kernel
theorem d_R_takeMultiple_77 : decode b_R_takeMultiple 77 = .ok (.iadd, 1) := by decide +kernel
theorem d_R_takeMultiple_78 : decode b_R_takeMultiple 78 = .ok (.iconst 1, 1) := by decide +kernel
theorem d_R_takeMultiple_79 : decode b_R_takeMultiple 79 = .ok (.iadd, 1) := by decide +kernel
theorem d_R_takeMultiple_80 : decode b_R_takeMultiple 80 = .ok (.dup2, 1) := by decide +kernel
theorem d_R_takeMultiple_81 : decode b_R_takeMultiple 81 = .ok (.iaload, 1) := by decide +kernel
theorem d_R_takeMultiple_82 : decode b_R_takeMultiple 82 = .ok (.iload 5, 2) := by decide +kernel
theorem d_R_takeMultiple_84 : decode b_R_takeMultiple 84 = .ok (.iadd, 1) := by decide +kernel
theorem d_R_takeMultiple_85 : decode b_R_takeMultiple 85 = .ok (.iastore, 1) := by decide +kernel
theorem d_R_takeMultiple_86 : decode b_R_takeMultiple 86 = .ok (.return_, 1) := by decide +kernel
theorem d_R_isStillIn_0 : decode b_R_isStillIn 0 = .ok (.iload_n 2, 1) := by decide +kernel
theorem d_R_isStillIn_1 : decode b_R_isStillIn 1 = .ok (.iload_n 3, 1) := by decide +kernel
theorem d_R_isStillIn_2 : decode b_R_isStillIn 2 = .ok (.iadd, 1) := by decide +kernel
theorem d_R_isStillIn_3 : decode b_R_isStillIn 3 = .ok (.iconst 1, 1) := by decide +kernel
theorem d_R_isStillIn_4 : decode b_R_isStillIn 4 = .ok (.iadd, 1) := by decide +kernel
theorem d_R_isStillIn_5 : decode b_R_isStillIn 5 = .ok (.aload_n 0, 1) := by decide +kernel
theorem d_R_isStillIn_6 : decode b_R_isStillIn 6 = .ok (.arraylength, 1) := by decide +kernel
theorem d_R_isStillIn_7 : decode b_R_isStillIn 7 = .ok (.if_icmp .ge 15, 3) := by decide +kernel
theorem d_R_isStillIn_10 : decode b_R_isStillIn 10 = .ok (.aload_n 0, 1) := by decide +kernel
theorem d_R_isStillIn_11 : decode b_R_isStillIn 11 = .ok (.iload_n 2, 1) := by decide +kernel
theorem d_R_isStillIn_12 : decode b_R_isStillIn 12 = .ok (.iload_n 3, 1) := by decide +kernel
theorem d_R_isStillIn_13 : decode b_R_isStillIn 13 = .ok (.iadd, 1) := by decide +kernel
theorem d_R_isStillIn_14 : decode b_R_isStillIn 14 = .ok (.iconst 1, 1) := by decide +kernel
theorem d_R_isStillIn_15 : decode b_R_isStillIn 15 = .ok (.iadd, 1) := by decide +kernel
theorem d_R_isStillIn_16 : decode b_R_isStillIn 16 = .ok (.iaload, 1) := by decide +kernel
theorem d_R_isStillIn_17 : decode b_R_isStillIn 17 = .ok (.ifCond .le 5, 3) := by decide +kernel
theorem d_R_isStillIn_20 : decode b_R_isStillIn 20 = .ok (.iconst 1, 1) := by decide +kernel
theorem d_R_isStillIn_21 : decode b_R_isStillIn 21 = .ok (.ireturn, 1) := by decide +kernel
theorem d_R_isStillIn_22 : decode b_R_isStillIn 22 = .ok (.iload_n 3, 1) := by decide +kernel
theorem d_R_isStillIn_23 : decode b_R_isStillIn 23 = .ok (.istore 4, 2) := by decide +kernel
theorem d_R_isStillIn_25 : decode b_R_isStillIn 25 = .ok (.iload 4, 2) := by decide +kernel
theorem d_R_isStillIn_27 : decode b_R_isStillIn 27 = .ok (.ifCond .lt 41, 3) := by decide +kernel
theorem d_R_isStillIn_30 : decode b_R_isStillIn 30 = .ok (.aload_n 0, 1) := by decide +kernel
theorem d_R_isStillIn_31 : decode b_R_isStillIn 31 = .ok (.iload_n 2, 1) := by decide +kernel
theorem d_R_isStillIn_32 : decode b_R_isStillIn 32 = .ok (.iload 4, 2) := by decide +kernel
theorem d_R_isStillIn_34 : decode b_R_isStillIn 34 = .ok (.iadd, 1) := by decide +kernel
theorem d_R_isStillIn_35 : decode b_R_isStillIn 35 = .ok (.iaload, 1) := by decide +kernel
theorem d_R_isStillIn_36 : decode b_R_isStillIn 36 = .ok (.aload_n 1, 1) := by decide +kernel
theorem d_R_isStillIn_37 : decode b_R_isStillIn 37 = .ok (.iload 4, 2) := by decide +kernel
theorem d_R_isStillIn_39 : decode b_R_isStillIn 39 = .ok (.iaload, 1) := by decide +kernel
theorem d_R_isStillIn_40 : decode b_R_isStillIn 40 = .ok (.if_icmp .eq 22, 3) := by decide +kernel
theorem d_R_isStillIn_43 : decode b_R_isStillIn 43 = .ok (.aload_n 0, 1) := by decide +kernel
theorem d_R_isStillIn_44 : decode b_R_isStillIn 44 = .ok (.iload_n 2, 1) := by decide +kernel
theorem d_R_isStillIn_45 : decode b_R_isStillIn 45 = .ok (.iload 4, 2) := by decide +kernel
theorem d_R_isStillIn_47 : decode b_R_isStillIn 47 = .ok (.iadd, 1) := by decide +kernel
theorem d_R_isStillIn_48 : decode b_R_isStillIn 48 = .ok (.iaload, 1) := by decide +kernel
theorem d_R_isStillIn_49 : decode b_R_isStillIn 49 = .ok (.aload_n 1, 1) := by decide +kernel
theorem d_R_isStillIn_50 : decode b_R_isStillIn 50 = .ok (.iload 4, 2) := by decide +kernel
theorem d_R_isStillIn_52 : decode b_R_isStillIn 52 = .ok (.iaload, 1) := by decide +kernel
theorem d_R_isStillIn_53 : decode b_R_isStillIn 53 = .ok (.if_icmp .le 7, 3) := by decide +kernel
theorem d_R_isStillIn_56 : decode b_R_isStillIn 56 = .ok (.iconst 1, 1) := by decide +kernel
theorem d_R_isStillIn_57 : decode b_R_isStillIn 57 = .ok (.goto 4, 3) := by decide +kernel
theorem d_R_isStillIn_60 : decode b_R_isStillIn 60 = .ok (.iconst 0, 1) := by decide +kernel
theorem d_R_isStillIn_61 : decode b_R_isStillIn 61 = .ok (.ireturn, 1) := by decide +kernel
theorem d_R_isStillIn_62 : decode b_R_isStillIn 62 = .ok (.iinc 4 (-1), 3) := by decide +kernel
theorem d_R_isStillIn_65 : decode b_R_isStillIn 65 = .ok (.goto (-40), 3) := by decide +kernel
theorem d_R_isStillIn_68 : decode b_R_isStillIn 68 = .ok (.iconst 1, 1) := by decide +kernel
theorem d_R_isStillIn_69 : decode b_R_isStillIn 69 = .ok (.ireturn, 1) := by decide +kernel
theorem d_JM_floorDiv_0 : decode b_JM_floorDiv 0 = .ok (.iload_n 0, 1) := by decide +kernel
theorem d_JM_floorDiv_1 : decode b_JM_floorDiv 1 = .ok (.iload_n 1, 1) := by decide +kernel
theorem d_JM_floorDiv_2 : decode b_JM_floorDiv 2 = .ok (.idiv, 1) := by decide +kernel
theorem d_JM_floorDiv_3 : decode b_JM_floorDiv 3 = .ok (.istore_n 2, 1) := by decide +kernel
theorem d_JM_floorDiv_4 : decode b_JM_floorDiv 4 = .ok (.iload_n 0, 1) := by decide +kernel
theorem d_JM_floorDiv_5 : decode b_JM_floorDiv 5 = .ok (.iload_n 1, 1) := by decide +kernel
theorem d_JM_floorDiv_6 : decode b_JM_floorDiv 6 = .ok (.ixor, 1) := by decide +kernel
theorem d_JM_floorDiv_7 : decode b_JM_floorDiv 7 = .ok (.ifCond .ge 14, 3) := by decide +kernel
theorem d_JM_floorDiv_10 : decode b_JM_floorDiv 10 = .ok (.iload_n 2, 1) := by decide +kernel
theorem d_JM_floorDiv_11 : decode b_JM_floorDiv 11 = .ok (.iload_n 1, 1) := by decide +kernel
theorem d_JM_floorDiv_12 : decode b_JM_floorDiv 12 = .ok (.imul, 1) := by decide +kernel
theorem d_JM_floorDiv_13 : decode b_JM_floorDiv 13 = .ok (.iload_n 0, 1) := by decide +kernel
theorem d_JM_floorDiv_14 : decode b_JM_floorDiv 14 = .ok (.if_icmp .eq 7, 3) := by decide +kernel
theorem d_JM_floorDiv_17 : decode b_JM_floorDiv 17 = .ok (.iload_n 2, 1) := by decide +kernel
theorem d_JM_floorDiv_18 : decode b_JM_floorDiv 18 = .ok (.iconst 1, 1) := by decide +kernel
theorem d_JM_floorDiv_19 : decode b_JM_floorDiv 19 = .ok (.isub, 1) := by decide +kernel
theorem d_JM_floorDiv_20 : decode b_JM_floorDiv 20 = .ok (.ireturn, 1) := by decide +kernel
theorem d_JM_floorDiv_21 : decode b_JM_floorDiv 21 = .ok (.iload_n 2, 1) := by decide +kernel
theorem d_JM_floorDiv_22 : decode b_JM_floorDiv 22 = .ok (.ireturn, 1) := by decide +kernel
theorem d_JM_max_0 : decode b_JM_max 0 = .ok (.iload_n 0, 1) := by decide +kernel
theorem d_JM_max_1 : decode b_JM_max 1 = .ok (.iload_n 1, 1) := by decide +kernel
theorem d_JM_max_2 : decode b_JM_max 2 = .ok (.if_icmp .lt 7, 3) := by decide +kernel
theorem d_JM_max_5 : decode b_JM_max 5 = .ok (.iload_n 0, 1) := by decide +kernel
theorem d_JM_max_6 : decode b_JM_max 6 = .ok (.goto 4, 3) := by decide +kernel
theorem d_JM_max_9 : decode b_JM_max 9 = .ok (.iload_n 1, 1) := by decide +kernel
theorem d_JM_max_10 : decode b_JM_max 10 = .ok (.ireturn, 1) := by decide +kernel
theorem d_JM_min_0 : decode b_JM_min 0 = .ok (.iload_n 0, 1) := by decide +kernel
theorem d_JM_min_1 : decode b_JM_min 1 = .ok (.iload_n 1, 1) := by decide +kernel
theorem d_JM_min_2 : decode b_JM_min 2 = .ok (.if_icmp .gt 7, 3) := by decide +kernel
theorem d_JM_min_5 : decode b_JM_min 5 = .ok (.iload_n 0, 1) := by decide +kernel
theorem d_JM_min_6 : decode b_JM_min 6 = .ok (.goto 4, 3) := by decide +kernel
theorem d_JM_min_9 : decode b_JM_min 9 = .ok (.iload_n 1, 1) := by decide +kernel
theorem d_JM_min_10 : decode b_JM_min 10 = .ok (.ireturn, 1) := by decide +kernel
theorem d_JI_signum_0 : decode b_JI_signum 0 = .ok (.iload_n 0, 1) := by decide +kernel
theorem d_JI_signum_1 : decode b_JI_signum 1 = .ok (.bipush 31, 2) := by decide +kernel
theorem d_JI_signum_3 : decode b_JI_signum 3 = .ok (.ishr, 1) := by decide +kernel
theorem d_JI_signum_4 : decode b_JI_signum 4 = .ok (.iload_n 0, 1) := by decide +kernel
theorem d_JI_signum_5 : decode b_JI_signum 5 = .ok (.ineg, 1) := by decide +kernel
theorem d_JI_signum_6 : decode b_JI_signum 6 = .ok (.bipush 31, 2) := by decide +kernel
theorem d_JI_signum_8 : decode b_JI_signum 8 = .ok (.iushr, 1) := by decide +kernel
theorem d_JI_signum_9 : decode b_JI_signum 9 = .ok (.ior, 1) := by decide +kernel
theorem d_JI_signum_10 : decode b_JI_signum 10 = .ok (.ireturn, 1) := by decide +kernel
theorem d_JA_fill_0 : decode b_JA_fill 0 = .ok (.iconst 0, 1) := by decide +kernel
theorem d_JA_fill_1 : decode b_JA_fill 1 = .ok (.istore_n 2, 1) := by decide +kernel
theorem d_JA_fill_2 : decode b_JA_fill 2 = .ok (.aload_n 0, 1) := by decide +kernel
theorem d_JA_fill_3 : decode b_JA_fill 3 = .ok (.arraylength, 1) := by decide +kernel
theorem d_JA_fill_4 : decode b_JA_fill 4 = .ok (.istore_n 3, 1) := by decide +kernel
theorem d_JA_fill_5 : decode b_JA_fill 5 = .ok (.iload_n 2, 1) := by decide +kernel
theorem d_JA_fill_6 : decode b_JA_fill 6 = .ok (.iload_n 3, 1) := by decide +kernel
theorem d_JA_fill_7 : decode b_JA_fill 7 = .ok (.if_icmp .ge 13, 3) := by decide +kernel
theorem d_JA_fill_10 : decode b_JA_fill 10 = .ok (.aload_n 0, 1) := by decide +kernel
theorem d_JA_fill_11 : decode b_JA_fill 11 = .ok (.iload_n 2, 1) := by decide +kernel
theorem d_JA_fill_12 : decode b_JA_fill 12 = .ok (.iload_n 1, 1) := by decide +kernel
theorem d_JA_fill_13 : decode b_JA_fill 13 = .ok (.iastore, 1) := by decide +kernel
theorem d_JA_fill_14 : decode b_JA_fill 14 = .ok (.iinc 2 1, 3) := by decide +kernel
theorem d_JA_fill_17 : decode b_JA_fill 17 = .ok (.goto (-12), 3) := by decide +kernel
theorem d_JA_fill_20 : decode b_JA_fill 20 = .ok (.return_, 1) := by decide +kernel
end
section
def rm_min : Room := { frames := 0, cells := 0, slots := 0, locals := 0 }
set_option maxHeartbeats 4000000 in
set_option maxRecDepth 100000 in
theorem c_min (l : Launch) (E : zE) (w0 : zW) (x y : Int)   (zx : zr x) (zy : zr y) : zM l y_JM_min ws_JM_min rm_min E [.int (iI x), .int (iI y)] w0 (zQi E w0 (fun z w' => w' = w0 ∧ (z = min x y))) := by
  refine z_met (cc := b_JM_min) (maxL := 2) (ret := (some .int)) (by decide +kernel) rfl (Nat.le_of_ble_eq_true rfl) ?_
  intro p e s m below meth cd ls a Qf hQ hC hl hH
  obtain ⟨hF, hr, hlk, hK, hG, hn⟩ := hC
  obtain ⟨hx, hb, hml, hown, hts⟩ := hF
  have hg : ∀ w ∈ GW, w.before a s = true := fun w h => hts w (List.mem_cons_of_mem _ h)
  have hA : ∀ q, s.heap.size ≤ q → va_A (wl E w0) s.heap.size q := fun q h => Or.inr h
  have hl : lv_has ls 2 [(0, .int (iI x)), (1, .int (iI y))] := hl
  refine lv_iload_n hx hb d_JM_min_0 rfl (lv_at hl 0 rfl) ?_
  refine lv_iload_n hx hb d_JM_min_1 rfl (lv_at hl 1 rfl) ?_
  refine zv_icmp_gt (tgt := 9) hx hb d_JM_min_2 rfl (by omega) (by omega) (fun h1 => ?_) (fun h1 => ?_)
  · refine lv_iload_n hx hb d_JM_min_9 rfl (lv_at hl 1 rfl) ?_
    rw [hQ]
    exact z_iret hx hb hr hlk hH (⟨rfl, by omega⟩) d_JM_min_10
  · refine lv_iload_n hx hb d_JM_min_5 rfl (lv_at hl 0 rfl) ?_
    refine lv_goto (tgt := 10) hx hb d_JM_min_6 rfl ?_
    rw [hQ]
    exact z_iret hx hb hr hlk hH (⟨rfl, by omega⟩) d_JM_min_10
def rm_max : Room := { frames := 0, cells := 0, slots := 0, locals := 0 }
set_option maxHeartbeats 4000000 in
set_option maxRecDepth 100000 in
theorem c_max (l : Launch) (E : zE) (w0 : zW) (x y : Int)   (zx : zr x) (zy : zr y) : zM l y_JM_max ws_JM_max rm_max E [.int (iI x), .int (iI y)] w0 (zQi E w0 (fun z w' => w' = w0 ∧ (z = max x y))) := by
  refine z_met (cc := b_JM_max) (maxL := 2) (ret := (some .int)) (by decide +kernel) rfl (Nat.le_of_ble_eq_true rfl) ?_
  intro p e s m below meth cd ls a Qf hQ hC hl hH
  obtain ⟨hF, hr, hlk, hK, hG, hn⟩ := hC
  obtain ⟨hx, hb, hml, hown, hts⟩ := hF
  have hg : ∀ w ∈ GW, w.before a s = true := fun w h => hts w (List.mem_cons_of_mem _ h)
  have hA : ∀ q, s.heap.size ≤ q → va_A (wl E w0) s.heap.size q := fun q h => Or.inr h
  have hl : lv_has ls 2 [(0, .int (iI x)), (1, .int (iI y))] := hl
  refine lv_iload_n hx hb d_JM_max_0 rfl (lv_at hl 0 rfl) ?_
  refine lv_iload_n hx hb d_JM_max_1 rfl (lv_at hl 1 rfl) ?_
  refine zv_icmp_lt (tgt := 9) hx hb d_JM_max_2 rfl (by omega) (by omega) (fun h1 => ?_) (fun h1 => ?_)
  · refine lv_iload_n hx hb d_JM_max_9 rfl (lv_at hl 1 rfl) ?_
    rw [hQ]
    exact z_iret hx hb hr hlk hH (⟨rfl, by omega⟩) d_JM_max_10
  · refine lv_iload_n hx hb d_JM_max_5 rfl (lv_at hl 0 rfl) ?_
    refine lv_goto (tgt := 10) hx hb d_JM_max_6 rfl ?_
    rw [hQ]
    exact z_iret hx hb hr hlk hH (⟨rfl, by omega⟩) d_JM_max_10
def rm_topLimb : Room := { frames := 0, cells := 0, slots := 0, locals := 0 }
set_option maxHeartbeats 4000000 in
set_option maxRecDepth 100000 in
theorem c_topLimb (l : Launch) (E : zE) (w0 : zW) (q N : Nat) (f : Int → Int) (q0lt : q < zn E) (c0 : w0 q = zar E N f) (hN : 0 < N ∧ N < 100000) (bf : bd f N 0 9999) : zM l y_R_topLimb ws_R_topLimb rm_topLimb E [.ref (ad E q)] w0 (zQi E w0 (fun z w' => w' = w0 ∧ (-1 ≤ z ∧ z < N ∧ (∀ j, z < j → j < N → f j = 0) ∧ (0 ≤ z → f z ≠ 0)))) := by
  refine z_met (cc := b_R_topLimb) (maxL := 2) (ret := (some .int)) (by decide +kernel) rfl (Nat.le_of_ble_eq_true rfl) ?_
  intro p e s m below meth cd ls a Qf hQ hC hl hH
  obtain ⟨hF, hr, hlk, hK, hG, hn⟩ := hC
  obtain ⟨hx, hb, hml, hown, hts⟩ := hF
  have hg : ∀ w ∈ GW, w.before a s = true := fun w h => hts w (List.mem_cons_of_mem _ h)
  have hA : ∀ q, s.heap.size ≤ q → va_A (wl E w0) s.heap.size q := fun q h => Or.inr h
  have hl : lv_has ls 2 [(0, .ref (ad E q))] := hl
  refine lv_aload_n hx hb d_R_topLimb_0 rfl (lv_at hl 0 rfl) ?_
  refine zv_alen hx hb hK hH q0lt c0 d_R_topLimb_1 ?_
  refine zv_iconst hx hb d_R_topLimb_2 ?_
  refine zv_isub hx hb d_R_topLimb_3 ?_
  refine lv_istore_n (lv' := [(1, .int (iI (((N : Int)) - 1))), (0, .ref (ad E q))]) hx hb d_R_topLimb_4 rfl hl (by decide) rfl (fun ls hl => ?_)
  have L5 : ∀ (fu : Nat) (t : Int) (ls : Array Slot) (H1 : Heap) (lc2 : List Loc), (lv_has ls 2 [(1, .int (iI t)), (0, .ref (ad E q))]) → (zH E w0 (va_A (wl E w0) s.heap.size) s.heap H1 lc2) → (-1 ≤ t ∧ t < N) → (∀ j, t < j → j < N → f j = 0) → (t + 1 < (fu : Int)) → W p l e rm_topLimb s m a below meth cd H1 lc2 0 0 Qf (F0 m 5 ls []) := by
    intro fu
    induction fu with
    | zero => intro t ls H1 lc2 hl hH h1 h2 hm; exact absurd hm (by omega)
    | succ fu ih =>
      intro t ls H1 lc2 hl hH h1 h2 hm
      refine lv_iload_n hx hb d_R_topLimb_5 rfl (lv_at hl 0 rfl) ?_
      refine zv_if_lt (tgt := 21) hx hb d_R_topLimb_6 rfl (by omega) (fun h3 => ?_) (fun h3 => ?_)
      · refine lv_iload_n hx hb d_R_topLimb_21 rfl (lv_at hl 0 rfl) ?_
        rw [hQ]
        exact z_iret hx hb hr hlk hH (⟨rfl, ⟨by omega, by omega, h2, fun h0 => by first | (exfalso; omega) | assumption⟩⟩) d_R_topLimb_22
      · refine lv_aload_n hx hb d_R_topLimb_9 rfl (lv_at hl 1 rfl) ?_
        refine lv_iload_n hx hb d_R_topLimb_10 rfl (lv_at hl 0 rfl) ?_
        refine zv_iald hx hb hK hH q0lt c0 (by omega) (by omega) (by omega) d_R_topLimb_11 ?_
        have b4 := bf t (by omega) (by omega)
        refine zv_if_ne (tgt := 21) hx hb d_R_topLimb_12 rfl (by omega) (fun h5 => ?_) (fun h5 => ?_)
        · refine lv_iload_n hx hb d_R_topLimb_21 rfl (lv_at hl 0 rfl) ?_
          rw [hQ]
          exact z_iret hx hb hr hlk hH (⟨rfl, ⟨by omega, by omega, h2, fun h0 => by first | (exfalso; omega) | assumption⟩⟩) d_R_topLimb_22
        · refine zv_iinc (k := 0) (lv' := [(1, .int (iI (t + (-1)))), (0, .ref (ad E q))]) hx hb d_R_topLimb_15 hl rfl (by decide) rfl (fun ls hl => ?_)
          refine lv_goto (tgt := 5) hx hb d_R_topLimb_18 rfl ?_
          exact ih  (t + (-1)) _ H1 lc2 (lv_sub hl [0, 1] rfl) hH (by omega) (tl_step h2 (by assumption)) (by omega)
  exact L5 (((((N : Int)) - 1) + 1 : Int).toNat + 1) (((N : Int)) - 1) _ s.heap ([]) (lv_sub hl [0, 1] rfl) hH (by omega) (by intro j g1 g2; exact absurd g2 (by omega)) (by omega)
def rm_add : Room := { frames := 0, cells := 0, slots := 0, locals := 0 }
set_option maxHeartbeats 4000000 in
set_option maxRecDepth 100000 in
theorem c_add (l : Launch) (E : zE) (w0 : zW) (q r N : Nat) (f g : Int → Int) (q0lt : q < zn E) (q1lt : r < zn E) (c0 : w0 q = zar E N f) (c1 : w0 r = zar E N g) (hN : 0 < N ∧ N < 100000) (bf : bd f N 0 9999) (bg : bd g N 0 9999) (hqr : q ≠ r) : zM l y_R_add ws_R_add rm_add E [.ref (ad E q), .ref (ad E r)] w0 (zQv E w0 (fun w' => (∃ (f' : Int → Int), w' q = zar E N f' ∧ bd f' N 0 9999 ∧ (V f' N = (V f N + V g N) % Bp N)) ∧ ∀ k, k ≠ q → w' k = w0 k)) := by
  refine z_met (cc := b_R_add) (maxL := 5) (ret := none) (by decide +kernel) rfl (Nat.le_of_ble_eq_true rfl) ?_
  intro p e s m below meth cd ls a Qf hQ hC hl hH
  obtain ⟨hF, hr, hlk, hK, hG, hn⟩ := hC
  obtain ⟨hx, hb, hml, hown, hts⟩ := hF
  have hg : ∀ w ∈ GW, w.before a s = true := fun w h => hts w (List.mem_cons_of_mem _ h)
  have hA : ∀ q, s.heap.size ≤ q → va_A (wl E w0) s.heap.size q := fun q h => Or.inr h
  have hl : lv_has ls 5 [(0, .ref (ad E q)), (1, .ref (ad E r))] := hl
  refine zv_iconst hx hb d_R_add_0 ?_
  refine lv_istore_n (lv' := [(2, .int (iI 0)), (0, .ref (ad E q)), (1, .ref (ad E r))]) hx hb d_R_add_1 rfl hl (by decide) rfl (fun ls hl => ?_)
  refine zv_iconst hx hb d_R_add_2 ?_
  refine lv_istore_n (lv' := [(3, .int (iI 0)), (2, .int (iI 0)), (0, .ref (ad E q)), (1, .ref (ad E r))]) hx hb d_R_add_3 rfl hl (by decide) rfl (fun ls hl => ?_)
  have L4 : ∀ (fu : Nat) (i : Int) (c : Int) (h : Int → Int) (ls : Array Slot) (H1 : Heap) (lc2 : List Loc) (w3 : zW), (lv_has ls 5 [(0, .ref (ad E q)), (1, .ref (ad E r)), (2, .int (iI c)), (3, .int (iI i))]) → (zH E w3 (va_A (wl E w0) s.heap.size) s.heap H1 lc2) → (w3 q = zar E N h) → (w3 r = zar E N g) → (∀ k, k ≠ q → w3 k = w0 k) → (bd h N 0 9999) → (0 ≤ i ∧ i ≤ N) → (0 ≤ c ∧ c ≤ 1) → (∀ j, i ≤ j → h j = f j) → (V h i + c * Bp i = V f i + V g i) → ((N : Int) - i < (fu : Int)) → W p l e rm_add s m a below meth cd H1 lc2 0 0 Qf (F0 m 4 ls []) := by
    intro fu
    induction fu with
    | zero => intro i c h ls H1 lc2 w3 hl hH e4 e5 hf6 bh hi hc hs hv hm; exact absurd hm (by omega)
    | succ fu ih =>
      intro i c h ls H1 lc2 w3 hl hH e4 e5 hf6 bh hi hc hs hv hm
      refine lv_iload_n hx hb d_R_add_4 rfl (lv_at hl 3 rfl) ?_
      refine lv_aload_n hx hb d_R_add_5 rfl (lv_at hl 0 rfl) ?_
      refine zv_alen hx hb hK hH q0lt e4 d_R_add_6 ?_
      refine zv_icmp_ge (tgt := 49) hx hb d_R_add_7 rfl (by omega) (by omega) (fun h7 => ?_) (fun h7 => ?_)
      · have e9 : i = N := by omega
        have b9 := V_in bh (Int.le_of_lt (by omega : (0 : Int) < N)) (Int.le_refl (N : Int))
        subst e9
        rw [hQ]
        exact z_vret hx hb hr hlk hH (⟨⟨h, e4, bh, md_of hv b9.1 b9.2⟩, (fun k g0 => hf6 k g0)⟩) d_R_add_49
      · refine lv_iload_n hx hb d_R_add_10 rfl (lv_at hl 3 rfl) ?_
        refine lv_aload_n hx hb d_R_add_11 rfl (lv_at hl 1 rfl) ?_
        refine zv_alen hx hb hK hH q1lt e5 d_R_add_12 ?_
        refine zv_icmp_ge (tgt := 49) hx hb d_R_add_13 rfl (by omega) (by omega) (fun h8 => absurd h8 (by omega)) (fun h8 => ?_)
        refine lv_aload_n hx hb d_R_add_16 rfl (lv_at hl 0 rfl) ?_
        refine lv_iload_n hx hb d_R_add_17 rfl (lv_at hl 3 rfl) ?_
        refine zv_iald hx hb hK hH q0lt e4 (by omega) (by omega) (by omega) d_R_add_18 ?_
        have b9 := bh i (by omega) (by omega)
        refine lv_aload_n hx hb d_R_add_19 rfl (lv_at hl 1 rfl) ?_
        refine lv_iload_n hx hb d_R_add_20 rfl (lv_at hl 3 rfl) ?_
        refine zv_iald hx hb hK hH q1lt e5 (by omega) (by omega) (by omega) d_R_add_21 ?_
        have b10 := bg i (by omega) (by omega)
        refine zv_iadd hx hb d_R_add_22 ?_
        refine lv_iload_n hx hb d_R_add_23 rfl (lv_at hl 2 rfl) ?_
        refine zv_iadd hx hb d_R_add_24 ?_
        refine lv_istore (lv' := [(4, .int (iI (((h i) + (g i)) + c))), (0, .ref (ad E q)), (1, .ref (ad E r)), (2, .int (iI c)), (3, .int (iI i))]) hx hb d_R_add_25 hl (by decide) rfl (fun ls hl => ?_)
        refine lv_iload hx hb d_R_add_27 (lv_at hl 0 rfl) ?_
        refine zv_sipush hx hb d_R_add_29 rfl ?_
        refine zv_idiv hx hb (by omega) (by omega) (by omega) (by omega) d_R_add_32 ?_
        refine lv_istore_n (lv' := [(2, .int (iI ((((h i) + (g i)) + c) / 10000))), (4, .int (iI (((h i) + (g i)) + c))), (0, .ref (ad E q)), (1, .ref (ad E r)), (3, .int (iI i))]) hx hb d_R_add_33 rfl hl (by decide) rfl (fun ls hl => ?_)
        refine lv_aload_n hx hb d_R_add_34 rfl (lv_at hl 2 rfl) ?_
        refine lv_iload_n hx hb d_R_add_35 rfl (lv_at hl 4 rfl) ?_
        refine lv_iload hx hb d_R_add_36 (lv_at hl 1 rfl) ?_
        refine zv_sipush hx hb d_R_add_38 rfl ?_
        refine zv_irem hx hb (by omega) (by omega) (by omega) (by omega) d_R_add_41 ?_
        refine zv_iast hx hb hK hH q0lt e4 (by omega) (by omega) (by omega) d_R_add_42 (fun H12 lc13 w11 hH14 e15 hg16 => ?_)
        have bd17 := bd_up bh i ((((h i) + (g i)) + c) % 10000) (by omega)
        have e18 : w11 r = zar E N g := (hg16 r (by omega)).trans e5
        have hf19 : ∀ k, k ≠ q → w11 k = w0 k := fun k g0 => (hg16 k g0).trans (hf6 k g0)
        refine zv_iinc (k := 4) (lv' := [(3, .int (iI (i + 1))), (2, .int (iI ((((h i) + (g i)) + c) / 10000))), (4, .int (iI (((h i) + (g i)) + c))), (0, .ref (ad E q)), (1, .ref (ad E r))]) hx hb d_R_add_43 hl rfl (by decide) rfl (fun ls hl => ?_)
        refine lv_goto (tgt := 4) hx hb d_R_add_46 rfl ?_
        exact ih  (i + 1) ((((h i) + (g i)) + c) / 10000) (up h i ((((h i) + (g i)) + c) % 10000)) _ H12 lc13 w11 (lv_sub hl [3, 4, 1, 0] rfl) hH14 e15 e18 (fun k g0 => hf19 k g0) (by assumption) (by omega) (by omega) (ks_step hs) (add_step hi.1 (hs i (by omega)) hv) (by omega)
  exact L4 (((N : Int) - 0 : Int).toNat + 1) 0 0 f _ s.heap ([]) w0 (lv_sub hl [2, 3, 1, 0] rfl) hH c0 c1 (fun k _ => rfl) (by exact bf) (by omega) (by omega) (by intro j _; rfl) (by rfl) (by omega)
def rm_addAA : Room := { frames := 0, cells := 0, slots := 0, locals := 0 }
set_option maxHeartbeats 4000000 in
set_option maxRecDepth 100000 in
theorem c_addAA (l : Launch) (E : zE) (w0 : zW) (q N : Nat) (f : Int → Int) (q0lt : q < zn E) (c0 : w0 q = zar E N f) (hN : 0 < N ∧ N < 100000) (bf : bd f N 0 9999) : zM l y_R_add ws_R_add rm_addAA E [.ref (ad E q), .ref (ad E q)] w0 (zQv E w0 (fun w' => (∃ (f' : Int → Int), w' q = zar E N f' ∧ bd f' N 0 9999 ∧ (V f' N = (V f N + V f N) % Bp N)) ∧ ∀ k, k ≠ q → w' k = w0 k)) := by
  refine z_met (cc := b_R_add) (maxL := 5) (ret := none) (by decide +kernel) rfl (Nat.le_of_ble_eq_true rfl) ?_
  intro p e s m below meth cd ls a Qf hQ hC hl hH
  obtain ⟨hF, hr, hlk, hK, hG, hn⟩ := hC
  obtain ⟨hx, hb, hml, hown, hts⟩ := hF
  have hg : ∀ w ∈ GW, w.before a s = true := fun w h => hts w (List.mem_cons_of_mem _ h)
  have hA : ∀ q, s.heap.size ≤ q → va_A (wl E w0) s.heap.size q := fun q h => Or.inr h
  have hl : lv_has ls 5 [(0, .ref (ad E q)), (1, .ref (ad E q))] := hl
  refine zv_iconst hx hb d_R_add_0 ?_
  refine lv_istore_n (lv' := [(2, .int (iI 0)), (0, .ref (ad E q)), (1, .ref (ad E q))]) hx hb d_R_add_1 rfl hl (by decide) rfl (fun ls hl => ?_)
  refine zv_iconst hx hb d_R_add_2 ?_
  refine lv_istore_n (lv' := [(3, .int (iI 0)), (2, .int (iI 0)), (0, .ref (ad E q)), (1, .ref (ad E q))]) hx hb d_R_add_3 rfl hl (by decide) rfl (fun ls hl => ?_)
  have L4 : ∀ (fu : Nat) (i : Int) (c : Int) (h : Int → Int) (ls : Array Slot) (H1 : Heap) (lc2 : List Loc) (w3 : zW), (lv_has ls 5 [(0, .ref (ad E q)), (1, .ref (ad E q)), (2, .int (iI c)), (3, .int (iI i))]) → (zH E w3 (va_A (wl E w0) s.heap.size) s.heap H1 lc2) → (w3 q = zar E N h) → (∀ k, k ≠ q → w3 k = w0 k) → (bd h N 0 9999) → (0 ≤ i ∧ i ≤ N) → (0 ≤ c ∧ c ≤ 1) → (∀ j, i ≤ j → h j = f j) → (V h i + c * Bp i = V f i + V f i) → ((N : Int) - i < (fu : Int)) → W p l e rm_addAA s m a below meth cd H1 lc2 0 0 Qf (F0 m 4 ls []) := by
    intro fu
    induction fu with
    | zero => intro i c h ls H1 lc2 w3 hl hH e4 hf5 bh hi hc hs hv hm; exact absurd hm (by omega)
    | succ fu ih =>
      intro i c h ls H1 lc2 w3 hl hH e4 hf5 bh hi hc hs hv hm
      refine lv_iload_n hx hb d_R_add_4 rfl (lv_at hl 3 rfl) ?_
      refine lv_aload_n hx hb d_R_add_5 rfl (lv_at hl 0 rfl) ?_
      refine zv_alen hx hb hK hH q0lt e4 d_R_add_6 ?_
      refine zv_icmp_ge (tgt := 49) hx hb d_R_add_7 rfl (by omega) (by omega) (fun h6 => ?_) (fun h6 => ?_)
      · have e9 : i = N := by omega
        have b9 := V_in bh (Int.le_of_lt (by omega : (0 : Int) < N)) (Int.le_refl (N : Int))
        subst e9
        rw [hQ]
        exact z_vret hx hb hr hlk hH (⟨⟨h, e4, bh, md_of hv b9.1 b9.2⟩, (fun k g0 => hf5 k g0)⟩) d_R_add_49
      · refine lv_iload_n hx hb d_R_add_10 rfl (lv_at hl 3 rfl) ?_
        refine lv_aload_n hx hb d_R_add_11 rfl (lv_at hl 1 rfl) ?_
        refine zv_alen hx hb hK hH q0lt e4 d_R_add_12 ?_
        refine zv_icmp_ge (tgt := 49) hx hb d_R_add_13 rfl (by omega) (by omega) (fun h7 => absurd h7 (by omega)) (fun h7 => ?_)
        refine lv_aload_n hx hb d_R_add_16 rfl (lv_at hl 0 rfl) ?_
        refine lv_iload_n hx hb d_R_add_17 rfl (lv_at hl 3 rfl) ?_
        refine zv_iald hx hb hK hH q0lt e4 (by omega) (by omega) (by omega) d_R_add_18 ?_
        have b8 := bh i (by omega) (by omega)
        refine lv_aload_n hx hb d_R_add_19 rfl (lv_at hl 1 rfl) ?_
        refine lv_iload_n hx hb d_R_add_20 rfl (lv_at hl 3 rfl) ?_
        refine zv_iald hx hb hK hH q0lt e4 (by omega) (by omega) (by omega) d_R_add_21 ?_
        have b9 := bh i (by omega) (by omega)
        refine zv_iadd hx hb d_R_add_22 ?_
        refine lv_iload_n hx hb d_R_add_23 rfl (lv_at hl 2 rfl) ?_
        refine zv_iadd hx hb d_R_add_24 ?_
        refine lv_istore (lv' := [(4, .int (iI (((h i) + (h i)) + c))), (0, .ref (ad E q)), (1, .ref (ad E q)), (2, .int (iI c)), (3, .int (iI i))]) hx hb d_R_add_25 hl (by decide) rfl (fun ls hl => ?_)
        refine lv_iload hx hb d_R_add_27 (lv_at hl 0 rfl) ?_
        refine zv_sipush hx hb d_R_add_29 rfl ?_
        refine zv_idiv hx hb (by omega) (by omega) (by omega) (by omega) d_R_add_32 ?_
        refine lv_istore_n (lv' := [(2, .int (iI ((((h i) + (h i)) + c) / 10000))), (4, .int (iI (((h i) + (h i)) + c))), (0, .ref (ad E q)), (1, .ref (ad E q)), (3, .int (iI i))]) hx hb d_R_add_33 rfl hl (by decide) rfl (fun ls hl => ?_)
        refine lv_aload_n hx hb d_R_add_34 rfl (lv_at hl 2 rfl) ?_
        refine lv_iload_n hx hb d_R_add_35 rfl (lv_at hl 4 rfl) ?_
        refine lv_iload hx hb d_R_add_36 (lv_at hl 1 rfl) ?_
        refine zv_sipush hx hb d_R_add_38 rfl ?_
        refine zv_irem hx hb (by omega) (by omega) (by omega) (by omega) d_R_add_41 ?_
        refine zv_iast hx hb hK hH q0lt e4 (by omega) (by omega) (by omega) d_R_add_42 (fun H11 lc12 w10 hH13 e14 hg15 => ?_)
        have bd16 := bd_up bh i ((((h i) + (h i)) + c) % 10000) (by omega)
        have hf17 : ∀ k, k ≠ q → w10 k = w0 k := fun k g0 => (hg15 k g0).trans (hf5 k g0)
        refine zv_iinc (k := 4) (lv' := [(3, .int (iI (i + 1))), (2, .int (iI ((((h i) + (h i)) + c) / 10000))), (4, .int (iI (((h i) + (h i)) + c))), (0, .ref (ad E q)), (1, .ref (ad E q))]) hx hb d_R_add_43 hl rfl (by decide) rfl (fun ls hl => ?_)
        refine lv_goto (tgt := 4) hx hb d_R_add_46 rfl ?_
        exact ih  (i + 1) ((((h i) + (h i)) + c) / 10000) (up h i ((((h i) + (h i)) + c) % 10000)) _ H11 lc12 w10 (lv_sub hl [3, 4, 1, 0] rfl) hH13 e14 (fun k g0 => hf17 k g0) (by assumption) (by omega) (by omega) (ks_step hs) (addAA_step hi.1 (hs i (by omega)) hv) (by omega)
  exact L4 (((N : Int) - 0 : Int).toNat + 1) 0 0 f _ s.heap ([]) w0 (lv_sub hl [2, 3, 1, 0] rfl) hH c0 (fun k _ => rfl) (by exact bf) (by omega) (by omega) (by intro j _; rfl) (by rfl) (by omega)
def rm_subG : Room := { frames := 0, cells := 0, slots := 0, locals := 0 }
set_option maxHeartbeats 4000000 in
set_option maxRecDepth 100000 in
theorem c_subG (l : Launch) (E : zE) (w0 : zW) (q r N : Nat) (f g : Int → Int) (q0lt : q < zn E) (q1lt : r < zn E) (c0 : w0 q = zar E N f) (c1 : w0 r = zar E N g) (hN : 0 < N ∧ N < 100000) (bf : bd f N 0 9999) (bg : bd g N 0 9999) (hqr : q ≠ r) : zM l y_R_subtract ws_R_subtract rm_subG E [.ref (ad E q), .ref (ad E q), .ref (ad E r)] w0 (zQv E w0 (fun w' => (∃ (f' : Int → Int), w' q = zar E N f' ∧ bd f' N 0 9999 ∧ (V f' N = (V f N - V g N) % Bp N)) ∧ ∀ k, k ≠ q → w' k = w0 k)) := by
  refine z_met (cc := b_R_subtract) (maxL := 6) (ret := none) (by decide +kernel) rfl (Nat.le_of_ble_eq_true rfl) ?_
  intro p e s m below meth cd ls a Qf hQ hC hl hH
  obtain ⟨hF, hr, hlk, hK, hG, hn⟩ := hC
  obtain ⟨hx, hb, hml, hown, hts⟩ := hF
  have hg : ∀ w ∈ GW, w.before a s = true := fun w h => hts w (List.mem_cons_of_mem _ h)
  have hA : ∀ q, s.heap.size ≤ q → va_A (wl E w0) s.heap.size q := fun q h => Or.inr h
  have hl : lv_has ls 6 [(0, .ref (ad E q)), (1, .ref (ad E q)), (2, .ref (ad E r))] := hl
  refine zv_iconst hx hb d_R_subtract_0 ?_
  refine lv_istore_n (lv' := [(3, .int (iI 0)), (0, .ref (ad E q)), (1, .ref (ad E q)), (2, .ref (ad E r))]) hx hb d_R_subtract_1 rfl hl (by decide) rfl (fun ls hl => ?_)
  refine zv_iconst hx hb d_R_subtract_2 ?_
  refine lv_istore (lv' := [(4, .int (iI 0)), (3, .int (iI 0)), (0, .ref (ad E q)), (1, .ref (ad E q)), (2, .ref (ad E r))]) hx hb d_R_subtract_3 hl (by decide) rfl (fun ls hl => ?_)
  have L5 : ∀ (fu : Nat) (i : Int) (c : Int) (h : Int → Int) (ls : Array Slot) (H1 : Heap) (lc2 : List Loc) (w3 : zW), (lv_has ls 6 [(0, .ref (ad E q)), (1, .ref (ad E q)), (2, .ref (ad E r)), (3, .int (iI c)), (4, .int (iI i))]) → (zH E w3 (va_A (wl E w0) s.heap.size) s.heap H1 lc2) → (w3 q = zar E N h) → (w3 r = zar E N g) → (∀ k, k ≠ q → w3 k = w0 k) → (bd h N 0 9999) → (0 ≤ i ∧ i ≤ N) → (0 ≤ c ∧ c ≤ 1) → (∀ j, i ≤ j → h j = f j) → (V h i - c * Bp i = V f i - V g i) → ((N : Int) - i < (fu : Int)) → W p l e rm_subG s m a below meth cd H1 lc2 0 0 Qf (F0 m 5 ls []) := by
    intro fu
    induction fu with
    | zero => intro i c h ls H1 lc2 w3 hl hH e4 e5 hf6 bh hi hc hs hv hm; exact absurd hm (by omega)
    | succ fu ih =>
      intro i c h ls H1 lc2 w3 hl hH e4 e5 hf6 bh hi hc hs hv hm
      refine lv_iload hx hb d_R_subtract_5 (lv_at hl 4 rfl) ?_
      refine lv_aload_n hx hb d_R_subtract_7 rfl (lv_at hl 0 rfl) ?_
      refine zv_alen hx hb hK hH q0lt e4 d_R_subtract_8 ?_
      refine zv_icmp_ge (tgt := 68) hx hb d_R_subtract_9 rfl (by omega) (by omega) (fun h7 => ?_) (fun h7 => ?_)
      · have e9 : i = N := by omega
        have b9 := V_in bh (Int.le_of_lt (by omega : (0 : Int) < N)) (Int.le_refl (N : Int))
        subst e9
        rw [hQ]
        exact z_vret hx hb hr hlk hH (⟨⟨h, e4, bh, md_of (c := -c) (by rw [Int.neg_mul]; omega) b9.1 b9.2⟩, (fun k g0 => hf6 k g0)⟩) d_R_subtract_68
      · refine lv_iload hx hb d_R_subtract_12 (lv_at hl 4 rfl) ?_
        refine lv_aload_n hx hb d_R_subtract_14 rfl (lv_at hl 1 rfl) ?_
        refine zv_alen hx hb hK hH q0lt e4 d_R_subtract_15 ?_
        refine zv_icmp_ge (tgt := 68) hx hb d_R_subtract_16 rfl (by omega) (by omega) (fun h8 => absurd h8 (by omega)) (fun h8 => ?_)
        refine lv_iload hx hb d_R_subtract_19 (lv_at hl 4 rfl) ?_
        refine lv_aload_n hx hb d_R_subtract_21 rfl (lv_at hl 2 rfl) ?_
        refine zv_alen hx hb hK hH q1lt e5 d_R_subtract_22 ?_
        refine zv_icmp_ge (tgt := 68) hx hb d_R_subtract_23 rfl (by omega) (by omega) (fun h9 => absurd h9 (by omega)) (fun h9 => ?_)
        refine lv_aload_n hx hb d_R_subtract_26 rfl (lv_at hl 1 rfl) ?_
        refine lv_iload hx hb d_R_subtract_27 (lv_at hl 4 rfl) ?_
        refine zv_iald hx hb hK hH q0lt e4 (by omega) (by omega) (by omega) d_R_subtract_29 ?_
        have b10 := bh i (by omega) (by omega)
        refine lv_aload_n hx hb d_R_subtract_30 rfl (lv_at hl 2 rfl) ?_
        refine lv_iload hx hb d_R_subtract_31 (lv_at hl 4 rfl) ?_
        refine zv_iald hx hb hK hH q1lt e5 (by omega) (by omega) (by omega) d_R_subtract_33 ?_
        have b11 := bg i (by omega) (by omega)
        refine zv_isub hx hb d_R_subtract_34 ?_
        refine lv_iload_n hx hb d_R_subtract_35 rfl (lv_at hl 3 rfl) ?_
        refine zv_isub hx hb d_R_subtract_36 ?_
        refine lv_istore (lv' := [(5, .int (iI (((h i) - (g i)) - c))), (0, .ref (ad E q)), (1, .ref (ad E q)), (2, .ref (ad E r)), (3, .int (iI c)), (4, .int (iI i))]) hx hb d_R_subtract_37 hl (by decide) rfl (fun ls hl => ?_)
        refine lv_iload hx hb d_R_subtract_39 (lv_at hl 0 rfl) ?_
        refine zv_if_ge (tgt := 48) hx hb d_R_subtract_41 rfl (by omega) (fun h12 => ?_) (fun h12 => ?_)
        · refine zv_iconst hx hb d_R_subtract_48 ?_
          refine lv_istore_n (lv' := [(3, .int (iI 0)), (5, .int (iI (((h i) - (g i)) - c))), (0, .ref (ad E q)), (1, .ref (ad E q)), (2, .ref (ad E r)), (4, .int (iI i))]) hx hb d_R_subtract_49 rfl hl (by decide) rfl (fun ls hl => ?_)
          refine lv_aload_n hx hb d_R_subtract_50 rfl (lv_at hl 2 rfl) ?_
          refine lv_iload hx hb d_R_subtract_51 (lv_at hl 5 rfl) ?_
          refine lv_iload hx hb d_R_subtract_53 (lv_at hl 1 rfl) ?_
          refine lv_iload_n hx hb d_R_subtract_55 rfl (lv_at hl 0 rfl) ?_
          refine zv_sipush hx hb d_R_subtract_56 rfl ?_
          refine zv_imul hx hb d_R_subtract_59 ?_
          refine zv_iadd hx hb d_R_subtract_60 ?_
          refine zv_iast hx hb hK hH q0lt e4 (by omega) (by omega) (by omega) d_R_subtract_61 (fun H14 lc15 w13 hH16 e17 hg18 => ?_)
          have bd19 := bd_up bh i ((((h i) - (g i)) - c) + (0 * 10000)) (by omega)
          have e20 : w13 r = zar E N g := (hg18 r (by omega)).trans e5
          have hf21 : ∀ k, k ≠ q → w13 k = w0 k := fun k g0 => (hg18 k g0).trans (hf6 k g0)
          refine zv_iinc (k := 5) (lv' := [(4, .int (iI (i + 1))), (3, .int (iI 0)), (5, .int (iI (((h i) - (g i)) - c))), (0, .ref (ad E q)), (1, .ref (ad E q)), (2, .ref (ad E r))]) hx hb d_R_subtract_62 hl rfl (by decide) rfl (fun ls hl => ?_)
          refine lv_goto (tgt := 5) hx hb d_R_subtract_65 rfl ?_
          exact ih  (i + 1) 0 (up h i ((((h i) - (g i)) - c) + (0 * 10000))) _ H14 lc15 w13 (lv_sub hl [3, 4, 5, 1, 0] rfl) hH16 e17 e20 (fun k g0 => hf21 k g0) (by assumption) (by omega) (by omega) (ks_step hs) (sub_step hi.1 (by rw [hs i (by omega)]) hv) (by omega)
        · refine zv_iconst hx hb d_R_subtract_44 ?_
          refine lv_goto (tgt := 49) hx hb d_R_subtract_45 rfl ?_
          refine lv_istore_n (lv' := [(3, .int (iI 1)), (5, .int (iI (((h i) - (g i)) - c))), (0, .ref (ad E q)), (1, .ref (ad E q)), (2, .ref (ad E r)), (4, .int (iI i))]) hx hb d_R_subtract_49 rfl hl (by decide) rfl (fun ls hl => ?_)
          refine lv_aload_n hx hb d_R_subtract_50 rfl (lv_at hl 2 rfl) ?_
          refine lv_iload hx hb d_R_subtract_51 (lv_at hl 5 rfl) ?_
          refine lv_iload hx hb d_R_subtract_53 (lv_at hl 1 rfl) ?_
          refine lv_iload_n hx hb d_R_subtract_55 rfl (lv_at hl 0 rfl) ?_
          refine zv_sipush hx hb d_R_subtract_56 rfl ?_
          refine zv_imul hx hb d_R_subtract_59 ?_
          refine zv_iadd hx hb d_R_subtract_60 ?_
          refine zv_iast hx hb hK hH q0lt e4 (by omega) (by omega) (by omega) d_R_subtract_61 (fun H23 lc24 w22 hH25 e26 hg27 => ?_)
          have bd28 := bd_up bh i ((((h i) - (g i)) - c) + (1 * 10000)) (by omega)
          have e29 : w22 r = zar E N g := (hg27 r (by omega)).trans e5
          have hf30 : ∀ k, k ≠ q → w22 k = w0 k := fun k g0 => (hg27 k g0).trans (hf6 k g0)
          refine zv_iinc (k := 5) (lv' := [(4, .int (iI (i + 1))), (3, .int (iI 1)), (5, .int (iI (((h i) - (g i)) - c))), (0, .ref (ad E q)), (1, .ref (ad E q)), (2, .ref (ad E r))]) hx hb d_R_subtract_62 hl rfl (by decide) rfl (fun ls hl => ?_)
          refine lv_goto (tgt := 5) hx hb d_R_subtract_65 rfl ?_
          exact ih  (i + 1) 1 (up h i ((((h i) - (g i)) - c) + (1 * 10000))) _ H23 lc24 w22 (lv_sub hl [3, 4, 5, 1, 0] rfl) hH25 e26 e29 (fun k g0 => hf30 k g0) (by assumption) (by omega) (by omega) (ks_step hs) (sub_step hi.1 (by rw [hs i (by omega)]) hv) (by omega)
  exact L5 (((N : Int) - 0 : Int).toNat + 1) 0 0 f _ s.heap ([]) w0 (lv_sub hl [2, 3, 4, 1, 0] rfl) hH c0 c1 (fun k _ => rfl) (by exact bf) (by omega) (by omega) (by intro j _; rfl) (by rfl) (by omega)
def rm_subS : Room := { frames := 0, cells := 0, slots := 0, locals := 0 }
set_option maxHeartbeats 4000000 in
set_option maxRecDepth 100000 in
theorem c_subS (l : Launch) (E : zE) (w0 : zW) (q r N : Nat) (f g : Int → Int) (q0lt : q < zn E) (q1lt : r < zn E) (c0 : w0 q = zar E N f) (c1 : w0 r = zar E N g) (hN : 0 < N ∧ N < 100000) (bf : bd f N 0 9999) (bg : bd g N 0 9999) (hqr : q ≠ r) : zM l y_R_subtract ws_R_subtract rm_subS E [.ref (ad E q), .ref (ad E r), .ref (ad E q)] w0 (zQv E w0 (fun w' => (∃ (f' : Int → Int), w' q = zar E N f' ∧ bd f' N 0 9999 ∧ (V f' N = (V g N - V f N) % Bp N)) ∧ ∀ k, k ≠ q → w' k = w0 k)) := by
  refine z_met (cc := b_R_subtract) (maxL := 6) (ret := none) (by decide +kernel) rfl (Nat.le_of_ble_eq_true rfl) ?_
  intro p e s m below meth cd ls a Qf hQ hC hl hH
  obtain ⟨hF, hr, hlk, hK, hG, hn⟩ := hC
  obtain ⟨hx, hb, hml, hown, hts⟩ := hF
  have hg : ∀ w ∈ GW, w.before a s = true := fun w h => hts w (List.mem_cons_of_mem _ h)
  have hA : ∀ q, s.heap.size ≤ q → va_A (wl E w0) s.heap.size q := fun q h => Or.inr h
  have hl : lv_has ls 6 [(0, .ref (ad E q)), (1, .ref (ad E r)), (2, .ref (ad E q))] := hl
  refine zv_iconst hx hb d_R_subtract_0 ?_
  refine lv_istore_n (lv' := [(3, .int (iI 0)), (0, .ref (ad E q)), (1, .ref (ad E r)), (2, .ref (ad E q))]) hx hb d_R_subtract_1 rfl hl (by decide) rfl (fun ls hl => ?_)
  refine zv_iconst hx hb d_R_subtract_2 ?_
  refine lv_istore (lv' := [(4, .int (iI 0)), (3, .int (iI 0)), (0, .ref (ad E q)), (1, .ref (ad E r)), (2, .ref (ad E q))]) hx hb d_R_subtract_3 hl (by decide) rfl (fun ls hl => ?_)
  have L5 : ∀ (fu : Nat) (i : Int) (c : Int) (h : Int → Int) (ls : Array Slot) (H1 : Heap) (lc2 : List Loc) (w3 : zW), (lv_has ls 6 [(0, .ref (ad E q)), (1, .ref (ad E r)), (2, .ref (ad E q)), (3, .int (iI c)), (4, .int (iI i))]) → (zH E w3 (va_A (wl E w0) s.heap.size) s.heap H1 lc2) → (w3 q = zar E N h) → (w3 r = zar E N g) → (∀ k, k ≠ q → w3 k = w0 k) → (bd h N 0 9999) → (0 ≤ i ∧ i ≤ N) → (0 ≤ c ∧ c ≤ 1) → (∀ j, i ≤ j → h j = f j) → (V h i - c * Bp i = V g i - V f i) → ((N : Int) - i < (fu : Int)) → W p l e rm_subS s m a below meth cd H1 lc2 0 0 Qf (F0 m 5 ls []) := by
    intro fu
    induction fu with
    | zero => intro i c h ls H1 lc2 w3 hl hH e4 e5 hf6 bh hi hc hs hv hm; exact absurd hm (by omega)
    | succ fu ih =>
      intro i c h ls H1 lc2 w3 hl hH e4 e5 hf6 bh hi hc hs hv hm
      refine lv_iload hx hb d_R_subtract_5 (lv_at hl 4 rfl) ?_
      refine lv_aload_n hx hb d_R_subtract_7 rfl (lv_at hl 0 rfl) ?_
      refine zv_alen hx hb hK hH q0lt e4 d_R_subtract_8 ?_
      refine zv_icmp_ge (tgt := 68) hx hb d_R_subtract_9 rfl (by omega) (by omega) (fun h7 => ?_) (fun h7 => ?_)
      · have e9 : i = N := by omega
        have b9 := V_in bh (Int.le_of_lt (by omega : (0 : Int) < N)) (Int.le_refl (N : Int))
        subst e9
        rw [hQ]
        exact z_vret hx hb hr hlk hH (⟨⟨h, e4, bh, md_of (c := -c) (by rw [Int.neg_mul]; omega) b9.1 b9.2⟩, (fun k g0 => hf6 k g0)⟩) d_R_subtract_68
      · refine lv_iload hx hb d_R_subtract_12 (lv_at hl 4 rfl) ?_
        refine lv_aload_n hx hb d_R_subtract_14 rfl (lv_at hl 1 rfl) ?_
        refine zv_alen hx hb hK hH q1lt e5 d_R_subtract_15 ?_
        refine zv_icmp_ge (tgt := 68) hx hb d_R_subtract_16 rfl (by omega) (by omega) (fun h8 => absurd h8 (by omega)) (fun h8 => ?_)
        refine lv_iload hx hb d_R_subtract_19 (lv_at hl 4 rfl) ?_
        refine lv_aload_n hx hb d_R_subtract_21 rfl (lv_at hl 2 rfl) ?_
        refine zv_alen hx hb hK hH q0lt e4 d_R_subtract_22 ?_
        refine zv_icmp_ge (tgt := 68) hx hb d_R_subtract_23 rfl (by omega) (by omega) (fun h9 => absurd h9 (by omega)) (fun h9 => ?_)
        refine lv_aload_n hx hb d_R_subtract_26 rfl (lv_at hl 1 rfl) ?_
        refine lv_iload hx hb d_R_subtract_27 (lv_at hl 4 rfl) ?_
        refine zv_iald hx hb hK hH q1lt e5 (by omega) (by omega) (by omega) d_R_subtract_29 ?_
        have b10 := bg i (by omega) (by omega)
        refine lv_aload_n hx hb d_R_subtract_30 rfl (lv_at hl 2 rfl) ?_
        refine lv_iload hx hb d_R_subtract_31 (lv_at hl 4 rfl) ?_
        refine zv_iald hx hb hK hH q0lt e4 (by omega) (by omega) (by omega) d_R_subtract_33 ?_
        have b11 := bh i (by omega) (by omega)
        refine zv_isub hx hb d_R_subtract_34 ?_
        refine lv_iload_n hx hb d_R_subtract_35 rfl (lv_at hl 3 rfl) ?_
        refine zv_isub hx hb d_R_subtract_36 ?_
        refine lv_istore (lv' := [(5, .int (iI (((g i) - (h i)) - c))), (0, .ref (ad E q)), (1, .ref (ad E r)), (2, .ref (ad E q)), (3, .int (iI c)), (4, .int (iI i))]) hx hb d_R_subtract_37 hl (by decide) rfl (fun ls hl => ?_)
        refine lv_iload hx hb d_R_subtract_39 (lv_at hl 0 rfl) ?_
        refine zv_if_ge (tgt := 48) hx hb d_R_subtract_41 rfl (by omega) (fun h12 => ?_) (fun h12 => ?_)
        · refine zv_iconst hx hb d_R_subtract_48 ?_
          refine lv_istore_n (lv' := [(3, .int (iI 0)), (5, .int (iI (((g i) - (h i)) - c))), (0, .ref (ad E q)), (1, .ref (ad E r)), (2, .ref (ad E q)), (4, .int (iI i))]) hx hb d_R_subtract_49 rfl hl (by decide) rfl (fun ls hl => ?_)
          refine lv_aload_n hx hb d_R_subtract_50 rfl (lv_at hl 2 rfl) ?_
          refine lv_iload hx hb d_R_subtract_51 (lv_at hl 5 rfl) ?_
          refine lv_iload hx hb d_R_subtract_53 (lv_at hl 1 rfl) ?_
          refine lv_iload_n hx hb d_R_subtract_55 rfl (lv_at hl 0 rfl) ?_
          refine zv_sipush hx hb d_R_subtract_56 rfl ?_
          refine zv_imul hx hb d_R_subtract_59 ?_
          refine zv_iadd hx hb d_R_subtract_60 ?_
          refine zv_iast hx hb hK hH q0lt e4 (by omega) (by omega) (by omega) d_R_subtract_61 (fun H14 lc15 w13 hH16 e17 hg18 => ?_)
          have bd19 := bd_up bh i ((((g i) - (h i)) - c) + (0 * 10000)) (by omega)
          have e20 : w13 r = zar E N g := (hg18 r (by omega)).trans e5
          have hf21 : ∀ k, k ≠ q → w13 k = w0 k := fun k g0 => (hg18 k g0).trans (hf6 k g0)
          refine zv_iinc (k := 5) (lv' := [(4, .int (iI (i + 1))), (3, .int (iI 0)), (5, .int (iI (((g i) - (h i)) - c))), (0, .ref (ad E q)), (1, .ref (ad E r)), (2, .ref (ad E q))]) hx hb d_R_subtract_62 hl rfl (by decide) rfl (fun ls hl => ?_)
          refine lv_goto (tgt := 5) hx hb d_R_subtract_65 rfl ?_
          exact ih  (i + 1) 0 (up h i ((((g i) - (h i)) - c) + (0 * 10000))) _ H14 lc15 w13 (lv_sub hl [3, 4, 5, 1, 0] rfl) hH16 e17 e20 (fun k g0 => hf21 k g0) (by assumption) (by omega) (by omega) (ks_step hs) (sub_step hi.1 (by rw [hs i (by omega)]) hv) (by omega)
        · refine zv_iconst hx hb d_R_subtract_44 ?_
          refine lv_goto (tgt := 49) hx hb d_R_subtract_45 rfl ?_
          refine lv_istore_n (lv' := [(3, .int (iI 1)), (5, .int (iI (((g i) - (h i)) - c))), (0, .ref (ad E q)), (1, .ref (ad E r)), (2, .ref (ad E q)), (4, .int (iI i))]) hx hb d_R_subtract_49 rfl hl (by decide) rfl (fun ls hl => ?_)
          refine lv_aload_n hx hb d_R_subtract_50 rfl (lv_at hl 2 rfl) ?_
          refine lv_iload hx hb d_R_subtract_51 (lv_at hl 5 rfl) ?_
          refine lv_iload hx hb d_R_subtract_53 (lv_at hl 1 rfl) ?_
          refine lv_iload_n hx hb d_R_subtract_55 rfl (lv_at hl 0 rfl) ?_
          refine zv_sipush hx hb d_R_subtract_56 rfl ?_
          refine zv_imul hx hb d_R_subtract_59 ?_
          refine zv_iadd hx hb d_R_subtract_60 ?_
          refine zv_iast hx hb hK hH q0lt e4 (by omega) (by omega) (by omega) d_R_subtract_61 (fun H23 lc24 w22 hH25 e26 hg27 => ?_)
          have bd28 := bd_up bh i ((((g i) - (h i)) - c) + (1 * 10000)) (by omega)
          have e29 : w22 r = zar E N g := (hg27 r (by omega)).trans e5
          have hf30 : ∀ k, k ≠ q → w22 k = w0 k := fun k g0 => (hg27 k g0).trans (hf6 k g0)
          refine zv_iinc (k := 5) (lv' := [(4, .int (iI (i + 1))), (3, .int (iI 1)), (5, .int (iI (((g i) - (h i)) - c))), (0, .ref (ad E q)), (1, .ref (ad E r)), (2, .ref (ad E q))]) hx hb d_R_subtract_62 hl rfl (by decide) rfl (fun ls hl => ?_)
          refine lv_goto (tgt := 5) hx hb d_R_subtract_65 rfl ?_
          exact ih  (i + 1) 1 (up h i ((((g i) - (h i)) - c) + (1 * 10000))) _ H23 lc24 w22 (lv_sub hl [3, 4, 5, 1, 0] rfl) hH25 e26 e29 (fun k g0 => hf30 k g0) (by assumption) (by omega) (by omega) (ks_step hs) (sub_step hi.1 (by rw [hs i (by omega)]) hv) (by omega)
  exact L5 (((N : Int) - 0 : Int).toNat + 1) 0 0 f _ s.heap ([]) w0 (lv_sub hl [2, 3, 4, 1, 0] rfl) hH c0 c1 (fun k _ => rfl) (by exact bf) (by omega) (by omega) (by intro j _; rfl) (by rfl) (by omega)
def rm_order : Room := { frames := 1, cells := 0, slots := 0, locals := 21 }
set_option maxHeartbeats 4000000 in
set_option maxRecDepth 100000 in
theorem c_order (l : Launch) (E : zE) (w0 : zW) (q r N : Nat) (f g : Int → Int) (q0lt : q < zn E) (q1lt : r < zn E) (c0 : w0 q = zar E N f) (c1 : w0 r = zar E N g) (hN : 0 < N ∧ N < 100000) (bf : bd f N 0 9999) (bg : bd g N 0 9999) : zM l y_R_order ws_R_order rm_order E [.ref (ad E q), .ref (ad E r)] w0 (zQi E w0 (fun z w' => w' = w0 ∧ ((z = -1 ∧ V f N < V g N) ∨ (z = 0 ∧ V f N = V g N) ∨ (z = 1 ∧ V g N < V f N)))) := by
  refine z_met (cc := b_R_order) (maxL := 3) (ret := (some .int)) (by decide +kernel) rfl (Nat.le_of_ble_eq_true rfl) ?_
  intro p e s m below meth cd ls a Qf hQ hC hl hH
  obtain ⟨hF, hr, hlk, hK, hG, hn⟩ := hC
  obtain ⟨hx, hb, hml, hown, hts⟩ := hF
  have hg : ∀ w ∈ GW, w.before a s = true := fun w h => hts w (List.mem_cons_of_mem _ h)
  have hA : ∀ q, s.heap.size ≤ q → va_A (wl E w0) s.heap.size q := fun q h => Or.inr h
  have hl : lv_has ls 3 [(0, .ref (ad E q)), (1, .ref (ad E r))] := hl
  refine lv_aload_n hx hb d_R_order_0 rfl (lv_at hl 0 rfl) ?_
  refine zv_alen hx hb hK hH q0lt c0 d_R_order_1 ?_
  refine lv_aload_n hx hb d_R_order_2 rfl (lv_at hl 1 rfl) ?_
  refine zv_alen hx hb hK hH q1lt c1 d_R_order_3 ?_
  refine z_calli (va_runS (As := [.int (iI ((N : Int))), .int (iI ((N : Int)))]) (rest := []) ⟨hx, hb, hml, hown, hts⟩ (c_min (l := l) (E := E) (w0 := w0) (x := (N : Int)) (y := (N : Int)) (zx := by omega) (zy := by omega) s.heap.size) (z_cwS 2 hg wm_279 wm_395 wm_15 wm_278 (by decide +kernel) ⟨Nat.le_of_ble_eq_true rfl, Nat.le_of_ble_eq_true rfl⟩) (z_preS hK hG hn hH hA) rfl rfl hl.1 rfl (lv_room (Nat.le_of_ble_eq_true rfl)) d_R_order_4 ⟨Nat.zero_le _, Nat.zero_le _⟩) hH hA (fun z6 w3 H1 lc2 hH4 hp5 => ?_)
  obtain ⟨ew7, hp5⟩ := hp5
  rw [ew7] at hH4
  have hp5 : z6 = min ((N : Int)) ((N : Int)) := hp5
  refine zv_iconst hx hb d_R_order_7 ?_
  refine zv_isub hx hb d_R_order_8 ?_
  refine lv_istore_n (lv' := [(2, .int (iI (z6 - 1))), (0, .ref (ad E q)), (1, .ref (ad E r))]) hx hb d_R_order_9 rfl hl (by decide) rfl (fun ls hl => ?_)
  have L10 : ∀ (fu : Nat) (t : Int) (ls : Array Slot) (H8 : Heap) (lc9 : List Loc), (lv_has ls 3 [(2, .int (iI t)), (0, .ref (ad E q)), (1, .ref (ad E r))]) → (zH E w0 (va_A (wl E w0) s.heap.size) s.heap H8 lc9) → (-1 ≤ t ∧ t < N) → (∀ j, t < j → j < N → f j = g j) → (t + 1 < (fu : Int)) → W p l e rm_order s m a below meth cd H8 lc9 0 0 Qf (F0 m 10 ls []) := by
    intro fu
    induction fu with
    | zero => intro t ls H8 lc9 hl hH h1 h2 hm; exact absurd hm (by omega)
    | succ fu ih =>
      intro t ls H8 lc9 hl hH h1 h2 hm
      refine lv_iload_n hx hb d_R_order_10 rfl (lv_at hl 0 rfl) ?_
      refine zv_if_lt (tgt := 44) hx hb d_R_order_11 rfl (by omega) (fun h10 => ?_) (fun h10 => ?_)
      · refine zv_iconst hx hb d_R_order_44 ?_
        rw [hQ]
        exact z_iret hx hb hr hlk hH (⟨rfl, Or.inr (Or.inl ⟨rfl, V_eqv (fun j g1 g2 => h2 j (by omega) g2)⟩)⟩) d_R_order_45
      · refine lv_aload_n hx hb d_R_order_14 rfl (lv_at hl 1 rfl) ?_
        refine lv_iload_n hx hb d_R_order_15 rfl (lv_at hl 0 rfl) ?_
        refine zv_iald hx hb hK hH q0lt c0 (by omega) (by omega) (by omega) d_R_order_16 ?_
        have b11 := bf t (by omega) (by omega)
        refine lv_aload_n hx hb d_R_order_17 rfl (lv_at hl 2 rfl) ?_
        refine lv_iload_n hx hb d_R_order_18 rfl (lv_at hl 0 rfl) ?_
        refine zv_iald hx hb hK hH q1lt c1 (by omega) (by omega) (by omega) d_R_order_19 ?_
        have b12 := bg t (by omega) (by omega)
        refine zv_icmp_eq (tgt := 38) hx hb d_R_order_20 rfl (by omega) (by omega) (fun h13 => ?_) (fun h13 => ?_)
        · refine zv_iinc (k := 0) (lv' := [(2, .int (iI (t + (-1)))), (0, .ref (ad E q)), (1, .ref (ad E r))]) hx hb d_R_order_38 hl rfl (by decide) rfl (fun ls hl => ?_)
          refine lv_goto (tgt := 10) hx hb d_R_order_41 rfl ?_
          exact ih  (t + (-1)) _ H8 lc9 (lv_sub hl [0, 1, 2] rfl) hH (by omega) (eq_step h2 (by assumption)) (by omega)
        · refine lv_aload_n hx hb d_R_order_23 rfl (lv_at hl 1 rfl) ?_
          refine lv_iload_n hx hb d_R_order_24 rfl (lv_at hl 0 rfl) ?_
          refine zv_iald hx hb hK hH q0lt c0 (by omega) (by omega) (by omega) d_R_order_25 ?_
          have b14 := bf t (by omega) (by omega)
          refine lv_aload_n hx hb d_R_order_26 rfl (lv_at hl 2 rfl) ?_
          refine lv_iload_n hx hb d_R_order_27 rfl (lv_at hl 0 rfl) ?_
          refine zv_iald hx hb hK hH q1lt c1 (by omega) (by omega) (by omega) d_R_order_28 ?_
          have b15 := bg t (by omega) (by omega)
          refine zv_icmp_ge (tgt := 36) hx hb d_R_order_29 rfl (by omega) (by omega) (fun h16 => ?_) (fun h16 => ?_)
          · refine zv_iconst hx hb d_R_order_36 ?_
            rw [hQ]
            exact z_iret hx hb hr hlk hH (⟨rfl, Or.inr (Or.inr ⟨rfl, V_lt bg bf (by omega) (by omega) (fun j g1 g2 => (h2 j g1 g2).symm) (by omega)⟩)⟩) d_R_order_37
          · refine zv_iconst hx hb d_R_order_32 ?_
            refine lv_goto (tgt := 37) hx hb d_R_order_33 rfl ?_
            rw [hQ]
            exact z_iret hx hb hr hlk hH (⟨rfl, Or.inl ⟨rfl, V_lt bf bg (by omega) (by omega) h2 (by omega)⟩⟩) d_R_order_37
  exact L10 (((z6 - 1) + 1 : Int).toNat + 1) (z6 - 1) _ H1 lc2 (lv_sub hl [0, 1, 2] rfl) hH4 (by omega) (by intro j g1 g2; exact absurd g2 (by omega)) (by omega)
def rm_addOneAt : Room := { frames := 0, cells := 0, slots := 0, locals := 0 }
set_option maxHeartbeats 4000000 in
set_option maxRecDepth 100000 in
theorem c_addOneAt (l : Launch) (E : zE) (w0 : zW) (q N : Nat) (f : Int → Int) (x : Int) (q0lt : q < zn E) (c0 : w0 q = zar E N f) (hN : 0 < N ∧ N < 100000) (bf : bd f N 0 9999) (hp : -1000000 ≤ x ∧ x < N * 4) : zM l y_R_addOneAt ws_R_addOneAt rm_addOneAt E [.ref (ad E q), .int (iI x)] w0 (zQv E w0 (fun w' => (∃ (f' : Int → Int), w' q = zar E N f' ∧ bd f' N 0 9999 ∧ (V f' N = (if x < 0 then V f N else (V f N + Tp x) % Bp N))) ∧ ∀ k, k ≠ q → w' k = w0 k)) := by
  refine z_met (cc := b_R_addOneAt) (maxL := 5) (ret := none) (by decide +kernel) rfl (Nat.le_of_ble_eq_true rfl) ?_
  intro p e s m below meth cd ls a Qf hQ hC hl hH
  obtain ⟨hF, hr, hlk, hK, hG, hn⟩ := hC
  obtain ⟨hx, hb, hml, hown, hts⟩ := hF
  have hg : ∀ w ∈ GW, w.before a s = true := fun w h => hts w (List.mem_cons_of_mem _ h)
  have hA : ∀ q, s.heap.size ≤ q → va_A (wl E w0) s.heap.size q := fun q h => Or.inr h
  have hl : lv_has ls 5 [(0, .ref (ad E q)), (1, .int (iI x))] := hl
  refine lv_iload_n hx hb d_R_addOneAt_0 rfl (lv_at hl 1 rfl) ?_
  refine zv_if_ge (tgt := 5) hx hb d_R_addOneAt_1 rfl (by omega) (fun h1 => ?_) (fun h1 => ?_)
  · refine zv_tens hx hb hG hH hown (hn.1.use rfl) (fun _ h9 => h9) d_R_addOneAt_5 ?_
    refine lv_iload_n hx hb d_R_addOneAt_8 rfl (lv_at hl 1 rfl) ?_
    refine zv_iconst hx hb d_R_addOneAt_9 ?_
    refine zv_irem hx hb (by omega) (by omega) (by omega) (by omega) d_R_addOneAt_10 ?_
    refine zv_tenld hx hb hG hH (by omega) (by omega) d_R_addOneAt_11 ?_
    have b2 := Tp_in (i := x % 4) (by omega) (by omega)
    refine lv_istore_n (lv' := [(2, .int (iI (Tp (x % 4)))), (0, .ref (ad E q)), (1, .int (iI x))]) hx hb d_R_addOneAt_12 rfl hl (by decide) rfl (fun ls hl => ?_)
    refine lv_iload_n hx hb d_R_addOneAt_13 rfl (lv_at hl 2 rfl) ?_
    refine zv_iconst hx hb d_R_addOneAt_14 ?_
    refine zv_idiv hx hb (by omega) (by omega) (by omega) (by omega) d_R_addOneAt_15 ?_
    refine lv_istore_n (lv' := [(3, .int (iI (x / 4))), (2, .int (iI (Tp (x % 4)))), (0, .ref (ad E q)), (1, .int (iI x))]) hx hb d_R_addOneAt_16 rfl hl (by decide) rfl (fun ls hl => ?_)
    have L17 : ∀ (fu : Nat) (i : Int) (c : Int) (h : Int → Int) (ls : Array Slot) (H3 : Heap) (lc4 : List Loc) (w5 : zW), (lv_has ls 5 [(0, .ref (ad E q)), (1, .int (iI x)), (2, .int (iI c)), (3, .int (iI i))]) → (zH E w5 (va_A (wl E w0) s.heap.size) s.heap H3 lc4) → (w5 q = zar E N h) → (∀ k, k ≠ q → w5 k = w0 k) → (bd h N 0 9999) → (0 ≤ i ∧ i ≤ N) → (0 ≤ c ∧ c ≤ 1000) → (∀ j, i ≤ j → h j = f j) → (V h i + c * Bp i = V f i + Tp x) → ((N : Int) - i < (fu : Int)) → W p l e rm_addOneAt s m a below meth cd H3 lc4 0 0 Qf (F0 m 17 ls []) := by
      intro fu
      induction fu with
      | zero => intro i c h ls H3 lc4 w5 hl hH e6 hf7 bh hi hc hs hv hm; exact absurd hm (by omega)
      | succ fu ih =>
        intro i c h ls H3 lc4 w5 hl hH e6 hf7 bh hi hc hs hv hm
        refine lv_iload_n hx hb d_R_addOneAt_17 rfl (lv_at hl 3 rfl) ?_
        refine lv_aload_n hx hb d_R_addOneAt_18 rfl (lv_at hl 0 rfl) ?_
        refine zv_alen hx hb hK hH q0lt e6 d_R_addOneAt_19 ?_
        refine zv_icmp_ge (tgt := 56) hx hb d_R_addOneAt_20 rfl (by omega) (by omega) (fun h8 => ?_) (fun h8 => ?_)
        · have e9 : i = N := by omega
          have b9 := V_in bh (Int.le_of_lt (by omega : (0 : Int) < N)) (Int.le_refl (N : Int))
          subst e9
          rw [hQ]
          exact z_vret hx hb hr hlk hH (⟨⟨h, e6, bh, by rw [if_neg (by omega)]; exact md_of hv b9.1 b9.2⟩, (fun k g0 => hf7 k g0)⟩) d_R_addOneAt_56
        · refine lv_iload_n hx hb d_R_addOneAt_23 rfl (lv_at hl 2 rfl) ?_
          refine zv_if_le (tgt := 56) hx hb d_R_addOneAt_24 rfl (by omega) (fun h9 => ?_) (fun h9 => ?_)
          · have e9 : c = 0 := by omega
            subst e9
            rw [hQ]
            exact z_vret hx hb hr hlk hH (⟨⟨h, e6, bh, by rw [if_neg (by omega)]; exact one_end bh hi.1 hi.2 hs hv⟩, (fun k g0 => hf7 k g0)⟩) d_R_addOneAt_56
          · refine lv_aload_n hx hb d_R_addOneAt_27 rfl (lv_at hl 0 rfl) ?_
            refine lv_iload_n hx hb d_R_addOneAt_28 rfl (lv_at hl 3 rfl) ?_
            refine zv_iald hx hb hK hH q0lt e6 (by omega) (by omega) (by omega) d_R_addOneAt_29 ?_
            have b10 := bh i (by omega) (by omega)
            refine lv_iload_n hx hb d_R_addOneAt_30 rfl (lv_at hl 2 rfl) ?_
            refine zv_iadd hx hb d_R_addOneAt_31 ?_
            refine lv_istore (lv' := [(4, .int (iI ((h i) + c))), (0, .ref (ad E q)), (1, .int (iI x)), (2, .int (iI c)), (3, .int (iI i))]) hx hb d_R_addOneAt_32 hl (by decide) rfl (fun ls hl => ?_)
            refine lv_iload hx hb d_R_addOneAt_34 (lv_at hl 0 rfl) ?_
            refine zv_sipush hx hb d_R_addOneAt_36 rfl ?_
            refine zv_idiv hx hb (by omega) (by omega) (by omega) (by omega) d_R_addOneAt_39 ?_
            refine lv_istore_n (lv' := [(2, .int (iI (((h i) + c) / 10000))), (4, .int (iI ((h i) + c))), (0, .ref (ad E q)), (1, .int (iI x)), (3, .int (iI i))]) hx hb d_R_addOneAt_40 rfl hl (by decide) rfl (fun ls hl => ?_)
            refine lv_aload_n hx hb d_R_addOneAt_41 rfl (lv_at hl 2 rfl) ?_
            refine lv_iload_n hx hb d_R_addOneAt_42 rfl (lv_at hl 4 rfl) ?_
            refine lv_iload hx hb d_R_addOneAt_43 (lv_at hl 1 rfl) ?_
            refine zv_sipush hx hb d_R_addOneAt_45 rfl ?_
            refine zv_irem hx hb (by omega) (by omega) (by omega) (by omega) d_R_addOneAt_48 ?_
            refine zv_iast hx hb hK hH q0lt e6 (by omega) (by omega) (by omega) d_R_addOneAt_49 (fun H12 lc13 w11 hH14 e15 hg16 => ?_)
            have bd17 := bd_up bh i (((h i) + c) % 10000) (by omega)
            have hf18 : ∀ k, k ≠ q → w11 k = w0 k := fun k g0 => (hg16 k g0).trans (hf7 k g0)
            refine zv_iinc (k := 4) (lv' := [(3, .int (iI (i + 1))), (2, .int (iI (((h i) + c) / 10000))), (4, .int (iI ((h i) + c))), (0, .ref (ad E q)), (1, .int (iI x))]) hx hb d_R_addOneAt_50 hl rfl (by decide) rfl (fun ls hl => ?_)
            refine lv_goto (tgt := 17) hx hb d_R_addOneAt_53 rfl ?_
            exact ih  (i + 1) (((h i) + c) / 10000) (up h i (((h i) + c) % 10000)) _ H12 lc13 w11 (lv_sub hl [3, 4, 1, 0] rfl) hH14 e15 (fun k g0 => hf18 k g0) (by assumption) (by omega) (by omega) (ks_step hs) (one_step hi.1 (hs i (by omega)) hv) (by omega)
    exact L17 (((N : Int) - (x / 4) : Int).toNat + 1) (x / 4) (Tp (x % 4)) f _ s.heap ([]) w0 (lv_sub hl [2, 3, 1, 0] rfl) hH c0 (fun k _ => rfl) (by exact bf) (by omega) (by omega) (by intro j _; rfl) (by rw [Tp_q (by omega : 0 ≤ x)]) (by omega)
  · rw [hQ]
    exact z_vret hx hb hr hlk hH (⟨⟨f, c0, bf, by rw [if_pos (by omega)]⟩, (fun k _ => rfl)⟩) d_R_addOneAt_4
def rm_digitAt : Room := { frames := 0, cells := 0, slots := 0, locals := 0 }
set_option maxHeartbeats 4000000 in
set_option maxRecDepth 100000 in
theorem c_digitAt (l : Launch) (E : zE) (w0 : zW) (q N : Nat) (f : Int → Int) (x : Int) (q0lt : q < zn E) (c0 : w0 q = zar E N f) (hN : 0 < N ∧ N < 100000) (bf : bd f N 0 9999) (hp : -1000000 ≤ x ∧ x < 1000000) : zM l y_R_digitAt ws_R_digitAt rm_digitAt E [.ref (ad E q), .int (iI x)] w0 (zQi E w0 (fun z w' => w' = w0 ∧ (z = (if x < 0 then 0 else V f N / Tp x % 10)))) := by
  refine z_met (cc := b_R_digitAt) (maxL := 2) (ret := (some .int)) (by decide +kernel) rfl (Nat.le_of_ble_eq_true rfl) ?_
  intro p e s m below meth cd ls a Qf hQ hC hl hH
  obtain ⟨hF, hr, hlk, hK, hG, hn⟩ := hC
  obtain ⟨hx, hb, hml, hown, hts⟩ := hF
  have hg : ∀ w ∈ GW, w.before a s = true := fun w h => hts w (List.mem_cons_of_mem _ h)
  have hA : ∀ q, s.heap.size ≤ q → va_A (wl E w0) s.heap.size q := fun q h => Or.inr h
  have hl : lv_has ls 2 [(0, .ref (ad E q)), (1, .int (iI x))] := hl
  refine lv_iload_n hx hb d_R_digitAt_0 rfl (lv_at hl 1 rfl) ?_
  refine zv_if_lt (tgt := 12) hx hb d_R_digitAt_1 rfl (by omega) (fun h1 => ?_) (fun h1 => ?_)
  · refine zv_iconst hx hb d_R_digitAt_12 ?_
    rw [hQ]
    exact z_iret hx hb hr hlk hH (⟨rfl, by first | (rw [if_pos (by omega)]) | (rw [if_neg (by omega), V_big bf (by omega) (by omega)]; rfl)⟩) d_R_digitAt_13
  · refine lv_iload_n hx hb d_R_digitAt_4 rfl (lv_at hl 1 rfl) ?_
    refine lv_aload_n hx hb d_R_digitAt_5 rfl (lv_at hl 0 rfl) ?_
    refine zv_alen hx hb hK hH q0lt c0 d_R_digitAt_6 ?_
    refine zv_iconst hx hb d_R_digitAt_7 ?_
    refine zv_imul hx hb d_R_digitAt_8 ?_
    refine zv_icmp_lt (tgt := 14) hx hb d_R_digitAt_9 rfl (by omega) (by omega) (fun h2 => ?_) (fun h2 => ?_)
    · refine lv_aload_n hx hb d_R_digitAt_14 rfl (lv_at hl 0 rfl) ?_
      refine lv_iload_n hx hb d_R_digitAt_15 rfl (lv_at hl 1 rfl) ?_
      refine zv_iconst hx hb d_R_digitAt_16 ?_
      refine zv_idiv hx hb (by omega) (by omega) (by omega) (by omega) d_R_digitAt_17 ?_
      refine zv_iald hx hb hK hH q0lt c0 (by omega) (by omega) (by omega) d_R_digitAt_18 ?_
      have b3 := bf (x / 4) (by omega) (by omega)
      refine zv_tens hx hb hG hH hown (hn.1.use rfl) (fun _ h9 => h9) d_R_digitAt_19 ?_
      refine lv_iload_n hx hb d_R_digitAt_22 rfl (lv_at hl 1 rfl) ?_
      refine zv_iconst hx hb d_R_digitAt_23 ?_
      refine zv_irem hx hb (by omega) (by omega) (by omega) (by omega) d_R_digitAt_24 ?_
      refine zv_tenld hx hb hG hH (by omega) (by omega) d_R_digitAt_25 ?_
      have b4 := Tp_in (i := x % 4) (by omega) (by omega)
      have d9 : f (x / 4) / Tp (x % 4) ≤ f (x / 4) := Int.ediv_le_self _ (by omega)
      have d8 : 0 ≤ f (x / 4) / Tp (x % 4) := Int.ediv_nonneg (by omega) (by omega)
      refine zv_idiv hx hb (by omega) (by omega) (by omega) (by omega) d_R_digitAt_26 ?_
      refine zv_bipush hx hb d_R_digitAt_27 rfl ?_
      refine zv_irem hx hb (by omega) (by omega) (by omega) (by omega) d_R_digitAt_29 ?_
      rw [hQ]
      exact z_iret hx hb hr hlk hH (⟨rfl, by rw [if_neg (by omega)]; exact V_dig bf (by omega) (by omega)⟩) d_R_digitAt_30
    · refine zv_iconst hx hb d_R_digitAt_12 ?_
      rw [hQ]
      exact z_iret hx hb hr hlk hH (⟨rfl, by first | (rw [if_pos (by omega)]) | (rw [if_neg (by omega), V_big bf (by omega) (by omega)]; rfl)⟩) d_R_digitAt_13
def rm_cut : Room := { frames := 1, cells := 0, slots := 0, locals := 21 }
set_option maxHeartbeats 4000000 in
set_option maxRecDepth 100000 in
theorem c_cut (l : Launch) (E : zE) (w0 : zW) (q N : Nat) (f : Int → Int) (x : Int) (q0lt : q < zn E) (c0 : w0 q = zar E N f) (hN : 0 < N ∧ N < 100000) (bf : bd f N 0 9999) (hp : -1000000 ≤ x ∧ x < N * 4) : zM l y_R_cut ws_R_cut rm_cut E [.ref (ad E q), .int (iI x)] w0 (zQv E w0 (fun w' => (∃ (f' : Int → Int), w' q = zar E N f' ∧ bd f' N 0 9999 ∧ (V f' N = (if x ≤ 0 then V f N else V f N / Tp x * Tp x))) ∧ ∀ k, k ≠ q → w' k = w0 k)) := by
  refine z_met (cc := b_R_cut) (maxL := 4) (ret := none) (by decide +kernel) rfl (Nat.le_of_ble_eq_true rfl) ?_
  intro p e s m below meth cd ls a Qf hQ hC hl hH
  obtain ⟨hF, hr, hlk, hK, hG, hn⟩ := hC
  obtain ⟨hx, hb, hml, hown, hts⟩ := hF
  have hg : ∀ w ∈ GW, w.before a s = true := fun w h => hts w (List.mem_cons_of_mem _ h)
  have hA : ∀ q, s.heap.size ≤ q → va_A (wl E w0) s.heap.size q := fun q h => Or.inr h
  have hl : lv_has ls 4 [(0, .ref (ad E q)), (1, .int (iI x))] := hl
  refine lv_iload_n hx hb d_R_cut_0 rfl (lv_at hl 1 rfl) ?_
  refine zv_if_gt (tgt := 5) hx hb d_R_cut_1 rfl (by omega) (fun h1 => ?_) (fun h1 => ?_)
  · refine lv_iload_n hx hb d_R_cut_5 rfl (lv_at hl 1 rfl) ?_
    refine zv_iconst hx hb d_R_cut_6 ?_
    refine zv_idiv hx hb (by omega) (by omega) (by omega) (by omega) d_R_cut_7 ?_
    refine lv_aload_n hx hb d_R_cut_8 rfl (lv_at hl 0 rfl) ?_
    refine zv_alen hx hb hK hH q0lt c0 d_R_cut_9 ?_
    refine z_calli (va_runS (As := [.int (iI (x / 4)), .int (iI ((N : Int)))]) (rest := []) ⟨hx, hb, hml, hown, hts⟩ (c_min (l := l) (E := E) (w0 := w0) (x := x / 4) (y := (N : Int)) (zx := by omega) (zy := by omega) s.heap.size) (z_cwS 2 hg wm_279 wm_395 wm_15 wm_278 (by decide +kernel) ⟨Nat.le_of_ble_eq_true rfl, Nat.le_of_ble_eq_true rfl⟩) (z_preS hK hG hn hH hA) rfl rfl hl.1 rfl (lv_room (Nat.le_of_ble_eq_true rfl)) d_R_cut_10 ⟨Nat.zero_le _, Nat.zero_le _⟩) hH hA (fun z7 w4 H2 lc3 hH5 hp6 => ?_)
    obtain ⟨ew8, hp6⟩ := hp6
    rw [ew8] at hH5
    have hp6 : z7 = min (x / 4) ((N : Int)) := hp6
    have e8 : z7 = x / 4 := by omega
    subst e8
    refine lv_istore_n (lv' := [(2, .int (iI (x / 4))), (0, .ref (ad E q)), (1, .int (iI x))]) hx hb d_R_cut_13 rfl hl (by decide) rfl (fun ls hl => ?_)
    refine zv_iconst hx hb d_R_cut_14 ?_
    refine lv_istore_n (lv' := [(3, .int (iI 0)), (2, .int (iI (x / 4))), (0, .ref (ad E q)), (1, .int (iI x))]) hx hb d_R_cut_15 rfl hl (by decide) rfl (fun ls hl => ?_)
    have L16 : ∀ (fu : Nat) (i : Int) (h : Int → Int) (ls : Array Slot) (H9 : Heap) (lc10 : List Loc) (w11 : zW), (lv_has ls 4 [(0, .ref (ad E q)), (1, .int (iI x)), (2, .int (iI (x / 4))), (3, .int (iI i))]) → (zH E w11 (va_A (wl E w0) s.heap.size) s.heap H9 lc10) → (w11 q = zar E N h) → (∀ k, k ≠ q → w11 k = w0 k) → (bd h N 0 9999) → (0 ≤ i ∧ i ≤ x / 4) → (∀ j, 0 ≤ j → j < i → h j = 0) → (∀ j, i ≤ j → h j = f j) → (x / 4 - i < (fu : Int)) → W p l e rm_cut s m a below meth cd H9 lc10 0 0 Qf (F0 m 16 ls []) := by
      intro fu
      induction fu with
      | zero => intro i h ls H9 lc10 w11 hl hH e12 hf13 bh hi hz hs hm; exact absurd hm (by omega)
      | succ fu ih =>
        intro i h ls H9 lc10 w11 hl hH e12 hf13 bh hi hz hs hm
        refine lv_iload_n hx hb d_R_cut_16 rfl (lv_at hl 3 rfl) ?_
        refine lv_iload_n hx hb d_R_cut_17 rfl (lv_at hl 2 rfl) ?_
        refine zv_icmp_ge (tgt := 31) hx hb d_R_cut_18 rfl (by omega) (by omega) (fun h14 => ?_) (fun h14 => ?_)
        · refine lv_iload_n hx hb d_R_cut_31 rfl (lv_at hl 2 rfl) ?_
          refine lv_aload_n hx hb d_R_cut_32 rfl (lv_at hl 0 rfl) ?_
          refine zv_alen hx hb hK hH q0lt e12 d_R_cut_33 ?_
          refine zv_icmp_ge (tgt := 54) hx hb d_R_cut_34 rfl (by omega) (by omega) (fun h15 => absurd h15 (by omega)) (fun h15 => ?_)
          refine lv_aload_n hx hb d_R_cut_37 rfl (lv_at hl 0 rfl) ?_
          refine lv_iload_n hx hb d_R_cut_38 rfl (lv_at hl 2 rfl) ?_
          refine lv_dup2_11 hx hb d_R_cut_39 rfl rfl ?_
          refine zv_iald hx hb hK hH q0lt e12 (by omega) (by omega) (by omega) d_R_cut_40 ?_
          have b16 := bh (x / 4) (by omega) (by omega)
          refine lv_aload_n hx hb d_R_cut_41 rfl (lv_at hl 0 rfl) ?_
          refine lv_iload_n hx hb d_R_cut_42 rfl (lv_at hl 2 rfl) ?_
          refine zv_iald hx hb hK hH q0lt e12 (by omega) (by omega) (by omega) d_R_cut_43 ?_
          have b17 := bh (x / 4) (by omega) (by omega)
          refine zv_tens hx hb hG hH hown (hn.1.use rfl) (fun _ h9 => h9) d_R_cut_44 ?_
          refine lv_iload_n hx hb d_R_cut_47 rfl (lv_at hl 1 rfl) ?_
          refine zv_iconst hx hb d_R_cut_48 ?_
          refine zv_irem hx hb (by omega) (by omega) (by omega) (by omega) d_R_cut_49 ?_
          refine zv_tenld hx hb hG hH (by omega) (by omega) d_R_cut_50 ?_
          have b18 := Tp_in (i := x % 4) (by omega) (by omega)
          have d9 := Int.emod_nonneg (h (x / 4)) (show Tp (x % 4) ≠ 0 by omega)
          have d8 := Int.emod_lt_of_pos (h (x / 4)) (show 0 < Tp (x % 4) by omega)
          have d7 : h (x / 4) % Tp (x % 4) ≤ h (x / 4) := emod_le (by omega) (by omega)
          refine zv_irem hx hb (by omega) (by omega) (by omega) (by omega) d_R_cut_51 ?_
          refine zv_isub hx hb d_R_cut_52 ?_
          refine zv_iast hx hb hK hH q0lt e12 (by omega) (by omega) (by omega) d_R_cut_53 (fun H20 lc21 w19 hH22 e23 hg24 => ?_)
          have bd25 := bd_up bh (x / 4) ((h (x / 4)) - ((h (x / 4)) % (Tp (x % 4)))) (by omega)
          have hf26 : ∀ k, k ≠ q → w19 k = w0 k := fun k g0 => (hg24 k g0).trans (hf13 k g0)
          have e9 : i = x / 4 := by omega
          subst e9
          rw [hQ]
          exact z_vret hx hb hr hlk hH22 (⟨⟨(up h (x / 4) ((h (x / 4)) - ((h (x / 4)) % (Tp (x % 4))))), e23, bd25, by rw [if_neg (by omega)]; exact V_cut bf (by omega) (by omega) hz hs⟩, (fun k g0 => hf26 k g0)⟩) d_R_cut_54
        · refine lv_aload_n hx hb d_R_cut_21 rfl (lv_at hl 0 rfl) ?_
          refine lv_iload_n hx hb d_R_cut_22 rfl (lv_at hl 3 rfl) ?_
          refine zv_iconst hx hb d_R_cut_23 ?_
          refine zv_iast hx hb hK hH q0lt e12 (by omega) (by omega) (by omega) d_R_cut_24 (fun H28 lc29 w27 hH30 e31 hg32 => ?_)
          have bd33 := bd_up bh i 0 (by omega)
          have hf34 : ∀ k, k ≠ q → w27 k = w0 k := fun k g0 => (hg32 k g0).trans (hf13 k g0)
          refine zv_iinc (k := 3) (lv' := [(3, .int (iI (i + 1))), (0, .ref (ad E q)), (1, .int (iI x)), (2, .int (iI (x / 4)))]) hx hb d_R_cut_25 hl rfl (by decide) rfl (fun ls hl => ?_)
          refine lv_goto (tgt := 16) hx hb d_R_cut_28 rfl ?_
          exact ih  (i + 1) (up h i 0) _ H28 lc29 w27 (lv_sub hl [1, 2, 3, 0] rfl) hH30 e31 (fun k g0 => hf34 k g0) (by assumption) (by omega) (z_step hz) (ks_step hs) (by omega)
    exact L16 ((x / 4 - 0 : Int).toNat + 1) 0 f _ H2 lc3 w0 (lv_sub hl [2, 3, 1, 0] rfl) hH5 c0 (fun k _ => rfl) (by exact bf) (by omega) (by intro j g1 g2; omega) (by intro j _; rfl) (by omega)
  · rw [hQ]
    exact z_vret hx hb hr hlk hH (⟨⟨f, c0, bf, by rw [if_pos (by omega)]⟩, (fun k _ => rfl)⟩) d_R_cut_4
def rm_addMultiple : Room := { frames := 0, cells := 0, slots := 0, locals := 0 }
set_option maxHeartbeats 4000000 in
set_option maxRecDepth 100000 in
theorem c_addMultiple (l : Launch) (E : zE) (w0 : zW) (q r N M : Nat) (f g : Int → Int) (L x : Int) (q0lt : q < zn E) (q1lt : r < zn E) (c0 : w0 q = zar E N f) (c1 : w0 r = zar E M g) (hN : 0 < N ∧ N < 100000) (hM : 0 < M ∧ M < 100000) (bf : bd f N 0 9999) (bg : bd g M 0 9999) (hqr : q ≠ r) (hL : 0 ≤ L ∧ L ≤ 9999) (hx0 : 0 ≤ x ∧ x ≤ N) : zM l y_R_addMultiple ws_R_addMultiple rm_addMultiple E [.ref (ad E q), .ref (ad E r), .int (iI L), .int (iI x)] w0 (zQv E w0 (fun w' => (∃ (f' : Int → Int), w' q = zar E N f' ∧ bd f' N 0 9999 ∧ (V f' N = (V f N + L * V g M * Bp x) % Bp N)) ∧ ∀ k, k ≠ q → w' k = w0 k)) := by
  refine z_met (cc := b_R_addMultiple) (maxL := 8) (ret := none) (by decide +kernel) rfl (Nat.le_of_ble_eq_true rfl) ?_
  intro p e s m below meth cd ls a Qf hQ hC hl hH
  obtain ⟨hF, hr, hlk, hK, hG, hn⟩ := hC
  obtain ⟨hx, hb, hml, hown, hts⟩ := hF
  have hg : ∀ w ∈ GW, w.before a s = true := fun w h => hts w (List.mem_cons_of_mem _ h)
  have hA : ∀ q, s.heap.size ≤ q → va_A (wl E w0) s.heap.size q := fun q h => Or.inr h
  have hl : lv_has ls 8 [(0, .ref (ad E q)), (1, .ref (ad E r)), (2, .int (iI L)), (3, .int (iI x))] := hl
  refine zv_iconst hx hb d_R_addMultiple_0 ?_
  refine lv_istore (lv' := [(4, .int (iI 0)), (0, .ref (ad E q)), (1, .ref (ad E r)), (2, .int (iI L)), (3, .int (iI x))]) hx hb d_R_addMultiple_1 hl (by decide) rfl (fun ls hl => ?_)
  refine lv_iload_n hx hb d_R_addMultiple_3 rfl (lv_at hl 4 rfl) ?_
  refine lv_istore (lv' := [(5, .int (iI x)), (4, .int (iI 0)), (0, .ref (ad E q)), (1, .ref (ad E r)), (2, .int (iI L)), (3, .int (iI x))]) hx hb d_R_addMultiple_4 hl (by decide) rfl (fun ls hl => ?_)
  have L6 : ∀ (fu : Nat) (i : Int) (c : Int) (h : Int → Int) (ls : Array Slot) (H1 : Heap) (lc2 : List Loc) (w3 : zW), (lv_has ls 8 [(0, .ref (ad E q)), (1, .ref (ad E r)), (2, .int (iI L)), (3, .int (iI x)), (4, .int (iI c)), (5, .int (iI i))]) → (zH E w3 (va_A (wl E w0) s.heap.size) s.heap H1 lc2) → (w3 q = zar E N h) → (w3 r = zar E M g) → (∀ k, k ≠ q → w3 k = w0 k) → (bd h N 0 9999) → (x ≤ i ∧ i ≤ N) → (0 ≤ c ∧ c ≤ 9999) → (∀ j, i ≤ j → h j = f j) → (V h i + c * Bp i = V f i + L * V (ex g M) (i - x) * Bp x) → ((N : Int) - i < (fu : Int)) → W p l e rm_addMultiple s m a below meth cd H1 lc2 0 0 Qf (F0 m 6 ls []) := by
    intro fu
    induction fu with
    | zero => intro i c h ls H1 lc2 w3 hl hH e4 e5 hf6 bh hi hc hs hv hm; exact absurd hm (by omega)
    | succ fu ih =>
      intro i c h ls H1 lc2 w3 hl hH e4 e5 hf6 bh hi hc hs hv hm
      refine lv_iload hx hb d_R_addMultiple_6 (lv_at hl 5 rfl) ?_
      refine lv_aload_n hx hb d_R_addMultiple_8 rfl (lv_at hl 0 rfl) ?_
      refine zv_alen hx hb hK hH q0lt e4 d_R_addMultiple_9 ?_
      refine zv_icmp_ge (tgt := 72) hx hb d_R_addMultiple_10 rfl (by omega) (by omega) (fun h7 => ?_) (fun h7 => ?_)
      · have e9 : i = N := by omega
        subst e9
        rw [hQ]
        exact z_vret hx hb hr hlk hH (⟨⟨h, e4, bh, am_end bh (by omega) hx0.1 hx0.2 hv⟩, (fun k g0 => hf6 k g0)⟩) d_R_addMultiple_72
      · have L32 : ∀ (y : Int) (ls : Array Slot) (H8 : Heap) (lc9 : List Loc), (lv_has ls 8 [(0, .ref (ad E q)), (1, .ref (ad E r)), (2, .int (iI L)), (3, .int (iI x)), (4, .int (iI c)), (5, .int (iI i))]) → (zH E w3 (va_A (wl E w0) s.heap.size) s.heap H8 lc9) → (y = ex g M (i - x)) → W p l e rm_addMultiple s m a below meth cd H8 lc9 0 0 Qf (F0 m 32 ls [.int (iI y)]) := by
          intro y ls H8 lc9 hl hH hy
          have hyb := ex_bd bg (show 0 ≤ i - x by omega)
          rw [← hy] at hyb
          have hyl := mul_bd hyb hL
          refine lv_istore (lv' := [(6, .int (iI y)), (0, .ref (ad E q)), (1, .ref (ad E r)), (2, .int (iI L)), (3, .int (iI x)), (4, .int (iI c)), (5, .int (iI i))]) hx hb d_R_addMultiple_32 hl (by decide) rfl (fun ls hl => ?_)
          refine lv_aload_n hx hb d_R_addMultiple_34 rfl (lv_at hl 1 rfl) ?_
          refine lv_iload hx hb d_R_addMultiple_35 (lv_at hl 6 rfl) ?_
          refine zv_iald hx hb hK hH q0lt e4 (by omega) (by omega) (by omega) d_R_addMultiple_37 ?_
          have b10 := bh i (by omega) (by omega)
          refine lv_iload hx hb d_R_addMultiple_38 (lv_at hl 0 rfl) ?_
          refine lv_iload_n hx hb d_R_addMultiple_40 rfl (lv_at hl 3 rfl) ?_
          refine zv_imul hx hb d_R_addMultiple_41 ?_
          refine zv_iadd hx hb d_R_addMultiple_42 ?_
          refine lv_iload hx hb d_R_addMultiple_43 (lv_at hl 5 rfl) ?_
          refine zv_iadd hx hb d_R_addMultiple_45 ?_
          refine lv_istore (lv' := [(7, .int (iI (((h i) + (y * L)) + c))), (6, .int (iI y)), (0, .ref (ad E q)), (1, .ref (ad E r)), (2, .int (iI L)), (3, .int (iI x)), (4, .int (iI c)), (5, .int (iI i))]) hx hb d_R_addMultiple_46 hl (by decide) rfl (fun ls hl => ?_)
          refine lv_iload hx hb d_R_addMultiple_48 (lv_at hl 0 rfl) ?_
          refine zv_sipush hx hb d_R_addMultiple_50 rfl ?_
          refine zv_idiv hx hb (by omega) (by omega) (by omega) (by omega) d_R_addMultiple_53 ?_
          refine lv_istore (lv' := [(4, .int (iI ((((h i) + (y * L)) + c) / 10000))), (7, .int (iI (((h i) + (y * L)) + c))), (6, .int (iI y)), (0, .ref (ad E q)), (1, .ref (ad E r)), (2, .int (iI L)), (3, .int (iI x)), (5, .int (iI i))]) hx hb d_R_addMultiple_54 hl (by decide) rfl (fun ls hl => ?_)
          refine lv_aload_n hx hb d_R_addMultiple_56 rfl (lv_at hl 3 rfl) ?_
          refine lv_iload hx hb d_R_addMultiple_57 (lv_at hl 7 rfl) ?_
          refine lv_iload hx hb d_R_addMultiple_59 (lv_at hl 1 rfl) ?_
          refine zv_sipush hx hb d_R_addMultiple_61 rfl ?_
          refine zv_irem hx hb (by omega) (by omega) (by omega) (by omega) d_R_addMultiple_64 ?_
          refine zv_iast hx hb hK hH q0lt e4 (by omega) (by omega) (by omega) d_R_addMultiple_65 (fun H12 lc13 w11 hH14 e15 hg16 => ?_)
          have bd17 := bd_up bh i ((((h i) + (y * L)) + c) % 10000) (by omega)
          have e18 : w11 r = zar E M g := (hg16 r (by omega)).trans e5
          have hf19 : ∀ k, k ≠ q → w11 k = w0 k := fun k g0 => (hg16 k g0).trans (hf6 k g0)
          refine zv_iinc (k := 7) (lv' := [(5, .int (iI (i + 1))), (4, .int (iI ((((h i) + (y * L)) + c) / 10000))), (7, .int (iI (((h i) + (y * L)) + c))), (6, .int (iI y)), (0, .ref (ad E q)), (1, .ref (ad E r)), (2, .int (iI L)), (3, .int (iI x))]) hx hb d_R_addMultiple_66 hl rfl (by decide) rfl (fun ls hl => ?_)
          refine lv_goto (tgt := 6) hx hb d_R_addMultiple_69 rfl ?_
          exact ih  (i + 1) ((((h i) + (y * L)) + c) / 10000) (up h i ((((h i) + (y * L)) + c) % 10000)) _ H12 lc13 w11 (lv_sub hl [4, 5, 6, 7, 1, 0] rfl) hH14 e15 e18 (fun k g0 => hf19 k g0) (by assumption) (by omega) (by omega) (ks_step hs) (am_step hx0.1 hi.1 (hs i (by omega)) hy hv) (by omega)
        refine lv_iload hx hb d_R_addMultiple_13 (lv_at hl 5 rfl) ?_
        refine lv_iload_n hx hb d_R_addMultiple_15 rfl (lv_at hl 3 rfl) ?_
        refine zv_isub hx hb d_R_addMultiple_16 ?_
        refine lv_aload_n hx hb d_R_addMultiple_17 rfl (lv_at hl 1 rfl) ?_
        refine zv_alen hx hb hK hH q1lt e5 d_R_addMultiple_18 ?_
        refine zv_icmp_ge (tgt := 31) hx hb d_R_addMultiple_19 rfl (by omega) (by omega) (fun h20 => ?_) (fun h20 => ?_)
        · refine zv_iconst hx hb d_R_addMultiple_31 ?_
          exact L32 0 _ H1 lc2 (lv_sub hl [0, 1, 2, 3, 4, 5] rfl) hH (by rw [ex_ge (by omega)])
        · refine lv_aload_n hx hb d_R_addMultiple_22 rfl (lv_at hl 1 rfl) ?_
          refine lv_iload hx hb d_R_addMultiple_23 (lv_at hl 5 rfl) ?_
          refine lv_iload_n hx hb d_R_addMultiple_25 rfl (lv_at hl 3 rfl) ?_
          refine zv_isub hx hb d_R_addMultiple_26 ?_
          refine zv_iald hx hb hK hH q1lt e5 (by omega) (by omega) (by omega) d_R_addMultiple_27 ?_
          have b21 := bg (i - x) (by omega) (by omega)
          refine lv_goto (tgt := 32) hx hb d_R_addMultiple_28 rfl ?_
          exact L32 (g (i - x)) _ H1 lc2 (lv_sub hl [0, 1, 2, 3, 4, 5] rfl) hH (by rw [ex_lt (by omega)])
  exact L6 (((N : Int) - x : Int).toNat + 1) x 0 f _ s.heap ([]) w0 (lv_sub hl [2, 3, 4, 5, 1, 0] rfl) hH c0 c1 (fun k _ => rfl) (by exact bf) (by omega) (by omega) (by intro j _; rfl) (by rw [show x - x = 0 by omega, V_0]; omega) (by omega)
end
section
def rm_floorDiv : Room := { frames := 0, cells := 0, slots := 0, locals := 0 }
set_option maxHeartbeats 4000000 in
set_option maxRecDepth 100000 in
theorem c_floorDiv (l : Launch) (E : zE) (w0 : zW) (x y : Int)   (zx : -2147483648 < x ∧ x < 2147483648) (zy : 0 < y ∧ y < 2147483648) : zM l y_JM_floorDiv ws_JM_floorDiv rm_floorDiv E [.int (iI x), .int (iI y)] w0 (zQi E w0 (fun z w' => w' = w0 ∧ (z = x / y))) := by
  refine z_met (cc := b_JM_floorDiv) (maxL := 3) (ret := (some .int)) (by decide +kernel) rfl (Nat.le_of_ble_eq_true rfl) ?_
  intro p e s m below meth cd ls a Qf hQ hC hl hH
  obtain ⟨hF, hr, hlk, hK, hG, hn⟩ := hC
  obtain ⟨hx, hb, hml, hown, hts⟩ := hF
  have hg : ∀ w ∈ GW, w.before a s = true := fun w h => hts w (List.mem_cons_of_mem _ h)
  have hA : ∀ q, s.heap.size ≤ q → va_A (wl E w0) s.heap.size q := fun q h => Or.inr h
  have hl : lv_has ls 3 [(0, .int (iI x)), (1, .int (iI y))] := hl
  have k9 := fl_rng (x := x) (y := y) (by omega) (by omega)
  refine lv_iload_n hx hb d_JM_floorDiv_0 rfl (lv_at hl 0 rfl) ?_
  refine lv_iload_n hx hb d_JM_floorDiv_1 rfl (lv_at hl 1 rfl) ?_
  refine zv_idivS hx hb (by omega) (by omega) (by omega) (by omega) d_JM_floorDiv_2 ?_
  refine lv_istore_n (lv' := [(2, .int (iI (Int.tdiv x y))), (0, .int (iI x)), (1, .int (iI y))]) hx hb d_JM_floorDiv_3 rfl hl (by decide) rfl (fun ls hl => ?_)
  refine lv_iload_n hx hb d_JM_floorDiv_4 rfl (lv_at hl 1 rfl) ?_
  refine lv_iload_n hx hb d_JM_floorDiv_5 rfl (lv_at hl 2 rfl) ?_
  refine zv_ixorS hx hb (by omega) (by omega) d_JM_floorDiv_6 (fun v1 hv2 hv3 => ?_)
  refine zv_if_ge (tgt := 21) hx hb d_JM_floorDiv_7 rfl (by omega) (fun h4 => ?_) (fun h4 => ?_)
  · refine lv_iload_n hx hb d_JM_floorDiv_21 rfl (lv_at hl 0 rfl) ?_
    rw [hQ]
    exact z_iret hx hb hr hlk hH (⟨rfl, fl_dn zy.1 rfl (by first | exact Or.inl (by omega) | exact Or.inr (by omega))⟩) d_JM_floorDiv_22
  · refine lv_iload_n hx hb d_JM_floorDiv_10 rfl (lv_at hl 0 rfl) ?_
    refine lv_iload_n hx hb d_JM_floorDiv_11 rfl (lv_at hl 2 rfl) ?_
    refine zv_imul hx hb d_JM_floorDiv_12 ?_
    refine lv_iload_n hx hb d_JM_floorDiv_13 rfl (lv_at hl 1 rfl) ?_
    refine zv_icmp_eq (tgt := 21) hx hb d_JM_floorDiv_14 rfl (by omega) (by omega) (fun h5 => ?_) (fun h5 => ?_)
    · refine lv_iload_n hx hb d_JM_floorDiv_21 rfl (lv_at hl 0 rfl) ?_
      rw [hQ]
      exact z_iret hx hb hr hlk hH (⟨rfl, fl_dn zy.1 rfl (by first | exact Or.inl (by omega) | exact Or.inr (by omega))⟩) d_JM_floorDiv_22
    · refine lv_iload_n hx hb d_JM_floorDiv_17 rfl (lv_at hl 0 rfl) ?_
      refine zv_iconst hx hb d_JM_floorDiv_18 ?_
      refine zv_isub hx hb d_JM_floorDiv_19 ?_
      rw [hQ]
      exact z_iret hx hb hr hlk hH (⟨rfl, fl_up zy.1 rfl (by omega) (by assumption)⟩) d_JM_floorDiv_20
def rm_fill : Room := { frames := 0, cells := 0, slots := 0, locals := 0 }
set_option maxHeartbeats 4000000 in
set_option maxRecDepth 100000 in
theorem c_fill (l : Launch) (E : zE) (w0 : zW) (q N : Nat) (f : Int → Int) (v : Int) (q0lt : q < zn E) (c0 : w0 q = zar E N f) (hN : 0 < N ∧ N < 100000) : zM l y_JA_fill ws_JA_fill rm_fill E [.ref (ad E q), .int (iI v)] w0 (zQv E w0 (fun w' => (∃ (f' : Int → Int), w' q = zar E N f' ∧ (∀ j : Int, 0 ≤ j → j < N → f' j = v)) ∧ ∀ k, k ≠ q → w' k = w0 k)) := by
  refine z_met (cc := b_JA_fill) (maxL := 4) (ret := none) (by decide +kernel) rfl (Nat.le_of_ble_eq_true rfl) ?_
  intro p e s m below meth cd ls a Qf hQ hC hl hH
  obtain ⟨hF, hr, hlk, hK, hG, hn⟩ := hC
  obtain ⟨hx, hb, hml, hown, hts⟩ := hF
  have hg : ∀ w ∈ GW, w.before a s = true := fun w h => hts w (List.mem_cons_of_mem _ h)
  have hA : ∀ q, s.heap.size ≤ q → va_A (wl E w0) s.heap.size q := fun q h => Or.inr h
  have hl : lv_has ls 4 [(0, .ref (ad E q)), (1, .int (iI v))] := hl
  refine zv_iconst hx hb d_JA_fill_0 ?_
  refine lv_istore_n (lv' := [(2, .int (iI 0)), (0, .ref (ad E q)), (1, .int (iI v))]) hx hb d_JA_fill_1 rfl hl (by decide) rfl (fun ls hl => ?_)
  refine lv_aload_n hx hb d_JA_fill_2 rfl (lv_at hl 1 rfl) ?_
  refine zv_alen hx hb hK hH q0lt c0 d_JA_fill_3 ?_
  refine lv_istore_n (lv' := [(3, .int (iI ((N : Int)))), (2, .int (iI 0)), (0, .ref (ad E q)), (1, .int (iI v))]) hx hb d_JA_fill_4 rfl hl (by decide) rfl (fun ls hl => ?_)
  have L5 : ∀ (fu : Nat) (i : Int) (h : Int → Int) (ls : Array Slot) (H1 : Heap) (lc2 : List Loc) (w3 : zW), (lv_has ls 4 [(3, .int (iI ((N : Int)))), (2, .int (iI i)), (0, .ref (ad E q)), (1, .int (iI v))]) → (zH E w3 (va_A (wl E w0) s.heap.size) s.heap H1 lc2) → (w3 q = zar E N h) → (∀ k, k ≠ q → w3 k = w0 k) → (0 ≤ i ∧ i ≤ N) → (∀ j : Int, 0 ≤ j → j < i → h j = v) → ((N : Int) - i < (fu : Int)) → W p l e rm_fill s m a below meth cd H1 lc2 0 0 Qf (F0 m 5 ls []) := by
    intro fu
    induction fu with
    | zero => intro i h ls H1 lc2 w3 hl hH e4 hf5 hi hz hm; exact absurd hm (by omega)
    | succ fu ih =>
      intro i h ls H1 lc2 w3 hl hH e4 hf5 hi hz hm
      refine lv_iload_n hx hb d_JA_fill_5 rfl (lv_at hl 1 rfl) ?_
      refine lv_iload_n hx hb d_JA_fill_6 rfl (lv_at hl 0 rfl) ?_
      refine zv_icmp_ge (tgt := 20) hx hb d_JA_fill_7 rfl (by omega) (by omega) (fun h6 => ?_) (fun h6 => ?_)
      · rw [hQ]
        exact z_vret hx hb hr hlk hH (⟨⟨h, e4, fun j g1 g2 => hz j g1 (by omega)⟩, (fun k g0 => hf5 k g0)⟩) d_JA_fill_20
      · refine lv_aload_n hx hb d_JA_fill_10 rfl (lv_at hl 2 rfl) ?_
        refine lv_iload_n hx hb d_JA_fill_11 rfl (lv_at hl 1 rfl) ?_
        refine lv_iload_n hx hb d_JA_fill_12 rfl (lv_at hl 3 rfl) ?_
        refine zv_iast hx hb hK hH q0lt e4 (by omega) (by omega) (by omega) d_JA_fill_13 (fun H8 lc9 w7 hH10 e11 hg12 => ?_)
        have hf13 : ∀ k, k ≠ q → w7 k = w0 k := fun k g0 => (hg12 k g0).trans (hf5 k g0)
        refine zv_iinc (k := 1) (lv' := [(2, .int (iI (i + 1))), (3, .int (iI ((N : Int)))), (0, .ref (ad E q)), (1, .int (iI v))]) hx hb d_JA_fill_14 hl rfl (by decide) rfl (fun ls hl => ?_)
        refine lv_goto (tgt := 5) hx hb d_JA_fill_17 rfl ?_
        exact ih  (i + 1) (up h i v) _ H8 lc9 w7 (lv_sub hl [1, 0, 2, 3] rfl) hH10 e11 (fun k g0 => hf13 k g0) (by omega) (v_step hz) (by omega)
  exact L5 (((N : Int) - 0 : Int).toNat + 1) 0 f _ s.heap ([]) w0 (lv_sub hl [0, 1, 2, 3] rfl) hH c0 (fun k _ => rfl) (by omega) (by intro j g1 g2; omega) (by omega)
def rm_digits : Room := { frames := 1, cells := 0, slots := 0, locals := 21 }
set_option maxHeartbeats 4000000 in
set_option maxRecDepth 100000 in
theorem c_digits (l : Launch) (E : zE) (w0 : zW) (q N : Nat) (f : Int → Int) (q0lt : q < zn E) (c0 : w0 q = zar E N f) (hN : 0 < N ∧ N < 100000) (bf : bd f N 0 9999) : zM l y_R_digits ws_R_digits rm_digits E [.ref (ad E q)] w0 (zQi E w0 (fun z w' => w' = w0 ∧ (dgs (V f N) z ∧ 0 ≤ z ∧ z ≤ N * 4))) := by
  refine z_met (cc := b_R_digits) (maxL := 4) (ret := (some .int)) (by decide +kernel) rfl (Nat.le_of_ble_eq_true rfl) ?_
  intro p e s m below meth cd ls a Qf hQ hC hl hH
  obtain ⟨hF, hr, hlk, hK, hG, hn⟩ := hC
  obtain ⟨hx, hb, hml, hown, hts⟩ := hF
  have hg : ∀ w ∈ GW, w.before a s = true := fun w h => hts w (List.mem_cons_of_mem _ h)
  have hA : ∀ q, s.heap.size ≤ q → va_A (wl E w0) s.heap.size q := fun q h => Or.inr h
  have hl : lv_has ls 4 [(0, .ref (ad E q))] := hl
  refine lv_aload_n hx hb d_R_digits_0 rfl (lv_at hl 0 rfl) ?_
  refine z_calli (va_runS (As := [.ref (ad E q)]) (rest := []) ⟨hx, hb, hml, hown, hts⟩ (c_topLimb (l := l) (E := E) (w0 := w0) (q := q) (N := N) (f := f) (q0lt := q0lt) (c0 := c0) (hN := by omega) (bf := bf) s.heap.size) (z_cwS 1 hg wm_300 wm_312 wm_16 wm_299 (by decide +kernel) ⟨Nat.le_of_ble_eq_true rfl, Nat.le_of_ble_eq_true rfl⟩) (z_preS hK hG hn hH hA) rfl rfl hl.1 rfl (lv_room (Nat.le_of_ble_eq_true rfl)) d_R_digits_1 ⟨Nat.zero_le _, Nat.zero_le _⟩) hH hA (fun t w3 H1 lc2 hH4 ht => ?_)
  obtain ⟨ew5, ht⟩ := ht
  rw [ew5] at hH4
  have ht : -1 ≤ t ∧ t < N ∧ (∀ j, t < j → j < N → f j = 0) ∧ (0 ≤ t → f t ≠ 0) := ht
  refine lv_istore_n (lv' := [(1, .int (iI t)), (0, .ref (ad E q))]) hx hb d_R_digits_4 rfl hl (by decide) rfl (fun ls hl => ?_)
  refine lv_iload_n hx hb d_R_digits_5 rfl (lv_at hl 0 rfl) ?_
  refine zv_if_ge (tgt := 11) hx hb d_R_digits_6 rfl (by omega) (fun h6 => ?_) (fun h6 => ?_)
  · have ft0 := bf t (by omega) (by omega)
    have ft1 := ht.2.2.2 (by omega)
    refine lv_iload_n hx hb d_R_digits_11 rfl (lv_at hl 0 rfl) ?_
    refine zv_iconst hx hb d_R_digits_12 ?_
    refine zv_imul hx hb d_R_digits_13 ?_
    refine zv_iconst hx hb d_R_digits_14 ?_
    refine zv_iadd hx hb d_R_digits_15 ?_
    refine lv_istore_n (lv' := [(2, .int (iI ((t * 4) + 1))), (1, .int (iI t)), (0, .ref (ad E q))]) hx hb d_R_digits_16 rfl hl (by decide) rfl (fun ls hl => ?_)
    refine zv_iconst hx hb d_R_digits_17 ?_
    refine lv_istore_n (lv' := [(3, .int (iI 1)), (2, .int (iI ((t * 4) + 1))), (1, .int (iI t)), (0, .ref (ad E q))]) hx hb d_R_digits_18 rfl hl (by decide) rfl (fun ls hl => ?_)
    have L19 : ∀ (fu : Nat) (k : Int) (d : Int) (ls : Array Slot) (H7 : Heap) (lc8 : List Loc), (lv_has ls 4 [(3, .int (iI k)), (2, .int (iI d)), (1, .int (iI t)), (0, .ref (ad E q))]) → (zH E w0 (va_A (wl E w0) s.heap.size) s.heap H7 lc8) → (1 ≤ k ∧ k ≤ 4) → (d = t * 4 + k) → (Tp (k - 1) ≤ f t) → (4 - k < (fu : Int)) → W p l e rm_digits s m a below meth cd H7 lc8 0 0 Qf (F0 m 19 ls []) := by
      intro fu
      induction fu with
      | zero => intro k d ls H7 lc8 hl hH hk hd h1 hm; exact absurd hm (by omega)
      | succ fu ih =>
        intro k d ls H7 lc8 hl hH hk hd h1 hm
        refine lv_iload_n hx hb d_R_digits_19 rfl (lv_at hl 0 rfl) ?_
        refine zv_iconst hx hb d_R_digits_20 ?_
        refine zv_icmp_ge (tgt := 44) hx hb d_R_digits_21 rfl (by omega) (by omega) (fun h9 => ?_) (fun h9 => ?_)
        · refine lv_iload_n hx hb d_R_digits_44 rfl (lv_at hl 1 rfl) ?_
          subst hd
          have g9 : f t < Tp k := by first | assumption | (rw [show k = 4 by omega]; show f t < 10000; omega)
          rw [hQ]
          exact z_iret hx hb hr hlk hH (⟨rfl, ⟨Or.inr ⟨by omega, dg_end bf (by omega) (by omega) ht.2.2.1 hk.1 h1 g9⟩, by omega, by omega⟩⟩) d_R_digits_45
        · refine lv_aload_n hx hb d_R_digits_24 rfl (lv_at hl 3 rfl) ?_
          refine lv_iload_n hx hb d_R_digits_25 rfl (lv_at hl 2 rfl) ?_
          refine zv_iald hx hb hK hH q0lt c0 (by omega) (by omega) (by omega) d_R_digits_26 ?_
          have b10 := bf t (by omega) (by omega)
          refine zv_tens hx hb hG hH hown (hn.1.use rfl) (fun _ h9 => h9) d_R_digits_27 ?_
          refine lv_iload_n hx hb d_R_digits_30 rfl (lv_at hl 0 rfl) ?_
          refine zv_tenld hx hb hG hH (by omega) (by omega) d_R_digits_31 ?_
          have b11 := Tp_in (i := k) (by omega) (by omega)
          refine zv_icmp_lt (tgt := 44) hx hb d_R_digits_32 rfl (by omega) (by omega) (fun h12 => ?_) (fun h12 => ?_)
          · refine lv_iload_n hx hb d_R_digits_44 rfl (lv_at hl 1 rfl) ?_
            subst hd
            have g9 : f t < Tp k := by first | assumption | (rw [show k = 4 by omega]; show f t < 10000; omega)
            rw [hQ]
            exact z_iret hx hb hr hlk hH (⟨rfl, ⟨Or.inr ⟨by omega, dg_end bf (by omega) (by omega) ht.2.2.1 hk.1 h1 g9⟩, by omega, by omega⟩⟩) d_R_digits_45
          · refine zv_iinc (k := 1) (lv' := [(2, .int (iI (d + 1))), (3, .int (iI k)), (1, .int (iI t)), (0, .ref (ad E q))]) hx hb d_R_digits_35 hl rfl (by decide) rfl (fun ls hl => ?_)
            refine zv_iinc (k := 1) (lv' := [(3, .int (iI (k + 1))), (2, .int (iI (d + 1))), (1, .int (iI t)), (0, .ref (ad E q))]) hx hb d_R_digits_38 hl rfl (by decide) rfl (fun ls hl => ?_)
            refine lv_goto (tgt := 19) hx hb d_R_digits_41 rfl ?_
            exact ih  (k + 1) (d + 1) _ H7 lc8 (lv_sub hl [0, 1, 2, 3] rfl) hH (by omega) (by omega) (by rw [show k + 1 - 1 = k by omega]; omega) (by omega)
    exact L19 ((4 - 1 : Int).toNat + 1) 1 ((t * 4) + 1) _ H1 lc2 (lv_sub hl [0, 1, 2, 3] rfl) hH4 (by omega) (by omega) (by show Tp 0 ≤ f t; rw [Tp_0]; omega) (by omega)
  · refine zv_iconst hx hb d_R_digits_9 ?_
    rw [hQ]
    exact z_iret hx hb hr hlk hH4 (⟨rfl, ⟨Or.inl ⟨rfl, V_zero (by omega) (fun j g1 g2 => ht.2.2.1 j (by omega) g2)⟩, by omega, by omega⟩⟩) d_R_digits_10
def rm_roundOff : Room := { frames := 2, cells := 0, slots := 0, locals := 44 }
set_option maxHeartbeats 4000000 in
set_option maxRecDepth 100000 in
theorem c_roundOff (l : Launch) (E : zE) (w0 : zW) (q N : Nat) (f : Int → Int) (x : Int) (q0lt : q < zn E) (c0 : w0 q = zar E N f) (hN : 0 < N ∧ N < 100000) (bf : bd f N 0 9999) (hp : -100000 ≤ x ∧ x < N * 4) : zM l y_R_roundOff ws_R_roundOff rm_roundOff E [.ref (ad E q), .int (iI x)] w0 (zQv E w0 (fun w' => (∃ (f' : Int → Int), w' q = zar E N f' ∧ bd f' N 0 9999 ∧ (V f' N = Rn (V f N) x % Bp N)) ∧ ∀ k, k ≠ q → w' k = w0 k)) := by
  refine z_met (cc := b_R_roundOff) (maxL := 3) (ret := none) (by decide +kernel) rfl (Nat.le_of_ble_eq_true rfl) ?_
  intro p e s m below meth cd ls a Qf hQ hC hl hH
  obtain ⟨hF, hr, hlk, hK, hG, hn⟩ := hC
  obtain ⟨hx, hb, hml, hown, hts⟩ := hF
  have hg : ∀ w ∈ GW, w.before a s = true := fun w h => hts w (List.mem_cons_of_mem _ h)
  have hA : ∀ q, s.heap.size ≤ q → va_A (wl E w0) s.heap.size q := fun q h => Or.inr h
  have hl : lv_has ls 3 [(0, .ref (ad E q)), (1, .int (iI x))] := hl
  refine lv_aload_n hx hb d_R_roundOff_0 rfl (lv_at hl 0 rfl) ?_
  refine lv_iload_n hx hb d_R_roundOff_1 rfl (lv_at hl 1 rfl) ?_
  refine zv_iconst hx hb d_R_roundOff_2 ?_
  refine zv_isub hx hb d_R_roundOff_3 ?_
  refine z_calli (va_runS (As := [.ref (ad E q), .int (iI (x - 1))]) (rest := []) ⟨hx, hb, hml, hown, hts⟩ (c_digitAt (l := l) (E := E) (w0 := w0) (q := q) (N := N) (f := f) (x := x - 1) (q0lt := q0lt) (c0 := c0) (hN := by omega) (bf := bf) (hp := by omega) s.heap.size) (z_cwS 2 hg wm_363 wm_436 wm_16 wm_362 (by decide +kernel) ⟨Nat.le_of_ble_eq_true rfl, Nat.le_of_ble_eq_true rfl⟩) (z_preS hK hG hn hH hA) rfl rfl hl.1 rfl (lv_room (Nat.le_of_ble_eq_true rfl)) d_R_roundOff_4 ⟨Nat.zero_le _, Nat.zero_le _⟩) hH hA (fun u w3 H1 lc2 hH4 hu => ?_)
  obtain ⟨ew5, hu⟩ := hu
  rw [ew5] at hH4
  have hu : u = (if (x - 1) < 0 then 0 else V f N / Tp (x - 1) % 10) := hu
  refine zv_iconst hx hb d_R_roundOff_7 ?_
  refine zv_icmp_lt (tgt := 15) hx hb d_R_roundOff_8 rfl (by omega) (by omega) (fun h6 => ?_) (fun h6 => ?_)
  · refine zv_iconst hx hb d_R_roundOff_15 ?_
    refine lv_istore_n (lv' := [(2, .int (iI 0)), (0, .ref (ad E q)), (1, .int (iI x))]) hx hb d_R_roundOff_16 rfl hl (by decide) rfl (fun ls hl => ?_)
    refine lv_aload_n hx hb d_R_roundOff_17 rfl (lv_at hl 1 rfl) ?_
    refine lv_iload_n hx hb d_R_roundOff_18 rfl (lv_at hl 2 rfl) ?_
    refine z_callv (va_runS (As := [.ref (ad E q), .int (iI x)]) (rest := []) ⟨hx, hb, hml, hown, hts⟩ (c_cut (l := l) (E := E) (w0 := w0) (q := q) (N := N) (f := f) (x := x) (q0lt := q0lt) (c0 := c0) (hN := by omega) (bf := bf) (hp := by omega) H1.size) (z_cwS 2 hg wm_439 wm_437 wm_16 wm_438 (by decide +kernel) ⟨Nat.le_of_ble_eq_true rfl, Nat.le_of_ble_eq_true rfl⟩) (z_preS hK hG hn hH4 hA) rfl rfl hl.1 rfl (lv_room (Nat.le_of_ble_eq_true rfl)) d_R_roundOff_19 ⟨Nat.zero_le _, Nat.zero_le _⟩) hH4 hA (fun  w9 H7 lc8 hH10 h1 => ?_)
    obtain ⟨⟨f_11, e12, bd13, h1⟩, hg14⟩ := h1
    have bd13 : bd f_11 N 0 9999 := bd13
    have h1 : V f_11 N = (if x ≤ 0 then V f N else V f N / Tp x * Tp x) := h1
    have hf15 : ∀ k, k ≠ q → w9 k = w0 k := fun k g0 => hg14 k g0
    refine lv_iload_n hx hb d_R_roundOff_22 rfl (lv_at hl 0 rfl) ?_
    refine zv_if_eq (tgt := 31) hx hb d_R_roundOff_23 rfl (by omega) (fun h16 => ?_) (fun h16 => absurd h16 (by omega))
    have b9 := V_in bf (Int.le_of_lt (by omega : (0 : Int) < N)) (Int.le_refl (N : Int))
    rw [hQ]
    exact z_vret hx hb hr hlk hH10 (⟨⟨f_11, e12, bd13, by rw [h1]; exact Rn_dn b9.1 b9.2 (by by_cases hh : x ≤ 0; exact Or.inl hh; rw [if_neg (by omega)] at hu; exact Or.inr (by omega))⟩, (fun k g0 => hf15 k g0)⟩) d_R_roundOff_31
  · refine zv_iconst hx hb d_R_roundOff_11 ?_
    refine lv_goto (tgt := 16) hx hb d_R_roundOff_12 rfl ?_
    refine lv_istore_n (lv' := [(2, .int (iI 1)), (0, .ref (ad E q)), (1, .int (iI x))]) hx hb d_R_roundOff_16 rfl hl (by decide) rfl (fun ls hl => ?_)
    refine lv_aload_n hx hb d_R_roundOff_17 rfl (lv_at hl 1 rfl) ?_
    refine lv_iload_n hx hb d_R_roundOff_18 rfl (lv_at hl 2 rfl) ?_
    refine z_callv (va_runS (As := [.ref (ad E q), .int (iI x)]) (rest := []) ⟨hx, hb, hml, hown, hts⟩ (c_cut (l := l) (E := E) (w0 := w0) (q := q) (N := N) (f := f) (x := x) (q0lt := q0lt) (c0 := c0) (hN := by omega) (bf := bf) (hp := by omega) H1.size) (z_cwS 2 hg wm_439 wm_437 wm_16 wm_438 (by decide +kernel) ⟨Nat.le_of_ble_eq_true rfl, Nat.le_of_ble_eq_true rfl⟩) (z_preS hK hG hn hH4 hA) rfl rfl hl.1 rfl (lv_room (Nat.le_of_ble_eq_true rfl)) d_R_roundOff_19 ⟨Nat.zero_le _, Nat.zero_le _⟩) hH4 hA (fun  w19 H17 lc18 hH20 h1 => ?_)
    obtain ⟨⟨f_21, e22, bd23, h1⟩, hg24⟩ := h1
    have bd23 : bd f_21 N 0 9999 := bd23
    have h1 : V f_21 N = (if x ≤ 0 then V f N else V f N / Tp x * Tp x) := h1
    have hf25 : ∀ k, k ≠ q → w19 k = w0 k := fun k g0 => hg24 k g0
    refine lv_iload_n hx hb d_R_roundOff_22 rfl (lv_at hl 0 rfl) ?_
    refine zv_if_eq (tgt := 31) hx hb d_R_roundOff_23 rfl (by omega) (fun h26 => absurd h26 (by omega)) (fun h26 => ?_)
    refine lv_aload_n hx hb d_R_roundOff_26 rfl (lv_at hl 1 rfl) ?_
    refine lv_iload_n hx hb d_R_roundOff_27 rfl (lv_at hl 2 rfl) ?_
    refine z_callv (va_runS (As := [.ref (ad E q), .int (iI x)]) (rest := []) ⟨hx, hb, hml, hown, hts⟩ (c_addOneAt (l := l) (E := E) (w0 := w19) (q := q) (N := N) (f := f_21) (x := x) (q0lt := q0lt) (c0 := e22) (hN := by omega) (bf := bd23) (hp := by omega) H17.size) (z_cwS 2 hg wm_288 wm_440 wm_16 wm_287 (by decide +kernel) ⟨Nat.le_of_ble_eq_true rfl, Nat.le_of_ble_eq_true rfl⟩) (z_preS hK hG hn hH20 hA) rfl rfl hl.1 rfl (lv_room (Nat.le_of_ble_eq_true rfl)) d_R_roundOff_28 ⟨Nat.zero_le _, Nat.zero_le _⟩) hH20 hA (fun  w29 H27 lc28 hH30 h2 => ?_)
    obtain ⟨⟨f_31, e32, bd33, h2⟩, hg34⟩ := h2
    have bd33 : bd f_31 N 0 9999 := bd33
    have h2 : V f_31 N = (if x < 0 then V f_21 N else (V f_21 N + Tp x) % Bp N) := h2
    have hf35 : ∀ k, k ≠ q → w29 k = w0 k := fun k g0 => (hg34 k g0).trans (hf25 k g0)
    have hx9 : 0 < x := by
        refine Int.not_le.mp (fun hh => ?_)
        rw [if_pos (by omega)] at hu
        omega
    rw [if_neg (by omega)] at hu h1 h2
    rw [hQ]
    exact z_vret hx hb hr hlk hH30 (⟨⟨f_31, e32, bd33, by rw [h2, h1]; exact Rn_up hx9 (by omega)⟩, (fun k g0 => hf35 k g0)⟩) d_R_roundOff_31
def rm_multiplyByLimb : Room := { frames := 1, cells := 0, slots := 0, locals := 27 }
set_option maxHeartbeats 4000000 in
set_option maxRecDepth 100000 in
theorem c_multiplyByLimb (l : Launch) (E : zE) (w0 : zW) (q r N M : Nat) (f g : Int → Int) (L x : Int) (q0lt : q < zn E) (q1lt : r < zn E) (c0 : w0 q = zar E N f) (c1 : w0 r = zar E M g) (hN : 0 < N ∧ N < 100000) (hM : 0 < M ∧ M < 100000) (bg : bd g M 0 9999) (hqr : q ≠ r) (hL : 0 ≤ L ∧ L ≤ 9999) (hx0 : 0 ≤ x ∧ x ≤ N) : zM l y_R_multiplyByLimb ws_R_multiplyByLimb rm_multiplyByLimb E [.ref (ad E q), .ref (ad E r), .int (iI L), .int (iI x)] w0 (zQv E w0 (fun w' => (∃ (f' : Int → Int), w' q = zar E N f' ∧ bd f' N 0 9999 ∧ (V f' N = (L * V g M * Bp x) % Bp N)) ∧ ∀ k, k ≠ q → w' k = w0 k)) := by
  refine z_met (cc := b_R_multiplyByLimb) (maxL := 4) (ret := none) (by decide +kernel) rfl (Nat.le_of_ble_eq_true rfl) ?_
  intro p e s m below meth cd ls a Qf hQ hC hl hH
  obtain ⟨hF, hr, hlk, hK, hG, hn⟩ := hC
  obtain ⟨hx, hb, hml, hown, hts⟩ := hF
  have hg : ∀ w ∈ GW, w.before a s = true := fun w h => hts w (List.mem_cons_of_mem _ h)
  have hA : ∀ q, s.heap.size ≤ q → va_A (wl E w0) s.heap.size q := fun q h => Or.inr h
  have hl : lv_has ls 4 [(0, .ref (ad E q)), (1, .ref (ad E r)), (2, .int (iI L)), (3, .int (iI x))] := hl
  refine lv_aload_n hx hb d_R_multiplyByLimb_0 rfl (lv_at hl 0 rfl) ?_
  refine zv_iconst hx hb d_R_multiplyByLimb_1 ?_
  refine z_callv (va_runS (As := [.ref (ad E q), .int (iI 0)]) (rest := []) ⟨hx, hb, hml, hown, hts⟩ (c_fill (l := l) (E := E) (w0 := w0) (q := q) (N := N) (f := f) (v := 0) (q0lt := q0lt) (c0 := c0) (hN := by omega) s.heap.size) (z_cwS 2 hg wm_237 wm_425 wm_14 wm_236 (by decide +kernel) ⟨Nat.le_of_ble_eq_true rfl, Nat.le_of_ble_eq_true rfl⟩) (z_preS hK hG hn hH hA) rfl rfl hl.1 rfl (lv_room (Nat.le_of_ble_eq_true rfl)) d_R_multiplyByLimb_2 ⟨Nat.zero_le _, Nat.zero_le _⟩) hH hA (fun  w3 H1 lc2 hH4 h1 => ?_)
  obtain ⟨⟨f1, e5, h1⟩, hg6⟩ := h1
  have h1 : ∀ j : Int, 0 ≤ j → j < N → f1 j = (0 : Int) := h1
  have e7 : w3 r = zar E M g := (hg6 r (by omega)).trans c1
  have hf8 : ∀ k, k ≠ q → w3 k = w0 k := fun k g0 => hg6 k g0
  refine lv_aload_n hx hb d_R_multiplyByLimb_5 rfl (lv_at hl 0 rfl) ?_
  refine lv_aload_n hx hb d_R_multiplyByLimb_6 rfl (lv_at hl 1 rfl) ?_
  refine lv_iload_n hx hb d_R_multiplyByLimb_7 rfl (lv_at hl 2 rfl) ?_
  refine lv_iload_n hx hb d_R_multiplyByLimb_8 rfl (lv_at hl 3 rfl) ?_
  refine z_callv (va_runS (As := [.ref (ad E q), .ref (ad E r), .int (iI L), .int (iI x)]) (rest := []) ⟨hx, hb, hml, hown, hts⟩ (c_addMultiple (l := l) (E := E) (w0 := w3) (q := q) (r := r) (N := N) (M := M) (f := f1) (g := g) (L := L) (x := x) (q0lt := q0lt) (q1lt := q1lt) (c0 := e5) (c1 := e7) (hN := by omega) (hM := by omega) (bf := fun i g1 g2 => by rw [h1 i g1 g2]; decide) (bg := bg) (hqr := by omega) (hL := by omega) (hx0 := by omega) H1.size) (z_cwS 4 hg wm_428 wm_426 wm_16 wm_427 (by decide +kernel) ⟨Nat.le_of_ble_eq_true rfl, Nat.le_of_ble_eq_true rfl⟩) (z_preS hK hG hn hH4 hA) rfl rfl hl.1 rfl (lv_room (Nat.le_of_ble_eq_true rfl)) d_R_multiplyByLimb_9 ⟨Nat.zero_le _, Nat.zero_le _⟩) hH4 hA (fun  w11 H9 lc10 hH12 h2 => ?_)
  obtain ⟨⟨f_13, e14, bd15, h2⟩, hg16⟩ := h2
  have bd15 : bd f_13 N 0 9999 := bd15
  have h2 : V f_13 N = (V f1 N + L * V g M * Bp x) % Bp N := h2
  have e17 : w11 r = zar E M g := (hg16 r (by omega)).trans e7
  have hf18 : ∀ k, k ≠ q → w11 k = w0 k := fun k g0 => (hg16 k g0).trans (hf8 k g0)
  rw [hQ]
  exact z_vret hx hb hr hlk hH12 (⟨⟨f_13, e14, bd15, by rw [h2, V_zero (by omega) (fun j g1 g2 => h1 j g1 g2), Int.zero_add]⟩, (fun k g0 => hf18 k g0)⟩) d_R_multiplyByLimb_12
end
section
/-! Pure rows for the long division. -/
def fz (f : Int → Int) (N : Int) : Int → Int := fun j => if 0 ≤ j ∧ j < N then f j else 0
def Hd (f : Int → Int) (N t : Int) : Nat → Int
  | 0 => 0
  | j + 1 => Hd f N t j * 10000 + fz f N (t - j)
theorem fz_in {f : Int → Int} {N j : Int} (h0 : 0 ≤ j) (h1 : j < N) : fz f N j = f j := if_pos ⟨h0, h1⟩
theorem fz_out {f : Int → Int} {N j : Int} (h : j < 0 ∨ N ≤ j) : fz f N j = 0 := if_neg (by omega)
theorem fz_ex {f : Int → Int} {N j : Int} (h0 : 0 ≤ j) : fz f N j = ex f N j := by
  by_cases h : j < N
  · rw [fz_in h0 h, ex_lt h]
  · rw [fz_out (by omega), ex_ge (by omega)]
theorem fz_bd {f : Int → Int} {N : Int} (h : bd f N 0 9999) (j : Int) : 0 ≤ fz f N j ∧ fz f N j ≤ 9999 := by
  by_cases hj : 0 ≤ j ∧ j < N
  · rw [fz_in hj.1 hj.2]; exact h j hj.1 hj.2
  · rw [fz_out (by omega)]; omega
theorem Hd_bd {f : Int → Int} {N : Int} (h : bd f N 0 9999) (t : Int) : ∀ j : Nat, 0 ≤ Hd f N t j ∧ Hd f N t j < Bp j := by
  intro j
  induction j with
  | zero => exact ⟨Int.le_refl 0, by show (0 : Int) < Bp 0; rw [Bp_0]; decide⟩
  | succ j ih =>
    have b := fz_bd h (t - j)
    show 0 ≤ Hd f N t j * 10000 + fz f N (t - j) ∧ Hd f N t j * 10000 + fz f N (t - j) < Bp ((j + 1 : Nat) : Int)
    rw [show ((j + 1 : Nat) : Int) = (j : Int) + 1 by omega, Bp_s (by omega)]
    omega
theorem Hd_V {f : Int → Int} {N t : Int} (ht : -1 ≤ t) : ∀ j : Nat, (0 ≤ t + 1 - j → V (ex f N) (t + 1) = V (ex f N) (t + 1 - j) + Hd f N t j * Bp (t + 1 - j)) ∧ (t + 1 - j < 0 → Hd f N t j = V (ex f N) (t + 1) * Bp (-(t + 1 - j))) := by
  intro j
  induction j with
  | zero =>
    refine ⟨fun _ => ?_, fun h => ?_⟩
    · rw [show t + 1 - ((0 : Nat) : Int) = t + 1 by omega]
      show _ = _ + 0 * _
      omega
    · omega
  | succ j ih =>
    have e : Hd f N t (j + 1) = Hd f N t j * 10000 + fz f N (t - j) := rfl
    refine ⟨fun h => ?_, fun h => ?_⟩
    · have i1 := ih.1 (by omega)
      rw [e, fz_ex (by omega), show t + 1 - ((j + 1 : Nat) : Int) = t - j by omega, i1, show t + 1 - (j : Int) = (t - j) + 1 by omega, V_s _ (by omega), Bp_s (by omega), Int.add_mul, Int.mul_assoc (Hd f N t j)]
      omega
    · rw [e, fz_out (by omega)]
      by_cases h0 : t + 1 - (j : Int) = 0
      · have i1 := ih.1 (by omega)
        rw [h0, V_0, Bp_0] at i1
        rw [show -(t + 1 - ((j + 1 : Nat) : Int)) = 0 + 1 by omega, Bp_s (by omega), Bp_0, i1]
        omega
      · have i2 := ih.2 (by omega)
        rw [i2, show -(t + 1 - ((j + 1 : Nat) : Int)) = -(t + 1 - (j : Int)) + 1 by omega, Bp_s (by omega), Int.mul_assoc, Int.mul_comm (Bp _) 10000]
        omega
/-- zeros above t: the whole number is what stands up to t -/
theorem V_exTop {f : Int → Int} {N t : Int} (hN : 0 ≤ N) (ht : -1 ≤ t) (hz : ∀ j, t < j → j < N → f j = 0) : V (ex f N) (t + 1) = V f N := by
  by_cases h : N ≤ t + 1
  · exact V_exM hN h
  · rw [V_ex (by omega)]
    obtain ⟨x, hx⟩ := V_hi (fun _ => 0) (n := t + 1) (N := N) (by omega) (by omega)
    have e0 := hx (fun _ => 0) (fun _ _ _ => rfl)
    rw [V_zero (by omega) (fun _ _ _ => rfl), V_zero (by omega) (fun _ _ _ => rfl)] at e0
    have e1 := hx f (fun j g1 g2 => hz j (by omega) g2)
    omega
/-- a number below 10000^n has nothing from n on -/
theorem V_small {f : Int → Int} {N n : Int} (bf : bd f N 0 9999) (h0 : 0 ≤ n) (h : V f N < Bp n) : ∀ j, n ≤ j → j < N → f j = 0 := by
  intro j g1 g2
  have b := bf j (by omega) g2
  refine Classical.byContradiction (fun hh => ?_)
  obtain ⟨t, ht⟩ := V_hi f (n := j + 1) (N := N) (by omega) (by omega)
  have e := ht f (fun _ _ _ => rfl)
  have e0 := ht (fun i => if i ≤ j then 0 else f i) (fun i i1 i2 => if_neg (by omega))
  have b0 : bd (fun i => if i ≤ j then 0 else f i) N 0 9999 := fun i i1 i2 => by
    show 0 ≤ (if i ≤ j then 0 else f i) ∧ (if i ≤ j then 0 else f i) ≤ 9999
    by_cases hi : i ≤ j
    · rw [if_pos hi]; omega
    · rw [if_neg hi]; exact bf i i1 i2
  have p0 := V_in b0 (show 0 ≤ N by omega) (Int.le_refl N)
  rw [V_zero (f := fun i => if i ≤ j then 0 else f i) (n := j + 1) (by omega) (fun i i1 i2 => if_pos (by omega))] at e0
  have p1 := V_in bf (n := j) (by omega) (by omega)
  rw [V_s f (by omega)] at e
  have m1 := Int.mul_le_mul_of_nonneg_right (show 1 ≤ f j by omega) (show 0 ≤ Bp j by omega)
  have m2 : Bp n ≤ Bp j := by
    rw [show j = n + (j - n) by omega, Bp_add h0 (by omega)]
    have x := Bp_pos (j - n)
    have y := Bp_pos n
    have := Int.mul_le_mul_of_nonneg_left (show 1 ≤ Bp (j - n) by omega) (show 0 ≤ Bp n by omega)
    omega
  omega
theorem mul_le_r {a b c : Int} (h : a ≤ b) (hc : 0 ≤ c) : a * c ≤ b * c := Int.mul_le_mul_of_nonneg_right h hc
theorem mul_lt_r {a b c : Int} (h : a < b) (hc : 0 < c) : a * c < b * c := Int.mul_lt_mul_of_pos_right h hc
/-- the guess: right or one too small -/
theorem guess {D M P Gh A R b q : Int} (hM : 0 < M) (hP : 0 < P) (hb : 0 < b) (h1 : Gh * P ≤ D * M) (h2 : D * M < (Gh + 1) * P) (h3 : A * (P * b) ≤ R * M) (h4 : R * M < (A + 1) * (P * b)) (h5 : R < 10000 * (D * b)) (h6 : 10000 ≤ Gh) (hA : 0 ≤ A) (hq : q = A / (Gh + 1)) :
    0 ≤ q ∧ q ≤ 9999 ∧ q * (D * b) ≤ R ∧ R < (q + 2) * (D * b) := by
  have q0 : 0 ≤ q := by rw [hq]; exact Int.ediv_nonneg hA (by omega)
  have q1 : q * (Gh + 1) ≤ A := by rw [hq]; exact Int.ediv_mul_le A (by omega)
  have q2 : A < (q + 1) * (Gh + 1) := by
    rw [hq]
    have := Int.lt_ediv_add_one_mul_self A (show 0 < Gh + 1 by omega)
    exact this
  have X : 0 < P * b := Int.mul_pos hP hb
  -- D * b * M
  have e1 : D * b * M = D * M * b := by rw [Int.mul_assoc, Int.mul_comm b M, ← Int.mul_assoc]
  have d1 : Gh * (P * b) ≤ D * b * M := by rw [e1, ← Int.mul_assoc]; exact mul_le_r h1 (by omega)
  have d2 : D * b * M < (Gh + 1) * (P * b) := by rw [e1, ← Int.mul_assoc]; exact mul_lt_r h2 hb
  have a1 : q * (D * b) * M ≤ R * M := by
    have s1 : q * (D * b * M) ≤ q * ((Gh + 1) * (P * b)) := Int.mul_le_mul_of_nonneg_left (Int.le_of_lt d2) q0
    have s2 : q * (Gh + 1) * (P * b) ≤ A * (P * b) := mul_le_r q1 (by omega)
    rw [← Int.mul_assoc, ← Int.mul_assoc q (Gh + 1)] at s1
    omega
  have a2 : q * (D * b) ≤ R := Int.le_of_mul_le_mul_right a1 hM
  have Db : 0 < D * b := by
    refine Int.not_le.mp (fun hh => ?_)
    have z1 := mul_le_r hh (show 0 ≤ M by omega)
    have z2 : 0 < Gh * (P * b) := Int.mul_pos (by omega) X
    omega
  have q3 : q ≤ 9999 := by
    refine Int.not_lt.mp (fun hh => ?_)
    have z1 := mul_le_r (show 10000 ≤ q by omega) (show 0 ≤ D * b by omega)
    omega
  refine ⟨q0, q3, a2, ?_⟩
  have s1 : (A + 1) * (P * b) ≤ (q + 1) * (Gh + 1) * (P * b) := mul_le_r (by omega) (by omega)
  have s2 : (q + 1) * (Gh * (P * b)) ≤ (q + 1) * (D * b * M) := Int.mul_le_mul_of_nonneg_left d1 (by omega)
  have s3 : (q + 1) * (P * b) ≤ Gh * (P * b) := mul_le_r (by omega) (by omega)
  have s4 : (q + 1) * (Gh + 1) * (P * b) = (q + 1) * (Gh * (P * b)) + (q + 1) * (P * b) := by rw [Int.mul_assoc, Int.add_mul Gh 1, Int.one_mul, Int.mul_add]
  have s5 : R * M < (q + 2) * (D * b) * M := by
    have e2 : (q + 2) * (D * b) * M = (q + 1) * (D * b * M) + D * b * M := by rw [Int.mul_assoc, show q + 2 = (q + 1) + 1 by omega, Int.add_mul (q + 1) 1, Int.one_mul]
    omega
  exact Int.lt_of_mul_lt_mul_right s5 (by omega)
/-- what the guess of a step is worth -/
theorem guess_step {g h : Int → Int} {K N t s : Int} (bg : bd g K 0 9999) (bh : bd h N 0 9999) (hN : 0 ≤ N) (h0 : 0 ≤ t) (h1 : t < K) (hg : g t ≠ 0) (hz : ∀ j, t < j → j < K → g j = 0) (hs : 0 ≤ s) (hR : V h N < V g K * Bp (s + 1)) :
    0 ≤ Hd h N (s + t + 1) 4 / (Hd g K t 3 + 1) ∧ Hd h N (s + t + 1) 4 / (Hd g K t 3 + 1) ≤ 9999 ∧ Hd h N (s + t + 1) 4 / (Hd g K t 3 + 1) * (V g K * Bp s) ≤ V h N ∧ V h N < (Hd h N (s + t + 1) 4 / (Hd g K t 3 + 1) + 2) * (V g K * Bp s) := by
  have eD := V_exTop (f := g) (N := K) (t := t) (by omega) (by omega) hz
  have bD := V_in bg (show 0 ≤ K by omega) (Int.le_refl K)
  have tD : V g K < Bp (t + 1) := by rw [← eD, V_ex (by omega)]; exact (V_in bg (by omega) (by omega)).2
  have zR : ∀ j, s + t + 1 < j → j < N → h j = 0 := by
    intro j g1 g2
    refine V_small bh (n := s + t + 2) (by omega) (Int.lt_trans hR ?_) j (by omega) g2
    rw [show s + t + 2 = (t + 1) + (s + 1) by omega, Bp_add (i := t + 1) (j := s + 1) (by omega) (by omega)]
    exact mul_lt_r tD (Bp_pos _)
  have eR := V_exTop (f := h) (N := N) (t := s + t + 1) hN (by omega) zR
  have HG := Hd_V (f := g) (N := K) (t := t) (by omega) 3
  have HA := Hd_V (f := h) (N := N) (t := s + t + 1) (by omega) 4
  rw [eD, show t + 1 - ((3 : Nat) : Int) = t - 2 by omega] at HG
  rw [eR, show s + t + 1 + 1 - ((4 : Nat) : Int) = s + (t - 2) by omega] at HA
  have bG := Hd_bd bg t 3
  have bA := Hd_bd bh (s + t + 1) 4
  have g1 := bg t h0 h1
  have big : 10000 ≤ Hd g K t 3 := by
    have f0 := fz_bd bg (t - (0 : Nat))
    have f1 := fz_bd bg (t - (1 : Nat))
    have f2 := fz_bd bg (t - (2 : Nat))
    have e3 : Hd g K t 3 = ((0 * 10000 + fz g K (t - (0 : Nat))) * 10000 + fz g K (t - (1 : Nat))) * 10000 + fz g K (t - (2 : Nat)) := rfl
    have e0 : fz g K (t - (0 : Nat)) = g t := by rw [show t - ((0 : Nat) : Int) = t by omega]; exact fz_in h0 h1
    omega
  have pb := Bp_pos s
  have h5 : V h N < 10000 * (V g K * Bp s) := by
    rw [Bp_s hs, ← Int.mul_assoc, Int.mul_comm (V g K) 10000, Int.mul_assoc] at hR
    exact hR
  by_cases he : 0 ≤ t - 2
  · have a := HG.1 he
    have b := HA.1 (by omega)
    rw [Bp_add hs he] at b
    have va := V_in bg (n := t - 2) he (by omega)
    rw [← V_ex (g := g) (M := K) (by omega : t - 2 ≤ K)] at va
    have vb : 0 ≤ V (ex h N) (s + (t - 2)) ∧ V (ex h N) (s + (t - 2)) < Bp (s + (t - 2)) := V_in (N := s + (t - 2)) (fun i i0 _ => ex_bd bh i0) (by omega) (Int.le_refl _)
    rw [Bp_add hs he] at vb
    refine guess (M := 1) (P := Bp (t - 2)) (by omega) (Bp_pos _) pb ?_ ?_ ?_ ?_ h5 big bA.1 rfl
    · omega
    · rw [Int.add_mul]; omega
    · rw [Int.mul_comm (Bp (t - 2))]; omega
    · rw [Int.mul_comm (Bp (t - 2)), Int.add_mul]; omega
  · have a := HG.2 (by omega)
    refine guess (M := Bp (-(t - 2))) (P := 1) (Bp_pos _) (by omega) pb ?_ ?_ ?_ ?_ h5 big bA.1 rfl
    · omega
    · omega
    · rw [Int.one_mul]
      by_cases hn : 0 ≤ s + (t - 2)
      · have b := HA.1 hn
        have vb : 0 ≤ V (ex h N) (s + (t - 2)) ∧ V (ex h N) (s + (t - 2)) < Bp (s + (t - 2)) := V_in (N := s + (t - 2)) (fun i i0 _ => ex_bd bh i0) (by omega) (Int.le_refl _)
        have m := mul_le_r (show Hd h N (s + t + 1) 4 * Bp (s + (t - 2)) ≤ V h N by omega) (show 0 ≤ Bp (-(t - 2)) from Int.le_of_lt (Bp_pos _))
        rw [Int.mul_assoc, ← Bp_add hn (by omega), show s + (t - 2) + -(t - 2) = s by omega] at m
        exact m
      · have b := HA.2 (by omega)
        rw [b, Int.mul_assoc, ← Bp_add (by omega) hs, show -(s + (t - 2)) + s = -(t - 2) by omega]
        exact Int.le_refl _
    · rw [Int.one_mul]
      by_cases hn : 0 ≤ s + (t - 2)
      · have b := HA.1 hn
        have vb : 0 ≤ V (ex h N) (s + (t - 2)) ∧ V (ex h N) (s + (t - 2)) < Bp (s + (t - 2)) := V_in (N := s + (t - 2)) (fun i i0 _ => ex_bd bh i0) (by omega) (Int.le_refl _)
        have m := mul_lt_r (show V h N < (Hd h N (s + t + 1) 4 + 1) * Bp (s + (t - 2)) by rw [Int.add_mul]; omega) (Bp_pos (-(t - 2)))
        rw [Int.mul_assoc (Hd h N (s + t + 1) 4 + 1), ← Bp_add hn (by omega), show s + (t - 2) + -(t - 2) = s by omega] at m
        exact m
      · have b := HA.2 (by omega)
        rw [b, Int.add_mul, Int.mul_assoc, ← Bp_add (by omega) hs, show -(s + (t - 2)) + s = -(t - 2) by omega]
        omega
/-- rows for the steps of takeMultiple -/
theorem tm_step {f g h : Int → Int} {i c x L d : Int} (hx : 0 ≤ x) (hi : 0 ≤ i) (hd : d = f (x + i) - g i * L + c) (hv : V h (x + i) + c * Bp (x + i) = V f (x + i) - L * V g i * Bp x) :
    V (up h (x + i) (d - d / 10000 * 10000)) (x + (i + 1)) + d / 10000 * Bp (x + (i + 1)) = V f (x + (i + 1)) - L * V g (i + 1) * Bp x := by
  rw [show x + (i + 1) = (x + i) + 1 by omega, V_put h (by omega), V_s f (by omega), V_s g hi, Bp_s (by omega), Int.sub_mul, Int.mul_add L, Int.add_mul (L * V g i), ← Int.mul_assoc (d / 10000)]
  have e : Bp (x + i) = Bp i * Bp x := by rw [Int.add_comm, Bp_add hi hx]
  have e2 : d * Bp (x + i) = f (x + i) * Bp (x + i) - L * (g i * Bp i) * Bp x + c * Bp (x + i) := by
    rw [hd, Int.add_mul, Int.sub_mul, e, Int.mul_comm (g i) L, Int.mul_assoc L (g i) (Bp i * Bp x), Int.mul_assoc L (g i * Bp i), Int.mul_assoc (g i)]
  omega
theorem tm_top {f g h : Int → Int} {N n c Y : Int} (bh : bd h N 0 9999) (h0 : 0 ≤ n) (hn : n < N) (hs : ∀ j, n ≤ j → h j = f j) (hz : ∀ j, n < j → j < N → f j = 0) (hv : V h n + c * Bp n = V f n - Y) (hY : Y ≤ V f N) (hc : c ≤ 0) :
    0 ≤ h n + c ∧ V (up h n (h n + c)) N = V f N - Y := by
  have e1 := V_top h0 hn hz
  have e2 := V_top (f := up h n (h n + c)) h0 hn (fun j g1 g2 => by rw [up_ne (by omega), hs j (by omega)]; exact hz j g1 g2)
  rw [up_at, V_up (Int.le_refl n), Int.add_mul, hs n (Int.le_refl n)] at e2
  have b := V_in bh h0 (by omega)
  have key : V (up h n (h n + c)) N = V f N - Y := by rw [hs n (Int.le_refl n)]; omega
  refine ⟨?_, key⟩
  refine Int.not_lt.mp (fun hh => ?_)
  have m := mul_le_r (show h n + c ≤ -1 by omega) (show 0 ≤ Bp n by omega)
  rw [Int.add_mul, hs n (Int.le_refl n)] at m
  omega
theorem tm_end {f h : Int → Int} {N c Y : Int} (bh : bd h N 0 9999) (h0 : 0 ≤ N) (hv : V h N + c * Bp N = V f N - Y) (hY : Y ≤ V f N) (hc : c ≤ 0) : V h N = V f N - Y := by
  have b := V_in bh h0 (Int.le_refl N)
  have hc0 : c = 0 := by
    refine Classical.byContradiction (fun hh => ?_)
    have m := mul_le_r (show c ≤ -1 by omega) (show 0 ≤ Bp N by omega)
    omega
  rw [hc0] at hv
  omega
/-- a part of a row, moved down -/
theorem V_mv (f : Int → Int) {x n : Int} (hx : 0 ≤ x) : ∀ k : Nat, V f (x + k) = V f x + V (fun j => f (x + j)) k * Bp x := by
  intro k
  induction k with
  | zero => rw [show x + ((0 : Nat) : Int) = x by omega, show ((0 : Nat) : Int) = 0 from rfl, V_0]; omega
  | succ k ih =>
    rw [show x + ((k + 1 : Nat) : Int) = (x + k) + 1 by omega, V_s f (by omega), ih, show ((k + 1 : Nat) : Int) = (k : Int) + 1 by omega, V_s _ (by omega), Int.add_mul, Int.add_comm x k, Bp_add (by omega) hx, Int.mul_assoc]
    omega
theorem si_V {f : Int → Int} {N x t : Int} (hx : 0 ≤ x) (ht : 0 ≤ t) (h1 : x + t + 1 ≤ N) (hz : ∀ j, x + t + 1 ≤ j → j < N → f j = 0) : V f N = V f x + V (fun j => f (x + j)) (t + 1) * Bp x := by
  have e := V_exTop (f := f) (N := N) (t := x + t) (by omega) (by omega) (fun j g1 g2 => hz j (by omega) g2)
  rw [V_ex (by omega)] at e
  have m := V_mv f (n := 0) hx (t + 1).toNat
  rw [show (((t + 1).toNat : Nat) : Int) = t + 1 by omega, show x + (t + 1) = x + t + 1 by omega] at m
  omega
theorem si_ge {f g : Int → Int} {N x t : Int} (bf : bd f N 0 9999) (hx : 0 ≤ x) (ht : 0 ≤ t) (h1 : x + t + 1 ≤ N) (hz : ∀ j, x + t + 1 ≤ j → j < N → f j = 0) (h : V g (t + 1) ≤ V (fun j => f (x + j)) (t + 1)) : V g (t + 1) * Bp x ≤ V f N := by
  rw [si_V hx ht h1 hz]
  have b := V_in bf hx (by omega)
  have m := mul_le_r h (show 0 ≤ Bp x by omega)
  omega
theorem si_lt {f g : Int → Int} {N x t : Int} (bf : bd f N 0 9999) (hx : 0 ≤ x) (ht : 0 ≤ t) (h1 : x + t + 1 ≤ N) (hz : ∀ j, x + t + 1 ≤ j → j < N → f j = 0) (h : V (fun j => f (x + j)) (t + 1) < V g (t + 1)) : V f N < V g (t + 1) * Bp x := by
  rw [si_V hx ht h1 hz]
  have b := V_in bf hx (by omega)
  have m := mul_le_r (show V (fun j => f (x + j)) (t + 1) + 1 ≤ V g (t + 1) by omega) (show 0 ≤ Bp x by omega)
  rw [Int.add_mul] at m
  omega
theorem si_big {f g : Int → Int} {N K x t : Int} (bf : bd f N 0 9999) (bg : bd g K 0 9999) (hx : 0 ≤ x) (ht : 0 ≤ t) (hK : t < K) (h1 : x + t + 1 < N) (h : 0 < f (x + t + 1)) : V g (t + 1) * Bp x ≤ V f N := by
  have b := V_in bg (n := t + 1) (by omega) (by omega)
  refine Int.not_lt.mp (fun hh => ?_)
  have e : V f N < Bp (x + t + 1) := by
    rw [show x + t + 1 = (t + 1) + x by omega, Bp_add (i := t + 1) (j := x) (by omega) hx]
    exact Int.lt_of_lt_of_le hh (mul_le_r (Int.le_of_lt b.2) (Int.le_of_lt (Bp_pos x)))
  have := V_small bf (by omega) e (x + t + 1) (Int.le_refl _) h1
  omega
theorem V_set (k : Int → Int) {N s x : Int} (h0 : 0 ≤ s) (h1 : s < N) : V (up k s x) N = V k N - k s * Bp s + x * Bp s := by
  obtain ⟨t, ht⟩ := V_hi k (n := s + 1) (N := N) (by omega) (by omega)
  have e1 := ht k (fun _ _ _ => rfl)
  have e2 := ht (up k s x) (fun j g1 g2 => up_ne (by omega))
  rw [V_put k h0] at e2
  rw [V_s k h0] at e1
  omega
theorem ks_stepx {f h : Int → Int} {x i v : Int} (hs : ∀ j, x + i ≤ j → h j = f j) : ∀ j, x + (i + 1) ≤ j → up h (x + i) v j = f j := by
  intro j g
  rw [up_ne (by omega)]
  exact hs j (by omega)
theorem hd_step {f : Int → Int} {N t i h y : Int} (hi : i ≤ t) (hh : h = Hd f N t (t - i).toNat) (hy : y = fz f N i) : h * 10000 + y = Hd f N t (t - (i + (-1))).toNat := by
  rw [show (t - (i + (-1))).toNat = (t - i).toNat + 1 by omega]
  show _ = Hd f N t (t - i).toNat * 10000 + fz f N (t - (t - i).toNat)
  rw [hh, hy, show t - (((t - i).toNat : Nat) : Int) = i by omega]
theorem si_step {f g : Int → Int} {x i t : Int} (he : ∀ j : Int, i < j → j < t → f (x + j) = g j) (h : f (x + i) = g i) : ∀ j : Int, i + (-1) < j → j < t → f (x + j) = g j := by
  intro j g1 g2
  by_cases e : j = i
  · rw [e]; exact h
  · exact he j (by omega) g2
end
section
def rm_head : Room := { frames := 0, cells := 0, slots := 0, locals := 0 }
set_option maxHeartbeats 4000000 in
set_option maxRecDepth 100000 in
theorem c_head (l : Launch) (E : zE) (w0 : zW) (q N : Nat) (f : Int → Int) (t k : Int) (q0lt : q < zn E) (c0 : w0 q = zar E N f) (hN : 0 < N ∧ N < 100000) (bf : bd f N 0 9999) (ht : -100000 ≤ t ∧ t < 100000) (hk : 0 ≤ k ∧ k ≤ 4) : zM l y_R_head ws_R_head rm_head E [.ref (ad E q), .int (iI t), .int (iI k)] w0 (zQl E w0 (fun z w' => w' = w0 ∧ (z = Hd f N t (Int.toNat k)))) := by
  refine z_met (cc := b_R_head) (maxL := 6) (ret := (some .long)) (by decide +kernel) rfl (Nat.le_of_ble_eq_true rfl) ?_
  intro p e s m below meth cd ls a Qf hQ hC hl hH
  obtain ⟨hF, hr, hlk, hK, hG, hn⟩ := hC
  obtain ⟨hx, hb, hml, hown, hts⟩ := hF
  have hg : ∀ w ∈ GW, w.before a s = true := fun w h => hts w (List.mem_cons_of_mem _ h)
  have hA : ∀ q, s.heap.size ≤ q → va_A (wl E w0) s.heap.size q := fun q h => Or.inr h
  have hl : lv_has ls 6 [(0, .ref (ad E q)), (1, .int (iI t)), (2, .int (iI k))] := hl
  refine zv_lconst_0 hx hb d_R_head_0 ?_
  refine lv_lstore_n (lv' := [(3, .long (Int64.ofInt 0)), (0, .ref (ad E q)), (1, .int (iI t)), (2, .int (iI k))]) hx hb d_R_head_1 rfl hl (by decide) rfl (fun ls hl => ?_)
  refine lv_iload_n hx hb d_R_head_2 rfl (lv_at hl 2 rfl) ?_
  refine lv_istore (lv' := [(5, .int (iI t)), (3, .long (Int64.ofInt 0)), (0, .ref (ad E q)), (1, .int (iI t)), (2, .int (iI k))]) hx hb d_R_head_3 hl (by decide) rfl (fun ls hl => ?_)
  have L5 : ∀ (fu : Nat) (i : Int) (h : Int) (ls : Array Slot) (H1 : Heap) (lc2 : List Loc), (lv_has ls 6 [(0, .ref (ad E q)), (1, .int (iI t)), (2, .int (iI k)), (3, .long (Int64.ofInt h)), (5, .int (iI i))]) → (zH E w0 (va_A (wl E w0) s.heap.size) s.heap H1 lc2) → (t - k ≤ i ∧ i ≤ t) → (h = Hd f N t (t - i).toNat) → (i - (t - k) < (fu : Int)) → W p l e rm_head s m a below meth cd H1 lc2 0 0 Qf (F0 m 5 ls []) := by
    intro fu
    induction fu with
    | zero => intro i h ls H1 lc2 hl hH hi hh hm; exact absurd hm (by omega)
    | succ fu ih =>
      intro i h ls H1 lc2 hl hH hi hh hm
      refine lv_iload hx hb d_R_head_5 (lv_at hl 4 rfl) ?_
      refine lv_iload_n hx hb d_R_head_7 rfl (lv_at hl 1 rfl) ?_
      refine lv_iload_n hx hb d_R_head_8 rfl (lv_at hl 2 rfl) ?_
      refine zv_isub hx hb d_R_head_9 ?_
      refine zv_icmp_le (tgt := 47) hx hb d_R_head_10 rfl (by omega) (by omega) (fun h3 => ?_) (fun h3 => ?_)
      · refine lv_lload_n hx hb d_R_head_47 rfl (lv_at hl 3 rfl) ?_
        rw [hQ]
        exact z_lret hx hb hr hlk hH (⟨rfl, by rw [hh, show t - i = k by omega]⟩) d_R_head_48
      · refine lv_lload_n hx hb d_R_head_13 rfl (lv_at hl 3 rfl) ?_
        refine zv_ldc2 (v := 10000) hx hb hown (hg _ wm_473) d_R_head_14 ?_
        refine zv_lmul hx hb d_R_head_17 ?_
        have L38 : ∀ (y : Int) (ls : Array Slot) (H4 : Heap) (lc5 : List Loc), (lv_has ls 6 [(0, .ref (ad E q)), (1, .int (iI t)), (2, .int (iI k)), (3, .long (Int64.ofInt h)), (5, .int (iI i))]) → (zH E w0 (va_A (wl E w0) s.heap.size) s.heap H4 lc5) → (y = fz f N i) → W p l e rm_head s m a below meth cd H4 lc5 0 0 Qf (F0 m 38 ls [.int (iI y), .long (Int64.ofInt (h * 10000))]) := by
          intro y ls H4 lc5 hl hH hy
          have hyb := fz_bd bf i
          rw [← hy] at hyb
          refine zv_i2l hx hb (by omega) d_R_head_38 ?_
          refine zv_ladd hx hb d_R_head_39 ?_
          refine lv_lstore_n (lv' := [(3, .long (Int64.ofInt ((h * 10000) + y))), (0, .ref (ad E q)), (1, .int (iI t)), (2, .int (iI k)), (5, .int (iI i))]) hx hb d_R_head_40 rfl hl (by decide) rfl (fun ls hl => ?_)
          refine zv_iinc (k := 4) (lv' := [(5, .int (iI (i + (-1)))), (3, .long (Int64.ofInt ((h * 10000) + y))), (0, .ref (ad E q)), (1, .int (iI t)), (2, .int (iI k))]) hx hb d_R_head_41 hl rfl (by decide) rfl (fun ls hl => ?_)
          refine lv_goto (tgt := 5) hx hb d_R_head_44 rfl ?_
          exact ih  (i + (-1)) ((h * 10000) + y) _ H4 lc5 (lv_sub hl [2, 3, 4, 1, 0] rfl) hH (by omega) (hd_step hi.2 hh hy) (by omega)
        refine lv_iload hx hb d_R_head_18 (lv_at hl 4 rfl) ?_
        refine zv_if_lt (tgt := 37) hx hb d_R_head_20 rfl (by omega) (fun h6 => ?_) (fun h6 => ?_)
        · refine zv_iconst hx hb d_R_head_37 ?_
          exact L38 0 _ H1 lc2 (lv_sub hl [0, 1, 2, 3, 4] rfl) hH (by rw [fz_out (by omega)])
        · refine lv_iload hx hb d_R_head_23 (lv_at hl 4 rfl) ?_
          refine lv_aload_n hx hb d_R_head_25 rfl (lv_at hl 0 rfl) ?_
          refine zv_alen hx hb hK hH q0lt c0 d_R_head_26 ?_
          refine zv_icmp_ge (tgt := 37) hx hb d_R_head_27 rfl (by omega) (by omega) (fun h7 => ?_) (fun h7 => ?_)
          · refine zv_iconst hx hb d_R_head_37 ?_
            exact L38 0 _ H1 lc2 (lv_sub hl [0, 1, 2, 3, 4] rfl) hH (by rw [fz_out (by omega)])
          · refine lv_aload_n hx hb d_R_head_30 rfl (lv_at hl 0 rfl) ?_
            refine lv_iload hx hb d_R_head_31 (lv_at hl 4 rfl) ?_
            refine zv_iald hx hb hK hH q0lt c0 (by omega) (by omega) (by omega) d_R_head_33 ?_
            have b8 := bf i (by omega) (by omega)
            refine lv_goto (tgt := 38) hx hb d_R_head_34 rfl ?_
            exact L38 (f i) _ H1 lc2 (lv_sub hl [0, 1, 2, 3, 4] rfl) hH (by rw [fz_in (by omega) (by omega)])
  exact L5 ((t - (t - k) : Int).toNat + 1) t 0 _ s.heap ([]) (lv_sub hl [2, 3, 4, 1, 0] rfl) hH (by omega) (by rw [show t - t = 0 by omega]; rfl) (by omega)
def rm_takeMultiple : Room := { frames := 1, cells := 0, slots := 0, locals := 22 }
set_option maxHeartbeats 4000000 in
set_option maxRecDepth 100000 in
theorem c_takeMultiple (l : Launch) (E : zE) (w0 : zW) (q r N K : Nat) (f g : Int → Int) (L x t : Int) (q0lt : q < zn E) (q1lt : r < zn E) (c0 : w0 q = zar E N f) (c1 : w0 r = zar E K g) (hN : 0 < N ∧ N < 100000) (hK0 : 0 < K ∧ K < 100000) (bf : bd f N 0 9999) (bg : bd g K 0 9999) (hqr : q ≠ r) (hL : 0 ≤ L ∧ L ≤ 9999) (hx0 : 0 ≤ x ∧ 0 ≤ t ∧ t < K ∧ x + t < N) (hz : ∀ j : Int, x + t + 1 < j → j < N → f j = 0) (hY : L * V g (t + 1) * Bp x ≤ V f N) : zM l y_R_takeMultiple ws_R_takeMultiple rm_takeMultiple E [.ref (ad E q), .ref (ad E r), .int (iI L), .int (iI x), .int (iI t)] w0 (zQv E w0 (fun w' => (∃ (f' : Int → Int), w' q = zar E N f' ∧ bd f' N 0 9999 ∧ (V f' N = V f N - L * V g (t + 1) * Bp x)) ∧ ∀ k, k ≠ q → w' k = w0 k)) := by
  refine z_met (cc := b_R_takeMultiple) (maxL := 8) (ret := none) (by decide +kernel) rfl (Nat.le_of_ble_eq_true rfl) ?_
  intro p e s m below meth cd ls a Qf hQ hC hl hH
  obtain ⟨hF, hr, hlk, hK, hG, hn⟩ := hC
  obtain ⟨hx, hb, hml, hown, hts⟩ := hF
  have hg : ∀ w ∈ GW, w.before a s = true := fun w h => hts w (List.mem_cons_of_mem _ h)
  have hA : ∀ q, s.heap.size ≤ q → va_A (wl E w0) s.heap.size q := fun q h => Or.inr h
  have hl : lv_has ls 8 [(0, .ref (ad E q)), (1, .ref (ad E r)), (2, .int (iI L)), (3, .int (iI x)), (4, .int (iI t))] := hl
  refine zv_iconst hx hb d_R_takeMultiple_0 ?_
  refine lv_istore (lv' := [(5, .int (iI 0)), (0, .ref (ad E q)), (1, .ref (ad E r)), (2, .int (iI L)), (3, .int (iI x)), (4, .int (iI t))]) hx hb d_R_takeMultiple_1 hl (by decide) rfl (fun ls hl => ?_)
  refine zv_iconst hx hb d_R_takeMultiple_3 ?_
  refine lv_istore (lv' := [(6, .int (iI 0)), (5, .int (iI 0)), (0, .ref (ad E q)), (1, .ref (ad E r)), (2, .int (iI L)), (3, .int (iI x)), (4, .int (iI t))]) hx hb d_R_takeMultiple_4 hl (by decide) rfl (fun ls hl => ?_)
  have L6 : ∀ (fu : Nat) (i : Int) (c : Int) (h : Int → Int) (ls : Array Slot) (H1 : Heap) (lc2 : List Loc) (w3 : zW), (lv_has ls 8 [(0, .ref (ad E q)), (1, .ref (ad E r)), (2, .int (iI L)), (3, .int (iI x)), (4, .int (iI t)), (5, .int (iI c)), (6, .int (iI i))]) → (zH E w3 (va_A (wl E w0) s.heap.size) s.heap H1 lc2) → (w3 q = zar E N h) → (w3 r = zar E K g) → (∀ k, k ≠ q → w3 k = w0 k) → (bd h N 0 9999) → (0 ≤ i ∧ i ≤ t + 1) → (-9999 ≤ c ∧ c ≤ 0) → (∀ j, x + i ≤ j → h j = f j) → (V h (x + i) + c * Bp (x + i) = V f (x + i) - L * V g i * Bp x) → (t + 1 - i < (fu : Int)) → W p l e rm_takeMultiple s m a below meth cd H1 lc2 0 0 Qf (F0 m 6 ls []) := by
    intro fu
    induction fu with
    | zero => intro i c h ls H1 lc2 w3 hl hH e4 e5 hf6 bh hi hc hs hv hm; exact absurd hm (by omega)
    | succ fu ih =>
      intro i c h ls H1 lc2 w3 hl hH e4 e5 hf6 bh hi hc hs hv hm
      refine lv_iload hx hb d_R_takeMultiple_6 (lv_at hl 6 rfl) ?_
      refine lv_iload hx hb d_R_takeMultiple_8 (lv_at hl 4 rfl) ?_
      refine zv_icmp_gt (tgt := 62) hx hb d_R_takeMultiple_10 rfl (by omega) (by omega) (fun h7 => ?_) (fun h7 => ?_)
      · have e9 : i = t + 1 := by omega
        subst e9
        rw [show x + (t + 1) = x + t + 1 by omega] at hv hs
        refine lv_iload_n hx hb d_R_takeMultiple_62 rfl (lv_at hl 3 rfl) ?_
        refine lv_iload hx hb d_R_takeMultiple_63 (lv_at hl 4 rfl) ?_
        refine zv_iadd hx hb d_R_takeMultiple_65 ?_
        refine zv_iconst hx hb d_R_takeMultiple_66 ?_
        refine zv_iadd hx hb d_R_takeMultiple_67 ?_
        refine lv_aload_n hx hb d_R_takeMultiple_68 rfl (lv_at hl 0 rfl) ?_
        refine zv_alen hx hb hK hH q0lt e4 d_R_takeMultiple_69 ?_
        refine zv_icmp_ge (tgt := 86) hx hb d_R_takeMultiple_70 rfl (by omega) (by omega) (fun h8 => ?_) (fun h8 => ?_)
        · have e8 : x + t + 1 = N := by omega
          rw [e8] at hv
          rw [hQ]
          exact z_vret hx hb hr hlk hH (⟨⟨h, e4, bh, tm_end bh (by omega) hv hY hc.2⟩, (fun k g0 => hf6 k g0)⟩) d_R_takeMultiple_86
        · have tm9 := tm_top (g := g) bh (by omega) (by omega) hs hz hv hY hc.2
          have hb9 := bh (x + t + 1) (by omega) (by omega)
          refine lv_aload_n hx hb d_R_takeMultiple_73 rfl (lv_at hl 0 rfl) ?_
          refine lv_iload_n hx hb d_R_takeMultiple_74 rfl (lv_at hl 3 rfl) ?_
          refine lv_iload hx hb d_R_takeMultiple_75 (lv_at hl 4 rfl) ?_
          refine zv_iadd hx hb d_R_takeMultiple_77 ?_
          refine zv_iconst hx hb d_R_takeMultiple_78 ?_
          refine zv_iadd hx hb d_R_takeMultiple_79 ?_
          refine lv_dup2_11 hx hb d_R_takeMultiple_80 rfl rfl ?_
          refine zv_iald hx hb hK hH q0lt e4 (by omega) (by omega) (by omega) d_R_takeMultiple_81 ?_
          have b9 := bh ((x + t) + 1) (by omega) (by omega)
          refine lv_iload hx hb d_R_takeMultiple_82 (lv_at hl 5 rfl) ?_
          refine zv_iadd hx hb d_R_takeMultiple_84 ?_
          refine zv_iast hx hb hK hH q0lt e4 (by omega) (by omega) (by omega) d_R_takeMultiple_85 (fun H11 lc12 w10 hH13 e14 hg15 => ?_)
          have bd16 := bd_up bh ((x + t) + 1) ((h ((x + t) + 1)) + c) (by omega)
          have e17 : w10 r = zar E K g := (hg15 r (by omega)).trans e5
          have hf18 : ∀ k, k ≠ q → w10 k = w0 k := fun k g0 => (hg15 k g0).trans (hf6 k g0)
          rw [hQ]
          exact z_vret hx hb hr hlk hH13 (⟨⟨(up h ((x + t) + 1) ((h ((x + t) + 1)) + c)), e14, bd16, tm9.2⟩, (fun k g0 => hf18 k g0)⟩) d_R_takeMultiple_86
      · refine lv_aload_n hx hb d_R_takeMultiple_13 rfl (lv_at hl 0 rfl) ?_
        refine lv_iload_n hx hb d_R_takeMultiple_14 rfl (lv_at hl 3 rfl) ?_
        refine lv_iload hx hb d_R_takeMultiple_15 (lv_at hl 6 rfl) ?_
        refine zv_iadd hx hb d_R_takeMultiple_17 ?_
        refine zv_iald hx hb hK hH q0lt e4 (by omega) (by omega) (by omega) d_R_takeMultiple_18 ?_
        have b19 := bh (x + i) (by omega) (by omega)
        refine lv_aload_n hx hb d_R_takeMultiple_19 rfl (lv_at hl 1 rfl) ?_
        refine lv_iload hx hb d_R_takeMultiple_20 (lv_at hl 6 rfl) ?_
        refine zv_iald hx hb hK hH q1lt e5 (by omega) (by omega) (by omega) d_R_takeMultiple_22 ?_
        have b20 := bg i (by omega) (by omega)
        refine lv_iload_n hx hb d_R_takeMultiple_23 rfl (lv_at hl 2 rfl) ?_
        have gm := mul_bd (bg i (by omega) (by omega)) hL
        refine zv_imul hx hb d_R_takeMultiple_24 ?_
        refine zv_isub hx hb d_R_takeMultiple_25 ?_
        refine lv_iload hx hb d_R_takeMultiple_26 (lv_at hl 5 rfl) ?_
        refine zv_iadd hx hb d_R_takeMultiple_28 ?_
        refine lv_istore (lv' := [(7, .int (iI (((h (x + i)) - ((g i) * L)) + c))), (0, .ref (ad E q)), (1, .ref (ad E r)), (2, .int (iI L)), (3, .int (iI x)), (4, .int (iI t)), (5, .int (iI c)), (6, .int (iI i))]) hx hb d_R_takeMultiple_29 hl (by decide) rfl (fun ls hl => ?_)
        refine lv_iload hx hb d_R_takeMultiple_31 (lv_at hl 0 rfl) ?_
        refine zv_sipush hx hb d_R_takeMultiple_33 rfl ?_
        refine z_calli (va_runS (As := [.int (iI (((h (x + i)) - ((g i) * L)) + c)), .int (iI 10000)]) (rest := []) ⟨hx, hb, hml, hown, hts⟩ (c_floorDiv (l := l) (E := E) (w0 := w3) (x := ((h (x + i)) - ((g i) * L)) + c) (y := 10000) (zx := by omega) (zy := by omega) H1.size) (z_cwS 2 hg wm_479 wm_477 wm_15 wm_478 (by decide +kernel) ⟨Nat.le_of_ble_eq_true rfl, Nat.le_of_ble_eq_true rfl⟩) (z_preS hK hG hn hH hA) rfl rfl hl.1 rfl (lv_room (Nat.le_of_ble_eq_true rfl)) d_R_takeMultiple_36 ⟨Nat.zero_le _, Nat.zero_le _⟩) hH hA (fun u w23 H21 lc22 hH24 hu => ?_)
        obtain ⟨ew25, hu⟩ := hu
        rw [ew25] at hH24
        have hu : u = (((h (x + i)) - ((g i) * L)) + c) / (10000 : Int) := hu
        subst hu
        refine lv_istore (lv' := [(5, .int (iI ((h (x + i) - g i * L + c) / 10000))), (7, .int (iI (((h (x + i)) - ((g i) * L)) + c))), (0, .ref (ad E q)), (1, .ref (ad E r)), (2, .int (iI L)), (3, .int (iI x)), (4, .int (iI t)), (6, .int (iI i))]) hx hb d_R_takeMultiple_39 hl (by decide) rfl (fun ls hl => ?_)
        refine lv_aload_n hx hb d_R_takeMultiple_41 rfl (lv_at hl 2 rfl) ?_
        refine lv_iload_n hx hb d_R_takeMultiple_42 rfl (lv_at hl 5 rfl) ?_
        refine lv_iload hx hb d_R_takeMultiple_43 (lv_at hl 7 rfl) ?_
        refine zv_iadd hx hb d_R_takeMultiple_45 ?_
        refine lv_iload hx hb d_R_takeMultiple_46 (lv_at hl 1 rfl) ?_
        refine lv_iload hx hb d_R_takeMultiple_48 (lv_at hl 0 rfl) ?_
        refine zv_sipush hx hb d_R_takeMultiple_50 rfl ?_
        refine zv_imul hx hb d_R_takeMultiple_53 ?_
        refine zv_isub hx hb d_R_takeMultiple_54 ?_
        refine zv_iast hx hb hK hH24 q0lt e4 (by omega) (by omega) (by omega) d_R_takeMultiple_55 (fun H27 lc28 w26 hH29 e30 hg31 => ?_)
        have bd32 := bd_up bh (x + i) ((((h (x + i)) - ((g i) * L)) + c) - (((h (x + i) - g i * L + c) / 10000) * 10000)) (by omega)
        have e33 : w26 r = zar E K g := (hg31 r (by omega)).trans e5
        have hf34 : ∀ k, k ≠ q → w26 k = w0 k := fun k g0 => (hg31 k g0).trans (hf6 k g0)
        refine zv_iinc (k := 7) (lv' := [(6, .int (iI (i + 1))), (5, .int (iI ((h (x + i) - g i * L + c) / 10000))), (7, .int (iI (((h (x + i)) - ((g i) * L)) + c))), (0, .ref (ad E q)), (1, .ref (ad E r)), (2, .int (iI L)), (3, .int (iI x)), (4, .int (iI t))]) hx hb d_R_takeMultiple_56 hl rfl (by decide) rfl (fun ls hl => ?_)
        refine lv_goto (tgt := 6) hx hb d_R_takeMultiple_59 rfl ?_
        exact ih  (i + 1) ((h (x + i) - g i * L + c) / 10000) (up h (x + i) ((((h (x + i)) - ((g i) * L)) + c) - (((h (x + i) - g i * L + c) / 10000) * 10000))) _ H27 lc28 w26 (lv_sub hl [3, 4, 5, 6, 7, 1, 0] rfl) hH29 e30 e33 (fun k g0 => hf34 k g0) (by assumption) (by omega) (by omega) (ks_stepx hs) (tm_step hx0.1 hi.1 (by rw [hs (x + i) (by omega)]) hv) (by omega)
  exact L6 ((t + 1 - 0 : Int).toNat + 1) 0 0 f _ s.heap ([]) w0 (lv_sub hl [2, 3, 4, 5, 6, 1, 0] rfl) hH c0 c1 (fun k _ => rfl) (by exact bf) (by omega) (by omega) (by intro j _; rfl) (by rw [V_0, Int.add_zero]; omega) (by omega)
def rm_isStillIn : Room := { frames := 0, cells := 0, slots := 0, locals := 0 }
set_option maxHeartbeats 4000000 in
set_option maxRecDepth 100000 in
theorem c_isStillIn (l : Launch) (E : zE) (w0 : zW) (q r N K : Nat) (f g : Int → Int) (x t : Int) (q0lt : q < zn E) (q1lt : r < zn E) (c0 : w0 q = zar E N f) (c1 : w0 r = zar E K g) (hN : 0 < N ∧ N < 100000) (hK0 : 0 < K ∧ K < 100000) (bf : bd f N 0 9999) (bg : bd g K 0 9999) (hx0 : 0 ≤ x ∧ 0 ≤ t ∧ t < K ∧ x + t < N) (hz : ∀ j : Int, x + t + 1 < j → j < N → f j = 0) : zM l y_R_isStillIn ws_R_isStillIn rm_isStillIn E [.ref (ad E q), .ref (ad E r), .int (iI x), .int (iI t)] w0 (zQi E w0 (fun z w' => w' = w0 ∧ ((z = 1 ∧ V g (t + 1) * Bp x ≤ V f N) ∨ (z = 0 ∧ V f N < V g (t + 1) * Bp x)))) := by
  refine z_met (cc := b_R_isStillIn) (maxL := 5) (ret := (some .boolean)) (by decide +kernel) rfl (Nat.le_of_ble_eq_true rfl) ?_
  intro p e s m below meth cd ls a Qf hQ hC hl hH
  obtain ⟨hF, hr, hlk, hK, hG, hn⟩ := hC
  obtain ⟨hx, hb, hml, hown, hts⟩ := hF
  have hg : ∀ w ∈ GW, w.before a s = true := fun w h => hts w (List.mem_cons_of_mem _ h)
  have hA : ∀ q, s.heap.size ≤ q → va_A (wl E w0) s.heap.size q := fun q h => Or.inr h
  have hl : lv_has ls 5 [(0, .ref (ad E q)), (1, .ref (ad E r)), (2, .int (iI x)), (3, .int (iI t))] := hl
  have L22 : ∀  (ls : Array Slot) (H1 : Heap) (lc2 : List Loc), (lv_has ls 5 [(0, .ref (ad E q)), (1, .ref (ad E r)), (2, .int (iI x)), (3, .int (iI t))]) → (zH E w0 (va_A (wl E w0) s.heap.size) s.heap H1 lc2) → (∀ j : Int, x + t + 1 ≤ j → j < N → f j = 0) → W p l e rm_isStillIn s m a below meth cd H1 lc2 0 0 Qf (F0 m 22 ls []) := by
    intro ls H1 lc2 hl hH hz2
    refine lv_iload_n hx hb d_R_isStillIn_22 rfl (lv_at hl 3 rfl) ?_
    refine lv_istore (lv' := [(4, .int (iI t)), (0, .ref (ad E q)), (1, .ref (ad E r)), (2, .int (iI x)), (3, .int (iI t))]) hx hb d_R_isStillIn_23 hl (by decide) rfl (fun ls hl => ?_)
    have L25 : ∀ (fu : Nat) (i : Int) (ls : Array Slot) (H3 : Heap) (lc4 : List Loc), (lv_has ls 5 [(4, .int (iI i)), (0, .ref (ad E q)), (1, .ref (ad E r)), (2, .int (iI x)), (3, .int (iI t))]) → (zH E w0 (va_A (wl E w0) s.heap.size) s.heap H3 lc4) → (-1 ≤ i ∧ i ≤ t) → (∀ j : Int, i < j → j < t + 1 → f (x + j) = g j) → (i + 1 < (fu : Int)) → W p l e rm_isStillIn s m a below meth cd H3 lc4 0 0 Qf (F0 m 25 ls []) := by
      intro fu
      induction fu with
      | zero => intro i ls H3 lc4 hl hH hi he hm; exact absurd hm (by omega)
      | succ fu ih =>
        intro i ls H3 lc4 hl hH hi he hm
        refine lv_iload hx hb d_R_isStillIn_25 (lv_at hl 0 rfl) ?_
        refine zv_if_lt (tgt := 68) hx hb d_R_isStillIn_27 rfl (by omega) (fun h5 => ?_) (fun h5 => ?_)
        · refine zv_iconst hx hb d_R_isStillIn_68 ?_
          rw [hQ]
          exact z_zret hx hb hr hlk hH (⟨rfl, Or.inl ⟨rfl, si_ge bf hx0.1 hx0.2.1 (by omega) hz2 (Int.le_of_eq (V_ext (fun j g1 g2 => (he j (by omega) g2).symm)))⟩⟩) (by decide) d_R_isStillIn_69
        · refine lv_aload_n hx hb d_R_isStillIn_30 rfl (lv_at hl 1 rfl) ?_
          refine lv_iload_n hx hb d_R_isStillIn_31 rfl (lv_at hl 3 rfl) ?_
          refine lv_iload hx hb d_R_isStillIn_32 (lv_at hl 0 rfl) ?_
          refine zv_iadd hx hb d_R_isStillIn_34 ?_
          refine zv_iald hx hb hK hH q0lt c0 (by omega) (by omega) (by omega) d_R_isStillIn_35 ?_
          have b6 := bf (x + i) (by omega) (by omega)
          refine lv_aload_n hx hb d_R_isStillIn_36 rfl (lv_at hl 2 rfl) ?_
          refine lv_iload hx hb d_R_isStillIn_37 (lv_at hl 0 rfl) ?_
          refine zv_iald hx hb hK hH q1lt c1 (by omega) (by omega) (by omega) d_R_isStillIn_39 ?_
          have b7 := bg i (by omega) (by omega)
          refine zv_icmp_eq (tgt := 62) hx hb d_R_isStillIn_40 rfl (by omega) (by omega) (fun h8 => ?_) (fun h8 => ?_)
          · refine zv_iinc (k := 0) (lv' := [(4, .int (iI (i + (-1)))), (0, .ref (ad E q)), (1, .ref (ad E r)), (2, .int (iI x)), (3, .int (iI t))]) hx hb d_R_isStillIn_62 hl rfl (by decide) rfl (fun ls hl => ?_)
            refine lv_goto (tgt := 25) hx hb d_R_isStillIn_65 rfl ?_
            exact ih  (i + (-1)) _ H3 lc4 (lv_sub hl [0, 1, 2, 3, 4] rfl) hH (by omega) (si_step he (by assumption)) (by omega)
          · refine lv_aload_n hx hb d_R_isStillIn_43 rfl (lv_at hl 1 rfl) ?_
            refine lv_iload_n hx hb d_R_isStillIn_44 rfl (lv_at hl 3 rfl) ?_
            refine lv_iload hx hb d_R_isStillIn_45 (lv_at hl 0 rfl) ?_
            refine zv_iadd hx hb d_R_isStillIn_47 ?_
            refine zv_iald hx hb hK hH q0lt c0 (by omega) (by omega) (by omega) d_R_isStillIn_48 ?_
            have b9 := bf (x + i) (by omega) (by omega)
            refine lv_aload_n hx hb d_R_isStillIn_49 rfl (lv_at hl 2 rfl) ?_
            refine lv_iload hx hb d_R_isStillIn_50 (lv_at hl 0 rfl) ?_
            refine zv_iald hx hb hK hH q1lt c1 (by omega) (by omega) (by omega) d_R_isStillIn_52 ?_
            have b10 := bg i (by omega) (by omega)
            refine zv_icmp_le (tgt := 60) hx hb d_R_isStillIn_53 rfl (by omega) (by omega) (fun h11 => ?_) (fun h11 => ?_)
            · refine zv_iconst hx hb d_R_isStillIn_60 ?_
              rw [hQ]
              exact z_zret hx hb hr hlk hH (⟨rfl, Or.inr ⟨rfl, si_lt bf hx0.1 hx0.2.1 (by omega) hz2 (V_lt (N := t + 1) (i := i) (fun j g1 g2 => bf (x + j) (by omega) (by omega)) (fun j g1 g2 => bg j g1 (by omega)) (by omega) (by omega) he (by omega))⟩⟩) (by decide) d_R_isStillIn_61
            · refine zv_iconst hx hb d_R_isStillIn_56 ?_
              refine lv_goto (tgt := 61) hx hb d_R_isStillIn_57 rfl ?_
              rw [hQ]
              exact z_zret hx hb hr hlk hH (⟨rfl, Or.inl ⟨rfl, si_ge bf hx0.1 hx0.2.1 (by omega) hz2 (Int.le_of_lt (V_lt (N := t + 1) (i := i) (fun j g1 g2 => bg j g1 (by omega)) (fun j g1 g2 => bf (x + j) (by omega) (by omega)) (by omega) (by omega) (fun j g1 g2 => (he j g1 g2).symm) (by omega)))⟩⟩) (by decide) d_R_isStillIn_61
    exact L25 ((t + 1 : Int).toNat + 1) t _ H1 lc2 (lv_sub hl [0, 1, 2, 3, 4] rfl) hH (by omega) (by intro j g1 g2; omega) (by omega)
  refine lv_iload_n hx hb d_R_isStillIn_0 rfl (lv_at hl 2 rfl) ?_
  refine lv_iload_n hx hb d_R_isStillIn_1 rfl (lv_at hl 3 rfl) ?_
  refine zv_iadd hx hb d_R_isStillIn_2 ?_
  refine zv_iconst hx hb d_R_isStillIn_3 ?_
  refine zv_iadd hx hb d_R_isStillIn_4 ?_
  refine lv_aload_n hx hb d_R_isStillIn_5 rfl (lv_at hl 0 rfl) ?_
  refine zv_alen hx hb hK hH q0lt c0 d_R_isStillIn_6 ?_
  refine zv_icmp_ge (tgt := 22) hx hb d_R_isStillIn_7 rfl (by omega) (by omega) (fun h12 => ?_) (fun h12 => ?_)
  · exact L22 _ s.heap ([]) (lv_sub hl [0, 1, 2, 3] rfl) hH (by intro j g1 g2; omega)
  · refine lv_aload_n hx hb d_R_isStillIn_10 rfl (lv_at hl 0 rfl) ?_
    refine lv_iload_n hx hb d_R_isStillIn_11 rfl (lv_at hl 2 rfl) ?_
    refine lv_iload_n hx hb d_R_isStillIn_12 rfl (lv_at hl 3 rfl) ?_
    refine zv_iadd hx hb d_R_isStillIn_13 ?_
    refine zv_iconst hx hb d_R_isStillIn_14 ?_
    refine zv_iadd hx hb d_R_isStillIn_15 ?_
    refine zv_iald hx hb hK hH q0lt c0 (by omega) (by omega) (by omega) d_R_isStillIn_16 ?_
    have b13 := bf ((x + t) + 1) (by omega) (by omega)
    refine zv_if_le (tgt := 22) hx hb d_R_isStillIn_17 rfl (by omega) (fun h14 => ?_) (fun h14 => ?_)
    · exact L22 _ s.heap ([]) (lv_sub hl [0, 1, 2, 3] rfl) hH (by intro j g1 g2; by_cases e9 : j = x + t + 1; rw [e9]; omega; exact hz j (by omega) g2)
    · refine zv_iconst hx hb d_R_isStillIn_20 ?_
      rw [hQ]
      exact z_zret hx hb hr hlk hH (⟨rfl, Or.inl ⟨rfl, si_big bf bg hx0.1 hx0.2.1 hx0.2.2.1 (by omega) (by omega)⟩⟩) (by decide) d_R_isStillIn_21
end
section
theorem mu_step {g h : Int → Int} {N M K i : Int} (bg : bd g M 0 9999) (bh : bd h K 0 9999) (hM : 0 ≤ M) (h0 : 0 ≤ i) (h1 : i < K) (hN : M + K ≤ N) : (V g M * V h i + h i * V g M * Bp i) % Bp N = V g M * V h (i + 1) := by
  have e : V g M * V h i + h i * V g M * Bp i = V g M * V h (i + 1) := by rw [V_s h h0, Int.mul_add, Int.mul_comm (h i), Int.mul_assoc (V g M)]
  have a := V_in bg hM (Int.le_refl M)
  have b := V_in bh (n := i + 1) (by omega) (by omega)
  rw [e]
  refine Int.emod_eq_of_lt (Int.mul_nonneg a.1 b.1) ?_
  have p1 : V g M * V h (i + 1) ≤ Bp M * V h (i + 1) := mul_le_r (Int.le_of_lt a.2) b.1
  have p2 : Bp M * V h (i + 1) < Bp M * Bp (i + 1) := Int.mul_lt_mul_of_pos_left b.2 (Bp_pos M)
  have p3 : Bp N = Bp M * Bp (i + 1) * Bp (N - M - (i + 1)) := by
    rw [← Bp_add hM (by omega), ← Bp_add (by omega) (by omega)]
    exact congrArg Bp (by omega)
  have p4 := Int.mul_le_mul_of_nonneg_left (show 1 ≤ Bp (N - M - (i + 1)) from Bp_pos _) (show 0 ≤ Bp M * Bp (i + 1) from Int.le_of_lt (Int.mul_pos (Bp_pos _) (Bp_pos _)))
  omega
theorem dv_z {g h : Int → Int} {K N T s : Int} (bh : bd h N 0 9999) (hD : V g K < Bp (T + 1)) (h0 : 0 ≤ T) (hs : 0 ≤ s) (hR : V h N < V g K * Bp (s + 1)) : ∀ j, s + T + 1 < j → j < N → h j = 0 := by
  intro j g1 g2
  refine V_small bh (n := s + T + 2) (by omega) (Int.lt_trans hR ?_) j (by omega) g2
  rw [show s + T + 2 = (T + 1) + (s + 1) by omega, Bp_add (i := T + 1) (j := s + 1) (by omega) (by omega)]
  exact mul_lt_r hD (Bp_pos _)
theorem dv_fin {F Vk D Vh y b Vh' : Int} (h1 : F = Vk * D + Vh) (h2 : Vh = y * (D * b) + Vh') : F = (Vk - 0 * b + y * b) * D + Vh' := by
  rw [h1, h2, Int.zero_mul, Int.sub_zero, Int.add_mul, Int.mul_assoc y b, Int.mul_comm b D]
  omega
theorem dv_end {F Q D R : Int} (h : F = Q * D + R) (h0 : 0 ≤ R) (h1 : R < D) : Q = F / D ∧ R = F % D := by
  have e : F = R + Q * D := by omega
  refine ⟨?_, ?_⟩
  · rw [e, Int.add_mul_ediv_right _ _ (by omega), Int.ediv_eq_zero_of_lt h0 h1]; omega
  · rw [e, Int.add_mul_emod_self_right, Int.emod_eq_of_lt h0 h1]
theorem dv_start {f g : Int → Int} {N K T U : Int} (bf : bd f N 0 9999) (bg : bd g K 0 9999) (hN : 0 ≤ N) (hU : -1 ≤ U) (hU2 : U < N) (hzf : ∀ j, U < j → j < N → f j = 0) (h0 : 0 ≤ T) (h1 : T < K) (hzg : ∀ j, T < j → j < K → g j = 0) (hg : g T ≠ 0) : V f N < V g K * Bp (U - T + 1) := by
  have e1 := V_exTop hN hU hzf
  rw [V_ex (by omega)] at e1
  have a := V_in bf (n := U + 1) (by omega) (by omega)
  rw [e1] at a
  have d := V_top h0 h1 hzg
  have b := V_in bg h0 (by omega)
  have g0 := bg T h0 h1
  have m := mul_le_r (show 1 ≤ g T by omega) (show 0 ≤ Bp T by omega)
  have hD : Bp T ≤ V g K := by omega
  by_cases h : 0 ≤ U - T + 1
  · have e2 : Bp (U + 1) = Bp T * Bp (U - T + 1) := by rw [← Bp_add h0 h]; exact congrArg Bp (by omega)
    have m2 := mul_le_r hD (show 0 ≤ Bp (U - T + 1) from Int.le_of_lt (Bp_pos _))
    omega
  · have e3 : Bp (U - T + 1) = 1 := by unfold Bp; rw [show (U - T + 1).toNat = 0 by omega]; rfl
    have e2 : Bp T = Bp (U + 1) * Bp (T - U - 1) := by rw [← Bp_add (by omega) (by omega)]; exact congrArg Bp (by omega)
    have m2 := Int.mul_le_mul_of_nonneg_left (show 1 ≤ Bp (T - U - 1) from Bp_pos _) (show 0 ≤ Bp (U + 1) from Int.le_of_lt (Bp_pos _))
    rw [e3]
    omega
theorem Bp_neg {i : Int} (h : i ≤ 0) : Bp i = 1 := by unfold Bp; rw [show i.toNat = 0 by omega]; rfl
theorem Bp_4 : Bp ((4 : Nat) : Int) = 10000000000000000 := by decide
theorem Bp_3 : Bp ((3 : Nat) : Int) = 1000000000000 := by decide
end
section
def rm_multiply : Room := { frames := 1, cells := 0, slots := 0, locals := 27 }
set_option maxHeartbeats 4000000 in
set_option maxRecDepth 100000 in
theorem c_multiply (l : Launch) (E : zE) (w0 : zW) (q r t N M K : Nat) (f g h : Int → Int) (q0lt : q < zn E) (q1lt : r < zn E) (q2lt : t < zn E) (c0 : w0 q = zar E N f) (c1 : w0 r = zar E M g) (c2 : w0 t = zar E K h) (hN : 0 < N ∧ N < 100000) (hM : 0 < M ∧ 0 < K ∧ M + K ≤ N) (bg : bd g M 0 9999) (bh : bd h K 0 9999) (hqr : q ≠ r ∧ q ≠ t) : zM l y_R_multiply ws_R_multiply rm_multiply E [.ref (ad E q), .ref (ad E r), .ref (ad E t)] w0 (zQv E w0 (fun w' => (∃ (f' : Int → Int), w' q = zar E N f' ∧ bd f' N 0 9999 ∧ (V f' N = V g M * V h K)) ∧ ∀ k, k ≠ q → w' k = w0 k)) := by
  refine z_met (cc := b_R_multiply) (maxL := 4) (ret := none) (by decide +kernel) rfl (Nat.le_of_ble_eq_true rfl) ?_
  intro p e s m below meth cd ls a Qf hQ hC hl hH
  obtain ⟨hF, hr, hlk, hK, hG, hn⟩ := hC
  obtain ⟨hx, hb, hml, hown, hts⟩ := hF
  have hg : ∀ w ∈ GW, w.before a s = true := fun w h => hts w (List.mem_cons_of_mem _ h)
  have hA : ∀ q, s.heap.size ≤ q → va_A (wl E w0) s.heap.size q := fun q h => Or.inr h
  have hl : lv_has ls 4 [(0, .ref (ad E q)), (1, .ref (ad E r)), (2, .ref (ad E t))] := hl
  refine lv_aload_n hx hb d_R_multiply_0 rfl (lv_at hl 0 rfl) ?_
  refine zv_iconst hx hb d_R_multiply_1 ?_
  refine z_callv (va_runS (As := [.ref (ad E q), .int (iI 0)]) (rest := []) ⟨hx, hb, hml, hown, hts⟩ (c_fill (l := l) (E := E) (w0 := w0) (q := q) (N := N) (f := f) (v := 0) (q0lt := q0lt) (c0 := c0) (hN := by omega) s.heap.size) (z_cwS 2 hg wm_237 wm_425 wm_14 wm_236 (by decide +kernel) ⟨Nat.le_of_ble_eq_true rfl, Nat.le_of_ble_eq_true rfl⟩) (z_preS hK hG hn hH hA) rfl rfl hl.1 rfl (lv_room (Nat.le_of_ble_eq_true rfl)) d_R_multiply_2 ⟨Nat.zero_le _, Nat.zero_le _⟩) hH hA (fun  w3 H1 lc2 hH4 h1 => ?_)
  obtain ⟨⟨f1, e5, h1⟩, hg6⟩ := h1
  have h1 : ∀ j : Int, 0 ≤ j → j < N → f1 j = (0 : Int) := h1
  have e7 : w3 r = zar E M g := (hg6 r (by omega)).trans c1
  have e8 : w3 t = zar E K h := (hg6 t (by omega)).trans c2
  have hf9 : ∀ k, k ≠ q → w3 k = w0 k := fun k g0 => hg6 k g0
  refine zv_iconst hx hb d_R_multiply_5 ?_
  refine lv_istore_n (lv' := [(3, .int (iI 0)), (0, .ref (ad E q)), (1, .ref (ad E r)), (2, .ref (ad E t))]) hx hb d_R_multiply_6 rfl hl (by decide) rfl (fun ls hl => ?_)
  have L7 : ∀ (fu : Nat) (i : Int) (u : Int → Int) (ls : Array Slot) (H10 : Heap) (lc11 : List Loc) (w12 : zW), (lv_has ls 4 [(3, .int (iI i)), (0, .ref (ad E q)), (1, .ref (ad E r)), (2, .ref (ad E t))]) → (zH E w12 (va_A (wl E w0) s.heap.size) s.heap H10 lc11) → (w12 q = zar E N u) → (w12 r = zar E M g) → (w12 t = zar E K h) → (∀ k, k ≠ q → w12 k = w0 k) → (bd u N 0 9999) → (0 ≤ i ∧ i ≤ K) → (V u N = V g M * V h i) → ((K : Int) - i < (fu : Int)) → W p l e rm_multiply s m a below meth cd H10 lc11 0 0 Qf (F0 m 7 ls []) := by
    intro fu
    induction fu with
    | zero => intro i u ls H10 lc11 w12 hl hH e13 e14 e15 hf16 bp hi hv hm; exact absurd hm (by omega)
    | succ fu ih =>
      intro i u ls H10 lc11 w12 hl hH e13 e14 e15 hf16 bp hi hv hm
      refine lv_iload_n hx hb d_R_multiply_7 rfl (lv_at hl 0 rfl) ?_
      refine lv_aload_n hx hb d_R_multiply_8 rfl (lv_at hl 3 rfl) ?_
      refine zv_alen hx hb hK hH q2lt e15 d_R_multiply_9 ?_
      refine zv_icmp_ge (tgt := 34) hx hb d_R_multiply_10 rfl (by omega) (by omega) (fun h17 => ?_) (fun h17 => ?_)
      · have e9 : i = K := by omega
        subst e9
        rw [hQ]
        exact z_vret hx hb hr hlk hH (⟨⟨u, e13, bp, hv⟩, (fun k g0 => hf16 k g0)⟩) d_R_multiply_34
      · refine lv_aload_n hx hb d_R_multiply_13 rfl (lv_at hl 3 rfl) ?_
        refine lv_iload_n hx hb d_R_multiply_14 rfl (lv_at hl 0 rfl) ?_
        refine zv_iald hx hb hK hH q2lt e15 (by omega) (by omega) (by omega) d_R_multiply_15 ?_
        have b18 := bh i (by omega) (by omega)
        refine zv_if_eq (tgt := 28) hx hb d_R_multiply_16 rfl (by omega) (fun h19 => ?_) (fun h19 => ?_)
        · refine zv_iinc (k := 0) (lv' := [(3, .int (iI (i + 1))), (0, .ref (ad E q)), (1, .ref (ad E r)), (2, .ref (ad E t))]) hx hb d_R_multiply_28 hl rfl (by decide) rfl (fun ls hl => ?_)
          refine lv_goto (tgt := 7) hx hb d_R_multiply_31 rfl ?_
          exact ih  (i + 1) u _ H10 lc11 w12 (lv_sub hl [0, 1, 2, 3] rfl) hH e13 e14 e15 (fun k g0 => hf16 k g0) (by assumption) (by omega) (by first | (rw [h2, hv]; exact mu_step bg bh (by omega) hi.1 (by omega) (by omega)) | (rw [hv, V_s h hi.1, show h i = 0 by assumption, Int.zero_mul, Int.add_zero])) (by omega)
        · refine lv_aload_n hx hb d_R_multiply_19 rfl (lv_at hl 1 rfl) ?_
          refine lv_aload_n hx hb d_R_multiply_20 rfl (lv_at hl 2 rfl) ?_
          refine lv_aload_n hx hb d_R_multiply_21 rfl (lv_at hl 3 rfl) ?_
          refine lv_iload_n hx hb d_R_multiply_22 rfl (lv_at hl 0 rfl) ?_
          refine zv_iald hx hb hK hH q2lt e15 (by omega) (by omega) (by omega) d_R_multiply_23 ?_
          have b20 := bh i (by omega) (by omega)
          refine lv_iload_n hx hb d_R_multiply_24 rfl (lv_at hl 0 rfl) ?_
          refine z_callv (va_runS (As := [.ref (ad E q), .ref (ad E r), .int (iI (h i)), .int (iI i)]) (rest := []) ⟨hx, hb, hml, hown, hts⟩ (c_addMultiple (l := l) (E := E) (w0 := w12) (q := q) (r := r) (N := N) (M := M) (f := u) (g := g) (L := h i) (x := i) (q0lt := q0lt) (q1lt := q1lt) (c0 := e13) (c1 := e14) (hN := by omega) (hM := by omega) (bf := bp) (bg := bg) (hqr := by omega) (hL := by omega) (hx0 := (by omega)) H10.size) (z_cwS 4 hg wm_428 wm_426 wm_16 wm_427 (by decide +kernel) ⟨Nat.le_of_ble_eq_true rfl, Nat.le_of_ble_eq_true rfl⟩) (z_preS hK hG hn hH hA) rfl rfl hl.1 rfl (lv_room (Nat.le_of_ble_eq_true rfl)) d_R_multiply_25 ⟨Nat.zero_le _, Nat.zero_le _⟩) hH hA (fun  w23 H21 lc22 hH24 h2 => ?_)
          obtain ⟨⟨f_25, e26, bd27, h2⟩, hg28⟩ := h2
          have bd27 : bd f_25 N 0 9999 := bd27
          have h2 : V f_25 N = (V u N + (h i) * V g M * Bp i) % Bp N := h2
          have e29 : w23 r = zar E M g := (hg28 r (by omega)).trans e14
          have e30 : w23 t = zar E K h := (hg28 t (by omega)).trans e15
          have hf31 : ∀ k, k ≠ q → w23 k = w0 k := fun k g0 => (hg28 k g0).trans (hf16 k g0)
          refine zv_iinc (k := 0) (lv' := [(3, .int (iI (i + 1))), (0, .ref (ad E q)), (1, .ref (ad E r)), (2, .ref (ad E t))]) hx hb d_R_multiply_28 hl rfl (by decide) rfl (fun ls hl => ?_)
          refine lv_goto (tgt := 7) hx hb d_R_multiply_31 rfl ?_
          exact ih  (i + 1) f_25 _ H21 lc22 w23 (lv_sub hl [0, 1, 2, 3] rfl) hH24 e26 e29 e30 (fun k g0 => hf31 k g0) (by assumption) (by omega) (by first | (rw [h2, hv]; exact mu_step bg bh (by omega) hi.1 (by omega) (by omega)) | (rw [hv, V_s h hi.1, show h i = 0 by assumption, Int.zero_mul, Int.add_zero])) (by omega)
  exact L7 (((K : Int) - 0 : Int).toNat + 1) 0 f1 _ H1 lc2 w3 (lv_sub hl [0, 1, 2, 3] rfl) hH4 e5 e7 e8 (fun k g0 => hf9 k g0) (by intro i g1 g2; rw [h1 i g1 g2]; decide) (by omega) (by rw [V_0, Int.mul_zero]; exact V_zero (by omega) h1) (by omega)
def rm_rowDivide : Room := { frames := 2, cells := 0, slots := 0, locals := 49 }
set_option maxHeartbeats 4000000 in
set_option maxRecDepth 100000 in
theorem c_rowDivide (l : Launch) (E : zE) (w0 : zW) (q r t N K : Nat) (f k0 g : Int → Int) (q0lt : q < zn E) (q1lt : r < zn E) (q2lt : t < zn E) (c0 : w0 q = zar E N f) (c1 : w0 r = zar E N k0) (c2 : w0 t = zar E K g) (hN : 0 < N ∧ N < 100000) (hK0 : 0 < K ∧ K ≤ N) (bf : bd f N 0 9999) (bg : bd g K 0 9999) (hqr : q ≠ r ∧ q ≠ t ∧ r ≠ t) (hD : V g K ≠ 0) : zM l y_R_divide ws_R_divide rm_rowDivide E [.ref (ad E q), .ref (ad E r), .ref (ad E t)] w0 (zQv E w0 (fun w' => (∃ (f' : Int → Int) (k' : Int → Int), w' q = zar E N f' ∧ w' r = zar E N k' ∧ bd f' N 0 9999 ∧ bd k' N 0 9999 ∧ (V k' N = V f N / V g K ∧ V f' N = V f N % V g K)) ∧ ∀ k, k ≠ q → k ≠ r → w' k = w0 k)) := by
  refine z_met (cc := b_R_divide) (maxL := 8) (ret := none) (by decide +kernel) rfl (Nat.le_of_ble_eq_true rfl) ?_
  intro p e s m below meth cd ls a Qf hQ hC hl hH
  obtain ⟨hF, hr, hlk, hK, hG, hn⟩ := hC
  obtain ⟨hx, hb, hml, hown, hts⟩ := hF
  have hg : ∀ w ∈ GW, w.before a s = true := fun w h => hts w (List.mem_cons_of_mem _ h)
  have hA : ∀ q, s.heap.size ≤ q → va_A (wl E w0) s.heap.size q := fun q h => Or.inr h
  have hl : lv_has ls 8 [(0, .ref (ad E q)), (1, .ref (ad E r)), (2, .ref (ad E t))] := hl
  refine lv_aload_n hx hb d_R_divide_0 rfl (lv_at hl 1 rfl) ?_
  refine zv_iconst hx hb d_R_divide_1 ?_
  refine z_callv (va_runS (As := [.ref (ad E r), .int (iI 0)]) (rest := []) ⟨hx, hb, hml, hown, hts⟩ (c_fill (l := l) (E := E) (w0 := w0) (q := r) (N := N) (f := k0) (v := 0) (q0lt := q1lt) (c0 := c1) (hN := by omega) s.heap.size) (z_cwS 2 hg wm_237 wm_425 wm_14 wm_236 (by decide +kernel) ⟨Nat.le_of_ble_eq_true rfl, Nat.le_of_ble_eq_true rfl⟩) (z_preS hK hG hn hH hA) rfl rfl hl.1 rfl (lv_room (Nat.le_of_ble_eq_true rfl)) d_R_divide_2 ⟨Nat.zero_le _, Nat.zero_le _⟩) hH hA (fun  w3 H1 lc2 hH4 p2 => ?_)
  obtain ⟨⟨k1, e5, p2⟩, hg6⟩ := p2
  have p2 : ∀ j : Int, 0 ≤ j → j < N → k1 j = (0 : Int) := p2
  have e7 : w3 q = zar E N f := (hg6 q (by omega)).trans c0
  have e8 : w3 t = zar E K g := (hg6 t (by omega)).trans c2
  have hf9 : ∀ k, k ≠ r → w3 k = w0 k := fun k g0 => hg6 k g0
  refine lv_aload_n hx hb d_R_divide_5 rfl (lv_at hl 2 rfl) ?_
  refine z_calli (va_runS (As := [.ref (ad E t)]) (rest := []) ⟨hx, hb, hml, hown, hts⟩ (c_topLimb (l := l) (E := E) (w0 := w3) (q := t) (N := K) (f := g) (q0lt := q2lt) (c0 := e8) (hN := by omega) (bf := bg) H1.size) (z_cwS 1 hg wm_300 wm_312 wm_16 wm_299 (by decide +kernel) ⟨Nat.le_of_ble_eq_true rfl, Nat.le_of_ble_eq_true rfl⟩) (z_preS hK hG hn hH4 hA) rfl rfl hl.1 rfl (lv_room (Nat.le_of_ble_eq_true rfl)) d_R_divide_6 ⟨Nat.zero_le _, Nat.zero_le _⟩) hH4 hA (fun T w12 H10 lc11 hH13 hT => ?_)
  obtain ⟨ew14, hT⟩ := hT
  rw [ew14] at hH13
  have hT : -1 ≤ T ∧ T < K ∧ (∀ j, T < j → j < K → g j = 0) ∧ (0 ≤ T → g T ≠ 0) := hT
  refine lv_istore_n (lv' := [(3, .int (iI T)), (0, .ref (ad E q)), (1, .ref (ad E r)), (2, .ref (ad E t))]) hx hb d_R_divide_9 rfl hl (by decide) rfl (fun ls hl => ?_)
  refine lv_iload_n hx hb d_R_divide_10 rfl (lv_at hl 0 rfl) ?_
  refine zv_if_ge (tgt := 15) hx hb d_R_divide_11 rfl (by omega) (fun h15 => ?_) (fun h15 => absurd h15 (by intro hh; exact hD (V_zero (by omega) (fun j g1 g2 => hT.2.2.1 j (by omega) g2))))
  refine lv_aload_n hx hb d_R_divide_15 rfl (lv_at hl 3 rfl) ?_
  refine lv_iload_n hx hb d_R_divide_16 rfl (lv_at hl 0 rfl) ?_
  refine zv_iconst hx hb d_R_divide_17 ?_
  refine z_calll (va_runS (As := [.ref (ad E t), .int (iI T), .int (iI 3)]) (rest := []) ⟨hx, hb, hml, hown, hts⟩ (c_head (l := l) (E := E) (w0 := w3) (q := t) (N := K) (f := g) (t := T) (k := 3) (q0lt := q2lt) (c0 := e8) (hN := by omega) (bf := bg) (ht := by omega) (hk := by omega) H10.size) (z_cwS 3 hg wm_472 wm_470 wm_16 wm_471 (by decide +kernel) ⟨Nat.le_of_ble_eq_true rfl, Nat.le_of_ble_eq_true rfl⟩) (z_preS hK hG hn hH13 hA) rfl rfl hl.1 rfl (lv_room (Nat.le_of_ble_eq_true rfl)) d_R_divide_18 ⟨Nat.zero_le _, Nat.zero_le _⟩) hH13 hA (fun z18 w18 H16 lc17 hH19 p18 => ?_)
  obtain ⟨ew20, p18⟩ := p18
  rw [ew20] at hH19
  have p18 : z18 = Hd g K T (Int.toNat (3 : Int)) := p18
  have p18 : z18 = Hd g K T 3 := p18
  subst p18
  refine zv_lconst_1 hx hb d_R_divide_21 ?_
  refine zv_ladd hx hb d_R_divide_22 ?_
  refine lv_lstore (lv' := [(4, .long (Int64.ofInt ((Hd g K T 3) + 1))), (3, .int (iI T)), (0, .ref (ad E q)), (1, .ref (ad E r)), (2, .ref (ad E t))]) hx hb d_R_divide_23 hl (by decide) rfl (fun ls hl => ?_)
  refine lv_aload_n hx hb d_R_divide_25 rfl (lv_at hl 2 rfl) ?_
  refine z_calli (va_runS (As := [.ref (ad E q)]) (rest := []) ⟨hx, hb, hml, hown, hts⟩ (c_topLimb (l := l) (E := E) (w0 := w3) (q := q) (N := N) (f := f) (q0lt := q0lt) (c0 := e7) (hN := by omega) (bf := bf) H16.size) (z_cwS 1 hg wm_300 wm_312 wm_16 wm_299 (by decide +kernel) ⟨Nat.le_of_ble_eq_true rfl, Nat.le_of_ble_eq_true rfl⟩) (z_preS hK hG hn hH19 hA) rfl rfl hl.1 rfl (lv_room (Nat.le_of_ble_eq_true rfl)) d_R_divide_26 ⟨Nat.zero_le _, Nat.zero_le _⟩) hH19 hA (fun U w23 H21 lc22 hH24 hU => ?_)
  obtain ⟨ew25, hU⟩ := hU
  rw [ew25] at hH24
  have hU : -1 ≤ U ∧ U < N ∧ (∀ j, U < j → j < N → f j = 0) ∧ (0 ≤ U → f U ≠ 0) := hU
  refine lv_iload_n hx hb d_R_divide_29 rfl (lv_at hl 1 rfl) ?_
  refine zv_isub hx hb d_R_divide_30 ?_
  refine lv_istore (lv' := [(6, .int (iI (U - T))), (4, .long (Int64.ofInt ((Hd g K T 3) + 1))), (3, .int (iI T)), (0, .ref (ad E q)), (1, .ref (ad E r)), (2, .ref (ad E t))]) hx hb d_R_divide_31 hl (by decide) rfl (fun ls hl => ?_)
  have L33 : ∀ (fu : Nat) (s1 : Int) (h : Int → Int) (k : Int → Int) (ls : Array Slot) (H26 : Heap) (lc27 : List Loc) (w28 : zW), (lv_has ls 8 [(0, .ref (ad E q)), (1, .ref (ad E r)), (2, .ref (ad E t)), (3, .int (iI T)), (4, .long (Int64.ofInt ((Hd g K T 3) + 1))), (6, .int (iI s1))]) → (zH E w28 (va_A (wl E w0) s.heap.size) s.heap H26 lc27) → (w28 q = zar E N h) → (w28 r = zar E N k) → (w28 t = zar E K g) → (∀ k, k ≠ r → k ≠ q → w28 k = w0 k) → (bd h N 0 9999) → (bd k N 0 9999) → (-100000 ≤ s1 ∧ s1 + T < N) → (V h N < V g K * Bp (s1 + 1)) → (V f N = V k N * V g K + V h N) → (∀ j : Int, 0 ≤ j → j ≤ s1 → k j = 0) → (max (s1 + 1) 0 < (fu : Int)) → W p l e rm_rowDivide s m a below meth cd H26 lc27 0 0 Qf (F0 m 33 ls []) := by
    intro fu
    induction fu with
    | zero => intro s1 h k ls H26 lc27 w28 hl hH e29 e30 e31 hf32 bh bk hs hR hQv hk hm; exact absurd hm (by omega)
    | succ fu ih =>
      intro s1 h k ls H26 lc27 w28 hl hH e29 e30 e31 hf32 bh bk hs hR hQv hk hm
      have eg : V g (T + 1) = V g K := by rw [← V_exTop (f := g) (N := K) (t := T) (by omega) (by omega) hT.2.2.1, V_ex (by omega)]
      have tD : V g K < Bp (T + 1) := by rw [← eg]; exact (V_in bg (by omega) (by omega)).2
      have vD := V_in bg (show (0 : Int) ≤ K by omega) (Int.le_refl (K : Int))
      have pD : 0 < V g K := by omega
      have bG := Hd_bd bg T 3
      rw [Bp_3] at bG
      refine lv_iload hx hb d_R_divide_33 (lv_at hl 5 rfl) ?_
      refine zv_if_lt (tgt := 100) hx hb d_R_divide_35 rfl (by omega) (fun h33 => ?_) (fun h33 => ?_)
      · rw [Bp_neg (show s1 + 1 ≤ 0 by omega), Int.mul_one] at hR
        have b9 := V_in bh (show (0 : Int) ≤ N by omega) (Int.le_refl (N : Int))
        rw [hQ]
        exact z_vret hx hb hr hlk hH (⟨⟨h, k, e29, e30, bh, bk, dv_end hQv b9.1 hR⟩, (fun k g0 g1 => hf32 k g1 g0)⟩) d_R_divide_100
      · have gs := guess_step bg bh (by omega) (by omega) (by omega) (hT.2.2.2 (by omega)) hT.2.2.1 (show 0 ≤ s1 by omega) hR
        have bA := Hd_bd bh (s1 + T + 1) 4
        rw [Bp_4] at bA
        have pb := Bp_pos s1
        have pDb : 0 < V g K * Bp s1 := Int.mul_pos pD pb
        refine lv_aload_n hx hb d_R_divide_38 rfl (lv_at hl 0 rfl) ?_
        refine lv_iload hx hb d_R_divide_39 (lv_at hl 5 rfl) ?_
        refine lv_iload_n hx hb d_R_divide_41 rfl (lv_at hl 3 rfl) ?_
        refine zv_iadd hx hb d_R_divide_42 ?_
        refine zv_iconst hx hb d_R_divide_43 ?_
        refine zv_iadd hx hb d_R_divide_44 ?_
        refine zv_iconst hx hb d_R_divide_45 ?_
        refine z_calll (va_runS (As := [.ref (ad E q), .int (iI ((s1 + T) + 1)), .int (iI 4)]) (rest := []) ⟨hx, hb, hml, hown, hts⟩ (c_head (l := l) (E := E) (w0 := w28) (q := q) (N := N) (f := h) (t := (s1 + T) + 1) (k := 4) (q0lt := q0lt) (c0 := e29) (hN := by omega) (bf := bh) (ht := by omega) (hk := by omega) H26.size) (z_cwS 3 hg wm_472 wm_470 wm_16 wm_471 (by decide +kernel) ⟨Nat.le_of_ble_eq_true rfl, Nat.le_of_ble_eq_true rfl⟩) (z_preS hK hG hn hH hA) rfl rfl hl.1 rfl (lv_room (Nat.le_of_ble_eq_true rfl)) d_R_divide_46 ⟨Nat.zero_le _, Nat.zero_le _⟩) hH hA (fun z46 w36 H34 lc35 hH37 p46 => ?_)
        obtain ⟨ew38, p46⟩ := p46
        rw [ew38] at hH37
        have p46 : z46 = Hd h N ((s1 + T) + 1) (Int.toNat (4 : Int)) := p46
        have p46 : z46 = Hd h N ((s1 + T) + 1) 4 := p46
        subst p46
        refine lv_lload hx hb d_R_divide_49 (lv_at hl 4 rfl) ?_
        refine zv_ldiv hx hb (by omega) (by omega) (by omega) (by omega) d_R_divide_51 ?_
        refine zv_l2i hx hb d_R_divide_52 ?_
        refine lv_istore (lv' := [(7, .int (iI ((Hd h N ((s1 + T) + 1) 4) / ((Hd g K T 3) + 1)))), (0, .ref (ad E q)), (1, .ref (ad E r)), (2, .ref (ad E t)), (3, .int (iI T)), (4, .long (Int64.ofInt ((Hd g K T 3) + 1))), (6, .int (iI s1))]) hx hb d_R_divide_53 hl (by decide) rfl (fun ls hl => ?_)
        refine lv_aload_n hx hb d_R_divide_55 rfl (lv_at hl 1 rfl) ?_
        refine lv_aload_n hx hb d_R_divide_56 rfl (lv_at hl 3 rfl) ?_
        refine lv_iload hx hb d_R_divide_57 (lv_at hl 0 rfl) ?_
        refine lv_iload hx hb d_R_divide_59 (lv_at hl 6 rfl) ?_
        refine lv_iload_n hx hb d_R_divide_61 rfl (lv_at hl 4 rfl) ?_
        refine z_callv (va_runS (As := [.ref (ad E q), .ref (ad E t), .int (iI ((Hd h N ((s1 + T) + 1) 4) / ((Hd g K T 3) + 1))), .int (iI s1), .int (iI T)]) (rest := []) ⟨hx, hb, hml, hown, hts⟩ (c_takeMultiple (l := l) (E := E) (w0 := w28) (q := q) (r := t) (N := N) (K := K) (f := h) (g := g) (L := (Hd h N ((s1 + T) + 1) 4) / ((Hd g K T 3) + 1)) (x := s1) (t := T) (q0lt := q0lt) (q1lt := q2lt) (c0 := e29) (c1 := e31) (hN := by omega) (hK0 := by omega) (bf := bh) (bg := bg) (hqr := by omega) (hL := ⟨gs.1, gs.2.1⟩) (hx0 := by omega) (hz := (fun j g1 g2 => dv_z bh tD (by omega) (by omega) hR j (by omega) g2)) (hY := (by rw [eg, Int.mul_assoc]; exact gs.2.2.1)) H34.size) (z_cwS 5 hg wm_476 wm_474 wm_16 wm_475 (by decide +kernel) ⟨Nat.le_of_ble_eq_true rfl, Nat.le_of_ble_eq_true rfl⟩) (z_preS hK hG hn hH37 hA) rfl rfl hl.1 rfl (lv_room (Nat.le_of_ble_eq_true rfl)) d_R_divide_62 ⟨Nat.zero_le _, Nat.zero_le _⟩) hH37 hA (fun  w41 H39 lc40 hH42 p62 => ?_)
        obtain ⟨⟨h1, e43, bd44, p62⟩, hg45⟩ := p62
        have bd44 : bd h1 N 0 9999 := bd44
        have p62 : V h1 N = V h N - ((Hd h N ((s1 + T) + 1) 4) / ((Hd g K T 3) + 1)) * V g (T + 1) * Bp s1 := p62
        have e46 : w41 r = zar E N k := (hg45 r (by omega)).trans e30
        have e47 : w41 t = zar E K g := (hg45 t (by omega)).trans e31
        have hf48 : ∀ k, k ≠ r → k ≠ q → w41 k = w0 k := fun k g0 g1 => (hg45 k g1).trans (hf32 k g0 g1)
        have r1 : V h1 N = V h N - ((Hd h N ((s1 + T) + 1) 4) / (Hd g K T 3 + 1)) * (V g K * Bp s1) := by rw [p62, eg, Int.mul_assoc]
        have n1 : 0 ≤ ((Hd h N ((s1 + T) + 1) 4) / (Hd g K T 3 + 1)) * (V g K * Bp s1) := Int.mul_nonneg gs.1 (Int.le_of_lt pDb)
        have r1b : V h1 N < V g K * Bp (s1 + 1) := by omega
        refine lv_aload_n hx hb d_R_divide_65 rfl (lv_at hl 1 rfl) ?_
        refine lv_aload_n hx hb d_R_divide_66 rfl (lv_at hl 3 rfl) ?_
        refine lv_iload hx hb d_R_divide_67 (lv_at hl 6 rfl) ?_
        refine lv_iload_n hx hb d_R_divide_69 rfl (lv_at hl 4 rfl) ?_
        refine z_calli (va_runS (As := [.ref (ad E q), .ref (ad E t), .int (iI s1), .int (iI T)]) (rest := []) ⟨hx, hb, hml, hown, hts⟩ (c_isStillIn (l := l) (E := E) (w0 := w41) (q := q) (r := t) (N := N) (K := K) (f := h1) (g := g) (x := s1) (t := T) (q0lt := q0lt) (q1lt := q2lt) (c0 := e43) (c1 := e47) (hN := by omega) (hK0 := by omega) (bf := bd44) (bg := bg) (hx0 := by omega) (hz := (fun j g1 g2 => dv_z (by assumption) tD (by omega) (by omega) r1b j (by omega) g2)) H39.size) (z_cwS 4 hg wm_482 wm_480 wm_16 wm_481 (by decide +kernel) ⟨Nat.le_of_ble_eq_true rfl, Nat.le_of_ble_eq_true rfl⟩) (z_preS hK hG hn hH42 hA) rfl rfl hl.1 rfl (lv_room (Nat.le_of_ble_eq_true rfl)) d_R_divide_70 ⟨Nat.zero_le _, Nat.zero_le _⟩) hH42 hA (fun z70 w51 H49 lc50 hH52 p70 => ?_)
        obtain ⟨ew53, p70⟩ := p70
        rw [ew53] at hH52
        have p70 : (z70 = 1 ∧ V g (T + 1) * Bp s1 ≤ V h1 N) ∨ (z70 = 0 ∧ V h1 N < V g (T + 1) * Bp s1) := p70
        refine zv_if_eq (tgt := 88) hx hb d_R_divide_73 rfl (by omega) (fun h54 => ?_) (fun h54 => ?_)
        · have q70 : V h1 N < V g K * Bp s1 := by rw [← eg]; omega
          have hRn := q70
          have hQn : V h N = ((Hd h N ((s1 + T) + 1) 4) / (Hd g K T 3 + 1)) * (V g K * Bp s1) + V h1 N := by omega
          have hyb : 0 ≤ (Hd h N ((s1 + T) + 1) 4) / (Hd g K T 3 + 1) ∧ (Hd h N ((s1 + T) + 1) 4) / (Hd g K T 3 + 1) ≤ 9999 := ⟨gs.1, gs.2.1⟩
          refine lv_aload_n hx hb d_R_divide_88 rfl (lv_at hl 2 rfl) ?_
          refine lv_iload hx hb d_R_divide_89 (lv_at hl 6 rfl) ?_
          refine lv_iload hx hb d_R_divide_91 (lv_at hl 0 rfl) ?_
          refine zv_iast hx hb hK hH52 q1lt e46 (by omega) (by omega) (by omega) d_R_divide_93 (fun H56 lc57 w55 hH58 e59 hg60 => ?_)
          have bd61 := bd_up bk s1 ((Hd h N ((s1 + T) + 1) 4) / ((Hd g K T 3) + 1)) (by omega)
          have e62 : w55 q = zar E N h1 := (hg60 q (by omega)).trans e43
          have e63 : w55 t = zar E K g := (hg60 t (by omega)).trans e47
          have hf64 : ∀ k, k ≠ r → k ≠ q → w55 k = w0 k := fun k g0 g1 => (hg60 k g0).trans (hf48 k g0 g1)
          refine zv_iinc (k := 6) (lv' := [(6, .int (iI (s1 + (-1)))), (7, .int (iI ((Hd h N ((s1 + T) + 1) 4) / ((Hd g K T 3) + 1)))), (0, .ref (ad E q)), (1, .ref (ad E r)), (2, .ref (ad E t)), (3, .int (iI T)), (4, .long (Int64.ofInt ((Hd g K T 3) + 1)))]) hx hb d_R_divide_94 hl rfl (by decide) rfl (fun ls hl => ?_)
          refine lv_goto (tgt := 33) hx hb d_R_divide_97 rfl ?_
          exact ih  (s1 + (-1)) h1 (up k s1 ((Hd h N ((s1 + T) + 1) 4) / ((Hd g K T 3) + 1))) _ H56 lc57 w55 (lv_sub hl [2, 3, 4, 5, 6, 0] rfl) hH58 e62 e59 e63 (fun k g0 g1 => hf64 k g0 g1) (by assumption) (by assumption) (by omega) (by rw [show s1 + (-1) + 1 = s1 by omega]; exact hRn) (by rw [V_set k (by omega) (by omega), hk s1 (by omega) (Int.le_refl s1)]; exact dv_fin hQv hQn) (by intro j g1 g2; rw [up_ne (by omega)]; exact hk j g1 (by omega)) (by omega)
        · have q70 : V g K * Bp s1 ≤ V h1 N := by rw [← eg]; omega
          refine lv_aload_n hx hb d_R_divide_76 rfl (lv_at hl 1 rfl) ?_
          refine lv_aload_n hx hb d_R_divide_77 rfl (lv_at hl 3 rfl) ?_
          refine zv_iconst hx hb d_R_divide_78 ?_
          refine lv_iload hx hb d_R_divide_79 (lv_at hl 6 rfl) ?_
          refine lv_iload_n hx hb d_R_divide_81 rfl (lv_at hl 4 rfl) ?_
          refine z_callv (va_runS (As := [.ref (ad E q), .ref (ad E t), .int (iI 1), .int (iI s1), .int (iI T)]) (rest := []) ⟨hx, hb, hml, hown, hts⟩ (c_takeMultiple (l := l) (E := E) (w0 := w41) (q := q) (r := t) (N := N) (K := K) (f := h1) (g := g) (L := 1) (x := s1) (t := T) (q0lt := q0lt) (q1lt := q2lt) (c0 := e43) (c1 := e47) (hN := by omega) (hK0 := by omega) (bf := bd44) (bg := bg) (hqr := by omega) (hL := (by omega)) (hx0 := by omega) (hz := (fun j g1 g2 => dv_z (by assumption) tD (by omega) (by omega) r1b j (by omega) g2)) (hY := (by rw [eg, Int.one_mul]; exact q70)) H49.size) (z_cwS 5 hg wm_476 wm_474 wm_16 wm_475 (by decide +kernel) ⟨Nat.le_of_ble_eq_true rfl, Nat.le_of_ble_eq_true rfl⟩) (z_preS hK hG hn hH52 hA) rfl rfl hl.1 rfl (lv_room (Nat.le_of_ble_eq_true rfl)) d_R_divide_82 ⟨Nat.zero_le _, Nat.zero_le _⟩) hH52 hA (fun  w67 H65 lc66 hH68 p82 => ?_)
          obtain ⟨⟨h2, e69, bd70, p82⟩, hg71⟩ := p82
          have bd70 : bd h2 N 0 9999 := bd70
          have p82 : V h2 N = V h1 N - (1 : Int) * V g (T + 1) * Bp s1 := p82
          have e72 : w67 r = zar E N k := (hg71 r (by omega)).trans e46
          have e73 : w67 t = zar E K g := (hg71 t (by omega)).trans e47
          have hf74 : ∀ k, k ≠ r → k ≠ q → w67 k = w0 k := fun k g0 g1 => (hg71 k g1).trans (hf48 k g0 g1)
          have r2 : V h2 N = V h1 N - V g K * Bp s1 := by rw [p82, eg, Int.one_mul]
          have gt9 := gs.2.2.2
          rw [Int.add_mul] at gt9
          have hRn : V h2 N < V g K * Bp s1 := by omega
          have b2 := V_in (f := h2) (by assumption) (show (0 : Int) ≤ N by omega) (Int.le_refl (N : Int))
          have hQn : V h N = ((Hd h N ((s1 + T) + 1) 4) / (Hd g K T 3 + 1) + 1) * (V g K * Bp s1) + V h2 N := by rw [Int.add_mul]; omega
          have hyb : 0 ≤ (Hd h N ((s1 + T) + 1) 4) / (Hd g K T 3 + 1) + 1 ∧ (Hd h N ((s1 + T) + 1) 4) / (Hd g K T 3 + 1) + 1 ≤ 9999 := ⟨by have := gs.1; omega, by
              refine Int.not_lt.mp (fun hh => ?_)
              have m9 := mul_le_r (show 10000 ≤ (Hd h N ((s1 + T) + 1) 4) / (Hd g K T 3 + 1) + 1 by omega) (Int.le_of_lt pDb)
              have hR9 := hR
              rw [Bp_s (by omega), ← Int.mul_assoc, Int.mul_comm (V g K) 10000, Int.mul_assoc] at hR9
              omega⟩
          refine zv_iinc (k := 0) (lv' := [(7, .int (iI (((Hd h N ((s1 + T) + 1) 4) / ((Hd g K T 3) + 1)) + 1))), (0, .ref (ad E q)), (1, .ref (ad E r)), (2, .ref (ad E t)), (3, .int (iI T)), (4, .long (Int64.ofInt ((Hd g K T 3) + 1))), (6, .int (iI s1))]) hx hb d_R_divide_85 hl rfl (by decide) rfl (fun ls hl => ?_)
          refine lv_aload_n hx hb d_R_divide_88 rfl (lv_at hl 2 rfl) ?_
          refine lv_iload hx hb d_R_divide_89 (lv_at hl 6 rfl) ?_
          refine lv_iload hx hb d_R_divide_91 (lv_at hl 0 rfl) ?_
          refine zv_iast hx hb hK hH68 q1lt e72 (by omega) (by omega) (by omega) d_R_divide_93 (fun H76 lc77 w75 hH78 e79 hg80 => ?_)
          have bd81 := bd_up bk s1 (((Hd h N ((s1 + T) + 1) 4) / ((Hd g K T 3) + 1)) + 1) (by omega)
          have e82 : w75 q = zar E N h2 := (hg80 q (by omega)).trans e69
          have e83 : w75 t = zar E K g := (hg80 t (by omega)).trans e73
          have hf84 : ∀ k, k ≠ r → k ≠ q → w75 k = w0 k := fun k g0 g1 => (hg80 k g0).trans (hf74 k g0 g1)
          refine zv_iinc (k := 6) (lv' := [(6, .int (iI (s1 + (-1)))), (7, .int (iI (((Hd h N ((s1 + T) + 1) 4) / ((Hd g K T 3) + 1)) + 1))), (0, .ref (ad E q)), (1, .ref (ad E r)), (2, .ref (ad E t)), (3, .int (iI T)), (4, .long (Int64.ofInt ((Hd g K T 3) + 1)))]) hx hb d_R_divide_94 hl rfl (by decide) rfl (fun ls hl => ?_)
          refine lv_goto (tgt := 33) hx hb d_R_divide_97 rfl ?_
          exact ih  (s1 + (-1)) h2 (up k s1 (((Hd h N ((s1 + T) + 1) 4) / ((Hd g K T 3) + 1)) + 1)) _ H76 lc77 w75 (lv_sub hl [2, 3, 4, 5, 6, 0] rfl) hH78 e82 e79 e83 (fun k g0 g1 => hf84 k g0 g1) (by assumption) (by assumption) (by omega) (by rw [show s1 + (-1) + 1 = s1 by omega]; exact hRn) (by rw [V_set k (by omega) (by omega), hk s1 (by omega) (Int.le_refl s1)]; exact dv_fin hQv hQn) (by intro j g1 g2; rw [up_ne (by omega)]; exact hk j g1 (by omega)) (by omega)
  exact L33 ((max ((U - T) + 1) 0 : Int).toNat + 1) (U - T) f k1 _ H21 lc22 w3 (lv_sub hl [3, 4, 5, 2, 1, 0] rfl) hH24 e7 e5 e8 (fun k g0 g1 => hf9 k g0) (by exact bf) (by intro i g1 g2; rw [p2 i g1 g2]; decide) (by omega) (by exact dv_start bf bg (by omega) hU.1 hU.2.1 hU.2.2.1 (by omega) (by omega) hT.2.2.1 (hT.2.2.2 (by omega))) (by rw [V_zero (f := k1) (by omega) p2]; omega) (by intro j g1 g2; exact p2 j g1 (by omega)) (by omega)
end
section
/-! Rows for booleans, constants of the enum, copies of rows. -/
theorem nar_z {b : Int} (h : b = 0 ∨ b = 1) : narrow .boolean (.int (iI b)) = .int (iI b) := by rcases h with rfl | rfl <;> rfl
theorem fit_z {b : Int} (h : b = 0 ∨ b = 1) : fits .boolean (.int (iI b)) = true := by rcases h with rfl | rfl <;> rfl
def cpZ (f g : Int → Int) (sp dp n : Int) : Int → Int := fun k => if dp ≤ k ∧ k < dp + n then f (sp + (k - dp)) else g k
theorem cp_in {f g : Int → Int} {sp dp n k : Int} (h : dp ≤ k ∧ k < dp + n) : cpZ f g sp dp n k = f (sp + (k - dp)) := if_pos h
theorem cp_out {f g : Int → Int} {sp dp n k : Int} (h : k < dp ∨ dp + n ≤ k) : cpZ f g sp dp n k = g k := if_neg (by omega)
theorem ar_cpy {f g : Int → Int} {sp dp n : Int} (h1 : 0 ≤ sp) (h2 : 0 ≤ dp) (h3 : 0 ≤ n) (b1 : sp < 2147483648) (b2 : dp < 2147483648) (b3 : n < 2147483648) :
    va_cpy (ar f) (ar g) (iI sp).toNatClampNeg (iI dp).toNatClampNeg (iI n).toNatClampNeg = ar (cpZ f g sp dp n) := by
  funext k
  have e1 := iI_cl h1 b1
  have e2 := iI_cl h2 b2
  have e3 := iI_cl h3 b3
  unfold va_cpy ar
  by_cases h : (iI dp).toNatClampNeg ≤ k ∧ k < (iI dp).toNatClampNeg + (iI n).toNatClampNeg
  · rw [if_pos h, cp_in (by omega)]
    exact congrArg (fun j => iI (f j)) (by omega)
  · rw [if_neg h, cp_out (by omega)]
section ZO
variable {p : Program} {l : Launch} {e : Env} {R : Room} {s : State} {m : MethodId} {args : Array Value} {below : List Frame} {meth : Method} {c : Code} {H : Heap} {locs : List Loc} {cells slots : Nat} {Q : State → Prop}
variable {cc : ByteArray} {pc : Nat} {ls : Array Slot} {rest : List Value} {E : zE} {w : zW} {A : Nat → Prop} {H0 : Heap}
theorem zv_copy (hexec : p.tables.exec = Jvm.exec) (hb : c.code = cc) {nL : Nat} (hml : c.maxLocals = nL) (hls : ls.size = nL) {own : String} {index : Nat} (hown : s.vm.findClass own = some m.cls) (hlink : (Cond.methodLink own index arraycopyName).before args s = true) (hnat : (Cond.native arraycopyName).before args s = true) (hstat : (Cond.static arraycopyName).before args s = true) (hini : (Cond.initialized "java/lang/System").before args s = true)
    (hK : zK E s) (hH : zH E w A H0 H locs) {q0 q1 : Nat} (hq0 : q0 < zn E) (hq1 : q1 < zn E) {n0 n1 : Nat} {f g : Int → Int} (he0 : w q0 = zar E n0 f) (he1 : w q1 = zar E n1 g) {sp dp n : Int} (h1 : 0 ≤ sp) (h2 : 0 ≤ dp) (h3 : 0 ≤ n) (h4 : sp + n ≤ n0) (h5 : dp + n ≤ n1) (hn0 : n0 < 2147483648) (hn1 : n1 < 2147483648)
    (hframes : 1 ≤ R.frames) (hlocals : (rest.map fun v => v.category).sum + 18 ≤ R.locals) (hdg : decode cc pc = .ok (.invokestatic index, 3))
    (kk : ∀ (H1 : Heap) (locs1 : List Loc) (w1 : zW), zH E w1 A H0 H1 locs1 → w1 q1 = zar E n1 (cpZ f g sp dp n) → (∀ k, k ≠ q1 → w1 k = w k) → W p l e R s m args below meth c H1 locs1 cells slots Q (F0 m (pc + 3) ls rest)) :
    W p l e R s m args below meth c H locs cells slots Q (F0 m pc ls (.int (iI n) :: .int (iI dp) :: .ref (ad E q1) :: .int (iI sp) :: .ref (ad E q0) :: rest)) := by
  have e1 := iI_cl h1 (by omega)
  have e2 := iI_cl h2 (by omega)
  have e3 := iI_cl h3 (by omega)
  have ng : ∀ z : Int, 0 ≤ z → z < 2147483648 → ¬ iI z < 0 := fun z a b => by
    rw [← iI_0, iI_lt ⟨by omega, b⟩ zr_0]; omega
  refine va_copyi hexec hb (hml.trans hls.symm) hown hlink hnat hstat hini hK hH.1 hH.2.1 hH.2.2 q0 q1 0 0 (f := ar f) (g := ar g) (n0 := n0) (n1 := n1) (ty := .int) (by rw [wl_get hq0, he0]) (by rw [wl_get hq1, he1]) rfl rfl rfl (ng sp h1 (by omega)) (ng dp h2 (by omega)) (ng n h3 (by omega)) (by omega) (by omega) (fun _ _ => rfl) hframes hlocals hdg (fun H1 locs1 hP hD hS => ?_)
  rw [ar_cpy h1 h2 h3 (by omega) (by omega) (by omega), wl_set] at hP hD
  exact kk H1 locs1 _ ⟨hP, hD, hS⟩ (if_pos rfl) (fun k hk => if_neg hk)
theorem zv_kind (hexec : p.tables.exec = Jvm.exec) (hb : c.code = cc) (hG : zG E A s s.heap) (hH : zH E w A s.heap H locs) {own ref : String} {index : Nat} (hown : s.vm.findClass own = some m.cls) (k : Nat) (hk : k < 4) (hlink : (Cond.fieldLink own index ref (["MINUS", "FINITE", "PLUS", "NAN"].getD k "") "LScaledNumeralDesk$Kind;").before args s = true) (hsame : ∀ x, s.fieldFound? "ScaledNumeralDesk$Kind" (["MINUS", "FINITE", "PLUS", "NAN"].getD k "") "LScaledNumeralDesk$Kind;" = some x → s.fieldFound? ref (["MINUS", "FINITE", "PLUS", "NAN"].getD k "") "LScaledNumeralDesk$Kind;" = some x) (hdg : decode cc pc = .ok (.getstatic index, 3)) (kk : W p l e R s m args below meth c H locs cells slots Q (F0 m (pc + 3) ls (.ref (zg E (1 + k)) :: rest))) : W p l e R s m args below meth c H locs cells slots Q (F0 m pc ls rest) :=
  va_gets hexec hb (hG.2.2.1.1 k hk).1 hH.2.2 hown hlink hsame hdg kk
theorem zg_inj (hG : zG E A s s.heap) {a b : Nat} (ha : a < 4) (hb : b < 4) : (some (zg E (1 + a)) : Option Nat) = some (zg E (1 + b)) ↔ a = b :=
  ⟨fun h => hG.2.2.1.2 a b ha hb (Option.some.inj h), fun h => by rw [h]⟩
theorem zv_acmp_ne (hexec : p.tables.exec = Jvm.exec) (hb : c.code = cc) (hG : zG E A s s.heap) {a b : Nat} (ha : a < 4) (hb4 : b < 4) {off : Int} {tgt : Nat} (hdg : decode cc pc = .ok (.if_acmp .ne off, 3)) (ht : (pc : Int) + off = (tgt : Int)) (kt : ¬ a = b → W p l e R s m args below meth c H locs cells slots Q (F0 m tgt ls rest)) (kf : a = b → W p l e R s m args below meth c H locs cells slots Q (F0 m (pc + 3) ls rest)) : W p l e R s m args below meth c H locs cells slots Q (F0 m pc ls (.ref (zg E (1 + b)) :: .ref (zg E (1 + a)) :: rest)) :=
  lv_acmp_ne (rx := some (zg E (1 + a))) (ry := some (zg E (1 + b))) hexec hb hdg ht (fun h => kt (fun z => h ((zg_inj hG ha hb4).mpr z))) (fun h => kf ((zg_inj hG ha hb4).mp h))
theorem zv_acmp_eq (hexec : p.tables.exec = Jvm.exec) (hb : c.code = cc) (hG : zG E A s s.heap) {a b : Nat} (ha : a < 4) (hb4 : b < 4) {off : Int} {tgt : Nat} (hdg : decode cc pc = .ok (.if_acmp .eq off, 3)) (ht : (pc : Int) + off = (tgt : Int)) (kt : a = b → W p l e R s m args below meth c H locs cells slots Q (F0 m tgt ls rest)) (kf : ¬ a = b → W p l e R s m args below meth c H locs cells slots Q (F0 m (pc + 3) ls rest)) : W p l e R s m args below meth c H locs cells slots Q (F0 m pc ls (.ref (zg E (1 + b)) :: .ref (zg E (1 + a)) :: rest)) :=
  lv_acmp_eq (rx := some (zg E (1 + a))) (ry := some (zg E (1 + b))) hexec hb hdg ht (fun h => kt ((zg_inj hG ha hb4).mp h)) (fun h => kf (fun z => h ((zg_inj hG ha hb4).mpr z)))
end ZO
/-- a number with its sign -/
def sv (n v : Int) : Int := if n = 1 then -v else v
theorem sv_0 (v : Int) : sv 0 v = v := if_neg (by decide)
theorem sv_1 (v : Int) : sv 1 v = -v := if_pos rfl
theorem sv_c {n : Int} (h : n = 0 ∨ n = 1) (v : Int) : (n = 0 ∧ sv n v = v) ∨ (n = 1 ∧ sv n v = -v) := by
  rcases h with rfl | rfl
  · exact Or.inl ⟨rfl, sv_0 v⟩
  · exact Or.inr ⟨rfl, sv_1 v⟩
theorem sv_x {y no ta : Int} (hy : (y = 0 ∧ no = ta) ∨ (y = 1 ∧ no ≠ ta)) (hno : no = 0 ∨ no = 1) (hta : ta = 0 ∨ ta = 1) (v : Int) : (if ta = 1 then -(sv no v) else sv no v) = sv y v := by
  rcases hno with rfl | rfl <;> rcases hta with rfl | rfl
  · rw [if_neg (by decide), show y = 0 by omega]
  · rw [if_pos rfl, show y = 1 by omega, sv_0, sv_1]
  · rw [if_neg (by decide), show y = 1 by omega]
  · rw [if_pos rfl, show y = 0 by omega, sv_0, sv_1]; omega
theorem sv_add {n a b : Int} (hn : n = 0 ∨ n = 1) : sv n (a + b) = sv n a + sv n b := by
  rcases hn with rfl | rfl
  · rw [sv_0, sv_0, sv_0]
  · rw [sv_1, sv_1, sv_1]; omega
theorem sv_op {n k : Int} (hn : n = 0 ∨ n = 1) (hk : k = 0 ∨ k = 1) (h : n ≠ k) (a b : Int) : sv n (a - b) = sv n a + sv k b := by
  rcases hn with rfl | rfl
  · rw [show k = 1 by omega, sv_0, sv_0, sv_1]; omega
  · rw [show k = 0 by omega, sv_1, sv_1, sv_0]; omega
theorem tz_V {f : Int → Int} {N z : Int} (bf : bd f N 0 9999) (h0 : 0 ≤ z) (h1 : z < N) (hz : ∀ j, z < j → j < N → f j = 0) (hf : f z ≠ 0) : Bp z ≤ V f N ∧ V f N < Bp (z + 1) ∧ f z = V f N / Bp z := by
  have e := V_top h0 h1 hz
  have b := V_in bf h0 (by omega)
  have x := bf z h0 h1
  have m1 := mul_le_r (show 1 ≤ f z by omega) (show 0 ≤ Bp z by omega)
  have m2 := mul_le_r (show f z ≤ 9999 by omega) (show 0 ≤ Bp z by omega)
  refine ⟨by omega, by rw [Bp_s h0]; omega, ?_⟩
  rw [e, Int.add_mul_ediv_right _ _ (by omega), Int.ediv_eq_zero_of_lt b.1 b.2]
  omega
theorem tz_0 {f : Int → Int} {N z : Int} (h0 : 0 ≤ N) (h : z < 0) (hz : ∀ j, z < j → j < N → f j = 0) : V f N = 0 := V_zero h0 (fun j g1 g2 => hz j (by omega) g2)
theorem cp_bd {f g : Int → Int} {N M sp dp n lo hi : Int} (bf : bd f N lo hi) (bg : bd g M lo hi) (h0 : 0 ≤ sp) (h : sp + n ≤ N) : bd (cpZ f g sp dp n) M lo hi := by
  intro k k0 k1
  by_cases hk : dp ≤ k ∧ k < dp + n
  · rw [cp_in hk]; exact bf _ (by omega) (by omega)
  · rw [cp_out (by omega)]; exact bg k k0 k1
theorem cp_V {f g : Int → Int} {n : Int} : V (cpZ f g 0 0 n) n = V f n := V_ext (fun j g1 g2 => by rw [cp_in (by omega)]; exact congrArg f (by omega))
theorem V0_of {f : Int → Int} (h : ∀ j : Int, 0 ≤ j → j < 15 → f j = 0) : V f 15 = 0 := V_zero (by decide) h
end
section
theorem d_A_init_0 : decode b_A_init 0 = .ok (.aload_n 0, 1) := by decide +kernel
theorem d_A_init_1 : decode b_A_init 1 = .ok (.invokespecial 3, 3) := by decide +kernel
theorem d_A_init_4 : decode b_A_init 4 = .ok (.aload_n 0, 1) := by decide +kernel
theorem d_A_init_5 : decode b_A_init 5 = .ok (.bipush 15, 2) := by decide +kernel
theorem d_A_init_7 : decode b_A_init 7 = .ok (.newarray .int, 2) := by decide +kernel
theorem d_A_init_9 : decode b_A_init 9 = .ok (.putfield 9, 3) := by decide +kernel
theorem d_A_init_12 : decode b_A_init 12 = .ok (.return_, 1) := by decide +kernel
theorem d_A_clear_0 : decode b_A_clear 0 = .ok (.aload_n 0, 1) := by decide +kernel
theorem d_A_clear_1 : decode b_A_clear 1 = .ok (.getfield 9, 3) := by decide +kernel
theorem d_A_clear_4 : decode b_A_clear 4 = .ok (.iconst 0, 1) := by decide +kernel
theorem d_A_clear_5 : decode b_A_clear 5 = .ok (.invokestatic 15, 3) := by decide +kernel
theorem d_A_clear_8 : decode b_A_clear 8 = .ok (.aload_n 0, 1) := by decide +kernel
theorem d_A_clear_9 : decode b_A_clear 9 = .ok (.iconst 0, 1) := by decide +kernel
theorem d_A_clear_10 : decode b_A_clear 10 = .ok (.putfield 21, 3) := by decide +kernel
theorem d_A_clear_13 : decode b_A_clear 13 = .ok (.return_, 1) := by decide +kernel
theorem d_A_take_0 : decode b_A_take 0 = .ok (.aload_n 1, 1) := by decide +kernel
theorem d_A_take_1 : decode b_A_take 1 = .ok (.getfield 9, 3) := by decide +kernel
theorem d_A_take_4 : decode b_A_take 4 = .ok (.iconst 0, 1) := by decide +kernel
theorem d_A_take_5 : decode b_A_take 5 = .ok (.aload_n 0, 1) := by decide +kernel
theorem d_A_take_6 : decode b_A_take 6 = .ok (.getfield 9, 3) := by decide +kernel
theorem d_A_take_9 : decode b_A_take 9 = .ok (.iconst 0, 1) := by decide +kernel
theorem d_A_take_10 : decode b_A_take 10 = .ok (.bipush 15, 2) := by decide +kernel
theorem d_A_take_12 : decode b_A_take 12 = .ok (.invokestatic 25, 3) := by decide +kernel
theorem d_A_take_15 : decode b_A_take 15 = .ok (.aload_n 0, 1) := by decide +kernel
theorem d_A_take_16 : decode b_A_take 16 = .ok (.aload_n 1, 1) := by decide +kernel
theorem d_A_take_17 : decode b_A_take 17 = .ok (.getfield 21, 3) := by decide +kernel
theorem d_A_take_20 : decode b_A_take 20 = .ok (.putfield 21, 3) := by decide +kernel
theorem d_A_take_23 : decode b_A_take 23 = .ok (.return_, 1) := by decide +kernel
theorem d_A_isZero_0 : decode b_A_isZero 0 = .ok (.aload_n 0, 1) := by decide +kernel
theorem d_A_isZero_1 : decode b_A_isZero 1 = .ok (.getfield 9, 3) := by decide +kernel
theorem d_A_isZero_4 : decode b_A_isZero 4 = .ok (.invokestatic 31, 3) := by decide +kernel
theorem d_A_isZero_7 : decode b_A_isZero 7 = .ok (.ifCond .ge 7, 3) := by decide +kernel
theorem d_A_isZero_10 : decode b_A_isZero 10 = .ok (.iconst 1, 1) := by decide +kernel
theorem d_A_isZero_11 : decode b_A_isZero 11 = .ok (.goto 4, 3) := by decide +kernel
theorem d_A_isZero_14 : decode b_A_isZero 14 = .ok (.iconst 0, 1) := by decide +kernel
theorem d_A_isZero_15 : decode b_A_isZero 15 = .ok (.ireturn, 1) := by decide +kernel
theorem d_A_sign_0 : decode b_A_sign 0 = .ok (.aload_n 0, 1) := by decide +kernel
theorem d_A_sign_1 : decode b_A_sign 1 = .ok (.invokevirtual 37, 3) := by decide +kernel
theorem d_A_sign_4 : decode b_A_sign 4 = .ok (.ifCond .eq 5, 3) := by decide +kernel
theorem d_A_sign_7 : decode b_A_sign 7 = .ok (.iconst 0, 1) := by decide +kernel
theorem d_A_sign_8 : decode b_A_sign 8 = .ok (.ireturn, 1) := by decide +kernel
theorem d_A_sign_9 : decode b_A_sign 9 = .ok (.aload_n 0, 1) := by decide +kernel
theorem d_A_sign_10 : decode b_A_sign 10 = .ok (.getfield 21, 3) := by decide +kernel
theorem d_A_sign_13 : decode b_A_sign 13 = .ok (.ifCond .eq 7, 3) := by decide +kernel
theorem d_A_sign_16 : decode b_A_sign 16 = .ok (.iconst (-1), 1) := by decide +kernel
theorem d_A_sign_17 : decode b_A_sign 17 = .ok (.goto 4, 3) := by decide +kernel
theorem d_A_sign_20 : decode b_A_sign 20 = .ok (.iconst 1, 1) := by decide +kernel
theorem d_A_sign_21 : decode b_A_sign 21 = .ok (.ireturn, 1) := by decide +kernel
theorem d_A_signAs_0 : decode b_A_signAs 0 = .ok (.aload_n 0, 1) := by decide +kernel
theorem d_A_signAs_1 : decode b_A_signAs 1 = .ok (.iload_n 1, 1) := by decide +kernel
theorem d_A_signAs_2 : decode b_A_signAs 2 = .ok (.ifCond .eq 14, 3) := by decide +kernel
theorem d_A_signAs_5 : decode b_A_signAs 5 = .ok (.aload_n 0, 1) := by decide +kernel
theorem d_A_signAs_6 : decode b_A_signAs 6 = .ok (.invokevirtual 37, 3) := by decide +kernel
theorem d_A_signAs_9 : decode b_A_signAs 9 = .ok (.ifCond .ne 7, 3) := by decide +kernel
theorem d_A_signAs_12 : decode b_A_signAs 12 = .ok (.iconst 1, 1) := by decide +kernel
theorem d_A_signAs_13 : decode b_A_signAs 13 = .ok (.goto 4, 3) := by decide +kernel
theorem d_A_signAs_16 : decode b_A_signAs 16 = .ok (.iconst 0, 1) := by decide +kernel
theorem d_A_signAs_17 : decode b_A_signAs 17 = .ok (.putfield 21, 3) := by decide +kernel
theorem d_A_signAs_20 : decode b_A_signAs 20 = .ok (.return_, 1) := by decide +kernel
theorem d_A_increase_0 : decode b_A_increase 0 = .ok (.aload_n 1, 1) := by decide +kernel
theorem d_A_increase_1 : decode b_A_increase 1 = .ok (.getfield 21, 3) := by decide +kernel
theorem d_A_increase_4 : decode b_A_increase 4 = .ok (.iload_n 2, 1) := by decide +kernel
theorem d_A_increase_5 : decode b_A_increase 5 = .ok (.if_icmp .eq 7, 3) := by decide +kernel
theorem d_A_increase_8 : decode b_A_increase 8 = .ok (.iconst 1, 1) := by decide +kernel
theorem d_A_increase_9 : decode b_A_increase 9 = .ok (.goto 4, 3) := by decide +kernel
theorem d_A_increase_12 : decode b_A_increase 12 = .ok (.iconst 0, 1) := by decide +kernel
theorem d_A_increase_13 : decode b_A_increase 13 = .ok (.istore_n 3, 1) := by decide +kernel
theorem d_A_increase_14 : decode b_A_increase 14 = .ok (.iload_n 3, 1) := by decide +kernel
theorem d_A_increase_15 : decode b_A_increase 15 = .ok (.aload_n 0, 1) := by decide +kernel
theorem d_A_increase_16 : decode b_A_increase 16 = .ok (.getfield 21, 3) := by decide +kernel
theorem d_A_increase_19 : decode b_A_increase 19 = .ok (.if_icmp .ne 17, 3) := by decide +kernel
theorem d_A_increase_22 : decode b_A_increase 22 = .ok (.aload_n 0, 1) := by decide +kernel
theorem d_A_increase_23 : decode b_A_increase 23 = .ok (.getfield 9, 3) := by decide +kernel
theorem d_A_increase_26 : decode b_A_increase 26 = .ok (.aload_n 1, 1) := by decide +kernel
theorem d_A_increase_27 : decode b_A_increase 27 = .ok (.getfield 9, 3) := by decide +kernel
theorem d_A_increase_30 : decode b_A_increase 30 = .ok (.invokestatic 41, 3) := by decide +kernel
theorem d_A_increase_33 : decode b_A_increase 33 = .ok (.goto 55, 3) := by decide +kernel
theorem d_A_increase_36 : decode b_A_increase 36 = .ok (.aload_n 0, 1) := by decide +kernel
theorem d_A_increase_37 : decode b_A_increase 37 = .ok (.getfield 9, 3) := by decide +kernel
theorem d_A_increase_40 : decode b_A_increase 40 = .ok (.aload_n 1, 1) := by decide +kernel
theorem d_A_increase_41 : decode b_A_increase 41 = .ok (.getfield 9, 3) := by decide +kernel
theorem d_A_increase_44 : decode b_A_increase 44 = .ok (.invokestatic 45, 3) := by decide +kernel
theorem d_A_increase_47 : decode b_A_increase 47 = .ok (.ifCond .lt 26, 3) := by decide +kernel
theorem d_A_increase_50 : decode b_A_increase 50 = .ok (.aload_n 0, 1) := by decide +kernel
theorem d_A_increase_51 : decode b_A_increase 51 = .ok (.getfield 9, 3) := by decide +kernel
theorem d_A_increase_54 : decode b_A_increase 54 = .ok (.aload_n 0, 1) := by decide +kernel
theorem d_A_increase_55 : decode b_A_increase 55 = .ok (.getfield 9, 3) := by decide +kernel
theorem d_A_increase_58 : decode b_A_increase 58 = .ok (.aload_n 1, 1) := by decide +kernel
theorem d_A_increase_59 : decode b_A_increase 59 = .ok (.getfield 9, 3) := by decide +kernel
theorem d_A_increase_62 : decode b_A_increase 62 = .ok (.invokestatic 49, 3) := by decide +kernel
theorem d_A_increase_65 : decode b_A_increase 65 = .ok (.aload_n 0, 1) := by decide +kernel
theorem d_A_increase_66 : decode b_A_increase 66 = .ok (.getfield 21, 3) := by decide +kernel
theorem d_A_increase_69 : decode b_A_increase 69 = .ok (.istore_n 3, 1) := by decide +kernel
theorem d_A_increase_70 : decode b_A_increase 70 = .ok (.goto 18, 3) := by decide +kernel
theorem d_A_increase_73 : decode b_A_increase 73 = .ok (.aload_n 0, 1) := by decide +kernel
theorem d_A_increase_74 : decode b_A_increase 74 = .ok (.getfield 9, 3) := by decide +kernel
theorem d_A_increase_77 : decode b_A_increase 77 = .ok (.aload_n 1, 1) := by decide +kernel
theorem d_A_increase_78 : decode b_A_increase 78 = .ok (.getfield 9, 3) := by decide +kernel
theorem d_A_increase_81 : decode b_A_increase 81 = .ok (.aload_n 0, 1) := by decide +kernel
theorem d_A_increase_82 : decode b_A_increase 82 = .ok (.getfield 9, 3) := by decide +kernel
theorem d_A_increase_85 : decode b_A_increase 85 = .ok (.invokestatic 49, 3) := by decide +kernel
theorem d_A_increase_88 : decode b_A_increase 88 = .ok (.aload_n 0, 1) := by decide +kernel
theorem d_A_increase_89 : decode b_A_increase 89 = .ok (.iload_n 3, 1) := by decide +kernel
theorem d_A_increase_90 : decode b_A_increase 90 = .ok (.invokevirtual 53, 3) := by decide +kernel
theorem d_A_increase_93 : decode b_A_increase 93 = .ok (.return_, 1) := by decide +kernel
theorem d_A_comparedWith_0 : decode b_A_comparedWith 0 = .ok (.aload_n 0, 1) := by decide +kernel
theorem d_A_comparedWith_1 : decode b_A_comparedWith 1 = .ok (.getfield 21, 3) := by decide +kernel
theorem d_A_comparedWith_4 : decode b_A_comparedWith 4 = .ok (.aload_n 1, 1) := by decide +kernel
theorem d_A_comparedWith_5 : decode b_A_comparedWith 5 = .ok (.getfield 21, 3) := by decide +kernel
theorem d_A_comparedWith_8 : decode b_A_comparedWith 8 = .ok (.if_icmp .eq 16, 3) := by decide +kernel
theorem d_A_comparedWith_11 : decode b_A_comparedWith 11 = .ok (.aload_n 0, 1) := by decide +kernel
theorem d_A_comparedWith_12 : decode b_A_comparedWith 12 = .ok (.getfield 21, 3) := by decide +kernel
theorem d_A_comparedWith_15 : decode b_A_comparedWith 15 = .ok (.ifCond .eq 7, 3) := by decide +kernel
theorem d_A_comparedWith_18 : decode b_A_comparedWith 18 = .ok (.iconst (-1), 1) := by decide +kernel
theorem d_A_comparedWith_19 : decode b_A_comparedWith 19 = .ok (.goto 4, 3) := by decide +kernel
theorem d_A_comparedWith_22 : decode b_A_comparedWith 22 = .ok (.iconst 1, 1) := by decide +kernel
theorem d_A_comparedWith_23 : decode b_A_comparedWith 23 = .ok (.ireturn, 1) := by decide +kernel
theorem d_A_comparedWith_24 : decode b_A_comparedWith 24 = .ok (.aload_n 0, 1) := by decide +kernel
theorem d_A_comparedWith_25 : decode b_A_comparedWith 25 = .ok (.getfield 9, 3) := by decide +kernel
theorem d_A_comparedWith_28 : decode b_A_comparedWith 28 = .ok (.aload_n 1, 1) := by decide +kernel
theorem d_A_comparedWith_29 : decode b_A_comparedWith 29 = .ok (.getfield 9, 3) := by decide +kernel
theorem d_A_comparedWith_32 : decode b_A_comparedWith 32 = .ok (.invokestatic 45, 3) := by decide +kernel
theorem d_A_comparedWith_35 : decode b_A_comparedWith 35 = .ok (.istore_n 2, 1) := by decide +kernel
theorem d_A_comparedWith_36 : decode b_A_comparedWith 36 = .ok (.aload_n 0, 1) := by decide +kernel
theorem d_A_comparedWith_37 : decode b_A_comparedWith 37 = .ok (.getfield 21, 3) := by decide +kernel
theorem d_A_comparedWith_40 : decode b_A_comparedWith 40 = .ok (.ifCond .eq 8, 3) := by decide +kernel
theorem d_A_comparedWith_43 : decode b_A_comparedWith 43 = .ok (.iload_n 2, 1) := by decide +kernel
theorem d_A_comparedWith_44 : decode b_A_comparedWith 44 = .ok (.ineg, 1) := by decide +kernel
theorem d_A_comparedWith_45 : decode b_A_comparedWith 45 = .ok (.goto 4, 3) := by decide +kernel
theorem d_A_comparedWith_48 : decode b_A_comparedWith 48 = .ok (.iload_n 2, 1) := by decide +kernel
theorem d_A_comparedWith_49 : decode b_A_comparedWith 49 = .ok (.ireturn, 1) := by decide +kernel
theorem d_A_reachesTenTo_0 : decode b_A_reachesTenTo 0 = .ok (.aload_n 0, 1) := by decide +kernel
theorem d_A_reachesTenTo_1 : decode b_A_reachesTenTo 1 = .ok (.getfield 9, 3) := by decide +kernel
theorem d_A_reachesTenTo_4 : decode b_A_reachesTenTo 4 = .ok (.invokestatic 57, 3) := by decide +kernel
theorem d_A_reachesTenTo_7 : decode b_A_reachesTenTo 7 = .ok (.bipush 24, 2) := by decide +kernel
theorem d_A_reachesTenTo_9 : decode b_A_reachesTenTo 9 = .ok (.iload_n 1, 1) := by decide +kernel
theorem d_A_reachesTenTo_10 : decode b_A_reachesTenTo 10 = .ok (.iadd, 1) := by decide +kernel
theorem d_A_reachesTenTo_11 : decode b_A_reachesTenTo 11 = .ok (.if_icmp .le 7, 3) := by decide +kernel
theorem d_A_reachesTenTo_14 : decode b_A_reachesTenTo 14 = .ok (.iconst 1, 1) := by decide +kernel
theorem d_A_reachesTenTo_15 : decode b_A_reachesTenTo 15 = .ok (.goto 4, 3) := by decide +kernel
theorem d_A_reachesTenTo_18 : decode b_A_reachesTenTo 18 = .ok (.iconst 0, 1) := by decide +kernel
theorem d_A_reachesTenTo_19 : decode b_A_reachesTenTo 19 = .ok (.ireturn, 1) := by decide +kernel
theorem d_A_weight_0 : decode b_A_weight 0 = .ok (.aload_n 0, 1) := by decide +kernel
theorem d_A_weight_1 : decode b_A_weight 1 = .ok (.getfield 9, 3) := by decide +kernel
theorem d_A_weight_4 : decode b_A_weight 4 = .ok (.invokestatic 31, 3) := by decide +kernel
theorem d_A_weight_7 : decode b_A_weight 7 = .ok (.istore_n 1, 1) := by decide +kernel
theorem d_A_weight_8 : decode b_A_weight 8 = .ok (.iload_n 1, 1) := by decide +kernel
theorem d_A_weight_9 : decode b_A_weight 9 = .ok (.ifCond .ge 7, 3) := by decide +kernel
theorem d_A_weight_12 : decode b_A_weight 12 = .ok (.iconst 0, 1) := by decide +kernel
theorem d_A_weight_13 : decode b_A_weight 13 = .ok (.goto 7, 3) := by decide +kernel
theorem d_A_weight_16 : decode b_A_weight 16 = .ok (.iload_n 1, 1) := by decide +kernel
theorem d_A_weight_17 : decode b_A_weight 17 = .ok (.bipush 6, 2) := by decide +kernel
theorem d_A_weight_19 : decode b_A_weight 19 = .ok (.isub, 1) := by decide +kernel
theorem d_A_weight_20 : decode b_A_weight 20 = .ok (.ireturn, 1) := by decide +kernel
theorem d_A_lead_0 : decode b_A_lead 0 = .ok (.aload_n 0, 1) := by decide +kernel
theorem d_A_lead_1 : decode b_A_lead 1 = .ok (.getfield 9, 3) := by decide +kernel
theorem d_A_lead_4 : decode b_A_lead 4 = .ok (.invokestatic 31, 3) := by decide +kernel
theorem d_A_lead_7 : decode b_A_lead 7 = .ok (.istore_n 1, 1) := by decide +kernel
theorem d_A_lead_8 : decode b_A_lead 8 = .ok (.iload_n 1, 1) := by decide +kernel
theorem d_A_lead_9 : decode b_A_lead 9 = .ok (.ifCond .ge 7, 3) := by decide +kernel
theorem d_A_lead_12 : decode b_A_lead 12 = .ok (.iconst 0, 1) := by decide +kernel
theorem d_A_lead_13 : decode b_A_lead 13 = .ok (.goto 9, 3) := by decide +kernel
theorem d_A_lead_16 : decode b_A_lead 16 = .ok (.aload_n 0, 1) := by decide +kernel
theorem d_A_lead_17 : decode b_A_lead 17 = .ok (.getfield 9, 3) := by decide +kernel
theorem d_A_lead_20 : decode b_A_lead 20 = .ok (.iload_n 1, 1) := by decide +kernel
theorem d_A_lead_21 : decode b_A_lead 21 = .ok (.iaload, 1) := by decide +kernel
theorem d_A_lead_22 : decode b_A_lead 22 = .ok (.ireturn, 1) := by decide +kernel
theorem d_N_init_0 : decode b_N_init 0 = .ok (.aload_n 0, 1) := by decide +kernel
theorem d_N_init_1 : decode b_N_init 1 = .ok (.invokespecial 3, 3) := by decide +kernel
theorem d_N_init_4 : decode b_N_init 4 = .ok (.aload_n 0, 1) := by decide +kernel
theorem d_N_init_5 : decode b_N_init 5 = .ok (.getstatic 9, 3) := by decide +kernel
theorem d_N_init_8 : decode b_N_init 8 = .ok (.putfield 15, 3) := by decide +kernel
theorem d_N_init_11 : decode b_N_init 11 = .ok (.aload_n 0, 1) := by decide +kernel
theorem d_N_init_12 : decode b_N_init 12 = .ok (.new 20, 3) := by decide +kernel
theorem d_N_init_15 : decode b_N_init 15 = .ok (.dup, 1) := by decide +kernel
theorem d_N_init_16 : decode b_N_init 16 = .ok (.invokespecial 22, 3) := by decide +kernel
theorem d_N_init_19 : decode b_N_init 19 = .ok (.putfield 23, 3) := by decide +kernel
theorem d_N_init_22 : decode b_N_init 22 = .ok (.return_, 1) := by decide +kernel
theorem d_N_isFinite_0 : decode b_N_isFinite 0 = .ok (.aload_n 0, 1) := by decide +kernel
theorem d_N_isFinite_1 : decode b_N_isFinite 1 = .ok (.getfield 15, 3) := by decide +kernel
theorem d_N_isFinite_4 : decode b_N_isFinite 4 = .ok (.getstatic 9, 3) := by decide +kernel
theorem d_N_isFinite_7 : decode b_N_isFinite 7 = .ok (.if_acmp .ne 7, 3) := by decide +kernel
theorem d_N_isFinite_10 : decode b_N_isFinite 10 = .ok (.iconst 1, 1) := by decide +kernel
theorem d_N_isFinite_11 : decode b_N_isFinite 11 = .ok (.goto 4, 3) := by decide +kernel
theorem d_N_isFinite_14 : decode b_N_isFinite 14 = .ok (.iconst 0, 1) := by decide +kernel
theorem d_N_isFinite_15 : decode b_N_isFinite 15 = .ok (.ireturn, 1) := by decide +kernel
theorem d_N_take_0 : decode b_N_take 0 = .ok (.aload_n 0, 1) := by decide +kernel
theorem d_N_take_1 : decode b_N_take 1 = .ok (.aload_n 1, 1) := by decide +kernel
theorem d_N_take_2 : decode b_N_take 2 = .ok (.getfield 15, 3) := by decide +kernel
theorem d_N_take_5 : decode b_N_take 5 = .ok (.putfield 15, 3) := by decide +kernel
theorem d_N_take_8 : decode b_N_take 8 = .ok (.aload_n 0, 1) := by decide +kernel
theorem d_N_take_9 : decode b_N_take 9 = .ok (.aload_n 1, 1) := by decide +kernel
theorem d_N_take_10 : decode b_N_take 10 = .ok (.getfield 27, 3) := by decide +kernel
theorem d_N_take_13 : decode b_N_take 13 = .ok (.putfield 27, 3) := by decide +kernel
theorem d_N_take_16 : decode b_N_take 16 = .ok (.aload_n 0, 1) := by decide +kernel
theorem d_N_take_17 : decode b_N_take 17 = .ok (.getfield 23, 3) := by decide +kernel
theorem d_N_take_20 : decode b_N_take 20 = .ok (.aload_n 1, 1) := by decide +kernel
theorem d_N_take_21 : decode b_N_take 21 = .ok (.getfield 23, 3) := by decide +kernel
theorem d_N_take_24 : decode b_N_take 24 = .ok (.invokevirtual 31, 3) := by decide +kernel
theorem d_N_take_27 : decode b_N_take 27 = .ok (.return_, 1) := by decide +kernel
theorem d_N_become_0 : decode b_N_become 0 = .ok (.aload_n 0, 1) := by decide +kernel
theorem d_N_become_1 : decode b_N_become 1 = .ok (.aload_n 1, 1) := by decide +kernel
theorem d_N_become_2 : decode b_N_become 2 = .ok (.putfield 15, 3) := by decide +kernel
theorem d_N_become_5 : decode b_N_become 5 = .ok (.aload_n 0, 1) := by decide +kernel
theorem d_N_become_6 : decode b_N_become 6 = .ok (.iconst 0, 1) := by decide +kernel
theorem d_N_become_7 : decode b_N_become 7 = .ok (.putfield 27, 3) := by decide +kernel
theorem d_N_become_10 : decode b_N_become 10 = .ok (.aload_n 0, 1) := by decide +kernel
theorem d_N_become_11 : decode b_N_become 11 = .ok (.getfield 23, 3) := by decide +kernel
theorem d_N_become_14 : decode b_N_become 14 = .ok (.invokevirtual 35, 3) := by decide +kernel
theorem d_N_become_17 : decode b_N_become 17 = .ok (.return_, 1) := by decide +kernel
theorem d_N_becomeInfinite_0 : decode b_N_becomeInfinite 0 = .ok (.aload_n 0, 1) := by decide +kernel
theorem d_N_becomeInfinite_1 : decode b_N_becomeInfinite 1 = .ok (.iload_n 1, 1) := by decide +kernel
theorem d_N_becomeInfinite_2 : decode b_N_becomeInfinite 2 = .ok (.ifCond .ge 9, 3) := by decide +kernel
theorem d_N_becomeInfinite_5 : decode b_N_becomeInfinite 5 = .ok (.getstatic 38, 3) := by decide +kernel
theorem d_N_becomeInfinite_8 : decode b_N_becomeInfinite 8 = .ok (.goto 6, 3) := by decide +kernel
theorem d_N_becomeInfinite_11 : decode b_N_becomeInfinite 11 = .ok (.getstatic 41, 3) := by decide +kernel
theorem d_N_becomeInfinite_14 : decode b_N_becomeInfinite 14 = .ok (.invokevirtual 44, 3) := by decide +kernel
theorem d_N_becomeInfinite_17 : decode b_N_becomeInfinite 17 = .ok (.return_, 1) := by decide +kernel
theorem d_N_becomeSmall_0 : decode b_N_becomeSmall 0 = .ok (.aload_n 0, 1) := by decide +kernel
theorem d_N_becomeSmall_1 : decode b_N_becomeSmall 1 = .ok (.getstatic 9, 3) := by decide +kernel
theorem d_N_becomeSmall_4 : decode b_N_becomeSmall 4 = .ok (.invokevirtual 44, 3) := by decide +kernel
theorem d_N_becomeSmall_7 : decode b_N_becomeSmall 7 = .ok (.aload_n 0, 1) := by decide +kernel
theorem d_N_becomeSmall_8 : decode b_N_becomeSmall 8 = .ok (.getfield 23, 3) := by decide +kernel
theorem d_N_becomeSmall_11 : decode b_N_becomeSmall 11 = .ok (.getfield 48, 3) := by decide +kernel
theorem d_N_becomeSmall_14 : decode b_N_becomeSmall 14 = .ok (.bipush 6, 2) := by decide +kernel
theorem d_N_becomeSmall_16 : decode b_N_becomeSmall 16 = .ok (.iload_n 1, 1) := by decide +kernel
theorem d_N_becomeSmall_17 : decode b_N_becomeSmall 17 = .ok (.iastore, 1) := by decide +kernel
theorem d_N_becomeSmall_18 : decode b_N_becomeSmall 18 = .ok (.return_, 1) := by decide +kernel
theorem d_N_sign_0 : decode b_N_sign 0 = .ok (.aload_n 0, 1) := by decide +kernel
theorem d_N_sign_1 : decode b_N_sign 1 = .ok (.invokevirtual 52, 3) := by decide +kernel
theorem d_N_sign_4 : decode b_N_sign 4 = .ok (.ifCond .eq 11, 3) := by decide +kernel
theorem d_N_sign_7 : decode b_N_sign 7 = .ok (.aload_n 0, 1) := by decide +kernel
theorem d_N_sign_8 : decode b_N_sign 8 = .ok (.getfield 23, 3) := by decide +kernel
theorem d_N_sign_11 : decode b_N_sign 11 = .ok (.invokevirtual 56, 3) := by decide +kernel
theorem d_N_sign_14 : decode b_N_sign 14 = .ok (.ireturn, 1) := by decide +kernel
theorem d_N_sign_15 : decode b_N_sign 15 = .ok (.aload_n 0, 1) := by decide +kernel
theorem d_N_sign_16 : decode b_N_sign 16 = .ok (.getfield 15, 3) := by decide +kernel
theorem d_N_sign_19 : decode b_N_sign 19 = .ok (.getstatic 38, 3) := by decide +kernel
theorem d_N_sign_22 : decode b_N_sign 22 = .ok (.if_acmp .ne 7, 3) := by decide +kernel
theorem d_N_sign_25 : decode b_N_sign 25 = .ok (.iconst (-1), 1) := by decide +kernel
theorem d_N_sign_26 : decode b_N_sign 26 = .ok (.goto 4, 3) := by decide +kernel
theorem d_N_sign_29 : decode b_N_sign 29 = .ok (.iconst 1, 1) := by decide +kernel
theorem d_N_sign_30 : decode b_N_sign 30 = .ok (.ireturn, 1) := by decide +kernel
theorem d_N_isZero_0 : decode b_N_isZero 0 = .ok (.aload_n 0, 1) := by decide +kernel
theorem d_N_isZero_1 : decode b_N_isZero 1 = .ok (.invokevirtual 52, 3) := by decide +kernel
theorem d_N_isZero_4 : decode b_N_isZero 4 = .ok (.ifCond .eq 17, 3) := by decide +kernel
theorem d_N_isZero_7 : decode b_N_isZero 7 = .ok (.aload_n 0, 1) := by decide +kernel
theorem d_N_isZero_8 : decode b_N_isZero 8 = .ok (.getfield 23, 3) := by decide +kernel
theorem d_N_isZero_11 : decode b_N_isZero 11 = .ok (.invokevirtual 60, 3) := by decide +kernel
theorem d_N_isZero_14 : decode b_N_isZero 14 = .ok (.ifCond .eq 7, 3) := by decide +kernel
theorem d_N_isZero_17 : decode b_N_isZero 17 = .ok (.iconst 1, 1) := by decide +kernel
theorem d_N_isZero_18 : decode b_N_isZero 18 = .ok (.goto 4, 3) := by decide +kernel
theorem d_N_isZero_21 : decode b_N_isZero 21 = .ok (.iconst 0, 1) := by decide +kernel
theorem d_N_isZero_22 : decode b_N_isZero 22 = .ok (.ireturn, 1) := by decide +kernel
theorem d_N_isTooLarge_0 : decode b_N_isTooLarge 0 = .ok (.aload_n 0, 1) := by decide +kernel
theorem d_N_isTooLarge_1 : decode b_N_isTooLarge 1 = .ok (.getfield 23, 3) := by decide +kernel
theorem d_N_isTooLarge_4 : decode b_N_isTooLarge 4 = .ok (.bipush 32, 2) := by decide +kernel
theorem d_N_isTooLarge_6 : decode b_N_isTooLarge 6 = .ok (.invokevirtual 63, 3) := by decide +kernel
theorem d_N_isTooLarge_9 : decode b_N_isTooLarge 9 = .ok (.ireturn, 1) := by decide +kernel
theorem d_N_roundAt_0 : decode b_N_roundAt 0 = .ok (.aload_n 0, 1) := by decide +kernel
theorem d_N_roundAt_1 : decode b_N_roundAt 1 = .ok (.getfield 23, 3) := by decide +kernel
theorem d_N_roundAt_4 : decode b_N_roundAt 4 = .ok (.getfield 48, 3) := by decide +kernel
theorem d_N_roundAt_7 : decode b_N_roundAt 7 = .ok (.bipush 24, 2) := by decide +kernel
theorem d_N_roundAt_9 : decode b_N_roundAt 9 = .ok (.iload_n 1, 1) := by decide +kernel
theorem d_N_roundAt_10 : decode b_N_roundAt 10 = .ok (.isub, 1) := by decide +kernel
theorem d_N_roundAt_11 : decode b_N_roundAt 11 = .ok (.invokestatic 67, 3) := by decide +kernel
theorem d_N_roundAt_14 : decode b_N_roundAt 14 = .ok (.aload_n 0, 1) := by decide +kernel
theorem d_N_roundAt_15 : decode b_N_roundAt 15 = .ok (.iload_n 1, 1) := by decide +kernel
theorem d_N_roundAt_16 : decode b_N_roundAt 16 = .ok (.invokevirtual 73, 3) := by decide +kernel
theorem d_N_roundAt_19 : decode b_N_roundAt 19 = .ok (.return_, 1) := by decide +kernel
theorem d_N_truncateAt_0 : decode b_N_truncateAt 0 = .ok (.aload_n 0, 1) := by decide +kernel
theorem d_N_truncateAt_1 : decode b_N_truncateAt 1 = .ok (.getfield 23, 3) := by decide +kernel
theorem d_N_truncateAt_4 : decode b_N_truncateAt 4 = .ok (.getfield 48, 3) := by decide +kernel
theorem d_N_truncateAt_7 : decode b_N_truncateAt 7 = .ok (.bipush 24, 2) := by decide +kernel
theorem d_N_truncateAt_9 : decode b_N_truncateAt 9 = .ok (.iload_n 1, 1) := by decide +kernel
theorem d_N_truncateAt_10 : decode b_N_truncateAt 10 = .ok (.isub, 1) := by decide +kernel
theorem d_N_truncateAt_11 : decode b_N_truncateAt 11 = .ok (.invokestatic 77, 3) := by decide +kernel
theorem d_N_truncateAt_14 : decode b_N_truncateAt 14 = .ok (.aload_n 0, 1) := by decide +kernel
theorem d_N_truncateAt_15 : decode b_N_truncateAt 15 = .ok (.iload_n 1, 1) := by decide +kernel
theorem d_N_truncateAt_16 : decode b_N_truncateAt 16 = .ok (.invokevirtual 73, 3) := by decide +kernel
theorem d_N_truncateAt_19 : decode b_N_truncateAt 19 = .ok (.return_, 1) := by decide +kernel
theorem d_N_keepSignAndPlaces_0 : decode b_N_keepSignAndPlaces 0 = .ok (.aload_n 0, 1) := by decide +kernel
theorem d_N_keepSignAndPlaces_1 : decode b_N_keepSignAndPlaces 1 = .ok (.getfield 23, 3) := by decide +kernel
theorem d_N_keepSignAndPlaces_4 : decode b_N_keepSignAndPlaces 4 = .ok (.aload_n 0, 1) := by decide +kernel
theorem d_N_keepSignAndPlaces_5 : decode b_N_keepSignAndPlaces 5 = .ok (.getfield 23, 3) := by decide +kernel
theorem d_N_keepSignAndPlaces_8 : decode b_N_keepSignAndPlaces 8 = .ok (.getfield 80, 3) := by decide +kernel
theorem d_N_keepSignAndPlaces_11 : decode b_N_keepSignAndPlaces 11 = .ok (.invokevirtual 84, 3) := by decide +kernel
theorem d_N_keepSignAndPlaces_14 : decode b_N_keepSignAndPlaces 14 = .ok (.aload_n 0, 1) := by decide +kernel
theorem d_N_keepSignAndPlaces_15 : decode b_N_keepSignAndPlaces 15 = .ok (.iload_n 1, 1) := by decide +kernel
theorem d_N_keepSignAndPlaces_16 : decode b_N_keepSignAndPlaces 16 = .ok (.iconst 0, 1) := by decide +kernel
theorem d_N_keepSignAndPlaces_17 : decode b_N_keepSignAndPlaces 17 = .ok (.invokestatic 88, 3) := by decide +kernel
theorem d_N_keepSignAndPlaces_20 : decode b_N_keepSignAndPlaces 20 = .ok (.putfield 27, 3) := by decide +kernel
theorem d_N_keepSignAndPlaces_23 : decode b_N_keepSignAndPlaces 23 = .ok (.return_, 1) := by decide +kernel
theorem d_N_makeWhole_0 : decode b_N_makeWhole 0 = .ok (.aload_n 0, 1) := by decide +kernel
theorem d_N_makeWhole_1 : decode b_N_makeWhole 1 = .ok (.getfield 23, 3) := by decide +kernel
theorem d_N_makeWhole_4 : decode b_N_makeWhole 4 = .ok (.getfield 80, 3) := by decide +kernel
theorem d_N_makeWhole_7 : decode b_N_makeWhole 7 = .ok (.istore_n 2, 1) := by decide +kernel
theorem d_N_makeWhole_8 : decode b_N_makeWhole 8 = .ok (.iload_n 2, 1) := by decide +kernel
theorem d_N_makeWhole_9 : decode b_N_makeWhole 9 = .ok (.iload_n 1, 1) := by decide +kernel
theorem d_N_makeWhole_10 : decode b_N_makeWhole 10 = .ok (.if_icmp .ne 14, 3) := by decide +kernel
theorem d_N_makeWhole_13 : decode b_N_makeWhole 13 = .ok (.aload_n 0, 1) := by decide +kernel
theorem d_N_makeWhole_14 : decode b_N_makeWhole 14 = .ok (.invokevirtual 94, 3) := by decide +kernel
theorem d_N_makeWhole_17 : decode b_N_makeWhole 17 = .ok (.ifCond .eq 7, 3) := by decide +kernel
theorem d_N_makeWhole_20 : decode b_N_makeWhole 20 = .ok (.iconst 1, 1) := by decide +kernel
theorem d_N_makeWhole_21 : decode b_N_makeWhole 21 = .ok (.goto 4, 3) := by decide +kernel
theorem d_N_makeWhole_24 : decode b_N_makeWhole 24 = .ok (.iconst 0, 1) := by decide +kernel
theorem d_N_makeWhole_25 : decode b_N_makeWhole 25 = .ok (.istore_n 3, 1) := by decide +kernel
theorem d_N_makeWhole_26 : decode b_N_makeWhole 26 = .ok (.aload_n 0, 1) := by decide +kernel
theorem d_N_makeWhole_27 : decode b_N_makeWhole 27 = .ok (.iconst 0, 1) := by decide +kernel
theorem d_N_makeWhole_28 : decode b_N_makeWhole 28 = .ok (.invokevirtual 97, 3) := by decide +kernel
theorem d_N_makeWhole_31 : decode b_N_makeWhole 31 = .ok (.iload_n 3, 1) := by decide +kernel
theorem d_N_makeWhole_32 : decode b_N_makeWhole 32 = .ok (.ifCond .eq 23, 3) := by decide +kernel
theorem d_N_makeWhole_35 : decode b_N_makeWhole 35 = .ok (.aload_n 0, 1) := by decide +kernel
theorem d_N_makeWhole_36 : decode b_N_makeWhole 36 = .ok (.getfield 23, 3) := by decide +kernel
theorem d_N_makeWhole_39 : decode b_N_makeWhole 39 = .ok (.getfield 48, 3) := by decide +kernel
theorem d_N_makeWhole_42 : decode b_N_makeWhole 42 = .ok (.bipush 24, 2) := by decide +kernel
theorem d_N_makeWhole_44 : decode b_N_makeWhole 44 = .ok (.invokestatic 100, 3) := by decide +kernel
theorem d_N_makeWhole_47 : decode b_N_makeWhole 47 = .ok (.aload_n 0, 1) := by decide +kernel
theorem d_N_makeWhole_48 : decode b_N_makeWhole 48 = .ok (.getfield 23, 3) := by decide +kernel
theorem d_N_makeWhole_51 : decode b_N_makeWhole 51 = .ok (.iload_n 2, 1) := by decide +kernel
theorem d_N_makeWhole_52 : decode b_N_makeWhole 52 = .ok (.invokevirtual 84, 3) := by decide +kernel
theorem d_N_makeWhole_55 : decode b_N_makeWhole 55 = .ok (.return_, 1) := by decide +kernel
theorem d_N_hasFraction_0 : decode b_N_hasFraction 0 = .ok (.iconst 0, 1) := by decide +kernel
theorem d_N_hasFraction_1 : decode b_N_hasFraction 1 = .ok (.istore_n 1, 1) := by decide +kernel
theorem d_N_hasFraction_2 : decode b_N_hasFraction 2 = .ok (.iload_n 1, 1) := by decide +kernel
theorem d_N_hasFraction_3 : decode b_N_hasFraction 3 = .ok (.bipush 6, 2) := by decide +kernel
theorem d_N_hasFraction_5 : decode b_N_hasFraction 5 = .ok (.if_icmp .ge 23, 3) := by decide +kernel
theorem d_N_hasFraction_8 : decode b_N_hasFraction 8 = .ok (.aload_n 0, 1) := by decide +kernel
theorem d_N_hasFraction_9 : decode b_N_hasFraction 9 = .ok (.getfield 23, 3) := by decide +kernel
theorem d_N_hasFraction_12 : decode b_N_hasFraction 12 = .ok (.getfield 48, 3) := by decide +kernel
theorem d_N_hasFraction_15 : decode b_N_hasFraction 15 = .ok (.iload_n 1, 1) := by decide +kernel
theorem d_N_hasFraction_16 : decode b_N_hasFraction 16 = .ok (.iaload, 1) := by decide +kernel
theorem d_N_hasFraction_17 : decode b_N_hasFraction 17 = .ok (.ifCond .eq 5, 3) := by decide +kernel
theorem d_N_hasFraction_20 : decode b_N_hasFraction 20 = .ok (.iconst 1, 1) := by decide +kernel
theorem d_N_hasFraction_21 : decode b_N_hasFraction 21 = .ok (.ireturn, 1) := by decide +kernel
theorem d_N_hasFraction_22 : decode b_N_hasFraction 22 = .ok (.iinc 1 1, 3) := by decide +kernel
theorem d_N_hasFraction_25 : decode b_N_hasFraction 25 = .ok (.goto (-23), 3) := by decide +kernel
theorem d_N_hasFraction_28 : decode b_N_hasFraction 28 = .ok (.iconst 0, 1) := by decide +kernel
theorem d_N_hasFraction_29 : decode b_N_hasFraction 29 = .ok (.ireturn, 1) := by decide +kernel
theorem d_N_trim_0 : decode b_N_trim 0 = .ok (.aload_n 0, 1) := by decide +kernel
theorem d_N_trim_1 : decode b_N_trim 1 = .ok (.getfield 27, 3) := by decide +kernel
theorem d_N_trim_4 : decode b_N_trim 4 = .ok (.ifCond .le 36, 3) := by decide +kernel
theorem d_N_trim_7 : decode b_N_trim 7 = .ok (.aload_n 0, 1) := by decide +kernel
theorem d_N_trim_8 : decode b_N_trim 8 = .ok (.getfield 23, 3) := by decide +kernel
theorem d_N_trim_11 : decode b_N_trim 11 = .ok (.getfield 48, 3) := by decide +kernel
theorem d_N_trim_14 : decode b_N_trim 14 = .ok (.bipush 24, 2) := by decide +kernel
theorem d_N_trim_16 : decode b_N_trim 16 = .ok (.aload_n 0, 1) := by decide +kernel
theorem d_N_trim_17 : decode b_N_trim 17 = .ok (.getfield 27, 3) := by decide +kernel
theorem d_N_trim_20 : decode b_N_trim 20 = .ok (.isub, 1) := by decide +kernel
theorem d_N_trim_21 : decode b_N_trim 21 = .ok (.invokestatic 103, 3) := by decide +kernel
theorem d_N_trim_24 : decode b_N_trim 24 = .ok (.ifCond .ne 16, 3) := by decide +kernel
theorem d_N_trim_27 : decode b_N_trim 27 = .ok (.aload_n 0, 1) := by decide +kernel
theorem d_N_trim_28 : decode b_N_trim 28 = .ok (.dup, 1) := by decide +kernel
theorem d_N_trim_29 : decode b_N_trim 29 = .ok (.getfield 27, 3) := by decide +kernel
theorem d_N_trim_32 : decode b_N_trim 32 = .ok (.iconst 1, 1) := by decide +kernel
theorem d_N_trim_33 : decode b_N_trim 33 = .ok (.isub, 1) := by decide +kernel
theorem d_N_trim_34 : decode b_N_trim 34 = .ok (.putfield 27, 3) := by decide +kernel
theorem d_N_trim_37 : decode b_N_trim 37 = .ok (.goto (-37), 3) := by decide +kernel
theorem d_N_trim_40 : decode b_N_trim 40 = .ok (.return_, 1) := by decide +kernel
theorem d_N_comparedWith_0 : decode b_N_comparedWith 0 = .ok (.aload_n 0, 1) := by decide +kernel
theorem d_N_comparedWith_1 : decode b_N_comparedWith 1 = .ok (.invokevirtual 52, 3) := by decide +kernel
theorem d_N_comparedWith_4 : decode b_N_comparedWith 4 = .ok (.ifCond .eq 22, 3) := by decide +kernel
theorem d_N_comparedWith_7 : decode b_N_comparedWith 7 = .ok (.aload_n 1, 1) := by decide +kernel
theorem d_N_comparedWith_8 : decode b_N_comparedWith 8 = .ok (.invokevirtual 52, 3) := by decide +kernel
theorem d_N_comparedWith_11 : decode b_N_comparedWith 11 = .ok (.ifCond .eq 15, 3) := by decide +kernel
theorem d_N_comparedWith_14 : decode b_N_comparedWith 14 = .ok (.aload_n 0, 1) := by decide +kernel
theorem d_N_comparedWith_15 : decode b_N_comparedWith 15 = .ok (.getfield 23, 3) := by decide +kernel
theorem d_N_comparedWith_18 : decode b_N_comparedWith 18 = .ok (.aload_n 1, 1) := by decide +kernel
theorem d_N_comparedWith_19 : decode b_N_comparedWith 19 = .ok (.getfield 23, 3) := by decide +kernel
theorem d_N_comparedWith_22 : decode b_N_comparedWith 22 = .ok (.invokevirtual 107, 3) := by decide +kernel
theorem d_N_comparedWith_25 : decode b_N_comparedWith 25 = .ok (.ireturn, 1) := by decide +kernel
theorem d_N_comparedWith_26 : decode b_N_comparedWith 26 = .ok (.aload_n 0, 1) := by decide +kernel
theorem d_N_comparedWith_27 : decode b_N_comparedWith 27 = .ok (.getfield 15, 3) := by decide +kernel
theorem d_N_comparedWith_30 : decode b_N_comparedWith 30 = .ok (.getfield 111, 3) := by decide +kernel
theorem d_N_comparedWith_33 : decode b_N_comparedWith 33 = .ok (.aload_n 1, 1) := by decide +kernel
theorem d_N_comparedWith_34 : decode b_N_comparedWith 34 = .ok (.getfield 15, 3) := by decide +kernel
theorem d_N_comparedWith_37 : decode b_N_comparedWith 37 = .ok (.getfield 111, 3) := by decide +kernel
theorem d_N_comparedWith_40 : decode b_N_comparedWith 40 = .ok (.isub, 1) := by decide +kernel
theorem d_N_comparedWith_41 : decode b_N_comparedWith 41 = .ok (.invokestatic 114, 3) := by decide +kernel
theorem d_N_comparedWith_44 : decode b_N_comparedWith 44 = .ok (.ireturn, 1) := by decide +kernel
theorem d_N_textLength_0 : decode b_N_textLength 0 = .ok (.aload_n 0, 1) := by decide +kernel
theorem d_N_textLength_1 : decode b_N_textLength 1 = .ok (.invokevirtual 52, 3) := by decide +kernel
theorem d_N_textLength_4 : decode b_N_textLength 4 = .ok (.ifCond .ne 14, 3) := by decide +kernel
theorem d_N_textLength_7 : decode b_N_textLength 7 = .ok (.aload_n 0, 1) := by decide +kernel
theorem d_N_textLength_8 : decode b_N_textLength 8 = .ok (.getfield 15, 3) := by decide +kernel
theorem d_N_textLength_11 : decode b_N_textLength 11 = .ok (.getfield 120, 3) := by decide +kernel
theorem d_N_textLength_14 : decode b_N_textLength 14 = .ok (.invokevirtual 124, 3) := by decide +kernel
theorem d_N_textLength_17 : decode b_N_textLength 17 = .ok (.ireturn, 1) := by decide +kernel
theorem d_N_textLength_18 : decode b_N_textLength 18 = .ok (.aload_n 0, 1) := by decide +kernel
theorem d_N_textLength_19 : decode b_N_textLength 19 = .ok (.getfield 23, 3) := by decide +kernel
theorem d_N_textLength_22 : decode b_N_textLength 22 = .ok (.getfield 80, 3) := by decide +kernel
theorem d_N_textLength_25 : decode b_N_textLength 25 = .ok (.ifCond .eq 7, 3) := by decide +kernel
theorem d_N_textLength_28 : decode b_N_textLength 28 = .ok (.iconst 1, 1) := by decide +kernel
theorem d_N_textLength_29 : decode b_N_textLength 29 = .ok (.goto 4, 3) := by decide +kernel
theorem d_N_textLength_32 : decode b_N_textLength 32 = .ok (.iconst 0, 1) := by decide +kernel
theorem d_N_textLength_33 : decode b_N_textLength 33 = .ok (.istore_n 1, 1) := by decide +kernel
theorem d_N_textLength_34 : decode b_N_textLength 34 = .ok (.iload_n 1, 1) := by decide +kernel
theorem d_N_textLength_35 : decode b_N_textLength 35 = .ok (.aload_n 0, 1) := by decide +kernel
theorem d_N_textLength_36 : decode b_N_textLength 36 = .ok (.invokevirtual 129, 3) := by decide +kernel
theorem d_N_textLength_39 : decode b_N_textLength 39 = .ok (.iadd, 1) := by decide +kernel
theorem d_N_textLength_40 : decode b_N_textLength 40 = .ok (.aload_n 0, 1) := by decide +kernel
theorem d_N_textLength_41 : decode b_N_textLength 41 = .ok (.getfield 27, 3) := by decide +kernel
theorem d_N_textLength_44 : decode b_N_textLength 44 = .ok (.ifCond .le 12, 3) := by decide +kernel
theorem d_N_textLength_47 : decode b_N_textLength 47 = .ok (.iconst 1, 1) := by decide +kernel
theorem d_N_textLength_48 : decode b_N_textLength 48 = .ok (.aload_n 0, 1) := by decide +kernel
theorem d_N_textLength_49 : decode b_N_textLength 49 = .ok (.getfield 27, 3) := by decide +kernel
theorem d_N_textLength_52 : decode b_N_textLength 52 = .ok (.iadd, 1) := by decide +kernel
theorem d_N_textLength_53 : decode b_N_textLength 53 = .ok (.goto 4, 3) := by decide +kernel
theorem d_N_textLength_56 : decode b_N_textLength 56 = .ok (.iconst 0, 1) := by decide +kernel
theorem d_N_textLength_57 : decode b_N_textLength 57 = .ok (.iadd, 1) := by decide +kernel
theorem d_N_textLength_58 : decode b_N_textLength 58 = .ok (.ireturn, 1) := by decide +kernel
theorem d_N_textCharacter_0 : decode b_N_textCharacter 0 = .ok (.aload_n 0, 1) := by decide +kernel
theorem d_N_textCharacter_1 : decode b_N_textCharacter 1 = .ok (.invokevirtual 52, 3) := by decide +kernel
theorem d_N_textCharacter_4 : decode b_N_textCharacter 4 = .ok (.ifCond .ne 15, 3) := by decide +kernel
theorem d_N_textCharacter_7 : decode b_N_textCharacter 7 = .ok (.aload_n 0, 1) := by decide +kernel
theorem d_N_textCharacter_8 : decode b_N_textCharacter 8 = .ok (.getfield 15, 3) := by decide +kernel
theorem d_N_textCharacter_11 : decode b_N_textCharacter 11 = .ok (.getfield 120, 3) := by decide +kernel
theorem d_N_textCharacter_14 : decode b_N_textCharacter 14 = .ok (.iload_n 1, 1) := by decide +kernel
theorem d_N_textCharacter_15 : decode b_N_textCharacter 15 = .ok (.invokevirtual 132, 3) := by decide +kernel
theorem d_N_textCharacter_18 : decode b_N_textCharacter 18 = .ok (.ireturn, 1) := by decide +kernel
theorem d_N_textCharacter_19 : decode b_N_textCharacter 19 = .ok (.aload_n 0, 1) := by decide +kernel
theorem d_N_textCharacter_20 : decode b_N_textCharacter 20 = .ok (.getfield 23, 3) := by decide +kernel
theorem d_N_textCharacter_23 : decode b_N_textCharacter 23 = .ok (.getfield 80, 3) := by decide +kernel
theorem d_N_textCharacter_26 : decode b_N_textCharacter 26 = .ok (.ifCond .eq 10, 3) := by decide +kernel
theorem d_N_textCharacter_29 : decode b_N_textCharacter 29 = .ok (.iload_n 1, 1) := by decide +kernel
theorem d_N_textCharacter_30 : decode b_N_textCharacter 30 = .ok (.ifCond .ne 6, 3) := by decide +kernel
theorem d_N_textCharacter_33 : decode b_N_textCharacter 33 = .ok (.bipush 45, 2) := by decide +kernel
theorem d_N_textCharacter_35 : decode b_N_textCharacter 35 = .ok (.ireturn, 1) := by decide +kernel
theorem d_N_textCharacter_36 : decode b_N_textCharacter 36 = .ok (.aload_n 0, 1) := by decide +kernel
theorem d_N_textCharacter_37 : decode b_N_textCharacter 37 = .ok (.invokevirtual 129, 3) := by decide +kernel
theorem d_N_textCharacter_40 : decode b_N_textCharacter 40 = .ok (.aload_n 0, 1) := by decide +kernel
theorem d_N_textCharacter_41 : decode b_N_textCharacter 41 = .ok (.getfield 23, 3) := by decide +kernel
theorem d_N_textCharacter_44 : decode b_N_textCharacter 44 = .ok (.getfield 80, 3) := by decide +kernel
theorem d_N_textCharacter_47 : decode b_N_textCharacter 47 = .ok (.ifCond .eq 9, 3) := by decide +kernel
theorem d_N_textCharacter_50 : decode b_N_textCharacter 50 = .ok (.iload_n 1, 1) := by decide +kernel
theorem d_N_textCharacter_51 : decode b_N_textCharacter 51 = .ok (.iconst 1, 1) := by decide +kernel
theorem d_N_textCharacter_52 : decode b_N_textCharacter 52 = .ok (.isub, 1) := by decide +kernel
theorem d_N_textCharacter_53 : decode b_N_textCharacter 53 = .ok (.goto 4, 3) := by decide +kernel
theorem d_N_textCharacter_56 : decode b_N_textCharacter 56 = .ok (.iload_n 1, 1) := by decide +kernel
theorem d_N_textCharacter_57 : decode b_N_textCharacter 57 = .ok (.isub, 1) := by decide +kernel
theorem d_N_textCharacter_58 : decode b_N_textCharacter 58 = .ok (.istore_n 2, 1) := by decide +kernel
theorem d_N_textCharacter_59 : decode b_N_textCharacter 59 = .ok (.iload_n 2, 1) := by decide +kernel
theorem d_N_textCharacter_60 : decode b_N_textCharacter 60 = .ok (.ifCond .ne 6, 3) := by decide +kernel
theorem d_N_textCharacter_63 : decode b_N_textCharacter 63 = .ok (.bipush 46, 2) := by decide +kernel
theorem d_N_textCharacter_65 : decode b_N_textCharacter 65 = .ok (.ireturn, 1) := by decide +kernel
theorem d_N_textCharacter_66 : decode b_N_textCharacter 66 = .ok (.iload_n 2, 1) := by decide +kernel
theorem d_N_textCharacter_67 : decode b_N_textCharacter 67 = .ok (.ifCond .le 9, 3) := by decide +kernel
theorem d_N_textCharacter_70 : decode b_N_textCharacter 70 = .ok (.iload_n 2, 1) := by decide +kernel
theorem d_N_textCharacter_71 : decode b_N_textCharacter 71 = .ok (.iconst 1, 1) := by decide +kernel
theorem d_N_textCharacter_72 : decode b_N_textCharacter 72 = .ok (.isub, 1) := by decide +kernel
theorem d_N_textCharacter_73 : decode b_N_textCharacter 73 = .ok (.goto 4, 3) := by decide +kernel
theorem d_N_textCharacter_76 : decode b_N_textCharacter 76 = .ok (.iload_n 2, 1) := by decide +kernel
theorem d_N_textCharacter_77 : decode b_N_textCharacter 77 = .ok (.istore_n 3, 1) := by decide +kernel
theorem d_N_textCharacter_78 : decode b_N_textCharacter 78 = .ok (.bipush 48, 2) := by decide +kernel
theorem d_N_textCharacter_80 : decode b_N_textCharacter 80 = .ok (.aload_n 0, 1) := by decide +kernel
theorem d_N_textCharacter_81 : decode b_N_textCharacter 81 = .ok (.getfield 23, 3) := by decide +kernel
theorem d_N_textCharacter_84 : decode b_N_textCharacter 84 = .ok (.getfield 48, 3) := by decide +kernel
theorem d_N_textCharacter_87 : decode b_N_textCharacter 87 = .ok (.bipush 24, 2) := by decide +kernel
theorem d_N_textCharacter_89 : decode b_N_textCharacter 89 = .ok (.iload_n 3, 1) := by decide +kernel
theorem d_N_textCharacter_90 : decode b_N_textCharacter 90 = .ok (.iadd, 1) := by decide +kernel
theorem d_N_textCharacter_91 : decode b_N_textCharacter 91 = .ok (.invokestatic 103, 3) := by decide +kernel
theorem d_N_textCharacter_94 : decode b_N_textCharacter 94 = .ok (.iadd, 1) := by decide +kernel
theorem d_N_textCharacter_95 : decode b_N_textCharacter 95 = .ok (.ireturn, 1) := by decide +kernel
theorem d_N_wholeDigits_0 : decode b_N_wholeDigits 0 = .ok (.aload_n 0, 1) := by decide +kernel
theorem d_N_wholeDigits_1 : decode b_N_wholeDigits 1 = .ok (.getfield 23, 3) := by decide +kernel
theorem d_N_wholeDigits_4 : decode b_N_wholeDigits 4 = .ok (.getfield 48, 3) := by decide +kernel
theorem d_N_wholeDigits_7 : decode b_N_wholeDigits 7 = .ok (.invokestatic 136, 3) := by decide +kernel
theorem d_N_wholeDigits_10 : decode b_N_wholeDigits 10 = .ok (.bipush 24, 2) := by decide +kernel
theorem d_N_wholeDigits_12 : decode b_N_wholeDigits 12 = .ok (.isub, 1) := by decide +kernel
theorem d_N_wholeDigits_13 : decode b_N_wholeDigits 13 = .ok (.iconst 1, 1) := by decide +kernel
theorem d_N_wholeDigits_14 : decode b_N_wholeDigits 14 = .ok (.invokestatic 88, 3) := by decide +kernel
theorem d_N_wholeDigits_17 : decode b_N_wholeDigits 17 = .ok (.ireturn, 1) := by decide +kernel
end
section
def rm_A_clear : Room := { frames := 1, cells := 0, slots := 0, locals := 23 }
set_option maxHeartbeats 4000000 in
set_option maxRecDepth 100000 in
theorem c_A_clear (l : Launch) (E : zE) (w0 : zW) (q : Nat) (f : Int → Int) (ng : Int) (q0lt : q < zn E) (q1lt : q + 1 < zn E) (c0 : w0 q = .inr (0, [.ref (ad E (q + 1)), .int (iI ng)])) (c1 : w0 (q + 1) = zar E 15 f) (bf : bd f 15 0 9999) : zM l y_A_clear ws_A_clear rm_A_clear E [.ref (ad E q)] w0 (zQv E w0 (fun w' => (∃ (f' : Int → Int), w' q = .inr (0, [.ref (ad E (q + 1)), .int (iI 0)]) ∧ w' (q + 1) = zar E 15 f' ∧ bd f' 15 0 9999 ∧ (∀ j : Int, 0 ≤ j → j < 15 → f' j = 0)) ∧ ∀ k, k ≠ q → k ≠ (q + 1) → w' k = w0 k)) := by
  refine z_met (cc := b_A_clear) (maxL := 1) (ret := none) (by decide +kernel) rfl (Nat.le_of_ble_eq_true rfl) ?_
  intro p e s m below meth cd ls a Qf hQ hC hl hH
  obtain ⟨hF, hr, hlk, hK, hG, hn⟩ := hC
  obtain ⟨hx, hb, hml, hown, hts⟩ := hF
  have hg : ∀ w ∈ GW, w.before a s = true := fun w h => hts w (List.mem_cons_of_mem _ h)
  have hA : ∀ q, s.heap.size ≤ q → va_A (wl E w0) s.heap.size q := fun q h => Or.inr h
  have hl : lv_has ls 1 [(0, .ref (ad E q))] := hl
  refine lv_aload_n hx hb d_A_clear_0 rfl (lv_at hl 0 rfl) ?_
  refine zv_get (C := "ScaledNumeralDesk$Amount") (T := TA) (N := 2) hx hb hg uA_in hown hK hH q0lt c0 rfl 0 (by decide) (hg _ wm_42) (fun _ h9 => h9) rfl d_A_clear_1 ?_
  refine zv_iconst hx hb d_A_clear_4 ?_
  refine z_callv (va_runS (As := [.ref (ad E (q + 1)), .int (iI 0)]) (rest := []) ⟨hx, hb, hml, hown, hts⟩ (c_fill (l := l) (E := E) (w0 := w0) (q := q + 1) (N := 15) (f := f) (v := 0) (q0lt := q1lt) (c0 := c1) (hN := by omega) s.heap.size) (z_cwS 2 hg wm_237 wm_235 wm_14 wm_236 (by decide +kernel) ⟨Nat.le_of_ble_eq_true rfl, Nat.le_of_ble_eq_true rfl⟩) (z_preS hK hG hn hH hA) rfl rfl hl.1 rfl (lv_room (Nat.le_of_ble_eq_true rfl)) d_A_clear_5 ⟨Nat.zero_le _, Nat.zero_le _⟩) hH hA (fun  w3 H1 lc2 hH4 h1 => ?_)
  obtain ⟨⟨f1, e5, h1⟩, hg6⟩ := h1
  have h1 : ∀ j : Int, 0 ≤ j → j < 15 → f1 j = (0 : Int) := h1
  have e7 : w3 q = .inr (0, [.ref (ad E (q + 1)), .int (iI ng)]) := (hg6 q (by omega)).trans c0
  have hf8 : ∀ k, k ≠ (q + 1) → w3 k = w0 k := fun k g0 => hg6 k g0
  have bf1 : bd f1 15 0 9999 := fun i g1 g2 => by rw [h1 i g1 g2]; decide
  refine lv_aload_n hx hb d_A_clear_8 rfl (lv_at hl 0 rfl) ?_
  refine zv_iconst hx hb d_A_clear_9 ?_
  refine zv_put (C := "ScaledNumeralDesk$Amount") (T := TA) (N := 2) (fs' := [.ref (ad E (q + 1)), .int (iI 0)]) hx hb hg uA_in tyA tyA_ok nmA hown hK hH4 q0lt e7 rfl 1 (by decide) (hg _ wm_46) (fun _ h9 => h9) rfl (ty := tyA 1) (by decide +kernel) (by exact nar_z (by omega)) (by exact fit_z (by omega)) (Nat.le_of_ble_eq_true rfl) d_A_clear_10 rfl (fun H10 lc11 w9 hH12 e13 hg14 => ?_)
  have e15 : w9 (q + 1) = zar E 15 f1 := (hg14 (q + 1) (by omega)).trans e5
  have hf16 : ∀ k, k ≠ (q + 1) → k ≠ q → w9 k = w0 k := fun k g0 g1 => (hg14 k g1).trans (hf8 k g0)
  rw [hQ]
  exact z_vret hx hb hr hlk hH12 (⟨⟨f1, e13, e15, (by assumption), h1⟩, (fun k g0 g1 => hf16 k g1 g0)⟩) d_A_clear_13
def rm_A_take : Room := { frames := 1, cells := 0, slots := 0, locals := 26 }
set_option maxHeartbeats 4000000 in
set_option maxRecDepth 100000 in
theorem c_A_take (l : Launch) (E : zE) (w0 : zW) (q r : Nat) (f g : Int → Int) (ng no : Int) (q0lt : q < zn E) (q1lt : q + 1 < zn E) (q2lt : r < zn E) (q3lt : r + 1 < zn E) (c0 : w0 q = .inr (0, [.ref (ad E (q + 1)), .int (iI ng)])) (c1 : w0 (q + 1) = zar E 15 f) (c2 : w0 r = .inr (0, [.ref (ad E (r + 1)), .int (iI no)])) (c3 : w0 (r + 1) = zar E 15 g) (bf : bd f 15 0 9999) (bg : bd g 15 0 9999) (hno : no = 0 ∨ no = 1) (hqr : q + 1 < r ∨ r + 1 < q) : zM l y_A_take ws_A_take rm_A_take E [.ref (ad E q), .ref (ad E r)] w0 (zQv E w0 (fun w' => (∃ (f' : Int → Int), w' q = .inr (0, [.ref (ad E (q + 1)), .int (iI no)]) ∧ w' (q + 1) = zar E 15 f' ∧ bd f' 15 0 9999 ∧ (V f' 15 = V g 15)) ∧ ∀ k, k ≠ q → k ≠ (q + 1) → w' k = w0 k)) := by
  refine z_met (cc := b_A_take) (maxL := 2) (ret := none) (by decide +kernel) rfl (Nat.le_of_ble_eq_true rfl) ?_
  intro p e s m below meth cd ls a Qf hQ hC hl hH
  obtain ⟨hF, hr, hlk, hK, hG, hn⟩ := hC
  obtain ⟨hx, hb, hml, hown, hts⟩ := hF
  have hg : ∀ w ∈ GW, w.before a s = true := fun w h => hts w (List.mem_cons_of_mem _ h)
  have hA : ∀ q, s.heap.size ≤ q → va_A (wl E w0) s.heap.size q := fun q h => Or.inr h
  have hl : lv_has ls 2 [(0, .ref (ad E q)), (1, .ref (ad E r))] := hl
  refine lv_aload_n hx hb d_A_take_0 rfl (lv_at hl 1 rfl) ?_
  refine zv_get (C := "ScaledNumeralDesk$Amount") (T := TA) (N := 2) hx hb hg uA_in hown hK hH q2lt c2 rfl 0 (by decide) (hg _ wm_42) (fun _ h9 => h9) rfl d_A_take_1 ?_
  refine zv_iconst hx hb d_A_take_4 ?_
  refine lv_aload_n hx hb d_A_take_5 rfl (lv_at hl 0 rfl) ?_
  refine zv_get (C := "ScaledNumeralDesk$Amount") (T := TA) (N := 2) hx hb hg uA_in hown hK hH q0lt c0 rfl 0 (by decide) (hg _ wm_42) (fun _ h9 => h9) rfl d_A_take_6 ?_
  refine zv_iconst hx hb d_A_take_9 ?_
  refine zv_bipush hx hb d_A_take_10 rfl ?_
  refine zv_copy hx hb hml hl.1 hown (hg _ wm_329) (hg _ wm_331) (hg _ wm_330) (hg _ wm_17) hK hH q3lt q1lt c3 c1 (by omega) (by omega) (by omega) (by omega) (by omega) (by omega) (by omega) (Nat.le_of_ble_eq_true rfl) (Nat.le_of_ble_eq_true rfl) d_A_take_12 (fun H2 lc3 w1 hH4 e5 hg6 => ?_)
  have bd7 : bd (cpZ g f 0 0 15) 15 0 9999 := cp_bd bg bf (by omega) (by omega)
  have e8 : w1 q = .inr (0, [.ref (ad E (q + 1)), .int (iI ng)]) := (hg6 q (by omega)).trans c0
  have e9 : w1 r = .inr (0, [.ref (ad E (r + 1)), .int (iI no)]) := (hg6 r (by omega)).trans c2
  have e10 : w1 (r + 1) = zar E 15 g := (hg6 (r + 1) (by omega)).trans c3
  have hf11 : ∀ k, k ≠ (q + 1) → w1 k = w0 k := fun k g0 => hg6 k g0
  refine lv_aload_n hx hb d_A_take_15 rfl (lv_at hl 0 rfl) ?_
  refine lv_aload_n hx hb d_A_take_16 rfl (lv_at hl 1 rfl) ?_
  refine zv_get (C := "ScaledNumeralDesk$Amount") (T := TA) (N := 2) hx hb hg uA_in hown hK hH4 q2lt e9 rfl 1 (by decide) (hg _ wm_46) (fun _ h9 => h9) rfl d_A_take_17 ?_
  refine zv_put (C := "ScaledNumeralDesk$Amount") (T := TA) (N := 2) (fs' := [.ref (ad E (q + 1)), .int (iI no)]) hx hb hg uA_in tyA tyA_ok nmA hown hK hH4 q0lt e8 rfl 1 (by decide) (hg _ wm_46) (fun _ h9 => h9) rfl (ty := tyA 1) (by decide +kernel) (by exact nar_z (by omega)) (by exact fit_z (by omega)) (Nat.le_of_ble_eq_true rfl) d_A_take_20 rfl (fun H13 lc14 w12 hH15 e16 hg17 => ?_)
  have e18 : w12 (q + 1) = zar E 15 (cpZ g f 0 0 15) := (hg17 (q + 1) (by omega)).trans e5
  have e19 : w12 r = .inr (0, [.ref (ad E (r + 1)), .int (iI no)]) := (hg17 r (by omega)).trans e9
  have e20 : w12 (r + 1) = zar E 15 g := (hg17 (r + 1) (by omega)).trans e10
  have hf21 : ∀ k, k ≠ (q + 1) → k ≠ q → w12 k = w0 k := fun k g0 g1 => (hg17 k g1).trans (hf11 k g0)
  rw [hQ]
  exact z_vret hx hb hr hlk hH15 (⟨⟨(cpZ g f 0 0 15), e16, e18, bd7, cp_V⟩, (fun k g0 g1 => hf21 k g1 g0)⟩) d_A_take_23
def rm_A_isZero : Room := { frames := 1, cells := 0, slots := 0, locals := 21 }
set_option maxHeartbeats 4000000 in
set_option maxRecDepth 100000 in
theorem c_A_isZero (l : Launch) (E : zE) (w0 : zW) (q : Nat) (f : Int → Int) (ng : Int) (q0lt : q < zn E) (q1lt : q + 1 < zn E) (c0 : w0 q = .inr (0, [.ref (ad E (q + 1)), .int (iI ng)])) (c1 : w0 (q + 1) = zar E 15 f) (bf : bd f 15 0 9999) : zM l y_A_isZero ws_A_isZero rm_A_isZero E [.ref (ad E q)] w0 (zQi E w0 (fun z w' => w' = w0 ∧ ((z = 1 ∧ V f 15 = 0) ∨ (z = 0 ∧ 0 < V f 15)))) := by
  refine z_met (cc := b_A_isZero) (maxL := 1) (ret := (some .boolean)) (by decide +kernel) rfl (Nat.le_of_ble_eq_true rfl) ?_
  intro p e s m below meth cd ls a Qf hQ hC hl hH
  obtain ⟨hF, hr, hlk, hK, hG, hn⟩ := hC
  obtain ⟨hx, hb, hml, hown, hts⟩ := hF
  have hg : ∀ w ∈ GW, w.before a s = true := fun w h => hts w (List.mem_cons_of_mem _ h)
  have hA : ∀ q, s.heap.size ≤ q → va_A (wl E w0) s.heap.size q := fun q h => Or.inr h
  have hl : lv_has ls 1 [(0, .ref (ad E q))] := hl
  refine lv_aload_n hx hb d_A_isZero_0 rfl (lv_at hl 0 rfl) ?_
  refine zv_get (C := "ScaledNumeralDesk$Amount") (T := TA) (N := 2) hx hb hg uA_in hown hK hH q0lt c0 rfl 0 (by decide) (hg _ wm_42) (fun _ h9 => h9) rfl d_A_isZero_1 ?_
  refine z_calli (va_runS (As := [.ref (ad E (q + 1))]) (rest := []) ⟨hx, hb, hml, hown, hts⟩ (c_topLimb (l := l) (E := E) (w0 := w0) (q := q + 1) (N := 15) (f := f) (q0lt := q1lt) (c0 := c1) (hN := by omega) (bf := bf) s.heap.size) (z_cwS 1 hg wm_300 wm_298 wm_16 wm_299 (by decide +kernel) ⟨Nat.le_of_ble_eq_true rfl, Nat.le_of_ble_eq_true rfl⟩) (z_preS hK hG hn hH hA) rfl rfl hl.1 rfl (lv_room (Nat.le_of_ble_eq_true rfl)) d_A_isZero_4 ⟨Nat.zero_le _, Nat.zero_le _⟩) hH hA (fun t w3 H1 lc2 hH4 hT => ?_)
  obtain ⟨ew5, hT⟩ := hT
  rw [ew5] at hH4
  have hT : -1 ≤ t ∧ t < 15 ∧ (∀ j, t < j → j < 15 → f j = 0) ∧ (0 ≤ t → f t ≠ 0) := hT
  refine zv_if_ge (tgt := 14) hx hb d_A_isZero_7 rfl (by omega) (fun h6 => ?_) (fun h6 => ?_)
  · refine zv_iconst hx hb d_A_isZero_14 ?_
    rw [hQ]
    exact z_zret hx hb hr hlk hH4 (⟨rfl, Or.inr ⟨rfl, Int.lt_of_lt_of_le (Bp_pos t) (tz_V bf (by omega) (by omega) hT.2.2.1 (hT.2.2.2 (by omega))).1⟩⟩) (by exact nar_z (by omega)) d_A_isZero_15
  · refine zv_iconst hx hb d_A_isZero_10 ?_
    refine lv_goto (tgt := 15) hx hb d_A_isZero_11 rfl ?_
    rw [hQ]
    exact z_zret hx hb hr hlk hH4 (⟨rfl, Or.inl ⟨rfl, tz_0 (by decide) (by omega) hT.2.2.1⟩⟩) (by exact nar_z (by omega)) d_A_isZero_15
def rm_A_sign : Room := { frames := 2, cells := 0, slots := 0, locals := 41 }
set_option maxHeartbeats 4000000 in
set_option maxRecDepth 100000 in
theorem c_A_sign (l : Launch) (E : zE) (w0 : zW) (q : Nat) (f : Int → Int) (ng : Int) (q0lt : q < zn E) (q1lt : q + 1 < zn E) (c0 : w0 q = .inr (0, [.ref (ad E (q + 1)), .int (iI ng)])) (c1 : w0 (q + 1) = zar E 15 f) (bf : bd f 15 0 9999) (hng : ng = 0 ∨ ng = 1) : zM l y_A_sign ws_A_sign rm_A_sign E [.ref (ad E q)] w0 (zQi E w0 (fun z w' => w' = w0 ∧ ((z = 0 ∧ V f 15 = 0) ∨ (z = -1 ∧ 0 < V f 15 ∧ ng = 1) ∨ (z = 1 ∧ 0 < V f 15 ∧ ng = 0)))) := by
  refine z_met (cc := b_A_sign) (maxL := 1) (ret := (some .int)) (by decide +kernel) rfl (Nat.le_of_ble_eq_true rfl) ?_
  intro p e s m below meth cd ls a Qf hQ hC hl hH
  obtain ⟨hF, hr, hlk, hK, hG, hn⟩ := hC
  obtain ⟨hx, hb, hml, hown, hts⟩ := hF
  have hg : ∀ w ∈ GW, w.before a s = true := fun w h => hts w (List.mem_cons_of_mem _ h)
  have hA : ∀ q, s.heap.size ≤ q → va_A (wl E w0) s.heap.size q := fun q h => Or.inr h
  have hl : lv_has ls 1 [(0, .ref (ad E q))] := hl
  refine lv_aload_n hx hb d_A_sign_0 rfl (lv_at hl 0 rfl) ?_
  refine z_calli (va_runV (As := []) (rest := []) ⟨hx, hb, hml, hown, hts⟩ (c_A_isZero (l := l) (E := E) (w0 := w0) (q := q) (f := f) (ng := ng) (q0lt := q0lt) (q1lt := q1lt) (c0 := c0) (c1 := c1) (bf := bf) s.heap.size) (z_cwV (C := "ScaledNumeralDesk$Amount") 0 hg wm_297 wm_294 wm_5 wm_295 wm_296 (by decide +kernel) ⟨Nat.le_of_ble_eq_true rfl, Nat.le_of_ble_eq_true rfl⟩) (z_preV (r := ("ScaledNumeralDesk$Amount", TA, 2)) hK hG hn hH hA q0lt c0 rfl) rfl rfl hl.1 rfl (lv_room (Nat.le_of_ble_eq_true rfl)) d_A_sign_1 ⟨Nat.zero_le _, Nat.zero_le _⟩) hH hA (fun z6 w3 H1 lc2 hH4 hp5 => ?_)
  obtain ⟨ew7, hp5⟩ := hp5
  rw [ew7] at hH4
  have hp5 : (z6 = 1 ∧ V f 15 = 0) ∨ (z6 = 0 ∧ 0 < V f 15) := hp5
  refine zv_if_eq (tgt := 9) hx hb d_A_sign_4 rfl (by omega) (fun h8 => ?_) (fun h8 => ?_)
  · refine lv_aload_n hx hb d_A_sign_9 rfl (lv_at hl 0 rfl) ?_
    refine zv_get (C := "ScaledNumeralDesk$Amount") (T := TA) (N := 2) hx hb hg uA_in hown hK hH4 q0lt c0 rfl 1 (by decide) (hg _ wm_46) (fun _ h9 => h9) rfl d_A_sign_10 ?_
    refine zv_if_eq (tgt := 20) hx hb d_A_sign_13 rfl (by omega) (fun h9 => ?_) (fun h9 => ?_)
    · refine zv_iconst hx hb d_A_sign_20 ?_
      rw [hQ]
      exact z_iret hx hb hr hlk hH4 (⟨rfl, by omega⟩) d_A_sign_21
    · refine zv_iconst hx hb d_A_sign_16 ?_
      refine lv_goto (tgt := 21) hx hb d_A_sign_17 rfl ?_
      rw [hQ]
      exact z_iret hx hb hr hlk hH4 (⟨rfl, by omega⟩) d_A_sign_21
  · refine zv_iconst hx hb d_A_sign_7 ?_
    rw [hQ]
    exact z_iret hx hb hr hlk hH4 (⟨rfl, by omega⟩) d_A_sign_8
def rm_A_signAs : Room := { frames := 2, cells := 0, slots := 0, locals := 41 }
set_option maxHeartbeats 4000000 in
set_option maxRecDepth 100000 in
theorem c_A_signAs (l : Launch) (E : zE) (w0 : zW) (q : Nat) (f : Int → Int) (ng mn : Int) (q0lt : q < zn E) (q1lt : q + 1 < zn E) (c0 : w0 q = .inr (0, [.ref (ad E (q + 1)), .int (iI ng)])) (c1 : w0 (q + 1) = zar E 15 f) (bf : bd f 15 0 9999) (hmn : mn = 0 ∨ mn = 1) : zM l y_A_signAs ws_A_signAs rm_A_signAs E [.ref (ad E q), .int (iI mn)] w0 (zQv E w0 (fun w' => (∃ (n' : Int), w' q = .inr (0, [.ref (ad E (q + 1)), .int (iI n')]) ∧ ((n' = 0 ∨ n' = 1) ∧ (V f 15 = 0 → n' = 0) ∧ (0 < V f 15 → n' = mn))) ∧ ∀ k, k ≠ q → w' k = w0 k)) := by
  refine z_met (cc := b_A_signAs) (maxL := 2) (ret := none) (by decide +kernel) rfl (Nat.le_of_ble_eq_true rfl) ?_
  intro p e s m below meth cd ls a Qf hQ hC hl hH
  obtain ⟨hF, hr, hlk, hK, hG, hn⟩ := hC
  obtain ⟨hx, hb, hml, hown, hts⟩ := hF
  have hg : ∀ w ∈ GW, w.before a s = true := fun w h => hts w (List.mem_cons_of_mem _ h)
  have hA : ∀ q, s.heap.size ≤ q → va_A (wl E w0) s.heap.size q := fun q h => Or.inr h
  have hl : lv_has ls 2 [(0, .ref (ad E q)), (1, .int (iI mn))] := hl
  refine lv_aload_n hx hb d_A_signAs_0 rfl (lv_at hl 0 rfl) ?_
  refine lv_iload_n hx hb d_A_signAs_1 rfl (lv_at hl 1 rfl) ?_
  refine zv_if_eq (tgt := 16) hx hb d_A_signAs_2 rfl (by omega) (fun h1 => ?_) (fun h1 => ?_)
  · refine zv_iconst hx hb d_A_signAs_16 ?_
    refine zv_put (C := "ScaledNumeralDesk$Amount") (T := TA) (N := 2) (fs' := [.ref (ad E (q + 1)), .int (iI 0)]) hx hb hg uA_in tyA tyA_ok nmA hown hK hH q0lt c0 rfl 1 (by decide) (hg _ wm_46) (fun _ h9 => h9) rfl (ty := tyA 1) (by decide +kernel) (by exact nar_z (by omega)) (by exact fit_z (by omega)) (Nat.le_of_ble_eq_true rfl) d_A_signAs_17 rfl (fun H3 lc4 w2 hH5 e6 hg7 => ?_)
    have e8 : w2 (q + 1) = zar E 15 f := (hg7 (q + 1) (by omega)).trans c1
    have hf9 : ∀ k, k ≠ q → w2 k = w0 k := fun k g0 => hg7 k g0
    rw [hQ]
    exact z_vret hx hb hr hlk hH5 (⟨⟨0, e6, by omega⟩, (fun k g0 => hf9 k g0)⟩) d_A_signAs_20
  · refine lv_aload_n hx hb d_A_signAs_5 rfl (lv_at hl 0 rfl) ?_
    refine z_calli (va_runV (As := []) (rest := [.ref (ad E q)]) ⟨hx, hb, hml, hown, hts⟩ (c_A_isZero (l := l) (E := E) (w0 := w0) (q := q) (f := f) (ng := ng) (q0lt := q0lt) (q1lt := q1lt) (c0 := c0) (c1 := c1) (bf := bf) s.heap.size) (z_cwV (C := "ScaledNumeralDesk$Amount") 0 hg wm_297 wm_294 wm_5 wm_295 wm_296 (by decide +kernel) ⟨Nat.le_of_ble_eq_true rfl, Nat.le_of_ble_eq_true rfl⟩) (z_preV (r := ("ScaledNumeralDesk$Amount", TA, 2)) hK hG hn hH hA q0lt c0 rfl) rfl rfl hl.1 rfl (lv_room (Nat.le_of_ble_eq_true rfl)) d_A_signAs_6 ⟨Nat.zero_le _, Nat.zero_le _⟩) hH hA (fun z15 w12 H10 lc11 hH13 hp14 => ?_)
    obtain ⟨ew16, hp14⟩ := hp14
    rw [ew16] at hH13
    have hp14 : (z15 = 1 ∧ V f 15 = 0) ∨ (z15 = 0 ∧ 0 < V f 15) := hp14
    refine zv_if_ne (tgt := 16) hx hb d_A_signAs_9 rfl (by omega) (fun h17 => ?_) (fun h17 => ?_)
    · refine zv_iconst hx hb d_A_signAs_16 ?_
      refine zv_put (C := "ScaledNumeralDesk$Amount") (T := TA) (N := 2) (fs' := [.ref (ad E (q + 1)), .int (iI 0)]) hx hb hg uA_in tyA tyA_ok nmA hown hK hH13 q0lt c0 rfl 1 (by decide) (hg _ wm_46) (fun _ h9 => h9) rfl (ty := tyA 1) (by decide +kernel) (by exact nar_z (by omega)) (by exact fit_z (by omega)) (Nat.le_of_ble_eq_true rfl) d_A_signAs_17 rfl (fun H19 lc20 w18 hH21 e22 hg23 => ?_)
      have e24 : w18 (q + 1) = zar E 15 f := (hg23 (q + 1) (by omega)).trans c1
      have hf25 : ∀ k, k ≠ q → w18 k = w0 k := fun k g0 => hg23 k g0
      rw [hQ]
      exact z_vret hx hb hr hlk hH21 (⟨⟨0, e22, by omega⟩, (fun k g0 => hf25 k g0)⟩) d_A_signAs_20
    · refine zv_iconst hx hb d_A_signAs_12 ?_
      refine lv_goto (tgt := 17) hx hb d_A_signAs_13 rfl ?_
      refine zv_put (C := "ScaledNumeralDesk$Amount") (T := TA) (N := 2) (fs' := [.ref (ad E (q + 1)), .int (iI 1)]) hx hb hg uA_in tyA tyA_ok nmA hown hK hH13 q0lt c0 rfl 1 (by decide) (hg _ wm_46) (fun _ h9 => h9) rfl (ty := tyA 1) (by decide +kernel) (by exact nar_z (by omega)) (by exact fit_z (by omega)) (Nat.le_of_ble_eq_true rfl) d_A_signAs_17 rfl (fun H27 lc28 w26 hH29 e30 hg31 => ?_)
      have e32 : w26 (q + 1) = zar E 15 f := (hg31 (q + 1) (by omega)).trans c1
      have hf33 : ∀ k, k ≠ q → w26 k = w0 k := fun k g0 => hg31 k g0
      rw [hQ]
      exact z_vret hx hb hr hlk hH29 (⟨⟨1, e30, by omega⟩, (fun k g0 => hf33 k g0)⟩) d_A_signAs_20
def rm_A_increase : Room := { frames := 3, cells := 0, slots := 0, locals := 62 }
set_option maxHeartbeats 4000000 in
set_option maxRecDepth 100000 in
theorem c_A_increase (l : Launch) (E : zE) (w0 : zW) (q r : Nat) (f g : Int → Int) (ng no ta : Int) (q0lt : q < zn E) (q1lt : q + 1 < zn E) (q2lt : r < zn E) (q3lt : r + 1 < zn E) (c0 : w0 q = .inr (0, [.ref (ad E (q + 1)), .int (iI ng)])) (c1 : w0 (q + 1) = zar E 15 f) (c2 : w0 r = .inr (0, [.ref (ad E (r + 1)), .int (iI no)])) (c3 : w0 (r + 1) = zar E 15 g) (bf : bd f 15 0 9999) (bg : bd g 15 0 9999) (hno : no = 0 ∨ no = 1) (hqr : q + 1 < r ∨ r + 1 < q) (hng : ng = 0 ∨ ng = 1) (hta : ta = 0 ∨ ta = 1) (hs : V f 15 + V g 15 < Bp 15) : zM l y_A_increase ws_A_increase rm_A_increase E [.ref (ad E q), .ref (ad E r), .int (iI ta)] w0 (zQv E w0 (fun w' => (∃ (n' : Int) (f' : Int → Int), w' q = .inr (0, [.ref (ad E (q + 1)), .int (iI n')]) ∧ w' (q + 1) = zar E 15 f' ∧ bd f' 15 0 9999 ∧ ((n' = 0 ∨ n' = 1) ∧ (V f' 15 = 0 → n' = 0) ∧ sv n' (V f' 15) = sv ng (V f 15) + (if ta = 1 then -(sv no (V g 15)) else sv no (V g 15)))) ∧ ∀ k, k ≠ q → k ≠ (q + 1) → w' k = w0 k)) := by
  refine z_met (cc := b_A_increase) (maxL := 4) (ret := none) (by decide +kernel) rfl (Nat.le_of_ble_eq_true rfl) ?_
  intro p e s m below meth cd ls a Qf hQ hC hl hH
  obtain ⟨hF, hr, hlk, hK, hG, hn⟩ := hC
  obtain ⟨hx, hb, hml, hown, hts⟩ := hF
  have hg : ∀ w ∈ GW, w.before a s = true := fun w h => hts w (List.mem_cons_of_mem _ h)
  have hA : ∀ q, s.heap.size ≤ q → va_A (wl E w0) s.heap.size q := fun q h => Or.inr h
  have hl : lv_has ls 4 [(0, .ref (ad E q)), (1, .ref (ad E r)), (2, .int (iI ta))] := hl
  have vf := V_in bf (show (0 : Int) ≤ 15 by decide) (Int.le_refl 15)
  have vg := V_in bg (show (0 : Int) ≤ 15 by decide) (Int.le_refl 15)
  have L13 : ∀ (y : Int) (ls : Array Slot) (H1 : Heap) (lc2 : List Loc), (lv_has ls 4 [(0, .ref (ad E q)), (1, .ref (ad E r)), (2, .int (iI ta))]) → (zH E w0 (va_A (wl E w0) s.heap.size) s.heap H1 lc2) → ((y = 0 ∧ no = ta) ∨ (y = 1 ∧ no ≠ ta)) → W p l e rm_A_increase s m a below meth cd H1 lc2 0 0 Qf (F0 m 13 ls [.int (iI y)]) := by
    intro y ls H1 lc2 hl hH hy
    have hx9 := sv_x hy hno hta (V g 15)
    refine lv_istore_n (lv' := [(3, .int (iI y)), (0, .ref (ad E q)), (1, .ref (ad E r)), (2, .int (iI ta))]) hx hb d_A_increase_13 rfl hl (by decide) rfl (fun ls hl => ?_)
    have L88 : ∀ (u : Int) (h : Int → Int) (ls : Array Slot) (H3 : Heap) (lc4 : List Loc) (w5 : zW), (lv_has ls 4 [(3, .int (iI u)), (0, .ref (ad E q)), (1, .ref (ad E r)), (2, .int (iI ta))]) → (zH E w5 (va_A (wl E w0) s.heap.size) s.heap H3 lc4) → (w5 q = .inr (0, [.ref (ad E (q + 1)), .int (iI ng)])) → (w5 (q + 1) = zar E 15 h) → (w5 r = .inr (0, [.ref (ad E (r + 1)), .int (iI no)])) → (w5 (r + 1) = zar E 15 g) → (∀ k, k ≠ (q + 1) → w5 k = w0 k) → (bd h 15 0 9999) → (u = 0 ∨ u = 1) → (sv u (V h 15) = sv ng (V f 15) + sv y (V g 15)) → W p l e rm_A_increase s m a below meth cd H3 lc4 0 0 Qf (F0 m 88 ls []) := by
      intro u h ls H3 lc4 w5 hl hH e6 e7 e8 e9 hf10 bh hu hv
      refine lv_aload_n hx hb d_A_increase_88 rfl (lv_at hl 1 rfl) ?_
      refine lv_iload_n hx hb d_A_increase_89 rfl (lv_at hl 0 rfl) ?_
      refine z_callv (va_runV (As := [.int (iI u)]) (rest := []) ⟨hx, hb, hml, hown, hts⟩ (c_A_signAs (l := l) (E := E) (w0 := w5) (q := q) (f := h) (ng := ng) (mn := u) (q0lt := q0lt) (q1lt := q1lt) (c0 := e6) (c1 := e7) (bf := bh) (hmn := by omega) H3.size) (z_cwV (C := "ScaledNumeralDesk$Amount") 1 hg wm_293 wm_399 wm_5 wm_291 wm_292 (by decide +kernel) ⟨Nat.le_of_ble_eq_true rfl, Nat.le_of_ble_eq_true rfl⟩) (z_preV (r := ("ScaledNumeralDesk$Amount", TA, 2)) hK hG hn hH hA q0lt e6 rfl) rfl rfl hl.1 rfl (lv_room (Nat.le_of_ble_eq_true rfl)) d_A_increase_90 ⟨Nat.zero_le _, Nat.zero_le _⟩) hH hA (fun  w13 H11 lc12 hH14 p90 => ?_)
      obtain ⟨⟨n_15, e16, p90⟩, hg17⟩ := p90
      have p90 : (n_15 = 0 ∨ n_15 = 1) ∧ (V h 15 = 0 → n_15 = 0) ∧ (0 < V h 15 → n_15 = u) := p90
      have e18 : w13 (q + 1) = zar E 15 h := (hg17 (q + 1) (by omega)).trans e7
      have e19 : w13 r = .inr (0, [.ref (ad E (r + 1)), .int (iI no)]) := (hg17 r (by omega)).trans e8
      have e20 : w13 (r + 1) = zar E 15 g := (hg17 (r + 1) (by omega)).trans e9
      have hf21 : ∀ k, k ≠ (q + 1) → k ≠ q → w13 k = w0 k := fun k g0 g1 => (hg17 k g1).trans (hf10 k g0)
      have vh := V_in bh (show (0 : Int) ≤ 15 by decide) (Int.le_refl 15)
      rw [hQ]
      exact z_vret hx hb hr hlk hH14 (⟨⟨n_15, h, e16, e18, bh, ⟨p90.1, p90.2.1, by
          rw [hx9, ← hv]
          by_cases h0 : V h 15 = 0
          · rw [p90.2.1 h0, h0, sv_0]; rcases hu with rfl | rfl
            · rw [sv_0]
            · rw [sv_1]; rfl
          · rw [p90.2.2 (by omega)]⟩⟩, (fun k g0 g1 => hf21 k g1 g0)⟩) d_A_increase_93
    refine lv_iload_n hx hb d_A_increase_14 rfl (lv_at hl 0 rfl) ?_
    refine lv_aload_n hx hb d_A_increase_15 rfl (lv_at hl 1 rfl) ?_
    refine zv_get (C := "ScaledNumeralDesk$Amount") (T := TA) (N := 2) hx hb hg uA_in hown hK hH q0lt c0 rfl 1 (by decide) (hg _ wm_46) (fun _ h9 => h9) rfl d_A_increase_16 ?_
    refine zv_icmp_ne (tgt := 36) hx hb d_A_increase_19 rfl (by omega) (by omega) (fun h22 => ?_) (fun h22 => ?_)
    · refine lv_aload_n hx hb d_A_increase_36 rfl (lv_at hl 1 rfl) ?_
      refine zv_get (C := "ScaledNumeralDesk$Amount") (T := TA) (N := 2) hx hb hg uA_in hown hK hH q0lt c0 rfl 0 (by decide) (hg _ wm_42) (fun _ h9 => h9) rfl d_A_increase_37 ?_
      refine lv_aload_n hx hb d_A_increase_40 rfl (lv_at hl 2 rfl) ?_
      refine zv_get (C := "ScaledNumeralDesk$Amount") (T := TA) (N := 2) hx hb hg uA_in hown hK hH q2lt c2 rfl 0 (by decide) (hg _ wm_42) (fun _ h9 => h9) rfl d_A_increase_41 ?_
      refine z_calli (va_runS (As := [.ref (ad E (q + 1)), .ref (ad E (r + 1))]) (rest := []) ⟨hx, hb, hml, hown, hts⟩ (c_order (l := l) (E := E) (w0 := w0) (q := q + 1) (r := r + 1) (N := 15) (f := f) (g := g) (q0lt := q1lt) (q1lt := q3lt) (c0 := c1) (c1 := c3) (hN := by omega) (bf := bf) (bg := bg) H1.size) (z_cwS 2 hg wm_394 wm_392 wm_16 wm_393 (by decide +kernel) ⟨Nat.le_of_ble_eq_true rfl, Nat.le_of_ble_eq_true rfl⟩) (z_preS hK hG hn hH hA) rfl rfl hl.1 rfl (lv_room (Nat.le_of_ble_eq_true rfl)) d_A_increase_44 ⟨Nat.zero_le _, Nat.zero_le _⟩) hH hA (fun z27 w25 H23 lc24 hH26 p44 => ?_)
      obtain ⟨ew28, p44⟩ := p44
      rw [ew28] at hH26
      have p44 : (z27 = -1 ∧ V f 15 < V g 15) ∨ (z27 = 0 ∧ V f 15 = V g 15) ∨ (z27 = 1 ∧ V g 15 < V f 15) := p44
      refine zv_if_lt (tgt := 73) hx hb d_A_increase_47 rfl (by omega) (fun h29 => ?_) (fun h29 => ?_)
      · refine lv_aload_n hx hb d_A_increase_73 rfl (lv_at hl 1 rfl) ?_
        refine zv_get (C := "ScaledNumeralDesk$Amount") (T := TA) (N := 2) hx hb hg uA_in hown hK hH26 q0lt c0 rfl 0 (by decide) (hg _ wm_42) (fun _ h9 => h9) rfl d_A_increase_74 ?_
        refine lv_aload_n hx hb d_A_increase_77 rfl (lv_at hl 2 rfl) ?_
        refine zv_get (C := "ScaledNumeralDesk$Amount") (T := TA) (N := 2) hx hb hg uA_in hown hK hH26 q2lt c2 rfl 0 (by decide) (hg _ wm_42) (fun _ h9 => h9) rfl d_A_increase_78 ?_
        refine lv_aload_n hx hb d_A_increase_81 rfl (lv_at hl 1 rfl) ?_
        refine zv_get (C := "ScaledNumeralDesk$Amount") (T := TA) (N := 2) hx hb hg uA_in hown hK hH26 q0lt c0 rfl 0 (by decide) (hg _ wm_42) (fun _ h9 => h9) rfl d_A_increase_82 ?_
        refine z_callv (va_runS (As := [.ref (ad E (q + 1)), .ref (ad E (r + 1)), .ref (ad E (q + 1))]) (rest := []) ⟨hx, hb, hml, hown, hts⟩ (c_subS (l := l) (E := E) (w0 := w0) (q := q + 1) (r := r + 1) (N := 15) (f := f) (g := g) (q0lt := q1lt) (q1lt := q3lt) (c0 := c1) (c1 := c3) (hN := by omega) (bf := bf) (bg := bg) (hqr := by omega) H23.size) (z_cwS 3 hg wm_398 wm_396 wm_16 wm_397 (by decide +kernel) ⟨Nat.le_of_ble_eq_true rfl, Nat.le_of_ble_eq_true rfl⟩) (z_preS hK hG hn hH26 hA) rfl rfl hl.1 rfl (lv_room (Nat.le_of_ble_eq_true rfl)) d_A_increase_85 ⟨Nat.zero_le _, Nat.zero_le _⟩) hH26 hA (fun  w32 H30 lc31 hH33 p85 => ?_)
        obtain ⟨⟨f_34, e35, bd36, p85⟩, hg37⟩ := p85
        have bd36 : bd f_34 15 0 9999 := bd36
        have p85 : V f_34 15 = (V g 15 - V f 15) % Bp 15 := p85
        have e38 : w32 q = .inr (0, [.ref (ad E (q + 1)), .int (iI ng)]) := (hg37 q (by omega)).trans c0
        have e39 : w32 r = .inr (0, [.ref (ad E (r + 1)), .int (iI no)]) := (hg37 r (by omega)).trans c2
        have e40 : w32 (r + 1) = zar E 15 g := (hg37 (r + 1) (by omega)).trans c3
        have hf41 : ∀ k, k ≠ (q + 1) → w32 k = w0 k := fun k g0 => hg37 k g0
        exact L88 y f_34 _ H30 lc31 w32 (lv_sub hl [0, 1, 2, 3] rfl) hH33 e38 e35 e39 e40 (fun k g0 => hf41 k g0) (by assumption) (by omega) (by rw [p85, Int.emod_eq_of_lt (by omega) (by omega), Int.add_comm]; exact sv_op (by omega) hng (by omega) _ _)
      · refine lv_aload_n hx hb d_A_increase_50 rfl (lv_at hl 1 rfl) ?_
        refine zv_get (C := "ScaledNumeralDesk$Amount") (T := TA) (N := 2) hx hb hg uA_in hown hK hH26 q0lt c0 rfl 0 (by decide) (hg _ wm_42) (fun _ h9 => h9) rfl d_A_increase_51 ?_
        refine lv_aload_n hx hb d_A_increase_54 rfl (lv_at hl 1 rfl) ?_
        refine zv_get (C := "ScaledNumeralDesk$Amount") (T := TA) (N := 2) hx hb hg uA_in hown hK hH26 q0lt c0 rfl 0 (by decide) (hg _ wm_42) (fun _ h9 => h9) rfl d_A_increase_55 ?_
        refine lv_aload_n hx hb d_A_increase_58 rfl (lv_at hl 2 rfl) ?_
        refine zv_get (C := "ScaledNumeralDesk$Amount") (T := TA) (N := 2) hx hb hg uA_in hown hK hH26 q2lt c2 rfl 0 (by decide) (hg _ wm_42) (fun _ h9 => h9) rfl d_A_increase_59 ?_
        refine z_callv (va_runS (As := [.ref (ad E (q + 1)), .ref (ad E (q + 1)), .ref (ad E (r + 1))]) (rest := []) ⟨hx, hb, hml, hown, hts⟩ (c_subG (l := l) (E := E) (w0 := w0) (q := q + 1) (r := r + 1) (N := 15) (f := f) (g := g) (q0lt := q1lt) (q1lt := q3lt) (c0 := c1) (c1 := c3) (hN := by omega) (bf := bf) (bg := bg) (hqr := by omega) H23.size) (z_cwS 3 hg wm_398 wm_396 wm_16 wm_397 (by decide +kernel) ⟨Nat.le_of_ble_eq_true rfl, Nat.le_of_ble_eq_true rfl⟩) (z_preS hK hG hn hH26 hA) rfl rfl hl.1 rfl (lv_room (Nat.le_of_ble_eq_true rfl)) d_A_increase_62 ⟨Nat.zero_le _, Nat.zero_le _⟩) hH26 hA (fun  w44 H42 lc43 hH45 p62 => ?_)
        obtain ⟨⟨f_46, e47, bd48, p62⟩, hg49⟩ := p62
        have bd48 : bd f_46 15 0 9999 := bd48
        have p62 : V f_46 15 = (V f 15 - V g 15) % Bp 15 := p62
        have e50 : w44 q = .inr (0, [.ref (ad E (q + 1)), .int (iI ng)]) := (hg49 q (by omega)).trans c0
        have e51 : w44 r = .inr (0, [.ref (ad E (r + 1)), .int (iI no)]) := (hg49 r (by omega)).trans c2
        have e52 : w44 (r + 1) = zar E 15 g := (hg49 (r + 1) (by omega)).trans c3
        have hf53 : ∀ k, k ≠ (q + 1) → w44 k = w0 k := fun k g0 => hg49 k g0
        refine lv_aload_n hx hb d_A_increase_65 rfl (lv_at hl 1 rfl) ?_
        refine zv_get (C := "ScaledNumeralDesk$Amount") (T := TA) (N := 2) hx hb hg uA_in hown hK hH45 q0lt e50 rfl 1 (by decide) (hg _ wm_46) (fun _ h9 => h9) rfl d_A_increase_66 ?_
        refine lv_istore_n (lv' := [(3, .int (iI ng)), (0, .ref (ad E q)), (1, .ref (ad E r)), (2, .int (iI ta))]) hx hb d_A_increase_69 rfl hl (by decide) rfl (fun ls hl => ?_)
        refine lv_goto (tgt := 88) hx hb d_A_increase_70 rfl ?_
        exact L88 ng f_46 _ H42 lc43 w44 (lv_sub hl [0, 1, 2, 3] rfl) hH45 e50 e47 e51 e52 (fun k g0 => hf53 k g0) (by assumption) (by omega) (by rw [p62, Int.emod_eq_of_lt (by omega) (by omega)]; exact sv_op hng (by omega) (by omega) _ _)
    · refine lv_aload_n hx hb d_A_increase_22 rfl (lv_at hl 1 rfl) ?_
      refine zv_get (C := "ScaledNumeralDesk$Amount") (T := TA) (N := 2) hx hb hg uA_in hown hK hH q0lt c0 rfl 0 (by decide) (hg _ wm_42) (fun _ h9 => h9) rfl d_A_increase_23 ?_
      refine lv_aload_n hx hb d_A_increase_26 rfl (lv_at hl 2 rfl) ?_
      refine zv_get (C := "ScaledNumeralDesk$Amount") (T := TA) (N := 2) hx hb hg uA_in hown hK hH q2lt c2 rfl 0 (by decide) (hg _ wm_42) (fun _ h9 => h9) rfl d_A_increase_27 ?_
      refine z_callv (va_runS (As := [.ref (ad E (q + 1)), .ref (ad E (r + 1))]) (rest := []) ⟨hx, hb, hml, hown, hts⟩ (c_add (l := l) (E := E) (w0 := w0) (q := q + 1) (r := r + 1) (N := 15) (f := f) (g := g) (q0lt := q1lt) (q1lt := q3lt) (c0 := c1) (c1 := c3) (hN := by omega) (bf := bf) (bg := bg) (hqr := by omega) H1.size) (z_cwS 2 hg wm_391 wm_389 wm_16 wm_390 (by decide +kernel) ⟨Nat.le_of_ble_eq_true rfl, Nat.le_of_ble_eq_true rfl⟩) (z_preS hK hG hn hH hA) rfl rfl hl.1 rfl (lv_room (Nat.le_of_ble_eq_true rfl)) d_A_increase_30 ⟨Nat.zero_le _, Nat.zero_le _⟩) hH hA (fun  w56 H54 lc55 hH57 p30 => ?_)
      obtain ⟨⟨f_58, e59, bd60, p30⟩, hg61⟩ := p30
      have bd60 : bd f_58 15 0 9999 := bd60
      have p30 : V f_58 15 = (V f 15 + V g 15) % Bp 15 := p30
      have e62 : w56 q = .inr (0, [.ref (ad E (q + 1)), .int (iI ng)]) := (hg61 q (by omega)).trans c0
      have e63 : w56 r = .inr (0, [.ref (ad E (r + 1)), .int (iI no)]) := (hg61 r (by omega)).trans c2
      have e64 : w56 (r + 1) = zar E 15 g := (hg61 (r + 1) (by omega)).trans c3
      have hf65 : ∀ k, k ≠ (q + 1) → w56 k = w0 k := fun k g0 => hg61 k g0
      refine lv_goto (tgt := 88) hx hb d_A_increase_33 rfl ?_
      exact L88 y f_58 _ H54 lc55 w56 (lv_sub hl [0, 1, 2, 3] rfl) hH57 e62 e59 e63 e64 (fun k g0 => hf65 k g0) (by assumption) (by omega) (by rw [p30, Int.emod_eq_of_lt (by omega) (by omega), show y = ng by omega]; exact sv_add hng)
  refine lv_aload_n hx hb d_A_increase_0 rfl (lv_at hl 1 rfl) ?_
  refine zv_get (C := "ScaledNumeralDesk$Amount") (T := TA) (N := 2) hx hb hg uA_in hown hK hH q2lt c2 rfl 1 (by decide) (hg _ wm_46) (fun _ h9 => h9) rfl d_A_increase_1 ?_
  refine lv_iload_n hx hb d_A_increase_4 rfl (lv_at hl 2 rfl) ?_
  refine zv_icmp_eq (tgt := 12) hx hb d_A_increase_5 rfl (by omega) (by omega) (fun h66 => ?_) (fun h66 => ?_)
  · refine zv_iconst hx hb d_A_increase_12 ?_
    exact L13 0 _ s.heap ([]) (lv_sub hl [0, 1, 2] rfl) hH (by omega)
  · refine zv_iconst hx hb d_A_increase_8 ?_
    refine lv_goto (tgt := 13) hx hb d_A_increase_9 rfl ?_
    exact L13 1 _ s.heap ([]) (lv_sub hl [0, 1, 2] rfl) hH (by omega)
def rm_A_increaseAA : Room := { frames := 3, cells := 0, slots := 0, locals := 62 }
set_option maxHeartbeats 4000000 in
set_option maxRecDepth 100000 in
theorem c_A_increaseAA (l : Launch) (E : zE) (w0 : zW) (q : Nat) (f : Int → Int) (ng : Int) (q0lt : q < zn E) (q1lt : q + 1 < zn E) (c0 : w0 q = .inr (0, [.ref (ad E (q + 1)), .int (iI ng)])) (c1 : w0 (q + 1) = zar E 15 f) (bf : bd f 15 0 9999) (hng : ng = 0 ∨ ng = 1) (hs : V f 15 + V f 15 < Bp 15) : zM l y_A_increase ws_A_increase rm_A_increaseAA E [.ref (ad E q), .ref (ad E q), .int (iI 0)] w0 (zQv E w0 (fun w' => (∃ (n' : Int) (f' : Int → Int), w' q = .inr (0, [.ref (ad E (q + 1)), .int (iI n')]) ∧ w' (q + 1) = zar E 15 f' ∧ bd f' 15 0 9999 ∧ ((n' = 0 ∨ n' = 1) ∧ (V f' 15 = 0 → n' = 0) ∧ sv n' (V f' 15) = sv ng (V f 15) + sv ng (V f 15))) ∧ ∀ k, k ≠ q → k ≠ (q + 1) → w' k = w0 k)) := by
  refine z_met (cc := b_A_increase) (maxL := 4) (ret := none) (by decide +kernel) rfl (Nat.le_of_ble_eq_true rfl) ?_
  intro p e s m below meth cd ls a Qf hQ hC hl hH
  obtain ⟨hF, hr, hlk, hK, hG, hn⟩ := hC
  obtain ⟨hx, hb, hml, hown, hts⟩ := hF
  have hg : ∀ w ∈ GW, w.before a s = true := fun w h => hts w (List.mem_cons_of_mem _ h)
  have hA : ∀ q, s.heap.size ≤ q → va_A (wl E w0) s.heap.size q := fun q h => Or.inr h
  have hl : lv_has ls 4 [(0, .ref (ad E q)), (1, .ref (ad E q)), (2, .int (iI 0))] := hl
  have vf := V_in bf (show (0 : Int) ≤ 15 by decide) (Int.le_refl 15)
  have L13 : ∀ (y : Int) (ls : Array Slot) (H1 : Heap) (lc2 : List Loc), (lv_has ls 4 [(0, .ref (ad E q)), (1, .ref (ad E q)), (2, .int (iI 0))]) → (zH E w0 (va_A (wl E w0) s.heap.size) s.heap H1 lc2) → (y = ng) → W p l e rm_A_increaseAA s m a below meth cd H1 lc2 0 0 Qf (F0 m 13 ls [.int (iI y)]) := by
    intro y ls H1 lc2 hl hH hy
    refine lv_istore_n (lv' := [(3, .int (iI y)), (0, .ref (ad E q)), (1, .ref (ad E q)), (2, .int (iI 0))]) hx hb d_A_increase_13 rfl hl (by decide) rfl (fun ls hl => ?_)
    refine lv_iload_n hx hb d_A_increase_14 rfl (lv_at hl 0 rfl) ?_
    refine lv_aload_n hx hb d_A_increase_15 rfl (lv_at hl 1 rfl) ?_
    refine zv_get (C := "ScaledNumeralDesk$Amount") (T := TA) (N := 2) hx hb hg uA_in hown hK hH q0lt c0 rfl 1 (by decide) (hg _ wm_46) (fun _ h9 => h9) rfl d_A_increase_16 ?_
    refine zv_icmp_ne (tgt := 36) hx hb d_A_increase_19 rfl (by omega) (by omega) (fun h3 => absurd h3 (by omega)) (fun h3 => ?_)
    refine lv_aload_n hx hb d_A_increase_22 rfl (lv_at hl 1 rfl) ?_
    refine zv_get (C := "ScaledNumeralDesk$Amount") (T := TA) (N := 2) hx hb hg uA_in hown hK hH q0lt c0 rfl 0 (by decide) (hg _ wm_42) (fun _ h9 => h9) rfl d_A_increase_23 ?_
    refine lv_aload_n hx hb d_A_increase_26 rfl (lv_at hl 2 rfl) ?_
    refine zv_get (C := "ScaledNumeralDesk$Amount") (T := TA) (N := 2) hx hb hg uA_in hown hK hH q0lt c0 rfl 0 (by decide) (hg _ wm_42) (fun _ h9 => h9) rfl d_A_increase_27 ?_
    refine z_callv (va_runS (As := [.ref (ad E (q + 1)), .ref (ad E (q + 1))]) (rest := []) ⟨hx, hb, hml, hown, hts⟩ (c_addAA (l := l) (E := E) (w0 := w0) (q := q + 1) (N := 15) (f := f) (q0lt := q1lt) (c0 := c1) (hN := by omega) (bf := bf) H1.size) (z_cwS 2 hg wm_391 wm_389 wm_16 wm_390 (by decide +kernel) ⟨Nat.le_of_ble_eq_true rfl, Nat.le_of_ble_eq_true rfl⟩) (z_preS hK hG hn hH hA) rfl rfl hl.1 rfl (lv_room (Nat.le_of_ble_eq_true rfl)) d_A_increase_30 ⟨Nat.zero_le _, Nat.zero_le _⟩) hH hA (fun  w6 H4 lc5 hH7 p30 => ?_)
    obtain ⟨⟨h, e8, bd9, p30⟩, hg10⟩ := p30
    have bd9 : bd h 15 0 9999 := bd9
    have p30 : V h 15 = (V f 15 + V f 15) % Bp 15 := p30
    have e11 : w6 q = .inr (0, [.ref (ad E (q + 1)), .int (iI ng)]) := (hg10 q (by omega)).trans c0
    have hf12 : ∀ k, k ≠ (q + 1) → w6 k = w0 k := fun k g0 => hg10 k g0
    have vh : V h 15 = V f 15 + V f 15 := by rw [p30, Int.emod_eq_of_lt (by omega) (by omega)]
    refine lv_goto (tgt := 88) hx hb d_A_increase_33 rfl ?_
    refine lv_aload_n hx hb d_A_increase_88 rfl (lv_at hl 1 rfl) ?_
    refine lv_iload_n hx hb d_A_increase_89 rfl (lv_at hl 0 rfl) ?_
    refine z_callv (va_runV (As := [.int (iI y)]) (rest := []) ⟨hx, hb, hml, hown, hts⟩ (c_A_signAs (l := l) (E := E) (w0 := w6) (q := q) (f := h) (ng := ng) (mn := y) (q0lt := q0lt) (q1lt := q1lt) (c0 := e11) (c1 := e8) (bf := bd9) (hmn := by omega) H4.size) (z_cwV (C := "ScaledNumeralDesk$Amount") 1 hg wm_293 wm_399 wm_5 wm_291 wm_292 (by decide +kernel) ⟨Nat.le_of_ble_eq_true rfl, Nat.le_of_ble_eq_true rfl⟩) (z_preV (r := ("ScaledNumeralDesk$Amount", TA, 2)) hK hG hn hH7 hA q0lt e11 rfl) rfl rfl hl.1 rfl (lv_room (Nat.le_of_ble_eq_true rfl)) d_A_increase_90 ⟨Nat.zero_le _, Nat.zero_le _⟩) hH7 hA (fun  w15 H13 lc14 hH16 p90 => ?_)
    obtain ⟨⟨n_17, e18, p90⟩, hg19⟩ := p90
    have p90 : (n_17 = 0 ∨ n_17 = 1) ∧ (V h 15 = 0 → n_17 = 0) ∧ (0 < V h 15 → n_17 = y) := p90
    have e20 : w15 (q + 1) = zar E 15 h := (hg19 (q + 1) (by omega)).trans e8
    have hf21 : ∀ k, k ≠ (q + 1) → k ≠ q → w15 k = w0 k := fun k g0 g1 => (hg19 k g1).trans (hf12 k g0)
    rw [hQ]
    exact z_vret hx hb hr hlk hH16 (⟨⟨n_17, h, e18, e20, bd9, ⟨p90.1, p90.2.1, by
        rw [vh, ← sv_add hng]
        by_cases h0 : V h 15 = 0
        · rw [p90.2.1 h0, ← vh, h0, sv_0]; rcases hng with rfl | rfl
          · rw [sv_0]
          · rw [sv_1]; rfl
        · rw [p90.2.2 (by omega), hy]⟩⟩, (fun k g0 g1 => hf21 k g1 g0)⟩) d_A_increase_93
  refine lv_aload_n hx hb d_A_increase_0 rfl (lv_at hl 1 rfl) ?_
  refine zv_get (C := "ScaledNumeralDesk$Amount") (T := TA) (N := 2) hx hb hg uA_in hown hK hH q0lt c0 rfl 1 (by decide) (hg _ wm_46) (fun _ h9 => h9) rfl d_A_increase_1 ?_
  refine lv_iload_n hx hb d_A_increase_4 rfl (lv_at hl 2 rfl) ?_
  refine zv_icmp_eq (tgt := 12) hx hb d_A_increase_5 rfl (by omega) (by omega) (fun h22 => ?_) (fun h22 => ?_)
  · refine zv_iconst hx hb d_A_increase_12 ?_
    exact L13 0 _ s.heap ([]) (lv_sub hl [0, 1, 2] rfl) hH (by omega)
  · refine zv_iconst hx hb d_A_increase_8 ?_
    refine lv_goto (tgt := 13) hx hb d_A_increase_9 rfl ?_
    exact L13 1 _ s.heap ([]) (lv_sub hl [0, 1, 2] rfl) hH (by omega)
def rm_A_compared : Room := { frames := 2, cells := 0, slots := 0, locals := 43 }
set_option maxHeartbeats 4000000 in
set_option maxRecDepth 100000 in
theorem c_A_compared (l : Launch) (E : zE) (w0 : zW) (q r : Nat) (f g : Int → Int) (ng no : Int) (q0lt : q < zn E) (q1lt : q + 1 < zn E) (q2lt : r < zn E) (q3lt : r + 1 < zn E) (c0 : w0 q = .inr (0, [.ref (ad E (q + 1)), .int (iI ng)])) (c1 : w0 (q + 1) = zar E 15 f) (c2 : w0 r = .inr (0, [.ref (ad E (r + 1)), .int (iI no)])) (c3 : w0 (r + 1) = zar E 15 g) (bf : bd f 15 0 9999) (bg : bd g 15 0 9999) (hno : no = 0 ∨ no = 1) (hng : ng = 0 ∨ ng = 1) (cf : V f 15 = 0 → ng = 0) (cg : V g 15 = 0 → no = 0) : zM l y_A_comparedWith ws_A_comparedWith rm_A_compared E [.ref (ad E q), .ref (ad E r)] w0 (zQi E w0 (fun z w' => w' = w0 ∧ ((z = -1 ∧ sv ng (V f 15) < sv no (V g 15)) ∨ (z = 0 ∧ sv ng (V f 15) = sv no (V g 15)) ∨ (z = 1 ∧ sv no (V g 15) < sv ng (V f 15))))) := by
  refine z_met (cc := b_A_comparedWith) (maxL := 3) (ret := (some .int)) (by decide +kernel) rfl (Nat.le_of_ble_eq_true rfl) ?_
  intro p e s m below meth cd ls a Qf hQ hC hl hH
  obtain ⟨hF, hr, hlk, hK, hG, hn⟩ := hC
  obtain ⟨hx, hb, hml, hown, hts⟩ := hF
  have hg : ∀ w ∈ GW, w.before a s = true := fun w h => hts w (List.mem_cons_of_mem _ h)
  have hA : ∀ q, s.heap.size ≤ q → va_A (wl E w0) s.heap.size q := fun q h => Or.inr h
  have hl : lv_has ls 3 [(0, .ref (ad E q)), (1, .ref (ad E r))] := hl
  have vf := V_in bf (show (0 : Int) ≤ 15 by decide) (Int.le_refl 15)
  have vg := V_in bg (show (0 : Int) ≤ 15 by decide) (Int.le_refl 15)
  refine lv_aload_n hx hb d_A_comparedWith_0 rfl (lv_at hl 0 rfl) ?_
  refine zv_get (C := "ScaledNumeralDesk$Amount") (T := TA) (N := 2) hx hb hg uA_in hown hK hH q0lt c0 rfl 1 (by decide) (hg _ wm_46) (fun _ h9 => h9) rfl d_A_comparedWith_1 ?_
  refine lv_aload_n hx hb d_A_comparedWith_4 rfl (lv_at hl 1 rfl) ?_
  refine zv_get (C := "ScaledNumeralDesk$Amount") (T := TA) (N := 2) hx hb hg uA_in hown hK hH q2lt c2 rfl 1 (by decide) (hg _ wm_46) (fun _ h9 => h9) rfl d_A_comparedWith_5 ?_
  refine zv_icmp_eq (tgt := 24) hx hb d_A_comparedWith_8 rfl (by omega) (by omega) (fun h1 => ?_) (fun h1 => ?_)
  · refine lv_aload_n hx hb d_A_comparedWith_24 rfl (lv_at hl 0 rfl) ?_
    refine zv_get (C := "ScaledNumeralDesk$Amount") (T := TA) (N := 2) hx hb hg uA_in hown hK hH q0lt c0 rfl 0 (by decide) (hg _ wm_42) (fun _ h9 => h9) rfl d_A_comparedWith_25 ?_
    refine lv_aload_n hx hb d_A_comparedWith_28 rfl (lv_at hl 1 rfl) ?_
    refine zv_get (C := "ScaledNumeralDesk$Amount") (T := TA) (N := 2) hx hb hg uA_in hown hK hH q2lt c2 rfl 0 (by decide) (hg _ wm_42) (fun _ h9 => h9) rfl d_A_comparedWith_29 ?_
    refine z_calli (va_runS (As := [.ref (ad E (q + 1)), .ref (ad E (r + 1))]) (rest := []) ⟨hx, hb, hml, hown, hts⟩ (c_order (l := l) (E := E) (w0 := w0) (q := q + 1) (r := r + 1) (N := 15) (f := f) (g := g) (q0lt := q1lt) (q1lt := q3lt) (c0 := c1) (c1 := c3) (hN := by omega) (bf := bf) (bg := bg) s.heap.size) (z_cwS 2 hg wm_394 wm_392 wm_16 wm_393 (by decide +kernel) ⟨Nat.le_of_ble_eq_true rfl, Nat.le_of_ble_eq_true rfl⟩) (z_preS hK hG hn hH hA) rfl rfl hl.1 rfl (lv_room (Nat.le_of_ble_eq_true rfl)) d_A_comparedWith_32 ⟨Nat.zero_le _, Nat.zero_le _⟩) hH hA (fun z7 w4 H2 lc3 hH5 hp6 => ?_)
    obtain ⟨ew8, hp6⟩ := hp6
    rw [ew8] at hH5
    have hp6 : (z7 = -1 ∧ V f 15 < V g 15) ∨ (z7 = 0 ∧ V f 15 = V g 15) ∨ (z7 = 1 ∧ V g 15 < V f 15) := hp6
    refine lv_istore_n (lv' := [(2, .int (iI z7)), (0, .ref (ad E q)), (1, .ref (ad E r))]) hx hb d_A_comparedWith_35 rfl hl (by decide) rfl (fun ls hl => ?_)
    refine lv_aload_n hx hb d_A_comparedWith_36 rfl (lv_at hl 1 rfl) ?_
    refine zv_get (C := "ScaledNumeralDesk$Amount") (T := TA) (N := 2) hx hb hg uA_in hown hK hH5 q0lt c0 rfl 1 (by decide) (hg _ wm_46) (fun _ h9 => h9) rfl d_A_comparedWith_37 ?_
    refine zv_if_eq (tgt := 48) hx hb d_A_comparedWith_40 rfl (by omega) (fun h9 => ?_) (fun h9 => ?_)
    · refine lv_iload_n hx hb d_A_comparedWith_48 rfl (lv_at hl 0 rfl) ?_
      have sf := sv_c hng (V f 15)
      have sg := sv_c hno (V g 15)
      rw [hQ]
      exact z_iret hx hb hr hlk hH5 (⟨rfl, by omega⟩) d_A_comparedWith_49
    · refine lv_iload_n hx hb d_A_comparedWith_43 rfl (lv_at hl 0 rfl) ?_
      refine zv_ineg hx hb d_A_comparedWith_44 ?_
      refine lv_goto (tgt := 49) hx hb d_A_comparedWith_45 rfl ?_
      have sf := sv_c hng (V f 15)
      have sg := sv_c hno (V g 15)
      rw [hQ]
      exact z_iret hx hb hr hlk hH5 (⟨rfl, by omega⟩) d_A_comparedWith_49
  · refine lv_aload_n hx hb d_A_comparedWith_11 rfl (lv_at hl 0 rfl) ?_
    refine zv_get (C := "ScaledNumeralDesk$Amount") (T := TA) (N := 2) hx hb hg uA_in hown hK hH q0lt c0 rfl 1 (by decide) (hg _ wm_46) (fun _ h9 => h9) rfl d_A_comparedWith_12 ?_
    refine zv_if_eq (tgt := 22) hx hb d_A_comparedWith_15 rfl (by omega) (fun h10 => ?_) (fun h10 => ?_)
    · refine zv_iconst hx hb d_A_comparedWith_22 ?_
      have sf := sv_c hng (V f 15)
      have sg := sv_c hno (V g 15)
      rw [hQ]
      exact z_iret hx hb hr hlk hH (⟨rfl, by omega⟩) d_A_comparedWith_23
    · refine zv_iconst hx hb d_A_comparedWith_18 ?_
      refine lv_goto (tgt := 23) hx hb d_A_comparedWith_19 rfl ?_
      have sf := sv_c hng (V f 15)
      have sg := sv_c hno (V g 15)
      rw [hQ]
      exact z_iret hx hb hr hlk hH (⟨rfl, by omega⟩) d_A_comparedWith_23
def rm_A_reaches : Room := { frames := 2, cells := 0, slots := 0, locals := 44 }
set_option maxHeartbeats 4000000 in
set_option maxRecDepth 100000 in
theorem c_A_reaches (l : Launch) (E : zE) (w0 : zW) (q : Nat) (f : Int → Int) (ng x : Int) (q0lt : q < zn E) (q1lt : q + 1 < zn E) (c0 : w0 q = .inr (0, [.ref (ad E (q + 1)), .int (iI ng)])) (c1 : w0 (q + 1) = zar E 15 f) (bf : bd f 15 0 9999) (hx0 : -24 ≤ x ∧ x ≤ 1000) : zM l y_A_reachesTenTo ws_A_reachesTenTo rm_A_reaches E [.ref (ad E q), .int (iI x)] w0 (zQi E w0 (fun z w' => w' = w0 ∧ ((z = 1 ∧ Tp (24 + x) ≤ V f 15) ∨ (z = 0 ∧ V f 15 < Tp (24 + x))))) := by
  refine z_met (cc := b_A_reachesTenTo) (maxL := 2) (ret := (some .boolean)) (by decide +kernel) rfl (Nat.le_of_ble_eq_true rfl) ?_
  intro p e s m below meth cd ls a Qf hQ hC hl hH
  obtain ⟨hF, hr, hlk, hK, hG, hn⟩ := hC
  obtain ⟨hx, hb, hml, hown, hts⟩ := hF
  have hg : ∀ w ∈ GW, w.before a s = true := fun w h => hts w (List.mem_cons_of_mem _ h)
  have hA : ∀ q, s.heap.size ≤ q → va_A (wl E w0) s.heap.size q := fun q h => Or.inr h
  have hl : lv_has ls 2 [(0, .ref (ad E q)), (1, .int (iI x))] := hl
  refine lv_aload_n hx hb d_A_reachesTenTo_0 rfl (lv_at hl 0 rfl) ?_
  refine zv_get (C := "ScaledNumeralDesk$Amount") (T := TA) (N := 2) hx hb hg uA_in hown hK hH q0lt c0 rfl 0 (by decide) (hg _ wm_42) (fun _ h9 => h9) rfl d_A_reachesTenTo_1 ?_
  refine z_calli (va_runS (As := [.ref (ad E (q + 1))]) (rest := []) ⟨hx, hb, hml, hown, hts⟩ (c_digits (l := l) (E := E) (w0 := w0) (q := q + 1) (N := 15) (f := f) (q0lt := q1lt) (c0 := c1) (hN := by omega) (bf := bf) s.heap.size) (z_cwS 1 hg wm_311 wm_309 wm_16 wm_310 (by decide +kernel) ⟨Nat.le_of_ble_eq_true rfl, Nat.le_of_ble_eq_true rfl⟩) (z_preS hK hG hn hH hA) rfl rfl hl.1 rfl (lv_room (Nat.le_of_ble_eq_true rfl)) d_A_reachesTenTo_4 ⟨Nat.zero_le _, Nat.zero_le _⟩) hH hA (fun t w3 H1 lc2 hH4 hd => ?_)
  obtain ⟨ew5, hd⟩ := hd
  rw [ew5] at hH4
  have hd : dgs (V f 15) t ∧ 0 ≤ t ∧ t ≤ 15 * 4 := hd
  refine zv_bipush hx hb d_A_reachesTenTo_7 rfl ?_
  refine lv_iload_n hx hb d_A_reachesTenTo_9 rfl (lv_at hl 1 rfl) ?_
  refine zv_iadd hx hb d_A_reachesTenTo_10 ?_
  refine zv_icmp_le (tgt := 18) hx hb d_A_reachesTenTo_11 rfl (by omega) (by omega) (fun h6 => ?_) (fun h6 => ?_)
  · refine zv_iconst hx hb d_A_reachesTenTo_18 ?_
    have vf := V_in bf (show (0 : Int) ≤ 15 by decide) (Int.le_refl 15)
    have g9 := dgs_gt (n := 24 + x) hd.1 vf.1 (by omega)
    rw [hQ]
    exact z_zret hx hb hr hlk hH4 (⟨rfl, by omega⟩) (by exact nar_z (by omega)) d_A_reachesTenTo_19
  · refine zv_iconst hx hb d_A_reachesTenTo_14 ?_
    refine lv_goto (tgt := 19) hx hb d_A_reachesTenTo_15 rfl ?_
    have vf := V_in bf (show (0 : Int) ≤ 15 by decide) (Int.le_refl 15)
    have g9 := dgs_gt (n := 24 + x) hd.1 vf.1 (by omega)
    rw [hQ]
    exact z_zret hx hb hr hlk hH4 (⟨rfl, by omega⟩) (by exact nar_z (by omega)) d_A_reachesTenTo_19
def rm_A_weight : Room := { frames := 1, cells := 0, slots := 0, locals := 21 }
set_option maxHeartbeats 4000000 in
set_option maxRecDepth 100000 in
theorem c_A_weight (l : Launch) (E : zE) (w0 : zW) (q : Nat) (f : Int → Int) (ng : Int) (q0lt : q < zn E) (q1lt : q + 1 < zn E) (c0 : w0 q = .inr (0, [.ref (ad E (q + 1)), .int (iI ng)])) (c1 : w0 (q + 1) = zar E 15 f) (bf : bd f 15 0 9999) : zM l y_A_weight ws_A_weight rm_A_weight E [.ref (ad E q)] w0 (zQi E w0 (fun z w' => w' = w0 ∧ ((z = 0 ∧ V f 15 = 0) ∨ (Bp (z + 6) ≤ V f 15 ∧ V f 15 < Bp (z + 7) ∧ -6 ≤ z ∧ z ≤ 8)))) := by
  refine z_met (cc := b_A_weight) (maxL := 2) (ret := (some .int)) (by decide +kernel) rfl (Nat.le_of_ble_eq_true rfl) ?_
  intro p e s m below meth cd ls a Qf hQ hC hl hH
  obtain ⟨hF, hr, hlk, hK, hG, hn⟩ := hC
  obtain ⟨hx, hb, hml, hown, hts⟩ := hF
  have hg : ∀ w ∈ GW, w.before a s = true := fun w h => hts w (List.mem_cons_of_mem _ h)
  have hA : ∀ q, s.heap.size ≤ q → va_A (wl E w0) s.heap.size q := fun q h => Or.inr h
  have hl : lv_has ls 2 [(0, .ref (ad E q))] := hl
  refine lv_aload_n hx hb d_A_weight_0 rfl (lv_at hl 0 rfl) ?_
  refine zv_get (C := "ScaledNumeralDesk$Amount") (T := TA) (N := 2) hx hb hg uA_in hown hK hH q0lt c0 rfl 0 (by decide) (hg _ wm_42) (fun _ h9 => h9) rfl d_A_weight_1 ?_
  refine z_calli (va_runS (As := [.ref (ad E (q + 1))]) (rest := []) ⟨hx, hb, hml, hown, hts⟩ (c_topLimb (l := l) (E := E) (w0 := w0) (q := q + 1) (N := 15) (f := f) (q0lt := q1lt) (c0 := c1) (hN := by omega) (bf := bf) s.heap.size) (z_cwS 1 hg wm_300 wm_298 wm_16 wm_299 (by decide +kernel) ⟨Nat.le_of_ble_eq_true rfl, Nat.le_of_ble_eq_true rfl⟩) (z_preS hK hG hn hH hA) rfl rfl hl.1 rfl (lv_room (Nat.le_of_ble_eq_true rfl)) d_A_weight_4 ⟨Nat.zero_le _, Nat.zero_le _⟩) hH hA (fun t w3 H1 lc2 hH4 hT => ?_)
  obtain ⟨ew5, hT⟩ := hT
  rw [ew5] at hH4
  have hT : -1 ≤ t ∧ t < 15 ∧ (∀ j, t < j → j < 15 → f j = 0) ∧ (0 ≤ t → f t ≠ 0) := hT
  refine lv_istore_n (lv' := [(1, .int (iI t)), (0, .ref (ad E q))]) hx hb d_A_weight_7 rfl hl (by decide) rfl (fun ls hl => ?_)
  refine lv_iload_n hx hb d_A_weight_8 rfl (lv_at hl 0 rfl) ?_
  refine zv_if_ge (tgt := 16) hx hb d_A_weight_9 rfl (by omega) (fun h6 => ?_) (fun h6 => ?_)
  · refine lv_iload_n hx hb d_A_weight_16 rfl (lv_at hl 0 rfl) ?_
    refine zv_bipush hx hb d_A_weight_17 rfl ?_
    refine zv_isub hx hb d_A_weight_19 ?_
    have k9 := tz_V bf (by omega) (by omega) hT.2.2.1 (hT.2.2.2 (by omega))
    rw [hQ]
    exact z_iret hx hb hr hlk hH4 (⟨rfl, Or.inr ⟨by rw [show t - 6 + 6 = t by omega]; exact k9.1, by rw [show t - 6 + 7 = t + 1 by omega]; exact k9.2.1, by omega, by omega⟩⟩) d_A_weight_20
  · refine zv_iconst hx hb d_A_weight_12 ?_
    refine lv_goto (tgt := 20) hx hb d_A_weight_13 rfl ?_
    rw [hQ]
    exact z_iret hx hb hr hlk hH4 (⟨rfl, Or.inl ⟨rfl, tz_0 (by decide) (by omega) hT.2.2.1⟩⟩) d_A_weight_20
def rm_A_lead : Room := { frames := 1, cells := 0, slots := 0, locals := 21 }
set_option maxHeartbeats 4000000 in
set_option maxRecDepth 100000 in
theorem c_A_lead (l : Launch) (E : zE) (w0 : zW) (q : Nat) (f : Int → Int) (ng : Int) (q0lt : q < zn E) (q1lt : q + 1 < zn E) (c0 : w0 q = .inr (0, [.ref (ad E (q + 1)), .int (iI ng)])) (c1 : w0 (q + 1) = zar E 15 f) (bf : bd f 15 0 9999) : zM l y_A_lead ws_A_lead rm_A_lead E [.ref (ad E q)] w0 (zQi E w0 (fun z w' => w' = w0 ∧ ((z = 0 ∧ V f 15 = 0) ∨ (∃ t : Int, 0 ≤ t ∧ t < 15 ∧ Bp t ≤ V f 15 ∧ V f 15 < Bp (t + 1) ∧ z = V f 15 / Bp t)))) := by
  refine z_met (cc := b_A_lead) (maxL := 2) (ret := (some .int)) (by decide +kernel) rfl (Nat.le_of_ble_eq_true rfl) ?_
  intro p e s m below meth cd ls a Qf hQ hC hl hH
  obtain ⟨hF, hr, hlk, hK, hG, hn⟩ := hC
  obtain ⟨hx, hb, hml, hown, hts⟩ := hF
  have hg : ∀ w ∈ GW, w.before a s = true := fun w h => hts w (List.mem_cons_of_mem _ h)
  have hA : ∀ q, s.heap.size ≤ q → va_A (wl E w0) s.heap.size q := fun q h => Or.inr h
  have hl : lv_has ls 2 [(0, .ref (ad E q))] := hl
  refine lv_aload_n hx hb d_A_lead_0 rfl (lv_at hl 0 rfl) ?_
  refine zv_get (C := "ScaledNumeralDesk$Amount") (T := TA) (N := 2) hx hb hg uA_in hown hK hH q0lt c0 rfl 0 (by decide) (hg _ wm_42) (fun _ h9 => h9) rfl d_A_lead_1 ?_
  refine z_calli (va_runS (As := [.ref (ad E (q + 1))]) (rest := []) ⟨hx, hb, hml, hown, hts⟩ (c_topLimb (l := l) (E := E) (w0 := w0) (q := q + 1) (N := 15) (f := f) (q0lt := q1lt) (c0 := c1) (hN := by omega) (bf := bf) s.heap.size) (z_cwS 1 hg wm_300 wm_298 wm_16 wm_299 (by decide +kernel) ⟨Nat.le_of_ble_eq_true rfl, Nat.le_of_ble_eq_true rfl⟩) (z_preS hK hG hn hH hA) rfl rfl hl.1 rfl (lv_room (Nat.le_of_ble_eq_true rfl)) d_A_lead_4 ⟨Nat.zero_le _, Nat.zero_le _⟩) hH hA (fun t w3 H1 lc2 hH4 hT => ?_)
  obtain ⟨ew5, hT⟩ := hT
  rw [ew5] at hH4
  have hT : -1 ≤ t ∧ t < 15 ∧ (∀ j, t < j → j < 15 → f j = 0) ∧ (0 ≤ t → f t ≠ 0) := hT
  refine lv_istore_n (lv' := [(1, .int (iI t)), (0, .ref (ad E q))]) hx hb d_A_lead_7 rfl hl (by decide) rfl (fun ls hl => ?_)
  refine lv_iload_n hx hb d_A_lead_8 rfl (lv_at hl 0 rfl) ?_
  refine zv_if_ge (tgt := 16) hx hb d_A_lead_9 rfl (by omega) (fun h6 => ?_) (fun h6 => ?_)
  · refine lv_aload_n hx hb d_A_lead_16 rfl (lv_at hl 1 rfl) ?_
    refine zv_get (C := "ScaledNumeralDesk$Amount") (T := TA) (N := 2) hx hb hg uA_in hown hK hH4 q0lt c0 rfl 0 (by decide) (hg _ wm_42) (fun _ h9 => h9) rfl d_A_lead_17 ?_
    refine lv_iload_n hx hb d_A_lead_20 rfl (lv_at hl 0 rfl) ?_
    refine zv_iald hx hb hK hH4 q1lt c1 (by omega) (by omega) (by omega) d_A_lead_21 ?_
    have b7 := bf t (by omega) (by omega)
    have k9 := tz_V bf (by omega) (by omega) hT.2.2.1 (hT.2.2.2 (by omega))
    rw [hQ]
    exact z_iret hx hb hr hlk hH4 (⟨rfl, Or.inr ⟨t, by omega, by omega, k9.1, k9.2.1, k9.2.2⟩⟩) d_A_lead_22
  · refine zv_iconst hx hb d_A_lead_12 ?_
    refine lv_goto (tgt := 22) hx hb d_A_lead_13 rfl ?_
    rw [hQ]
    exact z_iret hx hb hr hlk hH4 (⟨rfl, Or.inl ⟨rfl, tz_0 (by decide) (by omega) hT.2.2.1⟩⟩) d_A_lead_22
end
section
theorem hf_V {f : Int → Int} (bf : bd f 15 0 9999) : V f 15 % Bp 6 = V f 6 := by
  obtain ⟨t, ht⟩ := V_hi f (n := 6) (N := 15) (by decide) (by decide)
  have e := ht f (fun _ _ _ => rfl)
  have b := V_in bf (n := 6) (by decide) (by decide)
  rw [e, Int.add_mul_emod_self_right, Int.emod_eq_of_lt b.1 b.2]
theorem hf_0 {f : Int → Int} (bf : bd f 15 0 9999) (h : ∀ j : Int, 0 ≤ j → j < 6 → f j = 0) : V f 15 % Bp 6 = 0 := by
  rw [hf_V bf]
  exact V_zero (by decide) h
theorem hf_1 {f : Int → Int} {i : Int} (bf : bd f 15 0 9999) (h0 : 0 ≤ i) (h1 : i < 6) (h : f i ≠ 0) : V f 15 % Bp 6 ≠ 0 := by
  rw [hf_V bf]
  intro hv
  have b6 : bd f 6 0 9999 := fun j g1 g2 => bf j g1 (by omega)
  have := V_small b6 (n := 0) (by decide) (by rw [hv, Bp_0]; decide) i h0 h1
  exact h this
end
section
def rm_N_isFinite : Room := { frames := 0, cells := 0, slots := 0, locals := 0 }
set_option maxHeartbeats 4000000 in
set_option maxRecDepth 100000 in
theorem c_N_isFinite (l : Launch) (E : zE) (w0 : zW) (q : Nat) (kd : Nat) (pl ng : Int) (f : Int → Int) (q0lt : q < zn E) (q1lt : q + 1 < zn E) (q2lt : q + 2 < zn E) (c0 : w0 q = .inr (1, [.ref (zg E (1 + kd)), .int (iI pl), .ref (ad E (q + 1))])) (c1 : w0 (q + 1) = .inr (0, [.ref (ad E (q + 2)), .int (iI ng)])) (c2 : w0 (q + 2) = zar E 15 f) (bf : bd f 15 0 9999) (hkd : kd < 4) (hng : ng = 0 ∨ ng = 1) : zM l y_N_isFinite ws_N_isFinite rm_N_isFinite E [.ref (ad E q)] w0 (zQi E w0 (fun z w' => w' = w0 ∧ ((z = 1 ∧ kd = 1) ∨ (z = 0 ∧ kd ≠ 1)))) := by
  refine z_met (cc := b_N_isFinite) (maxL := 1) (ret := (some .boolean)) (by decide +kernel) rfl (Nat.le_of_ble_eq_true rfl) ?_
  intro p e s m below meth cd ls a Qf hQ hC hl hH
  obtain ⟨hF, hr, hlk, hK, hG, hn⟩ := hC
  obtain ⟨hx, hb, hml, hown, hts⟩ := hF
  have hg : ∀ w ∈ GW, w.before a s = true := fun w h => hts w (List.mem_cons_of_mem _ h)
  have hA : ∀ q, s.heap.size ≤ q → va_A (wl E w0) s.heap.size q := fun q h => Or.inr h
  have hl : lv_has ls 1 [(0, .ref (ad E q))] := hl
  refine lv_aload_n hx hb d_N_isFinite_0 rfl (lv_at hl 0 rfl) ?_
  refine zv_get (C := "ScaledNumeralDesk$Numeral") (T := TN) (N := 3) hx hb hg uN_in hown hK hH q0lt c0 rfl 0 (by decide) (hg _ wm_55) (fun _ h9 => h9) rfl d_N_isFinite_1 ?_
  refine zv_kind hx hb hG hH hown 1 (by decide) (hg _ wm_34) (fun _ h9 => h9) d_N_isFinite_4 ?_
  refine zv_acmp_ne (a := kd) (b := 1) (tgt := 14) hx hb hG (by omega) (by omega) d_N_isFinite_7 rfl (fun h1 => ?_) (fun h1 => ?_)
  · refine zv_iconst hx hb d_N_isFinite_14 ?_
    rw [hQ]
    exact z_zret hx hb hr hlk hH (⟨rfl, by omega⟩) (by exact nar_z (by omega)) d_N_isFinite_15
  · refine zv_iconst hx hb d_N_isFinite_10 ?_
    refine lv_goto (tgt := 15) hx hb d_N_isFinite_11 rfl ?_
    rw [hQ]
    exact z_zret hx hb hr hlk hH (⟨rfl, by omega⟩) (by exact nar_z (by omega)) d_N_isFinite_15
def rm_N_take : Room := { frames := 2, cells := 0, slots := 0, locals := 47 }
set_option maxHeartbeats 4000000 in
set_option maxRecDepth 100000 in
theorem c_N_take (l : Launch) (E : zE) (w0 : zW) (q r : Nat) (kd ko : Nat) (pl po ng no : Int) (f g : Int → Int) (q0lt : q < zn E) (q1lt : q + 1 < zn E) (q2lt : q + 2 < zn E) (q3lt : r < zn E) (q4lt : r + 1 < zn E) (q5lt : r + 2 < zn E) (c0 : w0 q = .inr (1, [.ref (zg E (1 + kd)), .int (iI pl), .ref (ad E (q + 1))])) (c1 : w0 (q + 1) = .inr (0, [.ref (ad E (q + 2)), .int (iI ng)])) (c2 : w0 (q + 2) = zar E 15 f) (c3 : w0 r = .inr (1, [.ref (zg E (1 + ko)), .int (iI po), .ref (ad E (r + 1))])) (c4 : w0 (r + 1) = .inr (0, [.ref (ad E (r + 2)), .int (iI no)])) (c5 : w0 (r + 2) = zar E 15 g) (bf : bd f 15 0 9999) (hkd : kd < 4) (hng : ng = 0 ∨ ng = 1) (bg : bd g 15 0 9999) (hko : ko < 4) (hno : no = 0 ∨ no = 1) (hqr : q + 2 < r ∨ r + 2 < q) : zM l y_N_take ws_N_take rm_N_take E [.ref (ad E q), .ref (ad E r)] w0 (zQv E w0 (fun w' => (∃ (f' : Int → Int), w' q = .inr (1, [.ref (zg E (1 + ko)), .int (iI po), .ref (ad E (q + 1))]) ∧ w' (q + 1) = .inr (0, [.ref (ad E (q + 2)), .int (iI no)]) ∧ w' (q + 2) = zar E 15 f' ∧ bd f' 15 0 9999 ∧ (V f' 15 = V g 15)) ∧ ∀ k, k ≠ q → k ≠ (q + 1) → k ≠ (q + 2) → w' k = w0 k)) := by
  refine z_met (cc := b_N_take) (maxL := 2) (ret := none) (by decide +kernel) rfl (Nat.le_of_ble_eq_true rfl) ?_
  intro p e s m below meth cd ls a Qf hQ hC hl hH
  obtain ⟨hF, hr, hlk, hK, hG, hn⟩ := hC
  obtain ⟨hx, hb, hml, hown, hts⟩ := hF
  have hg : ∀ w ∈ GW, w.before a s = true := fun w h => hts w (List.mem_cons_of_mem _ h)
  have hA : ∀ q, s.heap.size ≤ q → va_A (wl E w0) s.heap.size q := fun q h => Or.inr h
  have hl : lv_has ls 2 [(0, .ref (ad E q)), (1, .ref (ad E r))] := hl
  refine lv_aload_n hx hb d_N_take_0 rfl (lv_at hl 0 rfl) ?_
  refine lv_aload_n hx hb d_N_take_1 rfl (lv_at hl 1 rfl) ?_
  refine zv_get (C := "ScaledNumeralDesk$Numeral") (T := TN) (N := 3) hx hb hg uN_in hown hK hH q3lt c3 rfl 0 (by decide) (hg _ wm_55) (fun _ h9 => h9) rfl d_N_take_2 ?_
  refine zv_put (C := "ScaledNumeralDesk$Numeral") (T := TN) (N := 3) (fs' := [.ref (zg E (1 + ko)), .int (iI pl), .ref (ad E (q + 1))]) hx hb hg uN_in tyN tyN_ok nmN hown hK hH q0lt c0 rfl 0 (by decide) (hg _ wm_55) (fun _ h9 => h9) rfl (ty := tyN 0) (by decide +kernel) (rfl) (by rfl) (Nat.le_of_ble_eq_true rfl) d_N_take_5 rfl (fun H2 lc3 w1 hH4 e5 hg6 => ?_)
  have e7 : w1 (q + 1) = .inr (0, [.ref (ad E (q + 2)), .int (iI ng)]) := (hg6 (q + 1) (by omega)).trans c1
  have e8 : w1 (q + 2) = zar E 15 f := (hg6 (q + 2) (by omega)).trans c2
  have e9 : w1 r = .inr (1, [.ref (zg E (1 + ko)), .int (iI po), .ref (ad E (r + 1))]) := (hg6 r (by omega)).trans c3
  have e10 : w1 (r + 1) = .inr (0, [.ref (ad E (r + 2)), .int (iI no)]) := (hg6 (r + 1) (by omega)).trans c4
  have e11 : w1 (r + 2) = zar E 15 g := (hg6 (r + 2) (by omega)).trans c5
  have hf12 : ∀ k, k ≠ q → w1 k = w0 k := fun k g0 => hg6 k g0
  refine lv_aload_n hx hb d_N_take_8 rfl (lv_at hl 0 rfl) ?_
  refine lv_aload_n hx hb d_N_take_9 rfl (lv_at hl 1 rfl) ?_
  refine zv_get (C := "ScaledNumeralDesk$Numeral") (T := TN) (N := 3) hx hb hg uN_in hown hK hH4 q3lt e9 rfl 1 (by decide) (hg _ wm_59) (fun _ h9 => h9) rfl d_N_take_10 ?_
  refine zv_put (C := "ScaledNumeralDesk$Numeral") (T := TN) (N := 3) (fs' := [.ref (zg E (1 + ko)), .int (iI po), .ref (ad E (q + 1))]) hx hb hg uN_in tyN tyN_ok nmN hown hK hH4 q0lt e5 rfl 1 (by decide) (hg _ wm_59) (fun _ h9 => h9) rfl (ty := tyN 1) (by decide +kernel) (rfl) (by rfl) (Nat.le_of_ble_eq_true rfl) d_N_take_13 rfl (fun H14 lc15 w13 hH16 e17 hg18 => ?_)
  have e19 : w13 (q + 1) = .inr (0, [.ref (ad E (q + 2)), .int (iI ng)]) := (hg18 (q + 1) (by omega)).trans e7
  have e20 : w13 (q + 2) = zar E 15 f := (hg18 (q + 2) (by omega)).trans e8
  have e21 : w13 r = .inr (1, [.ref (zg E (1 + ko)), .int (iI po), .ref (ad E (r + 1))]) := (hg18 r (by omega)).trans e9
  have e22 : w13 (r + 1) = .inr (0, [.ref (ad E (r + 2)), .int (iI no)]) := (hg18 (r + 1) (by omega)).trans e10
  have e23 : w13 (r + 2) = zar E 15 g := (hg18 (r + 2) (by omega)).trans e11
  have hf24 : ∀ k, k ≠ q → w13 k = w0 k := fun k g0 => (hg18 k g0).trans (hf12 k g0)
  refine lv_aload_n hx hb d_N_take_16 rfl (lv_at hl 0 rfl) ?_
  refine zv_get (C := "ScaledNumeralDesk$Numeral") (T := TN) (N := 3) hx hb hg uN_in hown hK hH16 q0lt e17 rfl 2 (by decide) (hg _ wm_64) (fun _ h9 => h9) rfl d_N_take_17 ?_
  refine lv_aload_n hx hb d_N_take_20 rfl (lv_at hl 1 rfl) ?_
  refine zv_get (C := "ScaledNumeralDesk$Numeral") (T := TN) (N := 3) hx hb hg uN_in hown hK hH16 q3lt e21 rfl 2 (by decide) (hg _ wm_64) (fun _ h9 => h9) rfl d_N_take_21 ?_
  refine z_callv (va_runV (As := [.ref (ad E (r + 1))]) (rest := []) ⟨hx, hb, hml, hown, hts⟩ (c_A_take (l := l) (E := E) (w0 := w13) (q := q + 1) (r := r + 1) (f := f) (g := g) (ng := ng) (no := no) (q0lt := q1lt) (q1lt := q2lt) (q2lt := q4lt) (q3lt := q5lt) (c0 := e19) (c1 := e20) (c2 := e22) (c3 := e23) (bf := bf) (bg := bg) (hno := by omega) (hqr := by omega) H14.size) (z_cwV (C := "ScaledNumeralDesk$Amount") 1 hg wm_328 wm_325 wm_5 wm_326 wm_327 (by decide +kernel) ⟨Nat.le_of_ble_eq_true rfl, Nat.le_of_ble_eq_true rfl⟩) (z_preV (r := ("ScaledNumeralDesk$Amount", TA, 2)) hK hG hn hH16 hA q1lt e19 rfl) rfl rfl hl.1 rfl (lv_room (Nat.le_of_ble_eq_true rfl)) d_N_take_24 ⟨Nat.zero_le _, Nat.zero_le _⟩) hH16 hA (fun  w27 H25 lc26 hH28 p24 => ?_)
  obtain ⟨⟨f_29, e30, e31, bd32, p24⟩, hg33⟩ := p24
  have bd32 : bd f_29 15 0 9999 := bd32
  have p24 : V f_29 15 = V g 15 := p24
  have e34 : w27 q = .inr (1, [.ref (zg E (1 + ko)), .int (iI po), .ref (ad E (q + 1))]) := (hg33 q (by omega) (by omega)).trans e17
  have e35 : w27 r = .inr (1, [.ref (zg E (1 + ko)), .int (iI po), .ref (ad E (r + 1))]) := (hg33 r (by omega) (by omega)).trans e21
  have e36 : w27 (r + 1) = .inr (0, [.ref (ad E (r + 2)), .int (iI no)]) := (hg33 (r + 1) (by omega) (by omega)).trans e22
  have e37 : w27 (r + 2) = zar E 15 g := (hg33 (r + 2) (by omega) (by omega)).trans e23
  have hf38 : ∀ k, k ≠ q → k ≠ (q + 1) → k ≠ (q + 2) → w27 k = w0 k := fun k g0 g1 g2 => (hg33 k g1 g2).trans (hf24 k g0)
  rw [hQ]
  exact z_vret hx hb hr hlk hH28 (⟨⟨f_29, e34, e30, e31, bd32, p24⟩, (fun k g0 g1 g2 => hf38 k g0 g1 g2)⟩) d_N_take_27
def rm_N_become : Room := { frames := 2, cells := 0, slots := 0, locals := 43 }
set_option maxHeartbeats 4000000 in
set_option maxRecDepth 100000 in
theorem c_N_become (l : Launch) (E : zE) (w0 : zW) (q : Nat) (kd k2 : Nat) (pl ng : Int) (f : Int → Int) (q0lt : q < zn E) (q1lt : q + 1 < zn E) (q2lt : q + 2 < zn E) (c0 : w0 q = .inr (1, [.ref (zg E (1 + kd)), .int (iI pl), .ref (ad E (q + 1))])) (c1 : w0 (q + 1) = .inr (0, [.ref (ad E (q + 2)), .int (iI ng)])) (c2 : w0 (q + 2) = zar E 15 f) (bf : bd f 15 0 9999) (hkd : kd < 4) (hng : ng = 0 ∨ ng = 1) : zM l y_N_become ws_N_become rm_N_become E [.ref (ad E q), .ref (zg E (1 + k2))] w0 (zQv E w0 (fun w' => (∃ (f' : Int → Int), w' q = .inr (1, [.ref (zg E (1 + k2)), .int (iI 0), .ref (ad E (q + 1))]) ∧ w' (q + 1) = .inr (0, [.ref (ad E (q + 2)), .int (iI 0)]) ∧ w' (q + 2) = zar E 15 f' ∧ bd f' 15 0 9999 ∧ (∀ j : Int, 0 ≤ j → j < 15 → f' j = 0)) ∧ ∀ k, k ≠ q → k ≠ (q + 1) → k ≠ (q + 2) → w' k = w0 k)) := by
  refine z_met (cc := b_N_become) (maxL := 2) (ret := none) (by decide +kernel) rfl (Nat.le_of_ble_eq_true rfl) ?_
  intro p e s m below meth cd ls a Qf hQ hC hl hH
  obtain ⟨hF, hr, hlk, hK, hG, hn⟩ := hC
  obtain ⟨hx, hb, hml, hown, hts⟩ := hF
  have hg : ∀ w ∈ GW, w.before a s = true := fun w h => hts w (List.mem_cons_of_mem _ h)
  have hA : ∀ q, s.heap.size ≤ q → va_A (wl E w0) s.heap.size q := fun q h => Or.inr h
  have hl : lv_has ls 2 [(0, .ref (ad E q)), (1, .ref (zg E (1 + k2)))] := hl
  refine lv_aload_n hx hb d_N_become_0 rfl (lv_at hl 0 rfl) ?_
  refine lv_aload_n hx hb d_N_become_1 rfl (lv_at hl 1 rfl) ?_
  refine zv_put (C := "ScaledNumeralDesk$Numeral") (T := TN) (N := 3) (fs' := [.ref (zg E (1 + k2)), .int (iI pl), .ref (ad E (q + 1))]) hx hb hg uN_in tyN tyN_ok nmN hown hK hH q0lt c0 rfl 0 (by decide) (hg _ wm_55) (fun _ h9 => h9) rfl (ty := tyN 0) (by decide +kernel) (rfl) (by rfl) (Nat.le_of_ble_eq_true rfl) d_N_become_2 rfl (fun H2 lc3 w1 hH4 e5 hg6 => ?_)
  have e7 : w1 (q + 1) = .inr (0, [.ref (ad E (q + 2)), .int (iI ng)]) := (hg6 (q + 1) (by omega)).trans c1
  have e8 : w1 (q + 2) = zar E 15 f := (hg6 (q + 2) (by omega)).trans c2
  have hf9 : ∀ k, k ≠ q → w1 k = w0 k := fun k g0 => hg6 k g0
  refine lv_aload_n hx hb d_N_become_5 rfl (lv_at hl 0 rfl) ?_
  refine zv_iconst hx hb d_N_become_6 ?_
  refine zv_put (C := "ScaledNumeralDesk$Numeral") (T := TN) (N := 3) (fs' := [.ref (zg E (1 + k2)), .int (iI 0), .ref (ad E (q + 1))]) hx hb hg uN_in tyN tyN_ok nmN hown hK hH4 q0lt e5 rfl 1 (by decide) (hg _ wm_59) (fun _ h9 => h9) rfl (ty := tyN 1) (by decide +kernel) (rfl) (by rfl) (Nat.le_of_ble_eq_true rfl) d_N_become_7 rfl (fun H11 lc12 w10 hH13 e14 hg15 => ?_)
  have e16 : w10 (q + 1) = .inr (0, [.ref (ad E (q + 2)), .int (iI ng)]) := (hg15 (q + 1) (by omega)).trans e7
  have e17 : w10 (q + 2) = zar E 15 f := (hg15 (q + 2) (by omega)).trans e8
  have hf18 : ∀ k, k ≠ q → w10 k = w0 k := fun k g0 => (hg15 k g0).trans (hf9 k g0)
  refine lv_aload_n hx hb d_N_become_10 rfl (lv_at hl 0 rfl) ?_
  refine zv_get (C := "ScaledNumeralDesk$Numeral") (T := TN) (N := 3) hx hb hg uN_in hown hK hH13 q0lt e14 rfl 2 (by decide) (hg _ wm_64) (fun _ h9 => h9) rfl d_N_become_11 ?_
  refine z_callv (va_runV (As := []) (rest := []) ⟨hx, hb, hml, hown, hts⟩ (c_A_clear (l := l) (E := E) (w0 := w10) (q := q + 1) (f := f) (ng := ng) (q0lt := q1lt) (q1lt := q2lt) (c0 := e16) (c1 := e17) (bf := bf) H11.size) (z_cwV (C := "ScaledNumeralDesk$Amount") 0 hg wm_234 wm_231 wm_5 wm_232 wm_233 (by decide +kernel) ⟨Nat.le_of_ble_eq_true rfl, Nat.le_of_ble_eq_true rfl⟩) (z_preV (r := ("ScaledNumeralDesk$Amount", TA, 2)) hK hG hn hH13 hA q1lt e16 rfl) rfl rfl hl.1 rfl (lv_room (Nat.le_of_ble_eq_true rfl)) d_N_become_14 ⟨Nat.zero_le _, Nat.zero_le _⟩) hH13 hA (fun  w21 H19 lc20 hH22 p14 => ?_)
  obtain ⟨⟨f_23, e24, e25, bd26, p14⟩, hg27⟩ := p14
  have bd26 : bd f_23 15 0 9999 := bd26
  have p14 : ∀ j : Int, 0 ≤ j → j < 15 → f_23 j = 0 := p14
  have e28 : w21 q = .inr (1, [.ref (zg E (1 + k2)), .int (iI 0), .ref (ad E (q + 1))]) := (hg27 q (by omega) (by omega)).trans e14
  have hf29 : ∀ k, k ≠ q → k ≠ (q + 1) → k ≠ (q + 2) → w21 k = w0 k := fun k g0 g1 g2 => (hg27 k g1 g2).trans (hf18 k g0)
  rw [hQ]
  exact z_vret hx hb hr hlk hH22 (⟨⟨f_23, e28, e24, e25, bd26, p14⟩, (fun k g0 g1 g2 => hf29 k g0 g1 g2)⟩) d_N_become_17
def rm_N_becomeInf : Room := { frames := 3, cells := 0, slots := 0, locals := 64 }
set_option maxHeartbeats 4000000 in
set_option maxRecDepth 100000 in
theorem c_N_becomeInf (l : Launch) (E : zE) (w0 : zW) (q : Nat) (kd : Nat) (pl ng sg : Int) (f : Int → Int) (q0lt : q < zn E) (q1lt : q + 1 < zn E) (q2lt : q + 2 < zn E) (c0 : w0 q = .inr (1, [.ref (zg E (1 + kd)), .int (iI pl), .ref (ad E (q + 1))])) (c1 : w0 (q + 1) = .inr (0, [.ref (ad E (q + 2)), .int (iI ng)])) (c2 : w0 (q + 2) = zar E 15 f) (bf : bd f 15 0 9999) (hkd : kd < 4) (hng : ng = 0 ∨ ng = 1) (hsg : zr sg) : zM l y_N_becomeInfinite ws_N_becomeInfinite rm_N_becomeInf E [.ref (ad E q), .int (iI sg)] w0 (zQv E w0 (fun w' => (∃ (k' : Nat) (f' : Int → Int), w' q = .inr (1, [.ref (zg E (1 + k')), .int (iI 0), .ref (ad E (q + 1))]) ∧ w' (q + 1) = .inr (0, [.ref (ad E (q + 2)), .int (iI 0)]) ∧ w' (q + 2) = zar E 15 f' ∧ bd f' 15 0 9999 ∧ ((∀ j : Int, 0 ≤ j → j < 15 → f' j = 0) ∧ ((sg < 0 ∧ k' = 0) ∨ (0 ≤ sg ∧ k' = 2)))) ∧ ∀ k, k ≠ q → k ≠ (q + 1) → k ≠ (q + 2) → w' k = w0 k)) := by
  refine z_met (cc := b_N_becomeInfinite) (maxL := 2) (ret := none) (by decide +kernel) rfl (Nat.le_of_ble_eq_true rfl) ?_
  intro p e s m below meth cd ls a Qf hQ hC hl hH
  obtain ⟨hF, hr, hlk, hK, hG, hn⟩ := hC
  obtain ⟨hx, hb, hml, hown, hts⟩ := hF
  have hg : ∀ w ∈ GW, w.before a s = true := fun w h => hts w (List.mem_cons_of_mem _ h)
  have hA : ∀ q, s.heap.size ≤ q → va_A (wl E w0) s.heap.size q := fun q h => Or.inr h
  have hl : lv_has ls 2 [(0, .ref (ad E q)), (1, .int (iI sg))] := hl
  refine lv_aload_n hx hb d_N_becomeInfinite_0 rfl (lv_at hl 0 rfl) ?_
  refine lv_iload_n hx hb d_N_becomeInfinite_1 rfl (lv_at hl 1 rfl) ?_
  refine zv_if_ge (tgt := 11) hx hb d_N_becomeInfinite_2 rfl (by omega) (fun h1 => ?_) (fun h1 => ?_)
  · refine zv_kind hx hb hG hH hown 2 (by decide) (hg _ wm_250) (fun _ h9 => h9) d_N_becomeInfinite_11 ?_
    refine z_callv (va_runV (As := [.ref (zg E (1 + 2))]) (rest := []) ⟨hx, hb, hml, hown, hts⟩ (c_N_become (l := l) (E := E) (w0 := w0) (q := q) (kd := kd) (k2 := 2) (pl := pl) (ng := ng) (f := f) (q0lt := q0lt) (q1lt := q1lt) (q2lt := q2lt) (c0 := c0) (c1 := c1) (c2 := c2) (bf := bf) (hkd := by omega) (hng := by omega) s.heap.size) (z_cwV (C := "ScaledNumeralDesk$Numeral") 1 hg wm_230 wm_252 wm_2 wm_228 wm_229 (by decide +kernel) ⟨Nat.le_of_ble_eq_true rfl, Nat.le_of_ble_eq_true rfl⟩) (z_preV (r := ("ScaledNumeralDesk$Numeral", TN, 3)) hK hG hn hH hA q0lt c0 rfl) rfl rfl hl.1 rfl (lv_room (Nat.le_of_ble_eq_true rfl)) d_N_becomeInfinite_14 ⟨Nat.zero_le _, Nat.zero_le _⟩) hH hA (fun  w4 H2 lc3 hH5 p14 => ?_)
    obtain ⟨⟨f_6, e7, e8, e9, bd10, p14⟩, hg11⟩ := p14
    have bd10 : bd f_6 15 0 9999 := bd10
    have p14 : ∀ j : Int, 0 ≤ j → j < 15 → f_6 j = 0 := p14
    have hf12 : ∀ k, k ≠ q → k ≠ (q + 1) → k ≠ (q + 2) → w4 k = w0 k := fun k g0 g1 g2 => hg11 k g0 g1 g2
    rw [hQ]
    exact z_vret hx hb hr hlk hH5 (⟨⟨2, f_6, e7, e8, e9, bd10, ⟨p14, by omega⟩⟩, (fun k g0 g1 g2 => hf12 k g0 g1 g2)⟩) d_N_becomeInfinite_17
  · refine zv_kind hx hb hG hH hown 0 (by decide) (hg _ wm_248) (fun _ h9 => h9) d_N_becomeInfinite_5 ?_
    refine lv_goto (tgt := 14) hx hb d_N_becomeInfinite_8 rfl ?_
    refine z_callv (va_runV (As := [.ref (zg E (1 + 0))]) (rest := []) ⟨hx, hb, hml, hown, hts⟩ (c_N_become (l := l) (E := E) (w0 := w0) (q := q) (kd := kd) (k2 := 0) (pl := pl) (ng := ng) (f := f) (q0lt := q0lt) (q1lt := q1lt) (q2lt := q2lt) (c0 := c0) (c1 := c1) (c2 := c2) (bf := bf) (hkd := by omega) (hng := by omega) s.heap.size) (z_cwV (C := "ScaledNumeralDesk$Numeral") 1 hg wm_230 wm_252 wm_2 wm_228 wm_229 (by decide +kernel) ⟨Nat.le_of_ble_eq_true rfl, Nat.le_of_ble_eq_true rfl⟩) (z_preV (r := ("ScaledNumeralDesk$Numeral", TN, 3)) hK hG hn hH hA q0lt c0 rfl) rfl rfl hl.1 rfl (lv_room (Nat.le_of_ble_eq_true rfl)) d_N_becomeInfinite_14 ⟨Nat.zero_le _, Nat.zero_le _⟩) hH hA (fun  w15 H13 lc14 hH16 p14 => ?_)
    obtain ⟨⟨f_17, e18, e19, e20, bd21, p14⟩, hg22⟩ := p14
    have bd21 : bd f_17 15 0 9999 := bd21
    have p14 : ∀ j : Int, 0 ≤ j → j < 15 → f_17 j = 0 := p14
    have hf23 : ∀ k, k ≠ q → k ≠ (q + 1) → k ≠ (q + 2) → w15 k = w0 k := fun k g0 g1 g2 => hg22 k g0 g1 g2
    rw [hQ]
    exact z_vret hx hb hr hlk hH16 (⟨⟨0, f_17, e18, e19, e20, bd21, ⟨p14, by omega⟩⟩, (fun k g0 g1 g2 => hf23 k g0 g1 g2)⟩) d_N_becomeInfinite_17
def rm_N_becomeSmall : Room := { frames := 3, cells := 0, slots := 0, locals := 64 }
set_option maxHeartbeats 4000000 in
set_option maxRecDepth 100000 in
theorem c_N_becomeSmall (l : Launch) (E : zE) (w0 : zW) (q : Nat) (kd : Nat) (pl ng x : Int) (f : Int → Int) (q0lt : q < zn E) (q1lt : q + 1 < zn E) (q2lt : q + 2 < zn E) (c0 : w0 q = .inr (1, [.ref (zg E (1 + kd)), .int (iI pl), .ref (ad E (q + 1))])) (c1 : w0 (q + 1) = .inr (0, [.ref (ad E (q + 2)), .int (iI ng)])) (c2 : w0 (q + 2) = zar E 15 f) (bf : bd f 15 0 9999) (hkd : kd < 4) (hng : ng = 0 ∨ ng = 1) (hx0 : 0 ≤ x ∧ x ≤ 9999) : zM l y_N_becomeSmall ws_N_becomeSmall rm_N_becomeSmall E [.ref (ad E q), .int (iI x)] w0 (zQv E w0 (fun w' => (∃ (f' : Int → Int), w' q = .inr (1, [.ref (zg E (1 + 1)), .int (iI 0), .ref (ad E (q + 1))]) ∧ w' (q + 1) = .inr (0, [.ref (ad E (q + 2)), .int (iI 0)]) ∧ w' (q + 2) = zar E 15 f' ∧ bd f' 15 0 9999 ∧ (V f' 15 = x * Bp 6)) ∧ ∀ k, k ≠ q → k ≠ (q + 1) → k ≠ (q + 2) → w' k = w0 k)) := by
  refine z_met (cc := b_N_becomeSmall) (maxL := 2) (ret := none) (by decide +kernel) rfl (Nat.le_of_ble_eq_true rfl) ?_
  intro p e s m below meth cd ls a Qf hQ hC hl hH
  obtain ⟨hF, hr, hlk, hK, hG, hn⟩ := hC
  obtain ⟨hx, hb, hml, hown, hts⟩ := hF
  have hg : ∀ w ∈ GW, w.before a s = true := fun w h => hts w (List.mem_cons_of_mem _ h)
  have hA : ∀ q, s.heap.size ≤ q → va_A (wl E w0) s.heap.size q := fun q h => Or.inr h
  have hl : lv_has ls 2 [(0, .ref (ad E q)), (1, .int (iI x))] := hl
  refine lv_aload_n hx hb d_N_becomeSmall_0 rfl (lv_at hl 0 rfl) ?_
  refine zv_kind hx hb hG hH hown 1 (by decide) (hg _ wm_34) (fun _ h9 => h9) d_N_becomeSmall_1 ?_
  refine z_callv (va_runV (As := [.ref (zg E (1 + 1))]) (rest := []) ⟨hx, hb, hml, hown, hts⟩ (c_N_become (l := l) (E := E) (w0 := w0) (q := q) (kd := kd) (k2 := 1) (pl := pl) (ng := ng) (f := f) (q0lt := q0lt) (q1lt := q1lt) (q2lt := q2lt) (c0 := c0) (c1 := c1) (c2 := c2) (bf := bf) (hkd := by omega) (hng := by omega) s.heap.size) (z_cwV (C := "ScaledNumeralDesk$Numeral") 1 hg wm_230 wm_252 wm_2 wm_228 wm_229 (by decide +kernel) ⟨Nat.le_of_ble_eq_true rfl, Nat.le_of_ble_eq_true rfl⟩) (z_preV (r := ("ScaledNumeralDesk$Numeral", TN, 3)) hK hG hn hH hA q0lt c0 rfl) rfl rfl hl.1 rfl (lv_room (Nat.le_of_ble_eq_true rfl)) d_N_becomeSmall_4 ⟨Nat.zero_le _, Nat.zero_le _⟩) hH hA (fun  w3 H1 lc2 hH4 p4 => ?_)
  obtain ⟨⟨f1, e5, e6, e7, bd8, p4⟩, hg9⟩ := p4
  have bd8 : bd f1 15 0 9999 := bd8
  have p4 : ∀ j : Int, 0 ≤ j → j < 15 → f1 j = 0 := p4
  have hf10 : ∀ k, k ≠ q → k ≠ (q + 1) → k ≠ (q + 2) → w3 k = w0 k := fun k g0 g1 g2 => hg9 k g0 g1 g2
  refine lv_aload_n hx hb d_N_becomeSmall_7 rfl (lv_at hl 0 rfl) ?_
  refine zv_get (C := "ScaledNumeralDesk$Numeral") (T := TN) (N := 3) hx hb hg uN_in hown hK hH4 q0lt e5 rfl 2 (by decide) (hg _ wm_64) (fun _ h9 => h9) rfl d_N_becomeSmall_8 ?_
  refine zv_get (C := "ScaledNumeralDesk$Amount") (T := TA) (N := 2) hx hb hg uA_in hown hK hH4 q1lt e6 rfl 0 (by decide) (hg _ wm_45) (fun _ h9 => h9) rfl d_N_becomeSmall_11 ?_
  refine zv_bipush hx hb d_N_becomeSmall_14 rfl ?_
  refine lv_iload_n hx hb d_N_becomeSmall_16 rfl (lv_at hl 1 rfl) ?_
  refine zv_iast hx hb hK hH4 q2lt e7 (by omega) (by omega) (by omega) d_N_becomeSmall_17 (fun H12 lc13 w11 hH14 e15 hg16 => ?_)
  have bd17 := bd_up bd8 6 x (by omega)
  have e18 : w11 q = .inr (1, [.ref (zg E (1 + 1)), .int (iI 0), .ref (ad E (q + 1))]) := (hg16 q (by omega)).trans e5
  have e19 : w11 (q + 1) = .inr (0, [.ref (ad E (q + 2)), .int (iI 0)]) := (hg16 (q + 1) (by omega)).trans e6
  have hf20 : ∀ k, k ≠ q → k ≠ (q + 1) → k ≠ (q + 2) → w11 k = w0 k := fun k g0 g1 g2 => (hg16 k g2).trans (hf10 k g0 g1 g2)
  rw [hQ]
  exact z_vret hx hb hr hlk hH14 (⟨⟨(up f1 6 x), e18, e19, e15, bd17, by rw [V_set f1 (by decide) (by decide), V0_of p4, p4 6 (by decide) (by decide)]; omega⟩, (fun k g0 g1 g2 => hf20 k g0 g1 g2)⟩) d_N_becomeSmall_18
def rm_N_sign : Room := { frames := 3, cells := 0, slots := 0, locals := 61 }
set_option maxHeartbeats 4000000 in
set_option maxRecDepth 100000 in
theorem c_N_sign (l : Launch) (E : zE) (w0 : zW) (q : Nat) (kd : Nat) (pl ng : Int) (f : Int → Int) (q0lt : q < zn E) (q1lt : q + 1 < zn E) (q2lt : q + 2 < zn E) (c0 : w0 q = .inr (1, [.ref (zg E (1 + kd)), .int (iI pl), .ref (ad E (q + 1))])) (c1 : w0 (q + 1) = .inr (0, [.ref (ad E (q + 2)), .int (iI ng)])) (c2 : w0 (q + 2) = zar E 15 f) (bf : bd f 15 0 9999) (hkd : kd < 4) (hng : ng = 0 ∨ ng = 1) : zM l y_N_sign ws_N_sign rm_N_sign E [.ref (ad E q)] w0 (zQi E w0 (fun z w' => w' = w0 ∧ ((kd = 1 ∧ ((z = 0 ∧ V f 15 = 0) ∨ (z = -1 ∧ 0 < V f 15 ∧ ng = 1) ∨ (z = 1 ∧ 0 < V f 15 ∧ ng = 0))) ∨ (kd = 0 ∧ z = -1) ∨ ((kd = 2 ∨ kd = 3) ∧ z = 1)))) := by
  refine z_met (cc := b_N_sign) (maxL := 1) (ret := (some .int)) (by decide +kernel) rfl (Nat.le_of_ble_eq_true rfl) ?_
  intro p e s m below meth cd ls a Qf hQ hC hl hH
  obtain ⟨hF, hr, hlk, hK, hG, hn⟩ := hC
  obtain ⟨hx, hb, hml, hown, hts⟩ := hF
  have hg : ∀ w ∈ GW, w.before a s = true := fun w h => hts w (List.mem_cons_of_mem _ h)
  have hA : ∀ q, s.heap.size ≤ q → va_A (wl E w0) s.heap.size q := fun q h => Or.inr h
  have hl : lv_has ls 1 [(0, .ref (ad E q))] := hl
  refine lv_aload_n hx hb d_N_sign_0 rfl (lv_at hl 0 rfl) ?_
  refine z_calli (va_runV (As := []) (rest := []) ⟨hx, hb, hml, hown, hts⟩ (c_N_isFinite (l := l) (E := E) (w0 := w0) (q := q) (kd := kd) (pl := pl) (ng := ng) (f := f) (q0lt := q0lt) (q1lt := q1lt) (q2lt := q2lt) (c0 := c0) (c1 := c1) (c2 := c2) (bf := bf) (hkd := by omega) (hng := by omega) s.heap.size) (z_cwV (C := "ScaledNumeralDesk$Numeral") 0 hg wm_344 wm_341 wm_2 wm_342 wm_343 (by decide +kernel) ⟨Nat.le_of_ble_eq_true rfl, Nat.le_of_ble_eq_true rfl⟩) (z_preV (r := ("ScaledNumeralDesk$Numeral", TN, 3)) hK hG hn hH hA q0lt c0 rfl) rfl rfl hl.1 rfl (lv_room (Nat.le_of_ble_eq_true rfl)) d_N_sign_1 ⟨Nat.zero_le _, Nat.zero_le _⟩) hH hA (fun z6 w3 H1 lc2 hH4 hp5 => ?_)
  obtain ⟨ew7, hp5⟩ := hp5
  rw [ew7] at hH4
  have hp5 : (z6 = 1 ∧ kd = 1) ∨ (z6 = 0 ∧ kd ≠ 1) := hp5
  refine zv_if_eq (tgt := 15) hx hb d_N_sign_4 rfl (by omega) (fun h8 => ?_) (fun h8 => ?_)
  · refine lv_aload_n hx hb d_N_sign_15 rfl (lv_at hl 0 rfl) ?_
    refine zv_get (C := "ScaledNumeralDesk$Numeral") (T := TN) (N := 3) hx hb hg uN_in hown hK hH4 q0lt c0 rfl 0 (by decide) (hg _ wm_55) (fun _ h9 => h9) rfl d_N_sign_16 ?_
    refine zv_kind hx hb hG hH4 hown 0 (by decide) (hg _ wm_248) (fun _ h9 => h9) d_N_sign_19 ?_
    refine zv_acmp_ne (a := kd) (b := 0) (tgt := 29) hx hb hG (by omega) (by omega) d_N_sign_22 rfl (fun h9 => ?_) (fun h9 => ?_)
    · refine zv_iconst hx hb d_N_sign_29 ?_
      rw [hQ]
      exact z_iret hx hb hr hlk hH4 (⟨rfl, by omega⟩) d_N_sign_30
    · refine zv_iconst hx hb d_N_sign_25 ?_
      refine lv_goto (tgt := 30) hx hb d_N_sign_26 rfl ?_
      rw [hQ]
      exact z_iret hx hb hr hlk hH4 (⟨rfl, by omega⟩) d_N_sign_30
  · refine lv_aload_n hx hb d_N_sign_7 rfl (lv_at hl 0 rfl) ?_
    refine zv_get (C := "ScaledNumeralDesk$Numeral") (T := TN) (N := 3) hx hb hg uN_in hown hK hH4 q0lt c0 rfl 2 (by decide) (hg _ wm_64) (fun _ h9 => h9) rfl d_N_sign_8 ?_
    refine z_calli (va_runV (As := []) (rest := []) ⟨hx, hb, hml, hown, hts⟩ (c_A_sign (l := l) (E := E) (w0 := w0) (q := q + 1) (f := f) (ng := ng) (q0lt := q1lt) (q1lt := q2lt) (c0 := c1) (c1 := c2) (bf := bf) (hng := by omega) H1.size) (z_cwV (C := "ScaledNumeralDesk$Amount") 0 hg wm_416 wm_413 wm_5 wm_414 wm_415 (by decide +kernel) ⟨Nat.le_of_ble_eq_true rfl, Nat.le_of_ble_eq_true rfl⟩) (z_preV (r := ("ScaledNumeralDesk$Amount", TA, 2)) hK hG hn hH4 hA q1lt c1 rfl) rfl rfl hl.1 rfl (lv_room (Nat.le_of_ble_eq_true rfl)) d_N_sign_11 ⟨Nat.zero_le _, Nat.zero_le _⟩) hH4 hA (fun z15 w12 H10 lc11 hH13 hp14 => ?_)
    obtain ⟨ew16, hp14⟩ := hp14
    rw [ew16] at hH13
    have hp14 : (z15 = 0 ∧ V f 15 = 0) ∨ (z15 = -1 ∧ 0 < V f 15 ∧ ng = 1) ∨ (z15 = 1 ∧ 0 < V f 15 ∧ ng = 0) := hp14
    rw [hQ]
    exact z_iret hx hb hr hlk hH13 (⟨rfl, by omega⟩) d_N_sign_14
def rm_N_isZero : Room := { frames := 2, cells := 0, slots := 0, locals := 41 }
set_option maxHeartbeats 4000000 in
set_option maxRecDepth 100000 in
theorem c_N_isZero (l : Launch) (E : zE) (w0 : zW) (q : Nat) (kd : Nat) (pl ng : Int) (f : Int → Int) (q0lt : q < zn E) (q1lt : q + 1 < zn E) (q2lt : q + 2 < zn E) (c0 : w0 q = .inr (1, [.ref (zg E (1 + kd)), .int (iI pl), .ref (ad E (q + 1))])) (c1 : w0 (q + 1) = .inr (0, [.ref (ad E (q + 2)), .int (iI ng)])) (c2 : w0 (q + 2) = zar E 15 f) (bf : bd f 15 0 9999) (hkd : kd < 4) (hng : ng = 0 ∨ ng = 1) : zM l y_N_isZero ws_N_isZero rm_N_isZero E [.ref (ad E q)] w0 (zQi E w0 (fun z w' => w' = w0 ∧ ((z = 1 ∧ kd = 1 ∧ V f 15 = 0) ∨ (z = 0 ∧ (kd ≠ 1 ∨ 0 < V f 15))))) := by
  refine z_met (cc := b_N_isZero) (maxL := 1) (ret := (some .boolean)) (by decide +kernel) rfl (Nat.le_of_ble_eq_true rfl) ?_
  intro p e s m below meth cd ls a Qf hQ hC hl hH
  obtain ⟨hF, hr, hlk, hK, hG, hn⟩ := hC
  obtain ⟨hx, hb, hml, hown, hts⟩ := hF
  have hg : ∀ w ∈ GW, w.before a s = true := fun w h => hts w (List.mem_cons_of_mem _ h)
  have hA : ∀ q, s.heap.size ≤ q → va_A (wl E w0) s.heap.size q := fun q h => Or.inr h
  have hl : lv_has ls 1 [(0, .ref (ad E q))] := hl
  refine lv_aload_n hx hb d_N_isZero_0 rfl (lv_at hl 0 rfl) ?_
  refine z_calli (va_runV (As := []) (rest := []) ⟨hx, hb, hml, hown, hts⟩ (c_N_isFinite (l := l) (E := E) (w0 := w0) (q := q) (kd := kd) (pl := pl) (ng := ng) (f := f) (q0lt := q0lt) (q1lt := q1lt) (q2lt := q2lt) (c0 := c0) (c1 := c1) (c2 := c2) (bf := bf) (hkd := by omega) (hng := by omega) s.heap.size) (z_cwV (C := "ScaledNumeralDesk$Numeral") 0 hg wm_344 wm_341 wm_2 wm_342 wm_343 (by decide +kernel) ⟨Nat.le_of_ble_eq_true rfl, Nat.le_of_ble_eq_true rfl⟩) (z_preV (r := ("ScaledNumeralDesk$Numeral", TN, 3)) hK hG hn hH hA q0lt c0 rfl) rfl rfl hl.1 rfl (lv_room (Nat.le_of_ble_eq_true rfl)) d_N_isZero_1 ⟨Nat.zero_le _, Nat.zero_le _⟩) hH hA (fun z6 w3 H1 lc2 hH4 hp5 => ?_)
  obtain ⟨ew7, hp5⟩ := hp5
  rw [ew7] at hH4
  have hp5 : (z6 = 1 ∧ kd = 1) ∨ (z6 = 0 ∧ kd ≠ 1) := hp5
  refine zv_if_eq (tgt := 21) hx hb d_N_isZero_4 rfl (by omega) (fun h8 => ?_) (fun h8 => ?_)
  · refine zv_iconst hx hb d_N_isZero_21 ?_
    rw [hQ]
    exact z_zret hx hb hr hlk hH4 (⟨rfl, by omega⟩) (by exact nar_z (by omega)) d_N_isZero_22
  · refine lv_aload_n hx hb d_N_isZero_7 rfl (lv_at hl 0 rfl) ?_
    refine zv_get (C := "ScaledNumeralDesk$Numeral") (T := TN) (N := 3) hx hb hg uN_in hown hK hH4 q0lt c0 rfl 2 (by decide) (hg _ wm_64) (fun _ h9 => h9) rfl d_N_isZero_8 ?_
    refine z_calli (va_runV (As := []) (rest := []) ⟨hx, hb, hml, hown, hts⟩ (c_A_isZero (l := l) (E := E) (w0 := w0) (q := q + 1) (f := f) (ng := ng) (q0lt := q1lt) (q1lt := q2lt) (c0 := c1) (c1 := c2) (bf := bf) H1.size) (z_cwV (C := "ScaledNumeralDesk$Amount") 0 hg wm_297 wm_453 wm_5 wm_295 wm_296 (by decide +kernel) ⟨Nat.le_of_ble_eq_true rfl, Nat.le_of_ble_eq_true rfl⟩) (z_preV (r := ("ScaledNumeralDesk$Amount", TA, 2)) hK hG hn hH4 hA q1lt c1 rfl) rfl rfl hl.1 rfl (lv_room (Nat.le_of_ble_eq_true rfl)) d_N_isZero_11 ⟨Nat.zero_le _, Nat.zero_le _⟩) hH4 hA (fun z14 w11 H9 lc10 hH12 hp13 => ?_)
    obtain ⟨ew15, hp13⟩ := hp13
    rw [ew15] at hH12
    have hp13 : (z14 = 1 ∧ V f 15 = 0) ∨ (z14 = 0 ∧ 0 < V f 15) := hp13
    refine zv_if_eq (tgt := 21) hx hb d_N_isZero_14 rfl (by omega) (fun h16 => ?_) (fun h16 => ?_)
    · refine zv_iconst hx hb d_N_isZero_21 ?_
      rw [hQ]
      exact z_zret hx hb hr hlk hH12 (⟨rfl, by omega⟩) (by exact nar_z (by omega)) d_N_isZero_22
    · refine zv_iconst hx hb d_N_isZero_17 ?_
      refine lv_goto (tgt := 22) hx hb d_N_isZero_18 rfl ?_
      rw [hQ]
      exact z_zret hx hb hr hlk hH12 (⟨rfl, by omega⟩) (by exact nar_z (by omega)) d_N_isZero_22
def rm_N_isTooLarge : Room := { frames := 3, cells := 0, slots := 0, locals := 65 }
set_option maxHeartbeats 4000000 in
set_option maxRecDepth 100000 in
theorem c_N_isTooLarge (l : Launch) (E : zE) (w0 : zW) (q : Nat) (kd : Nat) (pl ng : Int) (f : Int → Int) (q0lt : q < zn E) (q1lt : q + 1 < zn E) (q2lt : q + 2 < zn E) (c0 : w0 q = .inr (1, [.ref (zg E (1 + kd)), .int (iI pl), .ref (ad E (q + 1))])) (c1 : w0 (q + 1) = .inr (0, [.ref (ad E (q + 2)), .int (iI ng)])) (c2 : w0 (q + 2) = zar E 15 f) (bf : bd f 15 0 9999) (hkd : kd < 4) (hng : ng = 0 ∨ ng = 1) : zM l y_N_isTooLarge ws_N_isTooLarge rm_N_isTooLarge E [.ref (ad E q)] w0 (zQi E w0 (fun z w' => w' = w0 ∧ ((z = 1 ∧ Tp 56 ≤ V f 15) ∨ (z = 0 ∧ V f 15 < Tp 56)))) := by
  refine z_met (cc := b_N_isTooLarge) (maxL := 1) (ret := (some .boolean)) (by decide +kernel) rfl (Nat.le_of_ble_eq_true rfl) ?_
  intro p e s m below meth cd ls a Qf hQ hC hl hH
  obtain ⟨hF, hr, hlk, hK, hG, hn⟩ := hC
  obtain ⟨hx, hb, hml, hown, hts⟩ := hF
  have hg : ∀ w ∈ GW, w.before a s = true := fun w h => hts w (List.mem_cons_of_mem _ h)
  have hA : ∀ q, s.heap.size ≤ q → va_A (wl E w0) s.heap.size q := fun q h => Or.inr h
  have hl : lv_has ls 1 [(0, .ref (ad E q))] := hl
  refine lv_aload_n hx hb d_N_isTooLarge_0 rfl (lv_at hl 0 rfl) ?_
  refine zv_get (C := "ScaledNumeralDesk$Numeral") (T := TN) (N := 3) hx hb hg uN_in hown hK hH q0lt c0 rfl 2 (by decide) (hg _ wm_64) (fun _ h9 => h9) rfl d_N_isTooLarge_1 ?_
  refine zv_bipush hx hb d_N_isTooLarge_4 rfl ?_
  refine z_calli (va_runV (As := [.int (iI 32)]) (rest := []) ⟨hx, hb, hml, hown, hts⟩ (c_A_reaches (l := l) (E := E) (w0 := w0) (q := q + 1) (f := f) (ng := ng) (x := 32) (q0lt := q1lt) (q1lt := q2lt) (c0 := c1) (c1 := c2) (bf := bf) (hx0 := by omega) s.heap.size) (z_cwV (C := "ScaledNumeralDesk$Amount") 1 hg wm_308 wm_305 wm_5 wm_306 wm_307 (by decide +kernel) ⟨Nat.le_of_ble_eq_true rfl, Nat.le_of_ble_eq_true rfl⟩) (z_preV (r := ("ScaledNumeralDesk$Amount", TA, 2)) hK hG hn hH hA q1lt c1 rfl) rfl rfl hl.1 rfl (lv_room (Nat.le_of_ble_eq_true rfl)) d_N_isTooLarge_6 ⟨Nat.zero_le _, Nat.zero_le _⟩) hH hA (fun z5 w3 H1 lc2 hH4 p6 => ?_)
  obtain ⟨ew6, p6⟩ := p6
  rw [ew6] at hH4
  have p6 : (z5 = 1 ∧ Tp (24 + (32 : Int)) ≤ V f 15) ∨ (z5 = 0 ∧ V f 15 < Tp (24 + (32 : Int))) := p6
  rw [show (24 : Int) + 32 = 56 by decide] at p6
  rw [hQ]
  exact z_zret hx hb hr hlk hH4 (⟨rfl, p6⟩) (by exact nar_z (by omega)) d_N_isTooLarge_9
def rm_N_keep : Room := { frames := 3, cells := 0, slots := 0, locals := 62 }
set_option maxHeartbeats 4000000 in
set_option maxRecDepth 100000 in
theorem c_N_keep (l : Launch) (E : zE) (w0 : zW) (q : Nat) (kd : Nat) (pl ng x : Int) (f : Int → Int) (q0lt : q < zn E) (q1lt : q + 1 < zn E) (q2lt : q + 2 < zn E) (c0 : w0 q = .inr (1, [.ref (zg E (1 + kd)), .int (iI pl), .ref (ad E (q + 1))])) (c1 : w0 (q + 1) = .inr (0, [.ref (ad E (q + 2)), .int (iI ng)])) (c2 : w0 (q + 2) = zar E 15 f) (bf : bd f 15 0 9999) (hkd : kd < 4) (hng : ng = 0 ∨ ng = 1) (hx0 : zr x) : zM l y_N_keepSignAndPlaces ws_N_keepSignAndPlaces rm_N_keep E [.ref (ad E q), .int (iI x)] w0 (zQv E w0 (fun w' => (∃ (p' : Int) (n' : Int), w' q = .inr (1, [.ref (zg E (1 + kd)), .int (iI p'), .ref (ad E (q + 1))]) ∧ w' (q + 1) = .inr (0, [.ref (ad E (q + 2)), .int (iI n')]) ∧ ((n' = 0 ∨ n' = 1) ∧ (V f 15 = 0 → n' = 0) ∧ (0 < V f 15 → n' = ng) ∧ p' = max x 0)) ∧ ∀ k, k ≠ q → k ≠ (q + 1) → w' k = w0 k)) := by
  refine z_met (cc := b_N_keepSignAndPlaces) (maxL := 2) (ret := none) (by decide +kernel) rfl (Nat.le_of_ble_eq_true rfl) ?_
  intro p e s m below meth cd ls a Qf hQ hC hl hH
  obtain ⟨hF, hr, hlk, hK, hG, hn⟩ := hC
  obtain ⟨hx, hb, hml, hown, hts⟩ := hF
  have hg : ∀ w ∈ GW, w.before a s = true := fun w h => hts w (List.mem_cons_of_mem _ h)
  have hA : ∀ q, s.heap.size ≤ q → va_A (wl E w0) s.heap.size q := fun q h => Or.inr h
  have hl : lv_has ls 2 [(0, .ref (ad E q)), (1, .int (iI x))] := hl
  refine lv_aload_n hx hb d_N_keepSignAndPlaces_0 rfl (lv_at hl 0 rfl) ?_
  refine zv_get (C := "ScaledNumeralDesk$Numeral") (T := TN) (N := 3) hx hb hg uN_in hown hK hH q0lt c0 rfl 2 (by decide) (hg _ wm_64) (fun _ h9 => h9) rfl d_N_keepSignAndPlaces_1 ?_
  refine lv_aload_n hx hb d_N_keepSignAndPlaces_4 rfl (lv_at hl 0 rfl) ?_
  refine zv_get (C := "ScaledNumeralDesk$Numeral") (T := TN) (N := 3) hx hb hg uN_in hown hK hH q0lt c0 rfl 2 (by decide) (hg _ wm_64) (fun _ h9 => h9) rfl d_N_keepSignAndPlaces_5 ?_
  refine zv_get (C := "ScaledNumeralDesk$Amount") (T := TA) (N := 2) hx hb hg uA_in hown hK hH q1lt c1 rfl 1 (by decide) (hg _ wm_48) (fun _ h9 => h9) rfl d_N_keepSignAndPlaces_8 ?_
  refine z_callv (va_runV (As := [.int (iI ng)]) (rest := []) ⟨hx, hb, hml, hown, hts⟩ (c_A_signAs (l := l) (E := E) (w0 := w0) (q := q + 1) (f := f) (ng := ng) (mn := ng) (q0lt := q1lt) (q1lt := q2lt) (c0 := c1) (c1 := c2) (bf := bf) (hmn := by omega) s.heap.size) (z_cwV (C := "ScaledNumeralDesk$Amount") 1 hg wm_293 wm_532 wm_5 wm_291 wm_292 (by decide +kernel) ⟨Nat.le_of_ble_eq_true rfl, Nat.le_of_ble_eq_true rfl⟩) (z_preV (r := ("ScaledNumeralDesk$Amount", TA, 2)) hK hG hn hH hA q1lt c1 rfl) rfl rfl hl.1 rfl (lv_room (Nat.le_of_ble_eq_true rfl)) d_N_keepSignAndPlaces_11 ⟨Nat.zero_le _, Nat.zero_le _⟩) hH hA (fun  w3 H1 lc2 hH4 p11 => ?_)
  obtain ⟨⟨n_5, e6, p11⟩, hg7⟩ := p11
  have p11 : (n_5 = 0 ∨ n_5 = 1) ∧ (V f 15 = 0 → n_5 = 0) ∧ (0 < V f 15 → n_5 = ng) := p11
  have e8 : w3 q = .inr (1, [.ref (zg E (1 + kd)), .int (iI pl), .ref (ad E (q + 1))]) := (hg7 q (by omega)).trans c0
  have e9 : w3 (q + 2) = zar E 15 f := (hg7 (q + 2) (by omega)).trans c2
  have hf10 : ∀ k, k ≠ (q + 1) → w3 k = w0 k := fun k g0 => hg7 k g0
  refine lv_aload_n hx hb d_N_keepSignAndPlaces_14 rfl (lv_at hl 0 rfl) ?_
  refine lv_iload_n hx hb d_N_keepSignAndPlaces_15 rfl (lv_at hl 1 rfl) ?_
  refine zv_iconst hx hb d_N_keepSignAndPlaces_16 ?_
  refine z_calli (va_runS (As := [.int (iI x), .int (iI 0)]) (rest := [.ref (ad E q)]) ⟨hx, hb, hml, hown, hts⟩ (c_max (l := l) (E := E) (w0 := w3) (x := x) (y := 0) (zx := by omega) (zy := by omega) H1.size) (z_cwS 2 hg wm_275 wm_351 wm_15 wm_274 (by decide +kernel) ⟨Nat.le_of_ble_eq_true rfl, Nat.le_of_ble_eq_true rfl⟩) (z_preS hK hG hn hH4 hA) rfl rfl hl.1 rfl (lv_room (Nat.le_of_ble_eq_true rfl)) d_N_keepSignAndPlaces_17 ⟨Nat.zero_le _, Nat.zero_le _⟩) hH4 hA (fun z15 w13 H11 lc12 hH14 p17 => ?_)
  obtain ⟨ew16, p17⟩ := p17
  rw [ew16] at hH14
  have p17 : z15 = max x (0 : Int) := p17
  refine zv_put (C := "ScaledNumeralDesk$Numeral") (T := TN) (N := 3) (fs' := [.ref (zg E (1 + kd)), .int (iI z15), .ref (ad E (q + 1))]) hx hb hg uN_in tyN tyN_ok nmN hown hK hH14 q0lt e8 rfl 1 (by decide) (hg _ wm_59) (fun _ h9 => h9) rfl (ty := tyN 1) (by decide +kernel) (rfl) (by rfl) (Nat.le_of_ble_eq_true rfl) d_N_keepSignAndPlaces_20 rfl (fun H18 lc19 w17 hH20 e21 hg22 => ?_)
  have e23 : w17 (q + 1) = .inr (0, [.ref (ad E (q + 2)), .int (iI n_5)]) := (hg22 (q + 1) (by omega)).trans e6
  have e24 : w17 (q + 2) = zar E 15 f := (hg22 (q + 2) (by omega)).trans e9
  have hf25 : ∀ k, k ≠ (q + 1) → k ≠ q → w17 k = w0 k := fun k g0 g1 => (hg22 k g1).trans (hf10 k g0)
  rw [hQ]
  exact z_vret hx hb hr hlk hH20 (⟨⟨z15, n_5, e21, e23, ⟨p11.1, p11.2.1, p11.2.2, p17⟩⟩, (fun k g0 g1 => hf25 k g1 g0)⟩) d_N_keepSignAndPlaces_23
def rm_N_roundAt : Room := { frames := 4, cells := 0, slots := 0, locals := 83 }
set_option maxHeartbeats 4000000 in
set_option maxRecDepth 100000 in
theorem c_N_roundAt (l : Launch) (E : zE) (w0 : zW) (q : Nat) (kd : Nat) (pl ng x : Int) (f : Int → Int) (q0lt : q < zn E) (q1lt : q + 1 < zn E) (q2lt : q + 2 < zn E) (c0 : w0 q = .inr (1, [.ref (zg E (1 + kd)), .int (iI pl), .ref (ad E (q + 1))])) (c1 : w0 (q + 1) = .inr (0, [.ref (ad E (q + 2)), .int (iI ng)])) (c2 : w0 (q + 2) = zar E 15 f) (bf : bd f 15 0 9999) (hkd : kd < 4) (hng : ng = 0 ∨ ng = 1) (hx0 : -32 ≤ x ∧ x ≤ 24) : zM l y_N_roundAt ws_N_roundAt rm_N_roundAt E [.ref (ad E q), .int (iI x)] w0 (zQv E w0 (fun w' => (∃ (p' : Int) (n' : Int) (f' : Int → Int), w' q = .inr (1, [.ref (zg E (1 + kd)), .int (iI p'), .ref (ad E (q + 1))]) ∧ w' (q + 1) = .inr (0, [.ref (ad E (q + 2)), .int (iI n')]) ∧ w' (q + 2) = zar E 15 f' ∧ bd f' 15 0 9999 ∧ (V f' 15 = Rn (V f 15) (24 - x) % Bp 15 ∧ (n' = 0 ∨ n' = 1) ∧ (V f' 15 = 0 → n' = 0) ∧ (0 < V f' 15 → n' = ng) ∧ p' = max x 0)) ∧ ∀ k, k ≠ q → k ≠ (q + 1) → k ≠ (q + 2) → w' k = w0 k)) := by
  refine z_met (cc := b_N_roundAt) (maxL := 2) (ret := none) (by decide +kernel) rfl (Nat.le_of_ble_eq_true rfl) ?_
  intro p e s m below meth cd ls a Qf hQ hC hl hH
  obtain ⟨hF, hr, hlk, hK, hG, hn⟩ := hC
  obtain ⟨hx, hb, hml, hown, hts⟩ := hF
  have hg : ∀ w ∈ GW, w.before a s = true := fun w h => hts w (List.mem_cons_of_mem _ h)
  have hA : ∀ q, s.heap.size ≤ q → va_A (wl E w0) s.heap.size q := fun q h => Or.inr h
  have hl : lv_has ls 2 [(0, .ref (ad E q)), (1, .int (iI x))] := hl
  refine lv_aload_n hx hb d_N_roundAt_0 rfl (lv_at hl 0 rfl) ?_
  refine zv_get (C := "ScaledNumeralDesk$Numeral") (T := TN) (N := 3) hx hb hg uN_in hown hK hH q0lt c0 rfl 2 (by decide) (hg _ wm_64) (fun _ h9 => h9) rfl d_N_roundAt_1 ?_
  refine zv_get (C := "ScaledNumeralDesk$Amount") (T := TA) (N := 2) hx hb hg uA_in hown hK hH q1lt c1 rfl 0 (by decide) (hg _ wm_45) (fun _ h9 => h9) rfl d_N_roundAt_4 ?_
  refine zv_bipush hx hb d_N_roundAt_7 rfl ?_
  refine lv_iload_n hx hb d_N_roundAt_9 rfl (lv_at hl 1 rfl) ?_
  refine zv_isub hx hb d_N_roundAt_10 ?_
  refine z_callv (va_runS (As := [.ref (ad E (q + 2)), .int (iI (24 - x))]) (rest := []) ⟨hx, hb, hml, hown, hts⟩ (c_roundOff (l := l) (E := E) (w0 := w0) (q := q + 2) (N := 15) (f := f) (x := 24 - x) (q0lt := q2lt) (c0 := c2) (hN := by omega) (bf := bf) (hp := by omega) s.heap.size) (z_cwS 2 hg wm_435 wm_527 wm_16 wm_434 (by decide +kernel) ⟨Nat.le_of_ble_eq_true rfl, Nat.le_of_ble_eq_true rfl⟩) (z_preS hK hG hn hH hA) rfl rfl hl.1 rfl (lv_room (Nat.le_of_ble_eq_true rfl)) d_N_roundAt_11 ⟨Nat.zero_le _, Nat.zero_le _⟩) hH hA (fun  w3 H1 lc2 hH4 p11 => ?_)
  obtain ⟨⟨f_5, e6, bd7, p11⟩, hg8⟩ := p11
  have bd7 : bd f_5 15 0 9999 := bd7
  have p11 : V f_5 15 = Rn (V f 15) (24 - x) % Bp 15 := p11
  have e9 : w3 q = .inr (1, [.ref (zg E (1 + kd)), .int (iI pl), .ref (ad E (q + 1))]) := (hg8 q (by omega)).trans c0
  have e10 : w3 (q + 1) = .inr (0, [.ref (ad E (q + 2)), .int (iI ng)]) := (hg8 (q + 1) (by omega)).trans c1
  have hf11 : ∀ k, k ≠ (q + 2) → w3 k = w0 k := fun k g0 => hg8 k g0
  refine lv_aload_n hx hb d_N_roundAt_14 rfl (lv_at hl 0 rfl) ?_
  refine lv_iload_n hx hb d_N_roundAt_15 rfl (lv_at hl 1 rfl) ?_
  refine z_callv (va_runV (As := [.int (iI x)]) (rest := []) ⟨hx, hb, hml, hown, hts⟩ (c_N_keep (l := l) (E := E) (w0 := w3) (q := q) (kd := kd) (pl := pl) (ng := ng) (x := x) (f := f_5) (q0lt := q0lt) (q1lt := q1lt) (q2lt := q2lt) (c0 := e9) (c1 := e10) (c2 := e6) (bf := bd7) (hkd := by omega) (hng := by omega) (hx0 := by omega) H1.size) (z_cwV (C := "ScaledNumeralDesk$Numeral") 1 hg wm_531 wm_528 wm_2 wm_530 wm_s22 (by decide +kernel) ⟨Nat.le_of_ble_eq_true rfl, Nat.le_of_ble_eq_true rfl⟩) (z_preV (r := ("ScaledNumeralDesk$Numeral", TN, 3)) hK hG hn hH4 hA q0lt e9 rfl) rfl rfl hl.1 rfl (lv_room (Nat.le_of_ble_eq_true rfl)) d_N_roundAt_16 ⟨Nat.zero_le _, Nat.zero_le _⟩) hH4 hA (fun  w14 H12 lc13 hH15 p16 => ?_)
  obtain ⟨⟨p_16, n_17, e18, e19, p16⟩, hg20⟩ := p16
  have p16 : (n_17 = 0 ∨ n_17 = 1) ∧ (V f_5 15 = 0 → n_17 = 0) ∧ (0 < V f_5 15 → n_17 = ng) ∧ p_16 = max x 0 := p16
  have e21 : w14 (q + 2) = zar E 15 f_5 := (hg20 (q + 2) (by omega) (by omega)).trans e6
  have hf22 : ∀ k, k ≠ (q + 2) → k ≠ q → k ≠ (q + 1) → w14 k = w0 k := fun k g0 g1 g2 => (hg20 k g1 g2).trans (hf11 k g0)
  rw [hQ]
  exact z_vret hx hb hr hlk hH15 (⟨⟨p_16, n_17, f_5, e18, e19, e21, bd7, ⟨p11, p16⟩⟩, (fun k g0 g1 g2 => hf22 k g2 g0 g1)⟩) d_N_roundAt_19
def rm_N_truncateAt : Room := { frames := 4, cells := 0, slots := 0, locals := 83 }
set_option maxHeartbeats 4000000 in
set_option maxRecDepth 100000 in
theorem c_N_truncateAt (l : Launch) (E : zE) (w0 : zW) (q : Nat) (kd : Nat) (pl ng x : Int) (f : Int → Int) (q0lt : q < zn E) (q1lt : q + 1 < zn E) (q2lt : q + 2 < zn E) (c0 : w0 q = .inr (1, [.ref (zg E (1 + kd)), .int (iI pl), .ref (ad E (q + 1))])) (c1 : w0 (q + 1) = .inr (0, [.ref (ad E (q + 2)), .int (iI ng)])) (c2 : w0 (q + 2) = zar E 15 f) (bf : bd f 15 0 9999) (hkd : kd < 4) (hng : ng = 0 ∨ ng = 1) (hx0 : -32 ≤ x ∧ x ≤ 24) : zM l y_N_truncateAt ws_N_truncateAt rm_N_truncateAt E [.ref (ad E q), .int (iI x)] w0 (zQv E w0 (fun w' => (∃ (p' : Int) (n' : Int) (f' : Int → Int), w' q = .inr (1, [.ref (zg E (1 + kd)), .int (iI p'), .ref (ad E (q + 1))]) ∧ w' (q + 1) = .inr (0, [.ref (ad E (q + 2)), .int (iI n')]) ∧ w' (q + 2) = zar E 15 f' ∧ bd f' 15 0 9999 ∧ (V f' 15 = (if 24 - x ≤ 0 then V f 15 else V f 15 / Tp (24 - x) * Tp (24 - x)) ∧ (n' = 0 ∨ n' = 1) ∧ (V f' 15 = 0 → n' = 0) ∧ (0 < V f' 15 → n' = ng) ∧ p' = max x 0)) ∧ ∀ k, k ≠ q → k ≠ (q + 1) → k ≠ (q + 2) → w' k = w0 k)) := by
  refine z_met (cc := b_N_truncateAt) (maxL := 2) (ret := none) (by decide +kernel) rfl (Nat.le_of_ble_eq_true rfl) ?_
  intro p e s m below meth cd ls a Qf hQ hC hl hH
  obtain ⟨hF, hr, hlk, hK, hG, hn⟩ := hC
  obtain ⟨hx, hb, hml, hown, hts⟩ := hF
  have hg : ∀ w ∈ GW, w.before a s = true := fun w h => hts w (List.mem_cons_of_mem _ h)
  have hA : ∀ q, s.heap.size ≤ q → va_A (wl E w0) s.heap.size q := fun q h => Or.inr h
  have hl : lv_has ls 2 [(0, .ref (ad E q)), (1, .int (iI x))] := hl
  refine lv_aload_n hx hb d_N_truncateAt_0 rfl (lv_at hl 0 rfl) ?_
  refine zv_get (C := "ScaledNumeralDesk$Numeral") (T := TN) (N := 3) hx hb hg uN_in hown hK hH q0lt c0 rfl 2 (by decide) (hg _ wm_64) (fun _ h9 => h9) rfl d_N_truncateAt_1 ?_
  refine zv_get (C := "ScaledNumeralDesk$Amount") (T := TA) (N := 2) hx hb hg uA_in hown hK hH q1lt c1 rfl 0 (by decide) (hg _ wm_45) (fun _ h9 => h9) rfl d_N_truncateAt_4 ?_
  refine zv_bipush hx hb d_N_truncateAt_7 rfl ?_
  refine lv_iload_n hx hb d_N_truncateAt_9 rfl (lv_at hl 1 rfl) ?_
  refine zv_isub hx hb d_N_truncateAt_10 ?_
  refine z_callv (va_runS (As := [.ref (ad E (q + 2)), .int (iI (24 - x))]) (rest := []) ⟨hx, hb, hml, hown, hts⟩ (c_cut (l := l) (E := E) (w0 := w0) (q := q + 2) (N := 15) (f := f) (x := 24 - x) (q0lt := q2lt) (c0 := c2) (hN := by omega) (bf := bf) (hp := by omega) s.heap.size) (z_cwS 2 hg wm_439 wm_537 wm_16 wm_438 (by decide +kernel) ⟨Nat.le_of_ble_eq_true rfl, Nat.le_of_ble_eq_true rfl⟩) (z_preS hK hG hn hH hA) rfl rfl hl.1 rfl (lv_room (Nat.le_of_ble_eq_true rfl)) d_N_truncateAt_11 ⟨Nat.zero_le _, Nat.zero_le _⟩) hH hA (fun  w3 H1 lc2 hH4 p11 => ?_)
  obtain ⟨⟨f_5, e6, bd7, p11⟩, hg8⟩ := p11
  have bd7 : bd f_5 15 0 9999 := bd7
  have p11 : V f_5 15 = (if (24 - x) ≤ 0 then V f 15 else V f 15 / Tp (24 - x) * Tp (24 - x)) := p11
  have e9 : w3 q = .inr (1, [.ref (zg E (1 + kd)), .int (iI pl), .ref (ad E (q + 1))]) := (hg8 q (by omega)).trans c0
  have e10 : w3 (q + 1) = .inr (0, [.ref (ad E (q + 2)), .int (iI ng)]) := (hg8 (q + 1) (by omega)).trans c1
  have hf11 : ∀ k, k ≠ (q + 2) → w3 k = w0 k := fun k g0 => hg8 k g0
  refine lv_aload_n hx hb d_N_truncateAt_14 rfl (lv_at hl 0 rfl) ?_
  refine lv_iload_n hx hb d_N_truncateAt_15 rfl (lv_at hl 1 rfl) ?_
  refine z_callv (va_runV (As := [.int (iI x)]) (rest := []) ⟨hx, hb, hml, hown, hts⟩ (c_N_keep (l := l) (E := E) (w0 := w3) (q := q) (kd := kd) (pl := pl) (ng := ng) (x := x) (f := f_5) (q0lt := q0lt) (q1lt := q1lt) (q2lt := q2lt) (c0 := e9) (c1 := e10) (c2 := e6) (bf := bd7) (hkd := by omega) (hng := by omega) (hx0 := by omega) H1.size) (z_cwV (C := "ScaledNumeralDesk$Numeral") 1 hg wm_531 wm_528 wm_2 wm_530 wm_s22 (by decide +kernel) ⟨Nat.le_of_ble_eq_true rfl, Nat.le_of_ble_eq_true rfl⟩) (z_preV (r := ("ScaledNumeralDesk$Numeral", TN, 3)) hK hG hn hH4 hA q0lt e9 rfl) rfl rfl hl.1 rfl (lv_room (Nat.le_of_ble_eq_true rfl)) d_N_truncateAt_16 ⟨Nat.zero_le _, Nat.zero_le _⟩) hH4 hA (fun  w14 H12 lc13 hH15 p16 => ?_)
  obtain ⟨⟨p_16, n_17, e18, e19, p16⟩, hg20⟩ := p16
  have p16 : (n_17 = 0 ∨ n_17 = 1) ∧ (V f_5 15 = 0 → n_17 = 0) ∧ (0 < V f_5 15 → n_17 = ng) ∧ p_16 = max x 0 := p16
  have e21 : w14 (q + 2) = zar E 15 f_5 := (hg20 (q + 2) (by omega) (by omega)).trans e6
  have hf22 : ∀ k, k ≠ (q + 2) → k ≠ q → k ≠ (q + 1) → w14 k = w0 k := fun k g0 g1 g2 => (hg20 k g1 g2).trans (hf11 k g0)
  rw [hQ]
  exact z_vret hx hb hr hlk hH15 (⟨⟨p_16, n_17, f_5, e18, e19, e21, bd7, ⟨p11, p16⟩⟩, (fun k g0 g1 g2 => hf22 k g2 g0 g1)⟩) d_N_truncateAt_19
def rm_N_hasFraction : Room := { frames := 0, cells := 0, slots := 0, locals := 0 }
set_option maxHeartbeats 4000000 in
set_option maxRecDepth 100000 in
theorem c_N_hasFraction (l : Launch) (E : zE) (w0 : zW) (q : Nat) (kd : Nat) (pl ng : Int) (f : Int → Int) (q0lt : q < zn E) (q1lt : q + 1 < zn E) (q2lt : q + 2 < zn E) (c0 : w0 q = .inr (1, [.ref (zg E (1 + kd)), .int (iI pl), .ref (ad E (q + 1))])) (c1 : w0 (q + 1) = .inr (0, [.ref (ad E (q + 2)), .int (iI ng)])) (c2 : w0 (q + 2) = zar E 15 f) (bf : bd f 15 0 9999) (hkd : kd < 4) (hng : ng = 0 ∨ ng = 1) : zM l y_N_hasFraction ws_N_hasFraction rm_N_hasFraction E [.ref (ad E q)] w0 (zQi E w0 (fun z w' => w' = w0 ∧ ((z = 1 ∧ V f 15 % Bp 6 ≠ 0) ∨ (z = 0 ∧ V f 15 % Bp 6 = 0)))) := by
  refine z_met (cc := b_N_hasFraction) (maxL := 2) (ret := (some .boolean)) (by decide +kernel) rfl (Nat.le_of_ble_eq_true rfl) ?_
  intro p e s m below meth cd ls a Qf hQ hC hl hH
  obtain ⟨hF, hr, hlk, hK, hG, hn⟩ := hC
  obtain ⟨hx, hb, hml, hown, hts⟩ := hF
  have hg : ∀ w ∈ GW, w.before a s = true := fun w h => hts w (List.mem_cons_of_mem _ h)
  have hA : ∀ q, s.heap.size ≤ q → va_A (wl E w0) s.heap.size q := fun q h => Or.inr h
  have hl : lv_has ls 2 [(0, .ref (ad E q))] := hl
  refine zv_iconst hx hb d_N_hasFraction_0 ?_
  refine lv_istore_n (lv' := [(1, .int (iI 0)), (0, .ref (ad E q))]) hx hb d_N_hasFraction_1 rfl hl (by decide) rfl (fun ls hl => ?_)
  have L2 : ∀ (fu : Nat) (i : Int) (ls : Array Slot) (H1 : Heap) (lc2 : List Loc), (lv_has ls 2 [(1, .int (iI i)), (0, .ref (ad E q))]) → (zH E w0 (va_A (wl E w0) s.heap.size) s.heap H1 lc2) → (0 ≤ i ∧ i ≤ 6) → (∀ j : Int, 0 ≤ j → j < i → f j = 0) → (6 - i < (fu : Int)) → W p l e rm_N_hasFraction s m a below meth cd H1 lc2 0 0 Qf (F0 m 2 ls []) := by
    intro fu
    induction fu with
    | zero => intro i ls H1 lc2 hl hH hi hz hm; exact absurd hm (by omega)
    | succ fu ih =>
      intro i ls H1 lc2 hl hH hi hz hm
      refine lv_iload_n hx hb d_N_hasFraction_2 rfl (lv_at hl 0 rfl) ?_
      refine zv_bipush hx hb d_N_hasFraction_3 rfl ?_
      refine zv_icmp_ge (tgt := 28) hx hb d_N_hasFraction_5 rfl (by omega) (by omega) (fun h3 => ?_) (fun h3 => ?_)
      · refine zv_iconst hx hb d_N_hasFraction_28 ?_
        rw [hQ]
        exact z_zret hx hb hr hlk hH (⟨rfl, Or.inr ⟨rfl, hf_0 bf (fun j g1 g2 => hz j g1 (by omega))⟩⟩) (by exact nar_z (by omega)) d_N_hasFraction_29
      · refine lv_aload_n hx hb d_N_hasFraction_8 rfl (lv_at hl 1 rfl) ?_
        refine zv_get (C := "ScaledNumeralDesk$Numeral") (T := TN) (N := 3) hx hb hg uN_in hown hK hH q0lt c0 rfl 2 (by decide) (hg _ wm_64) (fun _ h9 => h9) rfl d_N_hasFraction_9 ?_
        refine zv_get (C := "ScaledNumeralDesk$Amount") (T := TA) (N := 2) hx hb hg uA_in hown hK hH q1lt c1 rfl 0 (by decide) (hg _ wm_45) (fun _ h9 => h9) rfl d_N_hasFraction_12 ?_
        refine lv_iload_n hx hb d_N_hasFraction_15 rfl (lv_at hl 0 rfl) ?_
        refine zv_iald hx hb hK hH q2lt c2 (by omega) (by omega) (by omega) d_N_hasFraction_16 ?_
        have b4 := bf i (by omega) (by omega)
        refine zv_if_eq (tgt := 22) hx hb d_N_hasFraction_17 rfl (by omega) (fun h5 => ?_) (fun h5 => ?_)
        · refine zv_iinc (k := 0) (lv' := [(1, .int (iI (i + 1))), (0, .ref (ad E q))]) hx hb d_N_hasFraction_22 hl rfl (by decide) rfl (fun ls hl => ?_)
          refine lv_goto (tgt := 2) hx hb d_N_hasFraction_25 rfl ?_
          exact ih  (i + 1) _ H1 lc2 (lv_sub hl [0, 1] rfl) hH (by omega) (by intro j g1 g2; by_cases e9 : j = i; rw [e9]; assumption; exact hz j g1 (by omega)) (by omega)
        · refine zv_iconst hx hb d_N_hasFraction_20 ?_
          rw [hQ]
          exact z_zret hx hb hr hlk hH (⟨rfl, Or.inl ⟨rfl, hf_1 bf hi.1 (by omega) (by omega)⟩⟩) (by exact nar_z (by omega)) d_N_hasFraction_21
  exact L2 ((6 - 0 : Int).toNat + 1) 0 _ s.heap ([]) (lv_sub hl [0, 1] rfl) hH (by omega) (by intro j g1 g2; omega) (by omega)
def rm_N_makeWhole : Room := { frames := 5, cells := 0, slots := 0, locals := 104 }
set_option maxHeartbeats 4000000 in
set_option maxRecDepth 100000 in
theorem c_N_makeWhole (l : Launch) (E : zE) (w0 : zW) (q : Nat) (kd : Nat) (pl ng aw : Int) (f : Int → Int) (q0lt : q < zn E) (q1lt : q + 1 < zn E) (q2lt : q + 2 < zn E) (c0 : w0 q = .inr (1, [.ref (zg E (1 + kd)), .int (iI pl), .ref (ad E (q + 1))])) (c1 : w0 (q + 1) = .inr (0, [.ref (ad E (q + 2)), .int (iI ng)])) (c2 : w0 (q + 2) = zar E 15 f) (bf : bd f 15 0 9999) (hkd : kd < 4) (hng : ng = 0 ∨ ng = 1) (haw : aw = 0 ∨ aw = 1) (hV : V f 15 + Tp 24 < Bp 15) : zM l y_N_makeWhole ws_N_makeWhole rm_N_makeWhole E [.ref (ad E q), .int (iI aw)] w0 (zQv E w0 (fun w' => (∃ (n' : Int) (f' : Int → Int), w' q = .inr (1, [.ref (zg E (1 + kd)), .int (iI 0), .ref (ad E (q + 1))]) ∧ w' (q + 1) = .inr (0, [.ref (ad E (q + 2)), .int (iI n')]) ∧ w' (q + 2) = zar E 15 f' ∧ bd f' 15 0 9999 ∧ (V f' 15 = V f 15 / Tp 24 * Tp 24 + (if ng = aw ∧ V f 15 % Tp 24 ≠ 0 then Tp 24 else 0) ∧ (n' = 0 ∨ n' = 1) ∧ (V f' 15 = 0 → n' = 0) ∧ (0 < V f' 15 → n' = ng))) ∧ ∀ k, k ≠ q → k ≠ (q + 1) → k ≠ (q + 2) → w' k = w0 k)) := by
  refine z_met (cc := b_N_makeWhole) (maxL := 4) (ret := none) (by decide +kernel) rfl (Nat.le_of_ble_eq_true rfl) ?_
  intro p e s m below meth cd ls a Qf hQ hC hl hH
  obtain ⟨hF, hr, hlk, hK, hG, hn⟩ := hC
  obtain ⟨hx, hb, hml, hown, hts⟩ := hF
  have hg : ∀ w ∈ GW, w.before a s = true := fun w h => hts w (List.mem_cons_of_mem _ h)
  have hA : ∀ q, s.heap.size ≤ q → va_A (wl E w0) s.heap.size q := fun q h => Or.inr h
  have hl : lv_has ls 4 [(0, .ref (ad E q)), (1, .int (iI aw))] := hl
  have vf := V_in bf (show (0 : Int) ≤ 15 by decide) (Int.le_refl 15)
  have ee : Bp 6 = Tp 24 := Bp_Tp (by decide)
  have tp := Tp_pos 24
  have dl := Int.ediv_mul_le (V f 15) (show Tp 24 ≠ 0 by omega)
  have dn : 0 ≤ V f 15 / Tp 24 * Tp 24 := Int.mul_nonneg (Int.ediv_nonneg vf.1 (by omega)) (by omega)
  refine lv_aload_n hx hb d_N_makeWhole_0 rfl (lv_at hl 0 rfl) ?_
  refine zv_get (C := "ScaledNumeralDesk$Numeral") (T := TN) (N := 3) hx hb hg uN_in hown hK hH q0lt c0 rfl 2 (by decide) (hg _ wm_64) (fun _ h9 => h9) rfl d_N_makeWhole_1 ?_
  refine zv_get (C := "ScaledNumeralDesk$Amount") (T := TA) (N := 2) hx hb hg uA_in hown hK hH q1lt c1 rfl 1 (by decide) (hg _ wm_48) (fun _ h9 => h9) rfl d_N_makeWhole_4 ?_
  refine lv_istore_n (lv' := [(2, .int (iI ng)), (0, .ref (ad E q)), (1, .int (iI aw))]) hx hb d_N_makeWhole_7 rfl hl (by decide) rfl (fun ls hl => ?_)
  have L25 : ∀ (y : Int) (ls : Array Slot) (H1 : Heap) (lc2 : List Loc), (lv_has ls 4 [(2, .int (iI ng)), (0, .ref (ad E q)), (1, .int (iI aw))]) → (zH E w0 (va_A (wl E w0) s.heap.size) s.heap H1 lc2) → ((y = 1 ∧ ng = aw ∧ V f 15 % Tp 24 ≠ 0) ∨ (y = 0 ∧ ¬ (ng = aw ∧ V f 15 % Tp 24 ≠ 0))) → W p l e rm_N_makeWhole s m a below meth cd H1 lc2 0 0 Qf (F0 m 25 ls [.int (iI y)]) := by
    intro y ls H1 lc2 hl hH hy
    refine lv_istore_n (lv' := [(3, .int (iI y)), (2, .int (iI ng)), (0, .ref (ad E q)), (1, .int (iI aw))]) hx hb d_N_makeWhole_25 rfl hl (by decide) rfl (fun ls hl => ?_)
    refine lv_aload_n hx hb d_N_makeWhole_26 rfl (lv_at hl 2 rfl) ?_
    refine zv_iconst hx hb d_N_makeWhole_27 ?_
    refine z_callv (va_runV (As := [.int (iI 0)]) (rest := []) ⟨hx, hb, hml, hown, hts⟩ (c_N_truncateAt (l := l) (E := E) (w0 := w0) (q := q) (kd := kd) (pl := pl) (ng := ng) (x := 0) (f := f) (q0lt := q0lt) (q1lt := q1lt) (q2lt := q2lt) (c0 := c0) (c1 := c1) (c2 := c2) (bf := bf) (hkd := by omega) (hng := by omega) (hx0 := by omega) H1.size) (z_cwV (C := "ScaledNumeralDesk$Numeral") 1 hg wm_536 wm_546 wm_2 wm_534 wm_535 (by decide +kernel) ⟨Nat.le_of_ble_eq_true rfl, Nat.le_of_ble_eq_true rfl⟩) (z_preV (r := ("ScaledNumeralDesk$Numeral", TN, 3)) hK hG hn hH hA q0lt c0 rfl) rfl rfl hl.1 rfl (lv_room (Nat.le_of_ble_eq_true rfl)) d_N_makeWhole_28 ⟨Nat.zero_le _, Nat.zero_le _⟩) hH hA (fun  w5 H3 lc4 hH6 p28 => ?_)
    obtain ⟨⟨p9, n_7, f1, e8, e9, e10, bd11, p28⟩, hg12⟩ := p28
    have bd11 : bd f1 15 0 9999 := bd11
    have p28 : V f1 15 = (if 24 - (0 : Int) ≤ 0 then V f 15 else V f 15 / Tp (24 - (0 : Int)) * Tp (24 - (0 : Int))) ∧ (n_7 = 0 ∨ n_7 = 1) ∧ (V f1 15 = 0 → n_7 = 0) ∧ (0 < V f1 15 → n_7 = ng) ∧ p9 = max (0 : Int) 0 := p28
    have hf13 : ∀ k, k ≠ q → k ≠ (q + 1) → k ≠ (q + 2) → w5 k = w0 k := fun k g0 g1 g2 => hg12 k g0 g1 g2
    have p0 : p9 = 0 := by omega
    subst p0
    have p28v : V f1 15 = V f 15 / Tp 24 * Tp 24 := p28.1.trans (if_neg (by decide))
    refine lv_iload_n hx hb d_N_makeWhole_31 rfl (lv_at hl 0 rfl) ?_
    refine zv_if_eq (tgt := 55) hx hb d_N_makeWhole_32 rfl (by omega) (fun h14 => ?_) (fun h14 => ?_)
    · rw [hQ]
      exact z_vret hx hb hr hlk hH6 (⟨⟨n_7, f1, e8, e9, e10, bd11, ⟨by rw [p28v, if_neg (by omega)]; omega, p28.2.1, p28.2.2.1, p28.2.2.2.1⟩⟩, (fun k g0 g1 g2 => hf13 k g0 g1 g2)⟩) d_N_makeWhole_55
    · refine lv_aload_n hx hb d_N_makeWhole_35 rfl (lv_at hl 2 rfl) ?_
      refine zv_get (C := "ScaledNumeralDesk$Numeral") (T := TN) (N := 3) hx hb hg uN_in hown hK hH6 q0lt e8 rfl 2 (by decide) (hg _ wm_64) (fun _ h9 => h9) rfl d_N_makeWhole_36 ?_
      refine zv_get (C := "ScaledNumeralDesk$Amount") (T := TA) (N := 2) hx hb hg uA_in hown hK hH6 q1lt e9 rfl 0 (by decide) (hg _ wm_45) (fun _ h9 => h9) rfl d_N_makeWhole_39 ?_
      refine zv_bipush hx hb d_N_makeWhole_42 rfl ?_
      refine z_callv (va_runS (As := [.ref (ad E (q + 2)), .int (iI 24)]) (rest := []) ⟨hx, hb, hml, hown, hts⟩ (c_addOneAt (l := l) (E := E) (w0 := w5) (q := q + 2) (N := 15) (f := f1) (x := 24) (q0lt := q2lt) (c0 := e10) (hN := by omega) (bf := bd11) (hp := by omega) H3.size) (z_cwS 2 hg wm_288 wm_547 wm_16 wm_287 (by decide +kernel) ⟨Nat.le_of_ble_eq_true rfl, Nat.le_of_ble_eq_true rfl⟩) (z_preS hK hG hn hH6 hA) rfl rfl hl.1 rfl (lv_room (Nat.le_of_ble_eq_true rfl)) d_N_makeWhole_44 ⟨Nat.zero_le _, Nat.zero_le _⟩) hH6 hA (fun  w17 H15 lc16 hH18 p44 => ?_)
      obtain ⟨⟨f_19, e20, bd21, p44⟩, hg22⟩ := p44
      have bd21 : bd f_19 15 0 9999 := bd21
      have p44 : V f_19 15 = (if (24 : Int) < 0 then V f1 15 else (V f1 15 + Tp (24 : Int)) % Bp 15) := p44
      have e23 : w17 q = .inr (1, [.ref (zg E (1 + kd)), .int (iI 0), .ref (ad E (q + 1))]) := (hg22 q (by omega)).trans e8
      have e24 : w17 (q + 1) = .inr (0, [.ref (ad E (q + 2)), .int (iI n_7)]) := (hg22 (q + 1) (by omega)).trans e9
      have hf25 : ∀ k, k ≠ q → k ≠ (q + 1) → k ≠ (q + 2) → w17 k = w0 k := fun k g0 g1 g2 => (hg22 k g2).trans (hf13 k g0 g1 g2)
      refine lv_aload_n hx hb d_N_makeWhole_47 rfl (lv_at hl 2 rfl) ?_
      refine zv_get (C := "ScaledNumeralDesk$Numeral") (T := TN) (N := 3) hx hb hg uN_in hown hK hH18 q0lt e23 rfl 2 (by decide) (hg _ wm_64) (fun _ h9 => h9) rfl d_N_makeWhole_48 ?_
      refine lv_iload_n hx hb d_N_makeWhole_51 rfl (lv_at hl 1 rfl) ?_
      refine z_callv (va_runV (As := [.int (iI ng)]) (rest := []) ⟨hx, hb, hml, hown, hts⟩ (c_A_signAs (l := l) (E := E) (w0 := w17) (q := q + 1) (f := f_19) (ng := n_7) (mn := ng) (q0lt := q1lt) (q1lt := q2lt) (c0 := e24) (c1 := e20) (bf := bd21) (hmn := by omega) H15.size) (z_cwV (C := "ScaledNumeralDesk$Amount") 1 hg wm_293 wm_532 wm_5 wm_291 wm_292 (by decide +kernel) ⟨Nat.le_of_ble_eq_true rfl, Nat.le_of_ble_eq_true rfl⟩) (z_preV (r := ("ScaledNumeralDesk$Amount", TA, 2)) hK hG hn hH18 hA q1lt e24 rfl) rfl rfl hl.1 rfl (lv_room (Nat.le_of_ble_eq_true rfl)) d_N_makeWhole_52 ⟨Nat.zero_le _, Nat.zero_le _⟩) hH18 hA (fun  w28 H26 lc27 hH29 p52 => ?_)
      obtain ⟨⟨n_30, e31, p52⟩, hg32⟩ := p52
      have p52 : (n_30 = 0 ∨ n_30 = 1) ∧ (V f_19 15 = 0 → n_30 = 0) ∧ (0 < V f_19 15 → n_30 = ng) := p52
      have e33 : w28 q = .inr (1, [.ref (zg E (1 + kd)), .int (iI 0), .ref (ad E (q + 1))]) := (hg32 q (by omega)).trans e23
      have e34 : w28 (q + 2) = zar E 15 f_19 := (hg32 (q + 2) (by omega)).trans e20
      have hf35 : ∀ k, k ≠ q → k ≠ (q + 1) → k ≠ (q + 2) → w28 k = w0 k := fun k g0 g1 g2 => (hg32 k g1).trans (hf25 k g0 g1 g2)
      rw [if_neg (by decide)] at p44
      rw [Int.emod_eq_of_lt (by omega) (by omega)] at p44
      rw [hQ]
      exact z_vret hx hb hr hlk hH29 (⟨⟨n_30, f_19, e33, e31, e34, bd21, ⟨by rw [p44, p28v, if_pos (by omega)], p52⟩⟩, (fun k g0 g1 g2 => hf35 k g0 g1 g2)⟩) d_N_makeWhole_55
  refine lv_iload_n hx hb d_N_makeWhole_8 rfl (lv_at hl 0 rfl) ?_
  refine lv_iload_n hx hb d_N_makeWhole_9 rfl (lv_at hl 2 rfl) ?_
  refine zv_icmp_ne (tgt := 24) hx hb d_N_makeWhole_10 rfl (by omega) (by omega) (fun h36 => ?_) (fun h36 => ?_)
  · refine zv_iconst hx hb d_N_makeWhole_24 ?_
    exact L25 0 _ s.heap ([]) (lv_sub hl [0, 1, 2] rfl) hH (by first | (rw [ee] at p14; omega) | omega)
  · refine lv_aload_n hx hb d_N_makeWhole_13 rfl (lv_at hl 1 rfl) ?_
    refine z_calli (va_runV (As := []) (rest := []) ⟨hx, hb, hml, hown, hts⟩ (c_N_hasFraction (l := l) (E := E) (w0 := w0) (q := q) (kd := kd) (pl := pl) (ng := ng) (f := f) (q0lt := q0lt) (q1lt := q1lt) (q2lt := q2lt) (c0 := c0) (c1 := c1) (c2 := c2) (bf := bf) (hkd := by omega) (hng := by omega) s.heap.size) (z_cwV (C := "ScaledNumeralDesk$Numeral") 0 hg wm_545 wm_542 wm_2 wm_544 wm_s23 (by decide +kernel) ⟨Nat.le_of_ble_eq_true rfl, Nat.le_of_ble_eq_true rfl⟩) (z_preV (r := ("ScaledNumeralDesk$Numeral", TN, 3)) hK hG hn hH hA q0lt c0 rfl) rfl rfl hl.1 rfl (lv_room (Nat.le_of_ble_eq_true rfl)) d_N_makeWhole_14 ⟨Nat.zero_le _, Nat.zero_le _⟩) hH hA (fun z41 w39 H37 lc38 hH40 p14 => ?_)
    obtain ⟨ew42, p14⟩ := p14
    rw [ew42] at hH40
    have p14 : (z41 = 1 ∧ V f 15 % Bp 6 ≠ 0) ∨ (z41 = 0 ∧ V f 15 % Bp 6 = 0) := p14
    refine zv_if_eq (tgt := 24) hx hb d_N_makeWhole_17 rfl (by omega) (fun h43 => ?_) (fun h43 => ?_)
    · refine zv_iconst hx hb d_N_makeWhole_24 ?_
      exact L25 0 _ H37 lc38 (lv_sub hl [0, 1, 2] rfl) hH40 (by first | (rw [ee] at p14; omega) | omega)
    · refine zv_iconst hx hb d_N_makeWhole_20 ?_
      refine lv_goto (tgt := 25) hx hb d_N_makeWhole_21 rfl ?_
      exact L25 1 _ H37 lc38 (lv_sub hl [0, 1, 2] rfl) hH40 (by first | (rw [ee] at p14; omega) | omega)
def rm_N_trim : Room := { frames := 1, cells := 0, slots := 0, locals := 21 }
set_option maxHeartbeats 4000000 in
set_option maxRecDepth 100000 in
theorem c_N_trim (l : Launch) (E : zE) (w0 : zW) (q : Nat) (kd : Nat) (pl ng : Int) (f : Int → Int) (q0lt : q < zn E) (q1lt : q + 1 < zn E) (q2lt : q + 2 < zn E) (c0 : w0 q = .inr (1, [.ref (zg E (1 + kd)), .int (iI pl), .ref (ad E (q + 1))])) (c1 : w0 (q + 1) = .inr (0, [.ref (ad E (q + 2)), .int (iI ng)])) (c2 : w0 (q + 2) = zar E 15 f) (bf : bd f 15 0 9999) (hkd : kd < 4) (hng : ng = 0 ∨ ng = 1) (hpl : 0 ≤ pl ∧ pl ≤ 24) : zM l y_N_trim ws_N_trim rm_N_trim E [.ref (ad E q)] w0 (zQv E w0 (fun w' => (∃ (p' : Int), w' q = .inr (1, [.ref (zg E (1 + kd)), .int (iI p'), .ref (ad E (q + 1))]) ∧ (0 ≤ p' ∧ p' ≤ pl ∧ (p' = 0 ∨ V f 15 / Tp (24 - p') % 10 ≠ 0) ∧ (∀ k : Int, p' < k → k ≤ pl → V f 15 / Tp (24 - k) % 10 = 0))) ∧ ∀ k, k ≠ q → w' k = w0 k)) := by
  refine z_met (cc := b_N_trim) (maxL := 1) (ret := none) (by decide +kernel) rfl (Nat.le_of_ble_eq_true rfl) ?_
  intro p e s m below meth cd ls a Qf hQ hC hl hH
  obtain ⟨hF, hr, hlk, hK, hG, hn⟩ := hC
  obtain ⟨hx, hb, hml, hown, hts⟩ := hF
  have hg : ∀ w ∈ GW, w.before a s = true := fun w h => hts w (List.mem_cons_of_mem _ h)
  have hA : ∀ q, s.heap.size ≤ q → va_A (wl E w0) s.heap.size q := fun q h => Or.inr h
  have hl : lv_has ls 1 [(0, .ref (ad E q))] := hl
  have L0 : ∀ (fu : Nat) (x : Int) (ls : Array Slot) (H1 : Heap) (lc2 : List Loc) (w3 : zW), (lv_has ls 1 [(0, .ref (ad E q))]) → (zH E w3 (va_A (wl E w0) s.heap.size) s.heap H1 lc2) → (w3 q = .inr (1, [.ref (zg E (1 + kd)), .int (iI x), .ref (ad E (q + 1))])) → (w3 (q + 1) = .inr (0, [.ref (ad E (q + 2)), .int (iI ng)])) → (w3 (q + 2) = zar E 15 f) → (∀ k, k ≠ q → w3 k = w0 k) → (0 ≤ x ∧ x ≤ pl) → (∀ k : Int, x < k → k ≤ pl → V f 15 / Tp (24 - k) % 10 = 0) → (x < (fu : Int)) → W p l e rm_N_trim s m a below meth cd H1 lc2 0 0 Qf (F0 m 0 ls []) := by
    intro fu
    induction fu with
    | zero => intro x ls H1 lc2 w3 hl hH e4 e5 e6 hf7 hx0 hz hm; exact absurd hm (by omega)
    | succ fu ih =>
      intro x ls H1 lc2 w3 hl hH e4 e5 e6 hf7 hx0 hz hm
      refine lv_aload_n hx hb d_N_trim_0 rfl (lv_at hl 0 rfl) ?_
      refine zv_get (C := "ScaledNumeralDesk$Numeral") (T := TN) (N := 3) hx hb hg uN_in hown hK hH q0lt e4 rfl 1 (by decide) (hg _ wm_59) (fun _ h9 => h9) rfl d_N_trim_1 ?_
      refine zv_if_le (tgt := 40) hx hb d_N_trim_4 rfl (by omega) (fun h8 => ?_) (fun h8 => ?_)
      · rw [hQ]
        exact z_vret hx hb hr hlk hH (⟨⟨x, e4, ⟨hx0.1, hx0.2, by omega, hz⟩⟩, (fun k g0 => hf7 k g0)⟩) d_N_trim_40
      · refine lv_aload_n hx hb d_N_trim_7 rfl (lv_at hl 0 rfl) ?_
        refine zv_get (C := "ScaledNumeralDesk$Numeral") (T := TN) (N := 3) hx hb hg uN_in hown hK hH q0lt e4 rfl 2 (by decide) (hg _ wm_64) (fun _ h9 => h9) rfl d_N_trim_8 ?_
        refine zv_get (C := "ScaledNumeralDesk$Amount") (T := TA) (N := 2) hx hb hg uA_in hown hK hH q1lt e5 rfl 0 (by decide) (hg _ wm_45) (fun _ h9 => h9) rfl d_N_trim_11 ?_
        refine zv_bipush hx hb d_N_trim_14 rfl ?_
        refine lv_aload_n hx hb d_N_trim_16 rfl (lv_at hl 0 rfl) ?_
        refine zv_get (C := "ScaledNumeralDesk$Numeral") (T := TN) (N := 3) hx hb hg uN_in hown hK hH q0lt e4 rfl 1 (by decide) (hg _ wm_59) (fun _ h9 => h9) rfl d_N_trim_17 ?_
        refine zv_isub hx hb d_N_trim_20 ?_
        refine z_calli (va_runS (As := [.ref (ad E (q + 2)), .int (iI (24 - x))]) (rest := []) ⟨hx, hb, hml, hown, hts⟩ (c_digitAt (l := l) (E := E) (w0 := w3) (q := q + 2) (N := 15) (f := f) (x := 24 - x) (q0lt := q2lt) (c0 := e6) (hN := by omega) (bf := bf) (hp := by omega) H1.size) (z_cwS 2 hg wm_363 wm_361 wm_16 wm_362 (by decide +kernel) ⟨Nat.le_of_ble_eq_true rfl, Nat.le_of_ble_eq_true rfl⟩) (z_preS hK hG hn hH hA) rfl rfl hl.1 rfl (lv_room (Nat.le_of_ble_eq_true rfl)) d_N_trim_21 ⟨Nat.zero_le _, Nat.zero_le _⟩) hH hA (fun z13 w11 H9 lc10 hH12 p21 => ?_)
        obtain ⟨ew14, p21⟩ := p21
        rw [ew14] at hH12
        have p21 : z13 = (if (24 - x) < 0 then 0 else V f 15 / Tp (24 - x) % 10) := p21
        refine zv_if_ne (tgt := 40) hx hb d_N_trim_24 rfl (by omega) (fun h15 => ?_) (fun h15 => ?_)
        · rw [if_neg (by omega)] at p21
          rw [hQ]
          exact z_vret hx hb hr hlk hH12 (⟨⟨x, e4, ⟨hx0.1, hx0.2, Or.inr (by omega), hz⟩⟩, (fun k g0 => hf7 k g0)⟩) d_N_trim_40
        · refine lv_aload_n hx hb d_N_trim_27 rfl (lv_at hl 0 rfl) ?_
          refine lv_dup hx hb d_N_trim_28 rfl ?_
          refine zv_get (C := "ScaledNumeralDesk$Numeral") (T := TN) (N := 3) hx hb hg uN_in hown hK hH12 q0lt e4 rfl 1 (by decide) (hg _ wm_59) (fun _ h9 => h9) rfl d_N_trim_29 ?_
          refine zv_iconst hx hb d_N_trim_32 ?_
          refine zv_isub hx hb d_N_trim_33 ?_
          refine zv_put (C := "ScaledNumeralDesk$Numeral") (T := TN) (N := 3) (fs' := [.ref (zg E (1 + kd)), .int (iI (x - 1)), .ref (ad E (q + 1))]) hx hb hg uN_in tyN tyN_ok nmN hown hK hH12 q0lt e4 rfl 1 (by decide) (hg _ wm_59) (fun _ h9 => h9) rfl (ty := tyN 1) (by decide +kernel) (rfl) (by rfl) (Nat.le_of_ble_eq_true rfl) d_N_trim_34 rfl (fun H17 lc18 w16 hH19 e20 hg21 => ?_)
          have e22 : w16 (q + 1) = .inr (0, [.ref (ad E (q + 2)), .int (iI ng)]) := (hg21 (q + 1) (by omega)).trans e5
          have e23 : w16 (q + 2) = zar E 15 f := (hg21 (q + 2) (by omega)).trans e6
          have hf24 : ∀ k, k ≠ q → w16 k = w0 k := fun k g0 => (hg21 k g0).trans (hf7 k g0)
          refine lv_goto (tgt := 0) hx hb d_N_trim_37 rfl ?_
          exact ih  (x - 1) _ H17 lc18 w16 (lv_sub hl [0] rfl) hH19 e20 e22 e23 (fun k g0 => hf24 k g0) (by omega) (by intro k g1 g2; by_cases e9 : k = x; rw [e9]; rw [if_neg (by omega)] at p21; omega; exact hz k (by omega) g2) (by omega)
  exact L0 ((pl : Int).toNat + 1) pl _ s.heap ([]) w0 (lv_sub hl [0] rfl) hH c0 c1 c2 (fun k _ => rfl) (by omega) (by intro k g1 g2; omega) (by omega)
def rm_N_whole : Room := { frames := 2, cells := 0, slots := 0, locals := 44 }
set_option maxHeartbeats 4000000 in
set_option maxRecDepth 100000 in
theorem c_N_whole (l : Launch) (E : zE) (w0 : zW) (q : Nat) (kd : Nat) (pl ng : Int) (f : Int → Int) (q0lt : q < zn E) (q1lt : q + 1 < zn E) (q2lt : q + 2 < zn E) (c0 : w0 q = .inr (1, [.ref (zg E (1 + kd)), .int (iI pl), .ref (ad E (q + 1))])) (c1 : w0 (q + 1) = .inr (0, [.ref (ad E (q + 2)), .int (iI ng)])) (c2 : w0 (q + 2) = zar E 15 f) (bf : bd f 15 0 9999) (hkd : kd < 4) (hng : ng = 0 ∨ ng = 1) : zM l y_N_wholeDigits ws_N_wholeDigits rm_N_whole E [.ref (ad E q)] w0 (zQi E w0 (fun z w' => w' = w0 ∧ (∃ d : Int, dgs (V f 15) d ∧ 0 ≤ d ∧ d ≤ 60 ∧ z = max (d - 24) 1))) := by
  refine z_met (cc := b_N_wholeDigits) (maxL := 1) (ret := (some .int)) (by decide +kernel) rfl (Nat.le_of_ble_eq_true rfl) ?_
  intro p e s m below meth cd ls a Qf hQ hC hl hH
  obtain ⟨hF, hr, hlk, hK, hG, hn⟩ := hC
  obtain ⟨hx, hb, hml, hown, hts⟩ := hF
  have hg : ∀ w ∈ GW, w.before a s = true := fun w h => hts w (List.mem_cons_of_mem _ h)
  have hA : ∀ q, s.heap.size ≤ q → va_A (wl E w0) s.heap.size q := fun q h => Or.inr h
  have hl : lv_has ls 1 [(0, .ref (ad E q))] := hl
  refine lv_aload_n hx hb d_N_wholeDigits_0 rfl (lv_at hl 0 rfl) ?_
  refine zv_get (C := "ScaledNumeralDesk$Numeral") (T := TN) (N := 3) hx hb hg uN_in hown hK hH q0lt c0 rfl 2 (by decide) (hg _ wm_64) (fun _ h9 => h9) rfl d_N_wholeDigits_1 ?_
  refine zv_get (C := "ScaledNumeralDesk$Amount") (T := TA) (N := 2) hx hb hg uA_in hown hK hH q1lt c1 rfl 0 (by decide) (hg _ wm_45) (fun _ h9 => h9) rfl d_N_wholeDigits_4 ?_
  refine z_calli (va_runS (As := [.ref (ad E (q + 2))]) (rest := []) ⟨hx, hb, hml, hown, hts⟩ (c_digits (l := l) (E := E) (w0 := w0) (q := q + 2) (N := 15) (f := f) (q0lt := q2lt) (c0 := c2) (hN := by omega) (bf := bf) s.heap.size) (z_cwS 1 hg wm_311 wm_350 wm_16 wm_310 (by decide +kernel) ⟨Nat.le_of_ble_eq_true rfl, Nat.le_of_ble_eq_true rfl⟩) (z_preS hK hG hn hH hA) rfl rfl hl.1 rfl (lv_room (Nat.le_of_ble_eq_true rfl)) d_N_wholeDigits_7 ⟨Nat.zero_le _, Nat.zero_le _⟩) hH hA (fun d w3 H1 lc2 hH4 p7 => ?_)
  obtain ⟨ew5, p7⟩ := p7
  rw [ew5] at hH4
  have p7 : dgs (V f 15) d ∧ 0 ≤ d ∧ d ≤ 15 * 4 := p7
  refine zv_bipush hx hb d_N_wholeDigits_10 rfl ?_
  refine zv_isub hx hb d_N_wholeDigits_12 ?_
  refine zv_iconst hx hb d_N_wholeDigits_13 ?_
  refine z_calli (va_runS (As := [.int (iI (d - 24)), .int (iI 1)]) (rest := []) ⟨hx, hb, hml, hown, hts⟩ (c_max (l := l) (E := E) (w0 := w0) (x := d - 24) (y := 1) (zx := by omega) (zy := by omega) H1.size) (z_cwS 2 hg wm_275 wm_351 wm_15 wm_274 (by decide +kernel) ⟨Nat.le_of_ble_eq_true rfl, Nat.le_of_ble_eq_true rfl⟩) (z_preS hK hG hn hH4 hA) rfl rfl hl.1 rfl (lv_room (Nat.le_of_ble_eq_true rfl)) d_N_wholeDigits_14 ⟨Nat.zero_le _, Nat.zero_le _⟩) hH4 hA (fun z10 w8 H6 lc7 hH9 p14 => ?_)
  obtain ⟨ew11, p14⟩ := p14
  rw [ew11] at hH9
  have p14 : z10 = max (d - 24) (1 : Int) := p14
  rw [hQ]
  exact z_iret hx hb hr hlk hH9 (⟨rfl, ⟨d, p7.1, p7.2.1, by omega, p14⟩⟩) d_N_wholeDigits_17
end
section
def Smn (c : Int → Int) : Nat → Int
  | 0 => 0
  | n + 1 => Smn c n + c n
/-- the sum of the first n places -/
def Sm (c : Int → Int) (n : Int) : Int := Smn c n.toNat
theorem Sm_s (c : Int → Int) {i : Int} (h : 0 ≤ i) : Sm c (i + 1) = Sm c i + c i := by
  unfold Sm
  rw [show (i + 1).toNat = i.toNat + 1 by omega]
  show Smn c i.toNat + c (i.toNat : Int) = _
  rw [show ((i.toNat : Nat) : Int) = i by omega]
theorem bd_w {f : Int → Int} {N lo hi hi' : Int} (h : bd f N lo hi) (hh : hi ≤ hi') : bd f N lo hi' := fun i g1 g2 => ⟨(h i g1 g2).1, Int.le_trans (h i g1 g2).2 hh⟩
theorem ch_c (c : Int → Int) (i b j : Int) : up c i (c i + b) j = c j + (if j = i then b else 0) := by
  by_cases h : j = i
  · rw [h, up_at, if_pos rfl]
  · rw [up_ne h, if_neg h]; omega
theorem add_0i (a : Int) : a = a + 0 := by omega
/-- the place of a count -/
def cidx (kd : Nat) (pl : Int) : Int := if kd = 1 then pl else if kd = 3 then 25 else if kd = 2 then 26 else 27
theorem cidx_1 {kd : Nat} {pl : Int} (h : kd = 1) : cidx kd pl = pl := if_pos h
theorem cidx_3 {kd : Nat} {pl : Int} (h : kd = 3) : cidx kd pl = 25 := by unfold cidx; rw [if_neg (by omega), if_pos h]
theorem cidx_2 {kd : Nat} {pl : Int} (h : kd = 2) : cidx kd pl = 26 := by unfold cidx; rw [if_neg (by omega), if_neg (by omega), if_pos h]
theorem cidx_0 {kd : Nat} {pl : Int} (h : kd = 0) : cidx kd pl = 27 := by unfold cidx; rw [if_neg (by omega), if_neg (by omega), if_neg (by omega)]
theorem cidx_in {kd : Nat} {pl : Int} (hk : kd < 4) (hp : 0 ≤ pl ∧ pl ≤ 24) : 0 ≤ cidx kd pl ∧ cidx kd pl < 28 := by
  have c : kd = 0 ∨ kd = 1 ∨ kd = 2 ∨ kd = 3 := by omega
  rcases c with c | c | c | c
  · rw [cidx_0 c]; omega
  · rw [cidx_1 c]; omega
  · rw [cidx_2 c]; omega
  · rw [cidx_3 c]; omega
/-- what a change adds -/
def cadd (i j b : Int) : Int := if j = i then b else 0
theorem ch_d (c : Int → Int) (i b j : Int) : up c i (c i + b) j = c j + cadd i j b := ch_c c i b j
def vadd (kd : Nat) (b v : Int) : Int := if kd = 1 then (if b < 0 then -v else v) else 0
theorem vadd_0 {kd : Nat} {b v : Int} (h : kd ≠ 1) : vadd kd b v = 0 := if_neg h
theorem vadd_p {kd : Nat} {b v : Int} (h : kd = 1) (hb : 0 ≤ b) : vadd kd b v = v := by unfold vadd; rw [if_pos h, if_neg (by omega)]
theorem vadd_m {kd : Nat} {b v : Int} (h : kd = 1) (hb : b < 0) : vadd kd b v = -v := by unfold vadd; rw [if_pos h, if_pos hb]
end
section
theorem d_S_init_0 : decode b_S_init 0 = .ok (.aload_n 0, 1) := by decide +kernel
theorem d_S_init_1 : decode b_S_init 1 = .ok (.invokespecial 3, 3) := by decide +kernel
theorem d_S_init_4 : decode b_S_init 4 = .ok (.aload_n 0, 1) := by decide +kernel
theorem d_S_init_5 : decode b_S_init 5 = .ok (.new 9, 3) := by decide +kernel
theorem d_S_init_8 : decode b_S_init 8 = .ok (.dup, 1) := by decide +kernel
theorem d_S_init_9 : decode b_S_init 9 = .ok (.invokespecial 11, 3) := by decide +kernel
theorem d_S_init_12 : decode b_S_init 12 = .ok (.putfield 12, 3) := by decide +kernel
theorem d_S_init_15 : decode b_S_init 15 = .ok (.aload_n 0, 1) := by decide +kernel
theorem d_S_init_16 : decode b_S_init 16 = .ok (.bipush 28, 2) := by decide +kernel
theorem d_S_init_18 : decode b_S_init 18 = .ok (.newarray .int, 2) := by decide +kernel
theorem d_S_init_20 : decode b_S_init 20 = .ok (.putfield 18, 3) := by decide +kernel
theorem d_S_init_23 : decode b_S_init 23 = .ok (.return_, 1) := by decide +kernel
theorem d_S_clear_0 : decode b_S_clear 0 = .ok (.aload_n 0, 1) := by decide +kernel
theorem d_S_clear_1 : decode b_S_clear 1 = .ok (.getfield 12, 3) := by decide +kernel
theorem d_S_clear_4 : decode b_S_clear 4 = .ok (.invokevirtual 22, 3) := by decide +kernel
theorem d_S_clear_7 : decode b_S_clear 7 = .ok (.aload_n 0, 1) := by decide +kernel
theorem d_S_clear_8 : decode b_S_clear 8 = .ok (.getfield 18, 3) := by decide +kernel
theorem d_S_clear_11 : decode b_S_clear 11 = .ok (.iconst 0, 1) := by decide +kernel
theorem d_S_clear_12 : decode b_S_clear 12 = .ok (.invokestatic 25, 3) := by decide +kernel
theorem d_S_clear_15 : decode b_S_clear 15 = .ok (.aload_n 0, 1) := by decide +kernel
theorem d_S_clear_16 : decode b_S_clear 16 = .ok (.iconst 0, 1) := by decide +kernel
theorem d_S_clear_17 : decode b_S_clear 17 = .ok (.putfield 31, 3) := by decide +kernel
theorem d_S_clear_20 : decode b_S_clear 20 = .ok (.return_, 1) := by decide +kernel
theorem d_S_putIn_0 : decode b_S_putIn 0 = .ok (.aload_n 0, 1) := by decide +kernel
theorem d_S_putIn_1 : decode b_S_putIn 1 = .ok (.getfield 31, 3) := by decide +kernel
theorem d_S_putIn_4 : decode b_S_putIn 4 = .ok (.sipush 1000, 3) := by decide +kernel
theorem d_S_putIn_7 : decode b_S_putIn 7 = .ok (.if_icmp .lt 6, 3) := by decide +kernel
theorem d_S_putIn_10 : decode b_S_putIn 10 = .ok (.bipush (-2), 2) := by decide +kernel
theorem d_S_putIn_12 : decode b_S_putIn 12 = .ok (.ireturn, 1) := by decide +kernel
theorem d_S_putIn_13 : decode b_S_putIn 13 = .ok (.aload_n 0, 1) := by decide +kernel
theorem d_S_putIn_14 : decode b_S_putIn 14 = .ok (.aload_n 1, 1) := by decide +kernel
theorem d_S_putIn_15 : decode b_S_putIn 15 = .ok (.iconst 1, 1) := by decide +kernel
theorem d_S_putIn_16 : decode b_S_putIn 16 = .ok (.invokevirtual 35, 3) := by decide +kernel
theorem d_S_putIn_19 : decode b_S_putIn 19 = .ok (.iconst 0, 1) := by decide +kernel
theorem d_S_putIn_20 : decode b_S_putIn 20 = .ok (.ireturn, 1) := by decide +kernel
theorem d_S_takeOut_0 : decode b_S_takeOut 0 = .ok (.aload_n 0, 1) := by decide +kernel
theorem d_S_takeOut_1 : decode b_S_takeOut 1 = .ok (.getfield 31, 3) := by decide +kernel
theorem d_S_takeOut_4 : decode b_S_takeOut 4 = .ok (.sipush 1000, 3) := by decide +kernel
theorem d_S_takeOut_7 : decode b_S_takeOut 7 = .ok (.if_icmp .lt 6, 3) := by decide +kernel
theorem d_S_takeOut_10 : decode b_S_takeOut 10 = .ok (.bipush (-2), 2) := by decide +kernel
theorem d_S_takeOut_12 : decode b_S_takeOut 12 = .ok (.ireturn, 1) := by decide +kernel
theorem d_S_takeOut_13 : decode b_S_takeOut 13 = .ok (.aload_n 0, 1) := by decide +kernel
theorem d_S_takeOut_14 : decode b_S_takeOut 14 = .ok (.getfield 18, 3) := by decide +kernel
theorem d_S_takeOut_17 : decode b_S_takeOut 17 = .ok (.aload_n 1, 1) := by decide +kernel
theorem d_S_takeOut_18 : decode b_S_takeOut 18 = .ok (.invokestatic 39, 3) := by decide +kernel
theorem d_S_takeOut_21 : decode b_S_takeOut 21 = .ok (.iaload, 1) := by decide +kernel
theorem d_S_takeOut_22 : decode b_S_takeOut 22 = .ok (.ifCond .ne 6, 3) := by decide +kernel
theorem d_S_takeOut_25 : decode b_S_takeOut 25 = .ok (.bipush (-6), 2) := by decide +kernel
theorem d_S_takeOut_27 : decode b_S_takeOut 27 = .ok (.ireturn, 1) := by decide +kernel
theorem d_S_takeOut_28 : decode b_S_takeOut 28 = .ok (.aload_n 0, 1) := by decide +kernel
theorem d_S_takeOut_29 : decode b_S_takeOut 29 = .ok (.aload_n 1, 1) := by decide +kernel
theorem d_S_takeOut_30 : decode b_S_takeOut 30 = .ok (.iconst (-1), 1) := by decide +kernel
theorem d_S_takeOut_31 : decode b_S_takeOut 31 = .ok (.invokevirtual 35, 3) := by decide +kernel
theorem d_S_takeOut_34 : decode b_S_takeOut 34 = .ok (.iconst 0, 1) := by decide +kernel
theorem d_S_takeOut_35 : decode b_S_takeOut 35 = .ok (.ireturn, 1) := by decide +kernel
theorem d_S_change_0 : decode b_S_change 0 = .ok (.aload_n 0, 1) := by decide +kernel
theorem d_S_change_1 : decode b_S_change 1 = .ok (.getfield 18, 3) := by decide +kernel
theorem d_S_change_4 : decode b_S_change 4 = .ok (.aload_n 1, 1) := by decide +kernel
theorem d_S_change_5 : decode b_S_change 5 = .ok (.invokestatic 39, 3) := by decide +kernel
theorem d_S_change_8 : decode b_S_change 8 = .ok (.dup2, 1) := by decide +kernel
theorem d_S_change_9 : decode b_S_change 9 = .ok (.iaload, 1) := by decide +kernel
theorem d_S_change_10 : decode b_S_change 10 = .ok (.iload_n 2, 1) := by decide +kernel
theorem d_S_change_11 : decode b_S_change 11 = .ok (.iadd, 1) := by decide +kernel
theorem d_S_change_12 : decode b_S_change 12 = .ok (.iastore, 1) := by decide +kernel
theorem d_S_change_13 : decode b_S_change 13 = .ok (.aload_n 1, 1) := by decide +kernel
theorem d_S_change_14 : decode b_S_change 14 = .ok (.invokevirtual 43, 3) := by decide +kernel
theorem d_S_change_17 : decode b_S_change 17 = .ok (.ifCond .eq 23, 3) := by decide +kernel
theorem d_S_change_20 : decode b_S_change 20 = .ok (.aload_n 0, 1) := by decide +kernel
theorem d_S_change_21 : decode b_S_change 21 = .ok (.getfield 12, 3) := by decide +kernel
theorem d_S_change_24 : decode b_S_change 24 = .ok (.aload_n 1, 1) := by decide +kernel
theorem d_S_change_25 : decode b_S_change 25 = .ok (.getfield 49, 3) := by decide +kernel
theorem d_S_change_28 : decode b_S_change 28 = .ok (.iload_n 2, 1) := by decide +kernel
theorem d_S_change_29 : decode b_S_change 29 = .ok (.ifCond .ge 7, 3) := by decide +kernel
theorem d_S_change_32 : decode b_S_change 32 = .ok (.iconst 1, 1) := by decide +kernel
theorem d_S_change_33 : decode b_S_change 33 = .ok (.goto 4, 3) := by decide +kernel
theorem d_S_change_36 : decode b_S_change 36 = .ok (.iconst 0, 1) := by decide +kernel
theorem d_S_change_37 : decode b_S_change 37 = .ok (.invokevirtual 52, 3) := by decide +kernel
theorem d_S_change_40 : decode b_S_change 40 = .ok (.aload_n 0, 1) := by decide +kernel
theorem d_S_change_41 : decode b_S_change 41 = .ok (.dup, 1) := by decide +kernel
theorem d_S_change_42 : decode b_S_change 42 = .ok (.getfield 31, 3) := by decide +kernel
theorem d_S_change_45 : decode b_S_change 45 = .ok (.iconst 1, 1) := by decide +kernel
theorem d_S_change_46 : decode b_S_change 46 = .ok (.iadd, 1) := by decide +kernel
theorem d_S_change_47 : decode b_S_change 47 = .ok (.putfield 31, 3) := by decide +kernel
theorem d_S_change_50 : decode b_S_change 50 = .ok (.return_, 1) := by decide +kernel
theorem d_S_countOf_0 : decode b_S_countOf 0 = .ok (.aload_n 0, 1) := by decide +kernel
theorem d_S_countOf_1 : decode b_S_countOf 1 = .ok (.invokevirtual 43, 3) := by decide +kernel
theorem d_S_countOf_4 : decode b_S_countOf 4 = .ok (.ifCond .eq 8, 3) := by decide +kernel
theorem d_S_countOf_7 : decode b_S_countOf 7 = .ok (.aload_n 0, 1) := by decide +kernel
theorem d_S_countOf_8 : decode b_S_countOf 8 = .ok (.getfield 56, 3) := by decide +kernel
theorem d_S_countOf_11 : decode b_S_countOf 11 = .ok (.ireturn, 1) := by decide +kernel
theorem d_S_countOf_12 : decode b_S_countOf 12 = .ok (.aload_n 0, 1) := by decide +kernel
theorem d_S_countOf_13 : decode b_S_countOf 13 = .ok (.getfield 59, 3) := by decide +kernel
theorem d_S_countOf_16 : decode b_S_countOf 16 = .ok (.getstatic 63, 3) := by decide +kernel
theorem d_S_countOf_19 : decode b_S_countOf 19 = .ok (.if_acmp .ne 6, 3) := by decide +kernel
theorem d_S_countOf_22 : decode b_S_countOf 22 = .ok (.bipush 25, 2) := by decide +kernel
theorem d_S_countOf_24 : decode b_S_countOf 24 = .ok (.ireturn, 1) := by decide +kernel
theorem d_S_countOf_25 : decode b_S_countOf 25 = .ok (.aload_n 0, 1) := by decide +kernel
theorem d_S_countOf_26 : decode b_S_countOf 26 = .ok (.getfield 59, 3) := by decide +kernel
theorem d_S_countOf_29 : decode b_S_countOf 29 = .ok (.getstatic 68, 3) := by decide +kernel
theorem d_S_countOf_32 : decode b_S_countOf 32 = .ok (.if_acmp .ne 8, 3) := by decide +kernel
theorem d_S_countOf_35 : decode b_S_countOf 35 = .ok (.bipush 26, 2) := by decide +kernel
theorem d_S_countOf_37 : decode b_S_countOf 37 = .ok (.goto 5, 3) := by decide +kernel
theorem d_S_countOf_40 : decode b_S_countOf 40 = .ok (.bipush 27, 2) := by decide +kernel
theorem d_S_countOf_42 : decode b_S_countOf 42 = .ok (.ireturn, 1) := by decide +kernel
theorem d_S_join_0 : decode b_S_join 0 = .ok (.aload_n 0, 1) := by decide +kernel
theorem d_S_join_1 : decode b_S_join 1 = .ok (.getfield 31, 3) := by decide +kernel
theorem d_S_join_4 : decode b_S_join 4 = .ok (.aload_n 1, 1) := by decide +kernel
theorem d_S_join_5 : decode b_S_join 5 = .ok (.getfield 31, 3) := by decide +kernel
theorem d_S_join_8 : decode b_S_join 8 = .ok (.iadd, 1) := by decide +kernel
theorem d_S_join_9 : decode b_S_join 9 = .ok (.sipush 1000, 3) := by decide +kernel
theorem d_S_join_12 : decode b_S_join 12 = .ok (.if_icmp .le 6, 3) := by decide +kernel
theorem d_S_join_15 : decode b_S_join 15 = .ok (.bipush (-2), 2) := by decide +kernel
theorem d_S_join_17 : decode b_S_join 17 = .ok (.ireturn, 1) := by decide +kernel
theorem d_S_join_18 : decode b_S_join 18 = .ok (.aload_n 0, 1) := by decide +kernel
theorem d_S_join_19 : decode b_S_join 19 = .ok (.getfield 12, 3) := by decide +kernel
theorem d_S_join_22 : decode b_S_join 22 = .ok (.aload_n 1, 1) := by decide +kernel
theorem d_S_join_23 : decode b_S_join 23 = .ok (.getfield 12, 3) := by decide +kernel
theorem d_S_join_26 : decode b_S_join 26 = .ok (.iconst 0, 1) := by decide +kernel
theorem d_S_join_27 : decode b_S_join 27 = .ok (.invokevirtual 52, 3) := by decide +kernel
theorem d_S_join_30 : decode b_S_join 30 = .ok (.iconst 0, 1) := by decide +kernel
theorem d_S_join_31 : decode b_S_join 31 = .ok (.istore_n 2, 1) := by decide +kernel
theorem d_S_join_32 : decode b_S_join 32 = .ok (.iload_n 2, 1) := by decide +kernel
theorem d_S_join_33 : decode b_S_join 33 = .ok (.bipush 28, 2) := by decide +kernel
theorem d_S_join_35 : decode b_S_join 35 = .ok (.if_icmp .ge 24, 3) := by decide +kernel
theorem d_S_join_38 : decode b_S_join 38 = .ok (.aload_n 0, 1) := by decide +kernel
theorem d_S_join_39 : decode b_S_join 39 = .ok (.getfield 18, 3) := by decide +kernel
theorem d_S_join_42 : decode b_S_join 42 = .ok (.iload_n 2, 1) := by decide +kernel
theorem d_S_join_43 : decode b_S_join 43 = .ok (.dup2, 1) := by decide +kernel
theorem d_S_join_44 : decode b_S_join 44 = .ok (.iaload, 1) := by decide +kernel
theorem d_S_join_45 : decode b_S_join 45 = .ok (.aload_n 1, 1) := by decide +kernel
theorem d_S_join_46 : decode b_S_join 46 = .ok (.getfield 18, 3) := by decide +kernel
theorem d_S_join_49 : decode b_S_join 49 = .ok (.iload_n 2, 1) := by decide +kernel
theorem d_S_join_50 : decode b_S_join 50 = .ok (.iaload, 1) := by decide +kernel
theorem d_S_join_51 : decode b_S_join 51 = .ok (.iadd, 1) := by decide +kernel
theorem d_S_join_52 : decode b_S_join 52 = .ok (.iastore, 1) := by decide +kernel
theorem d_S_join_53 : decode b_S_join 53 = .ok (.iinc 2 1, 3) := by decide +kernel
theorem d_S_join_56 : decode b_S_join 56 = .ok (.goto (-24), 3) := by decide +kernel
theorem d_S_join_59 : decode b_S_join 59 = .ok (.aload_n 0, 1) := by decide +kernel
theorem d_S_join_60 : decode b_S_join 60 = .ok (.dup, 1) := by decide +kernel
theorem d_S_join_61 : decode b_S_join 61 = .ok (.getfield 31, 3) := by decide +kernel
theorem d_S_join_64 : decode b_S_join 64 = .ok (.aload_n 1, 1) := by decide +kernel
theorem d_S_join_65 : decode b_S_join 65 = .ok (.getfield 31, 3) := by decide +kernel
theorem d_S_join_68 : decode b_S_join 68 = .ok (.iadd, 1) := by decide +kernel
theorem d_S_join_69 : decode b_S_join 69 = .ok (.putfield 31, 3) := by decide +kernel
theorem d_S_join_72 : decode b_S_join 72 = .ok (.iconst 0, 1) := by decide +kernel
theorem d_S_join_73 : decode b_S_join 73 = .ok (.ireturn, 1) := by decide +kernel
theorem d_S_members_0 : decode b_S_members 0 = .ok (.iconst 0, 1) := by decide +kernel
theorem d_S_members_1 : decode b_S_members 1 = .ok (.istore_n 1, 1) := by decide +kernel
theorem d_S_members_2 : decode b_S_members 2 = .ok (.iconst 0, 1) := by decide +kernel
theorem d_S_members_3 : decode b_S_members 3 = .ok (.istore_n 2, 1) := by decide +kernel
theorem d_S_members_4 : decode b_S_members 4 = .ok (.iload_n 2, 1) := by decide +kernel
theorem d_S_members_5 : decode b_S_members 5 = .ok (.bipush 28, 2) := by decide +kernel
theorem d_S_members_7 : decode b_S_members 7 = .ok (.if_icmp .ge 18, 3) := by decide +kernel
theorem d_S_members_10 : decode b_S_members 10 = .ok (.iload_n 1, 1) := by decide +kernel
theorem d_S_members_11 : decode b_S_members 11 = .ok (.aload_n 0, 1) := by decide +kernel
theorem d_S_members_12 : decode b_S_members 12 = .ok (.getfield 18, 3) := by decide +kernel
theorem d_S_members_15 : decode b_S_members 15 = .ok (.iload_n 2, 1) := by decide +kernel
theorem d_S_members_16 : decode b_S_members 16 = .ok (.iaload, 1) := by decide +kernel
theorem d_S_members_17 : decode b_S_members 17 = .ok (.iadd, 1) := by decide +kernel
theorem d_S_members_18 : decode b_S_members 18 = .ok (.istore_n 1, 1) := by decide +kernel
theorem d_S_members_19 : decode b_S_members 19 = .ok (.iinc 2 1, 3) := by decide +kernel
theorem d_S_members_22 : decode b_S_members 22 = .ok (.goto (-18), 3) := by decide +kernel
theorem d_S_members_25 : decode b_S_members 25 = .ok (.iload_n 1, 1) := by decide +kernel
theorem d_S_members_26 : decode b_S_members 26 = .ok (.ireturn, 1) := by decide +kernel
theorem d_S_resultInto_0 : decode b_S_resultInto 0 = .ok (.aload_n 0, 1) := by decide +kernel
theorem d_S_resultInto_1 : decode b_S_resultInto 1 = .ok (.invokevirtual 71, 3) := by decide +kernel
theorem d_S_resultInto_4 : decode b_S_resultInto 4 = .ok (.ifCond .ne 6, 3) := by decide +kernel
theorem d_S_resultInto_7 : decode b_S_resultInto 7 = .ok (.bipush (-6), 2) := by decide +kernel
theorem d_S_resultInto_9 : decode b_S_resultInto 9 = .ok (.ireturn, 1) := by decide +kernel
theorem d_S_resultInto_10 : decode b_S_resultInto 10 = .ok (.aload_n 0, 1) := by decide +kernel
theorem d_S_resultInto_11 : decode b_S_resultInto 11 = .ok (.getfield 18, 3) := by decide +kernel
theorem d_S_resultInto_14 : decode b_S_resultInto 14 = .ok (.bipush 26, 2) := by decide +kernel
theorem d_S_resultInto_16 : decode b_S_resultInto 16 = .ok (.iaload, 1) := by decide +kernel
theorem d_S_resultInto_17 : decode b_S_resultInto 17 = .ok (.ifCond .eq 7, 3) := by decide +kernel
theorem d_S_resultInto_20 : decode b_S_resultInto 20 = .ok (.iconst 1, 1) := by decide +kernel
theorem d_S_resultInto_21 : decode b_S_resultInto 21 = .ok (.goto 4, 3) := by decide +kernel
theorem d_S_resultInto_24 : decode b_S_resultInto 24 = .ok (.iconst 0, 1) := by decide +kernel
theorem d_S_resultInto_25 : decode b_S_resultInto 25 = .ok (.istore_n 2, 1) := by decide +kernel
theorem d_S_resultInto_26 : decode b_S_resultInto 26 = .ok (.aload_n 0, 1) := by decide +kernel
theorem d_S_resultInto_27 : decode b_S_resultInto 27 = .ok (.getfield 18, 3) := by decide +kernel
theorem d_S_resultInto_30 : decode b_S_resultInto 30 = .ok (.bipush 27, 2) := by decide +kernel
theorem d_S_resultInto_32 : decode b_S_resultInto 32 = .ok (.iaload, 1) := by decide +kernel
theorem d_S_resultInto_33 : decode b_S_resultInto 33 = .ok (.ifCond .eq 7, 3) := by decide +kernel
theorem d_S_resultInto_36 : decode b_S_resultInto 36 = .ok (.iconst 1, 1) := by decide +kernel
theorem d_S_resultInto_37 : decode b_S_resultInto 37 = .ok (.goto 4, 3) := by decide +kernel
theorem d_S_resultInto_40 : decode b_S_resultInto 40 = .ok (.iconst 0, 1) := by decide +kernel
theorem d_S_resultInto_41 : decode b_S_resultInto 41 = .ok (.istore_n 3, 1) := by decide +kernel
theorem d_S_resultInto_42 : decode b_S_resultInto 42 = .ok (.aload_n 0, 1) := by decide +kernel
theorem d_S_resultInto_43 : decode b_S_resultInto 43 = .ok (.getfield 18, 3) := by decide +kernel
theorem d_S_resultInto_46 : decode b_S_resultInto 46 = .ok (.bipush 25, 2) := by decide +kernel
theorem d_S_resultInto_48 : decode b_S_resultInto 48 = .ok (.iaload, 1) := by decide +kernel
theorem d_S_resultInto_49 : decode b_S_resultInto 49 = .ok (.ifCond .ne 11, 3) := by decide +kernel
theorem d_S_resultInto_52 : decode b_S_resultInto 52 = .ok (.iload_n 2, 1) := by decide +kernel
theorem d_S_resultInto_53 : decode b_S_resultInto 53 = .ok (.ifCond .eq 16, 3) := by decide +kernel
theorem d_S_resultInto_56 : decode b_S_resultInto 56 = .ok (.iload_n 3, 1) := by decide +kernel
theorem d_S_resultInto_57 : decode b_S_resultInto 57 = .ok (.ifCond .eq 12, 3) := by decide +kernel
theorem d_S_resultInto_60 : decode b_S_resultInto 60 = .ok (.aload_n 1, 1) := by decide +kernel
theorem d_S_resultInto_61 : decode b_S_resultInto 61 = .ok (.getstatic 63, 3) := by decide +kernel
theorem d_S_resultInto_64 : decode b_S_resultInto 64 = .ok (.invokevirtual 75, 3) := by decide +kernel
theorem d_S_resultInto_67 : decode b_S_resultInto 67 = .ok (.iconst 0, 1) := by decide +kernel
theorem d_S_resultInto_68 : decode b_S_resultInto 68 = .ok (.ireturn, 1) := by decide +kernel
theorem d_S_resultInto_69 : decode b_S_resultInto 69 = .ok (.iload_n 2, 1) := by decide +kernel
theorem d_S_resultInto_70 : decode b_S_resultInto 70 = .ok (.ifCond .ne 7, 3) := by decide +kernel
theorem d_S_resultInto_73 : decode b_S_resultInto 73 = .ok (.iload_n 3, 1) := by decide +kernel
theorem d_S_resultInto_74 : decode b_S_resultInto 74 = .ok (.ifCond .eq 18, 3) := by decide +kernel
theorem d_S_resultInto_77 : decode b_S_resultInto 77 = .ok (.aload_n 1, 1) := by decide +kernel
theorem d_S_resultInto_78 : decode b_S_resultInto 78 = .ok (.iload_n 3, 1) := by decide +kernel
theorem d_S_resultInto_79 : decode b_S_resultInto 79 = .ok (.ifCond .eq 7, 3) := by decide +kernel
theorem d_S_resultInto_82 : decode b_S_resultInto 82 = .ok (.iconst (-1), 1) := by decide +kernel
theorem d_S_resultInto_83 : decode b_S_resultInto 83 = .ok (.goto 4, 3) := by decide +kernel
theorem d_S_resultInto_86 : decode b_S_resultInto 86 = .ok (.iconst 1, 1) := by decide +kernel
theorem d_S_resultInto_87 : decode b_S_resultInto 87 = .ok (.invokevirtual 79, 3) := by decide +kernel
theorem d_S_resultInto_90 : decode b_S_resultInto 90 = .ok (.iconst 0, 1) := by decide +kernel
theorem d_S_resultInto_91 : decode b_S_resultInto 91 = .ok (.ireturn, 1) := by decide +kernel
theorem d_S_resultInto_92 : decode b_S_resultInto 92 = .ok (.aload_n 1, 1) := by decide +kernel
theorem d_S_resultInto_93 : decode b_S_resultInto 93 = .ok (.getstatic 83, 3) := by decide +kernel
theorem d_S_resultInto_96 : decode b_S_resultInto 96 = .ok (.invokevirtual 75, 3) := by decide +kernel
theorem d_S_resultInto_99 : decode b_S_resultInto 99 = .ok (.aload_n 1, 1) := by decide +kernel
theorem d_S_resultInto_100 : decode b_S_resultInto 100 = .ok (.getfield 49, 3) := by decide +kernel
theorem d_S_resultInto_103 : decode b_S_resultInto 103 = .ok (.aload_n 0, 1) := by decide +kernel
theorem d_S_resultInto_104 : decode b_S_resultInto 104 = .ok (.getfield 12, 3) := by decide +kernel
theorem d_S_resultInto_107 : decode b_S_resultInto 107 = .ok (.invokevirtual 86, 3) := by decide +kernel
theorem d_S_resultInto_110 : decode b_S_resultInto 110 = .ok (.aload_n 1, 1) := by decide +kernel
theorem d_S_resultInto_111 : decode b_S_resultInto 111 = .ok (.aload_n 0, 1) := by decide +kernel
theorem d_S_resultInto_112 : decode b_S_resultInto 112 = .ok (.invokevirtual 90, 3) := by decide +kernel
theorem d_S_resultInto_115 : decode b_S_resultInto 115 = .ok (.invokevirtual 93, 3) := by decide +kernel
theorem d_S_resultInto_118 : decode b_S_resultInto 118 = .ok (.aload_n 1, 1) := by decide +kernel
theorem d_S_resultInto_119 : decode b_S_resultInto 119 = .ok (.invokevirtual 96, 3) := by decide +kernel
theorem d_S_resultInto_122 : decode b_S_resultInto 122 = .ok (.ifCond .eq 8, 3) := by decide +kernel
theorem d_S_resultInto_125 : decode b_S_resultInto 125 = .ok (.bipush (-3), 2) := by decide +kernel
theorem d_S_resultInto_127 : decode b_S_resultInto 127 = .ok (.goto 4, 3) := by decide +kernel
theorem d_S_resultInto_130 : decode b_S_resultInto 130 = .ok (.iconst 0, 1) := by decide +kernel
theorem d_S_resultInto_131 : decode b_S_resultInto 131 = .ok (.ireturn, 1) := by decide +kernel
theorem d_S_greatestPlaces_0 : decode b_S_greatestPlaces 0 = .ok (.bipush 24, 2) := by decide +kernel
theorem d_S_greatestPlaces_2 : decode b_S_greatestPlaces 2 = .ok (.istore_n 1, 1) := by decide +kernel
theorem d_S_greatestPlaces_3 : decode b_S_greatestPlaces 3 = .ok (.iload_n 1, 1) := by decide +kernel
theorem d_S_greatestPlaces_4 : decode b_S_greatestPlaces 4 = .ok (.ifCond .le 18, 3) := by decide +kernel
theorem d_S_greatestPlaces_7 : decode b_S_greatestPlaces 7 = .ok (.aload_n 0, 1) := by decide +kernel
theorem d_S_greatestPlaces_8 : decode b_S_greatestPlaces 8 = .ok (.getfield 18, 3) := by decide +kernel
theorem d_S_greatestPlaces_11 : decode b_S_greatestPlaces 11 = .ok (.iload_n 1, 1) := by decide +kernel
theorem d_S_greatestPlaces_12 : decode b_S_greatestPlaces 12 = .ok (.iaload, 1) := by decide +kernel
theorem d_S_greatestPlaces_13 : decode b_S_greatestPlaces 13 = .ok (.ifCond .ne 9, 3) := by decide +kernel
theorem d_S_greatestPlaces_16 : decode b_S_greatestPlaces 16 = .ok (.iinc 1 (-1), 3) := by decide +kernel
theorem d_S_greatestPlaces_19 : decode b_S_greatestPlaces 19 = .ok (.goto (-16), 3) := by decide +kernel
theorem d_S_greatestPlaces_22 : decode b_S_greatestPlaces 22 = .ok (.iload_n 1, 1) := by decide +kernel
theorem d_S_greatestPlaces_23 : decode b_S_greatestPlaces 23 = .ok (.ireturn, 1) := by decide +kernel
theorem d_B_init_0 : decode b_B_init 0 = .ok (.aload_n 0, 1) := by decide +kernel
theorem d_B_init_1 : decode b_B_init 1 = .ok (.invokespecial 5, 3) := by decide +kernel
theorem d_B_init_4 : decode b_B_init 4 = .ok (.aload_n 0, 1) := by decide +kernel
theorem d_B_init_5 : decode b_B_init 5 = .ok (.bipush 30, 2) := by decide +kernel
theorem d_B_init_7 : decode b_B_init 7 = .ok (.newarray .int, 2) := by decide +kernel
theorem d_B_init_9 : decode b_B_init 9 = .ok (.putfield 11, 3) := by decide +kernel
theorem d_B_init_12 : decode b_B_init 12 = .ok (.aload_n 0, 1) := by decide +kernel
theorem d_B_init_13 : decode b_B_init 13 = .ok (.bipush 30, 2) := by decide +kernel
theorem d_B_init_15 : decode b_B_init 15 = .ok (.newarray .int, 2) := by decide +kernel
theorem d_B_init_17 : decode b_B_init 17 = .ok (.putfield 15, 3) := by decide +kernel
theorem d_B_init_20 : decode b_B_init 20 = .ok (.aload_n 0, 1) := by decide +kernel
theorem d_B_init_21 : decode b_B_init 21 = .ok (.bipush 30, 2) := by decide +kernel
theorem d_B_init_23 : decode b_B_init 23 = .ok (.newarray .int, 2) := by decide +kernel
theorem d_B_init_25 : decode b_B_init 25 = .ok (.putfield 18, 3) := by decide +kernel
theorem d_B_init_28 : decode b_B_init 28 = .ok (.aload_n 0, 1) := by decide +kernel
theorem d_B_init_29 : decode b_B_init 29 = .ok (.bipush 30, 2) := by decide +kernel
theorem d_B_init_31 : decode b_B_init 31 = .ok (.newarray .int, 2) := by decide +kernel
theorem d_B_init_33 : decode b_B_init 33 = .ok (.putfield 21, 3) := by decide +kernel
theorem d_B_init_36 : decode b_B_init 36 = .ok (.return_, 1) := by decide +kernel
theorem d_B_combine_0 : decode b_B_combine 0 = .ok (.aload_n 2, 1) := by decide +kernel
theorem d_B_combine_1 : decode b_B_combine 1 = .ok (.getfield 24, 3) := by decide +kernel
theorem d_B_combine_4 : decode b_B_combine 4 = .ok (.getstatic 30, 3) := by decide +kernel
theorem d_B_combine_7 : decode b_B_combine 7 = .ok (.if_acmp .eq 13, 3) := by decide +kernel
theorem d_B_combine_10 : decode b_B_combine 10 = .ok (.aload_n 3, 1) := by decide +kernel
theorem d_B_combine_11 : decode b_B_combine 11 = .ok (.getfield 24, 3) := by decide +kernel
theorem d_B_combine_14 : decode b_B_combine 14 = .ok (.getstatic 30, 3) := by decide +kernel
theorem d_B_combine_17 : decode b_B_combine 17 = .ok (.if_acmp .ne 13, 3) := by decide +kernel
theorem d_B_combine_20 : decode b_B_combine 20 = .ok (.aload 4, 2) := by decide +kernel
theorem d_B_combine_22 : decode b_B_combine 22 = .ok (.getstatic 30, 3) := by decide +kernel
theorem d_B_combine_25 : decode b_B_combine 25 = .ok (.invokevirtual 35, 3) := by decide +kernel
theorem d_B_combine_28 : decode b_B_combine 28 = .ok (.iconst 0, 1) := by decide +kernel
theorem d_B_combine_29 : decode b_B_combine 29 = .ok (.ireturn, 1) := by decide +kernel
theorem d_B_combine_30 : decode b_B_combine 30 = .ok (.aload_n 2, 1) := by decide +kernel
theorem d_B_combine_31 : decode b_B_combine 31 = .ok (.invokevirtual 39, 3) := by decide +kernel
theorem d_B_combine_34 : decode b_B_combine 34 = .ok (.ifCond .eq 14, 3) := by decide +kernel
theorem d_B_combine_37 : decode b_B_combine 37 = .ok (.aload_n 3, 1) := by decide +kernel
theorem d_B_combine_38 : decode b_B_combine 38 = .ok (.invokevirtual 39, 3) := by decide +kernel
theorem d_B_combine_41 : decode b_B_combine 41 = .ok (.ifCond .eq 7, 3) := by decide +kernel
theorem d_B_combine_44 : decode b_B_combine 44 = .ok (.iconst 1, 1) := by decide +kernel
theorem d_B_combine_45 : decode b_B_combine 45 = .ok (.goto 4, 3) := by decide +kernel
theorem d_B_combine_48 : decode b_B_combine 48 = .ok (.iconst 0, 1) := by decide +kernel
theorem d_B_combine_49 : decode b_B_combine 49 = .ok (.istore 5, 2) := by decide +kernel
theorem d_B_combine_51 : decode b_B_combine 51 = .ok (.iload_n 1, 1) := by decide +kernel
theorem d_B_combine_52 : decode b_B_combine 52 = .ok (.tableswitch 98 0 2 #[28, 28, 73], 28) := by decide +kernel
theorem d_B_combine_80 : decode b_B_combine 80 = .ok (.iload 5, 2) := by decide +kernel
theorem d_B_combine_82 : decode b_B_combine 82 = .ok (.ifCond .eq 24, 3) := by decide +kernel
theorem d_B_combine_85 : decode b_B_combine 85 = .ok (.aload_n 0, 1) := by decide +kernel
theorem d_B_combine_86 : decode b_B_combine 86 = .ok (.aload_n 2, 1) := by decide +kernel
theorem d_B_combine_87 : decode b_B_combine 87 = .ok (.aload_n 3, 1) := by decide +kernel
theorem d_B_combine_88 : decode b_B_combine 88 = .ok (.iload_n 1, 1) := by decide +kernel
theorem d_B_combine_89 : decode b_B_combine 89 = .ok (.iconst 1, 1) := by decide +kernel
theorem d_B_combine_90 : decode b_B_combine 90 = .ok (.if_icmp .ne 7, 3) := by decide +kernel
theorem d_B_combine_93 : decode b_B_combine 93 = .ok (.iconst 1, 1) := by decide +kernel
theorem d_B_combine_94 : decode b_B_combine 94 = .ok (.goto 4, 3) := by decide +kernel
theorem d_B_combine_97 : decode b_B_combine 97 = .ok (.iconst 0, 1) := by decide +kernel
theorem d_B_combine_98 : decode b_B_combine 98 = .ok (.aload 4, 2) := by decide +kernel
theorem d_B_combine_100 : decode b_B_combine 100 = .ok (.invokevirtual 43, 3) := by decide +kernel
theorem d_B_combine_103 : decode b_B_combine 103 = .ok (.goto 21, 3) := by decide +kernel
theorem d_B_combine_106 : decode b_B_combine 106 = .ok (.aload_n 0, 1) := by decide +kernel
theorem d_B_combine_107 : decode b_B_combine 107 = .ok (.aload_n 2, 1) := by decide +kernel
theorem d_B_combine_108 : decode b_B_combine 108 = .ok (.aload_n 3, 1) := by decide +kernel
theorem d_B_combine_109 : decode b_B_combine 109 = .ok (.iload_n 1, 1) := by decide +kernel
theorem d_B_combine_110 : decode b_B_combine 110 = .ok (.iconst 1, 1) := by decide +kernel
theorem d_B_combine_111 : decode b_B_combine 111 = .ok (.if_icmp .ne 7, 3) := by decide +kernel
theorem d_B_combine_114 : decode b_B_combine 114 = .ok (.iconst 1, 1) := by decide +kernel
theorem d_B_combine_115 : decode b_B_combine 115 = .ok (.goto 4, 3) := by decide +kernel
theorem d_B_combine_118 : decode b_B_combine 118 = .ok (.iconst 0, 1) := by decide +kernel
theorem d_B_combine_119 : decode b_B_combine 119 = .ok (.aload 4, 2) := by decide +kernel
theorem d_B_combine_121 : decode b_B_combine 121 = .ok (.invokevirtual 47, 3) := by decide +kernel
theorem d_B_combine_124 : decode b_B_combine 124 = .ok (.ireturn, 1) := by decide +kernel
theorem d_B_combine_125 : decode b_B_combine 125 = .ok (.iload 5, 2) := by decide +kernel
theorem d_B_combine_127 : decode b_B_combine 127 = .ok (.ifCond .eq 14, 3) := by decide +kernel
theorem d_B_combine_130 : decode b_B_combine 130 = .ok (.aload_n 0, 1) := by decide +kernel
theorem d_B_combine_131 : decode b_B_combine 131 = .ok (.aload_n 2, 1) := by decide +kernel
theorem d_B_combine_132 : decode b_B_combine 132 = .ok (.aload_n 3, 1) := by decide +kernel
theorem d_B_combine_133 : decode b_B_combine 133 = .ok (.aload 4, 2) := by decide +kernel
theorem d_B_combine_135 : decode b_B_combine 135 = .ok (.invokevirtual 50, 3) := by decide +kernel
theorem d_B_combine_138 : decode b_B_combine 138 = .ok (.goto 11, 3) := by decide +kernel
theorem d_B_combine_141 : decode b_B_combine 141 = .ok (.aload_n 0, 1) := by decide +kernel
theorem d_B_combine_142 : decode b_B_combine 142 = .ok (.aload_n 2, 1) := by decide +kernel
theorem d_B_combine_143 : decode b_B_combine 143 = .ok (.aload_n 3, 1) := by decide +kernel
theorem d_B_combine_144 : decode b_B_combine 144 = .ok (.aload 4, 2) := by decide +kernel
theorem d_B_combine_146 : decode b_B_combine 146 = .ok (.invokevirtual 54, 3) := by decide +kernel
theorem d_B_combine_149 : decode b_B_combine 149 = .ok (.ireturn, 1) := by decide +kernel
theorem d_B_combine_150 : decode b_B_combine 150 = .ok (.aload_n 3, 1) := by decide +kernel
theorem d_B_combine_151 : decode b_B_combine 151 = .ok (.invokevirtual 57, 3) := by decide +kernel
theorem d_B_combine_154 : decode b_B_combine 154 = .ok (.ifCond .eq 8, 3) := by decide +kernel
theorem d_B_combine_157 : decode b_B_combine 157 = .ok (.bipush (-4), 2) := by decide +kernel
theorem d_B_combine_159 : decode b_B_combine 159 = .ok (.goto 14, 3) := by decide +kernel
theorem d_B_combine_162 : decode b_B_combine 162 = .ok (.aload_n 0, 1) := by decide +kernel
theorem d_B_combine_163 : decode b_B_combine 163 = .ok (.iload_n 1, 1) := by decide +kernel
theorem d_B_combine_164 : decode b_B_combine 164 = .ok (.aload_n 2, 1) := by decide +kernel
theorem d_B_combine_165 : decode b_B_combine 165 = .ok (.aload_n 3, 1) := by decide +kernel
theorem d_B_combine_166 : decode b_B_combine 166 = .ok (.iload 5, 2) := by decide +kernel
theorem d_B_combine_168 : decode b_B_combine 168 = .ok (.aload 4, 2) := by decide +kernel
theorem d_B_combine_170 : decode b_B_combine 170 = .ok (.invokevirtual 60, 3) := by decide +kernel
theorem d_B_combine_173 : decode b_B_combine 173 = .ok (.ireturn, 1) := by decide +kernel
theorem d_B_share_0 : decode b_B_share 0 = .ok (.iload_n 1, 1) := by decide +kernel
theorem d_B_share_1 : decode b_B_share 1 = .ok (.lookupswitch 77 #[(3, 27), (4, 52)], 27) := by decide +kernel
theorem d_B_share_28 : decode b_B_share 28 = .ok (.iload 4, 2) := by decide +kernel
theorem d_B_share_30 : decode b_B_share 30 = .ok (.ifCond .eq 14, 3) := by decide +kernel
theorem d_B_share_33 : decode b_B_share 33 = .ok (.aload_n 0, 1) := by decide +kernel
theorem d_B_share_34 : decode b_B_share 34 = .ok (.aload_n 2, 1) := by decide +kernel
theorem d_B_share_35 : decode b_B_share 35 = .ok (.aload_n 3, 1) := by decide +kernel
theorem d_B_share_36 : decode b_B_share 36 = .ok (.aload 5, 2) := by decide +kernel
theorem d_B_share_38 : decode b_B_share 38 = .ok (.invokevirtual 64, 3) := by decide +kernel
theorem d_B_share_41 : decode b_B_share 41 = .ok (.goto 11, 3) := by decide +kernel
theorem d_B_share_44 : decode b_B_share 44 = .ok (.aload_n 0, 1) := by decide +kernel
theorem d_B_share_45 : decode b_B_share 45 = .ok (.aload_n 2, 1) := by decide +kernel
theorem d_B_share_46 : decode b_B_share 46 = .ok (.aload_n 3, 1) := by decide +kernel
theorem d_B_share_47 : decode b_B_share 47 = .ok (.aload 5, 2) := by decide +kernel
theorem d_B_share_49 : decode b_B_share 49 = .ok (.invokevirtual 67, 3) := by decide +kernel
theorem d_B_share_52 : decode b_B_share 52 = .ok (.ireturn, 1) := by decide +kernel
theorem d_B_share_53 : decode b_B_share 53 = .ok (.iload 4, 2) := by decide +kernel
theorem d_B_share_55 : decode b_B_share 55 = .ok (.ifCond .eq 14, 3) := by decide +kernel
theorem d_B_share_58 : decode b_B_share 58 = .ok (.aload_n 0, 1) := by decide +kernel
theorem d_B_share_59 : decode b_B_share 59 = .ok (.aload_n 2, 1) := by decide +kernel
theorem d_B_share_60 : decode b_B_share 60 = .ok (.aload_n 3, 1) := by decide +kernel
theorem d_B_share_61 : decode b_B_share 61 = .ok (.aload 5, 2) := by decide +kernel
theorem d_B_share_63 : decode b_B_share 63 = .ok (.invokevirtual 70, 3) := by decide +kernel
theorem d_B_share_66 : decode b_B_share 66 = .ok (.goto 11, 3) := by decide +kernel
theorem d_B_share_69 : decode b_B_share 69 = .ok (.aload_n 0, 1) := by decide +kernel
theorem d_B_share_70 : decode b_B_share 70 = .ok (.aload_n 2, 1) := by decide +kernel
theorem d_B_share_71 : decode b_B_share 71 = .ok (.aload_n 3, 1) := by decide +kernel
theorem d_B_share_72 : decode b_B_share 72 = .ok (.aload 5, 2) := by decide +kernel
theorem d_B_share_74 : decode b_B_share 74 = .ok (.invokevirtual 67, 3) := by decide +kernel
theorem d_B_share_77 : decode b_B_share 77 = .ok (.ireturn, 1) := by decide +kernel
theorem d_B_share_78 : decode b_B_share 78 = .ok (.iload 4, 2) := by decide +kernel
theorem d_B_share_80 : decode b_B_share 80 = .ok (.ifCond .eq 14, 3) := by decide +kernel
theorem d_B_share_83 : decode b_B_share 83 = .ok (.aload_n 0, 1) := by decide +kernel
theorem d_B_share_84 : decode b_B_share 84 = .ok (.aload_n 2, 1) := by decide +kernel
theorem d_B_share_85 : decode b_B_share 85 = .ok (.aload_n 3, 1) := by decide +kernel
theorem d_B_share_86 : decode b_B_share 86 = .ok (.aload 5, 2) := by decide +kernel
theorem d_B_share_88 : decode b_B_share 88 = .ok (.invokevirtual 73, 3) := by decide +kernel
theorem d_B_share_91 : decode b_B_share 91 = .ok (.goto 10, 3) := by decide +kernel
theorem d_B_share_94 : decode b_B_share 94 = .ok (.aload_n 0, 1) := by decide +kernel
theorem d_B_share_95 : decode b_B_share 95 = .ok (.aload_n 2, 1) := by decide +kernel
theorem d_B_share_96 : decode b_B_share 96 = .ok (.aload 5, 2) := by decide +kernel
theorem d_B_share_98 : decode b_B_share 98 = .ok (.invokevirtual 76, 3) := by decide +kernel
theorem d_B_share_101 : decode b_B_share 101 = .ok (.ireturn, 1) := by decide +kernel
theorem d_B_add_0 : decode b_B_add 0 = .ok (.aload 4, 2) := by decide +kernel
theorem d_B_add_2 : decode b_B_add 2 = .ok (.aload_n 1, 1) := by decide +kernel
theorem d_B_add_3 : decode b_B_add 3 = .ok (.invokevirtual 80, 3) := by decide +kernel
theorem d_B_add_6 : decode b_B_add 6 = .ok (.aload 4, 2) := by decide +kernel
theorem d_B_add_8 : decode b_B_add 8 = .ok (.getfield 84, 3) := by decide +kernel
theorem d_B_add_11 : decode b_B_add 11 = .ok (.aload_n 2, 1) := by decide +kernel
theorem d_B_add_12 : decode b_B_add 12 = .ok (.getfield 84, 3) := by decide +kernel
theorem d_B_add_15 : decode b_B_add 15 = .ok (.iload_n 3, 1) := by decide +kernel
theorem d_B_add_16 : decode b_B_add 16 = .ok (.invokevirtual 88, 3) := by decide +kernel
theorem d_B_add_19 : decode b_B_add 19 = .ok (.aload 4, 2) := by decide +kernel
theorem d_B_add_21 : decode b_B_add 21 = .ok (.aload_n 1, 1) := by decide +kernel
theorem d_B_add_22 : decode b_B_add 22 = .ok (.getfield 94, 3) := by decide +kernel
theorem d_B_add_25 : decode b_B_add 25 = .ok (.aload_n 2, 1) := by decide +kernel
theorem d_B_add_26 : decode b_B_add 26 = .ok (.getfield 94, 3) := by decide +kernel
theorem d_B_add_29 : decode b_B_add 29 = .ok (.invokestatic 98, 3) := by decide +kernel
theorem d_B_add_32 : decode b_B_add 32 = .ok (.putfield 94, 3) := by decide +kernel
theorem d_B_add_35 : decode b_B_add 35 = .ok (.aload 4, 2) := by decide +kernel
theorem d_B_add_37 : decode b_B_add 37 = .ok (.invokestatic 104, 3) := by decide +kernel
theorem d_B_add_40 : decode b_B_add 40 = .ok (.ireturn, 1) := by decide +kernel
theorem d_B_addInfinite_0 : decode b_B_addInfinite 0 = .ok (.aload_n 1, 1) := by decide +kernel
theorem d_B_addInfinite_1 : decode b_B_addInfinite 1 = .ok (.invokevirtual 39, 3) := by decide +kernel
theorem d_B_addInfinite_4 : decode b_B_addInfinite 4 = .ok (.ifCond .eq 7, 3) := by decide +kernel
theorem d_B_addInfinite_7 : decode b_B_addInfinite 7 = .ok (.iconst 0, 1) := by decide +kernel
theorem d_B_addInfinite_8 : decode b_B_addInfinite 8 = .ok (.goto 7, 3) := by decide +kernel
theorem d_B_addInfinite_11 : decode b_B_addInfinite 11 = .ok (.aload_n 1, 1) := by decide +kernel
theorem d_B_addInfinite_12 : decode b_B_addInfinite 12 = .ok (.invokevirtual 108, 3) := by decide +kernel
theorem d_B_addInfinite_15 : decode b_B_addInfinite 15 = .ok (.istore 5, 2) := by decide +kernel
theorem d_B_addInfinite_17 : decode b_B_addInfinite 17 = .ok (.aload_n 2, 1) := by decide +kernel
theorem d_B_addInfinite_18 : decode b_B_addInfinite 18 = .ok (.invokevirtual 39, 3) := by decide +kernel
theorem d_B_addInfinite_21 : decode b_B_addInfinite 21 = .ok (.ifCond .eq 7, 3) := by decide +kernel
theorem d_B_addInfinite_24 : decode b_B_addInfinite 24 = .ok (.iconst 0, 1) := by decide +kernel
theorem d_B_addInfinite_25 : decode b_B_addInfinite 25 = .ok (.goto 7, 3) := by decide +kernel
theorem d_B_addInfinite_28 : decode b_B_addInfinite 28 = .ok (.aload_n 2, 1) := by decide +kernel
theorem d_B_addInfinite_29 : decode b_B_addInfinite 29 = .ok (.invokevirtual 108, 3) := by decide +kernel
theorem d_B_addInfinite_32 : decode b_B_addInfinite 32 = .ok (.istore 6, 2) := by decide +kernel
theorem d_B_addInfinite_34 : decode b_B_addInfinite 34 = .ok (.iload_n 3, 1) := by decide +kernel
theorem d_B_addInfinite_35 : decode b_B_addInfinite 35 = .ok (.ifCond .eq 11, 3) := by decide +kernel
theorem d_B_addInfinite_38 : decode b_B_addInfinite 38 = .ok (.iload 5, 2) := by decide +kernel
theorem d_B_addInfinite_40 : decode b_B_addInfinite 40 = .ok (.iload 6, 2) := by decide +kernel
theorem d_B_addInfinite_42 : decode b_B_addInfinite 42 = .ok (.isub, 1) := by decide +kernel
theorem d_B_addInfinite_43 : decode b_B_addInfinite 43 = .ok (.goto 8, 3) := by decide +kernel
theorem d_B_addInfinite_46 : decode b_B_addInfinite 46 = .ok (.iload 5, 2) := by decide +kernel
theorem d_B_addInfinite_48 : decode b_B_addInfinite 48 = .ok (.iload 6, 2) := by decide +kernel
theorem d_B_addInfinite_50 : decode b_B_addInfinite 50 = .ok (.iadd, 1) := by decide +kernel
theorem d_B_addInfinite_51 : decode b_B_addInfinite 51 = .ok (.istore 7, 2) := by decide +kernel
theorem d_B_addInfinite_53 : decode b_B_addInfinite 53 = .ok (.iload 7, 2) := by decide +kernel
theorem d_B_addInfinite_55 : decode b_B_addInfinite 55 = .ok (.ifCond .ne 14, 3) := by decide +kernel
theorem d_B_addInfinite_58 : decode b_B_addInfinite 58 = .ok (.aload 4, 2) := by decide +kernel
theorem d_B_addInfinite_60 : decode b_B_addInfinite 60 = .ok (.getstatic 30, 3) := by decide +kernel
theorem d_B_addInfinite_63 : decode b_B_addInfinite 63 = .ok (.invokevirtual 35, 3) := by decide +kernel
theorem d_B_addInfinite_66 : decode b_B_addInfinite 66 = .ok (.goto 10, 3) := by decide +kernel
theorem d_B_addInfinite_69 : decode b_B_addInfinite 69 = .ok (.aload 4, 2) := by decide +kernel
theorem d_B_addInfinite_71 : decode b_B_addInfinite 71 = .ok (.iload 7, 2) := by decide +kernel
theorem d_B_addInfinite_73 : decode b_B_addInfinite 73 = .ok (.invokevirtual 112, 3) := by decide +kernel
theorem d_B_addInfinite_76 : decode b_B_addInfinite 76 = .ok (.iconst 0, 1) := by decide +kernel
theorem d_B_addInfinite_77 : decode b_B_addInfinite 77 = .ok (.ireturn, 1) := by decide +kernel
theorem d_B_multiply_0 : decode b_B_multiply 0 = .ok (.aload_n 0, 1) := by decide +kernel
theorem d_B_multiply_1 : decode b_B_multiply 1 = .ok (.getfield 15, 3) := by decide +kernel
theorem d_B_multiply_4 : decode b_B_multiply 4 = .ok (.aload_n 1, 1) := by decide +kernel
theorem d_B_multiply_5 : decode b_B_multiply 5 = .ok (.getfield 84, 3) := by decide +kernel
theorem d_B_multiply_8 : decode b_B_multiply 8 = .ok (.getfield 116, 3) := by decide +kernel
theorem d_B_multiply_11 : decode b_B_multiply 11 = .ok (.aload_n 2, 1) := by decide +kernel
theorem d_B_multiply_12 : decode b_B_multiply 12 = .ok (.getfield 84, 3) := by decide +kernel
theorem d_B_multiply_15 : decode b_B_multiply 15 = .ok (.getfield 116, 3) := by decide +kernel
theorem d_B_multiply_18 : decode b_B_multiply 18 = .ok (.invokestatic 119, 3) := by decide +kernel
theorem d_B_multiply_21 : decode b_B_multiply 21 = .ok (.aload_n 1, 1) := by decide +kernel
theorem d_B_multiply_22 : decode b_B_multiply 22 = .ok (.getfield 94, 3) := by decide +kernel
theorem d_B_multiply_25 : decode b_B_multiply 25 = .ok (.aload_n 2, 1) := by decide +kernel
theorem d_B_multiply_26 : decode b_B_multiply 26 = .ok (.getfield 94, 3) := by decide +kernel
theorem d_B_multiply_29 : decode b_B_multiply 29 = .ok (.iadd, 1) := by decide +kernel
theorem d_B_multiply_30 : decode b_B_multiply 30 = .ok (.bipush 24, 2) := by decide +kernel
theorem d_B_multiply_32 : decode b_B_multiply 32 = .ok (.invokestatic 124, 3) := by decide +kernel
theorem d_B_multiply_35 : decode b_B_multiply 35 = .ok (.istore 4, 2) := by decide +kernel
theorem d_B_multiply_37 : decode b_B_multiply 37 = .ok (.aload_n 0, 1) := by decide +kernel
theorem d_B_multiply_38 : decode b_B_multiply 38 = .ok (.getfield 15, 3) := by decide +kernel
theorem d_B_multiply_41 : decode b_B_multiply 41 = .ok (.bipush 12, 2) := by decide +kernel
theorem d_B_multiply_43 : decode b_B_multiply 43 = .ok (.iload 4, 2) := by decide +kernel
theorem d_B_multiply_45 : decode b_B_multiply 45 = .ok (.aload_n 1, 1) := by decide +kernel
theorem d_B_multiply_46 : decode b_B_multiply 46 = .ok (.getfield 84, 3) := by decide +kernel
theorem d_B_multiply_49 : decode b_B_multiply 49 = .ok (.getfield 127, 3) := by decide +kernel
theorem d_B_multiply_52 : decode b_B_multiply 52 = .ok (.aload_n 2, 1) := by decide +kernel
theorem d_B_multiply_53 : decode b_B_multiply 53 = .ok (.getfield 84, 3) := by decide +kernel
theorem d_B_multiply_56 : decode b_B_multiply 56 = .ok (.getfield 127, 3) := by decide +kernel
theorem d_B_multiply_59 : decode b_B_multiply 59 = .ok (.if_icmp .eq 7, 3) := by decide +kernel
theorem d_B_multiply_62 : decode b_B_multiply 62 = .ok (.iconst 1, 1) := by decide +kernel
theorem d_B_multiply_63 : decode b_B_multiply 63 = .ok (.goto 4, 3) := by decide +kernel
theorem d_B_multiply_66 : decode b_B_multiply 66 = .ok (.iconst 0, 1) := by decide +kernel
theorem d_B_multiply_67 : decode b_B_multiply 67 = .ok (.aload_n 3, 1) := by decide +kernel
theorem d_B_multiply_68 : decode b_B_multiply 68 = .ok (.invokestatic 131, 3) := by decide +kernel
theorem d_B_multiply_71 : decode b_B_multiply 71 = .ok (.ireturn, 1) := by decide +kernel
theorem d_B_multiplyInfinite_0 : decode b_B_multiplyInfinite 0 = .ok (.aload_n 1, 1) := by decide +kernel
theorem d_B_multiplyInfinite_1 : decode b_B_multiplyInfinite 1 = .ok (.invokevirtual 108, 3) := by decide +kernel
theorem d_B_multiplyInfinite_4 : decode b_B_multiplyInfinite 4 = .ok (.aload_n 2, 1) := by decide +kernel
theorem d_B_multiplyInfinite_5 : decode b_B_multiplyInfinite 5 = .ok (.invokevirtual 108, 3) := by decide +kernel
theorem d_B_multiplyInfinite_8 : decode b_B_multiplyInfinite 8 = .ok (.imul, 1) := by decide +kernel
theorem d_B_multiplyInfinite_9 : decode b_B_multiplyInfinite 9 = .ok (.istore 4, 2) := by decide +kernel
theorem d_B_multiplyInfinite_11 : decode b_B_multiplyInfinite 11 = .ok (.iload 4, 2) := by decide +kernel
theorem d_B_multiplyInfinite_13 : decode b_B_multiplyInfinite 13 = .ok (.ifCond .ne 13, 3) := by decide +kernel
theorem d_B_multiplyInfinite_16 : decode b_B_multiplyInfinite 16 = .ok (.aload_n 3, 1) := by decide +kernel
theorem d_B_multiplyInfinite_17 : decode b_B_multiplyInfinite 17 = .ok (.getstatic 30, 3) := by decide +kernel
theorem d_B_multiplyInfinite_20 : decode b_B_multiplyInfinite 20 = .ok (.invokevirtual 35, 3) := by decide +kernel
theorem d_B_multiplyInfinite_23 : decode b_B_multiplyInfinite 23 = .ok (.goto 9, 3) := by decide +kernel
theorem d_B_multiplyInfinite_26 : decode b_B_multiplyInfinite 26 = .ok (.aload_n 3, 1) := by decide +kernel
theorem d_B_multiplyInfinite_27 : decode b_B_multiplyInfinite 27 = .ok (.iload 4, 2) := by decide +kernel
theorem d_B_multiplyInfinite_29 : decode b_B_multiplyInfinite 29 = .ok (.invokevirtual 112, 3) := by decide +kernel
theorem d_B_multiplyInfinite_32 : decode b_B_multiplyInfinite 32 = .ok (.iconst 0, 1) := by decide +kernel
theorem d_B_multiplyInfinite_33 : decode b_B_multiplyInfinite 33 = .ok (.ireturn, 1) := by decide +kernel
theorem d_B_divide_0 : decode b_B_divide 0 = .ok (.aload_n 0, 1) := by decide +kernel
theorem d_B_divide_1 : decode b_B_divide 1 = .ok (.aload_n 1, 1) := by decide +kernel
theorem d_B_divide_2 : decode b_B_divide 2 = .ok (.bipush 7, 2) := by decide +kernel
theorem d_B_divide_4 : decode b_B_divide 4 = .ok (.invokevirtual 135, 3) := by decide +kernel
theorem d_B_divide_7 : decode b_B_divide 7 = .ok (.aload_n 0, 1) := by decide +kernel
theorem d_B_divide_8 : decode b_B_divide 8 = .ok (.getfield 11, 3) := by decide +kernel
theorem d_B_divide_11 : decode b_B_divide 11 = .ok (.aload_n 0, 1) := by decide +kernel
theorem d_B_divide_12 : decode b_B_divide 12 = .ok (.getfield 15, 3) := by decide +kernel
theorem d_B_divide_15 : decode b_B_divide 15 = .ok (.aload_n 2, 1) := by decide +kernel
theorem d_B_divide_16 : decode b_B_divide 16 = .ok (.getfield 84, 3) := by decide +kernel
theorem d_B_divide_19 : decode b_B_divide 19 = .ok (.getfield 116, 3) := by decide +kernel
theorem d_B_divide_22 : decode b_B_divide 22 = .ok (.invokestatic 139, 3) := by decide +kernel
theorem d_B_divide_25 : decode b_B_divide 25 = .ok (.aload_n 0, 1) := by decide +kernel
theorem d_B_divide_26 : decode b_B_divide 26 = .ok (.getfield 15, 3) := by decide +kernel
theorem d_B_divide_29 : decode b_B_divide 29 = .ok (.bipush 7, 2) := by decide +kernel
theorem d_B_divide_31 : decode b_B_divide 31 = .ok (.aload_n 1, 1) := by decide +kernel
theorem d_B_divide_32 : decode b_B_divide 32 = .ok (.aload_n 2, 1) := by decide +kernel
theorem d_B_divide_33 : decode b_B_divide 33 = .ok (.invokestatic 141, 3) := by decide +kernel
theorem d_B_divide_36 : decode b_B_divide 36 = .ok (.aload_n 1, 1) := by decide +kernel
theorem d_B_divide_37 : decode b_B_divide 37 = .ok (.getfield 84, 3) := by decide +kernel
theorem d_B_divide_40 : decode b_B_divide 40 = .ok (.getfield 127, 3) := by decide +kernel
theorem d_B_divide_43 : decode b_B_divide 43 = .ok (.aload_n 2, 1) := by decide +kernel
theorem d_B_divide_44 : decode b_B_divide 44 = .ok (.getfield 84, 3) := by decide +kernel
theorem d_B_divide_47 : decode b_B_divide 47 = .ok (.getfield 127, 3) := by decide +kernel
theorem d_B_divide_50 : decode b_B_divide 50 = .ok (.if_icmp .eq 7, 3) := by decide +kernel
theorem d_B_divide_53 : decode b_B_divide 53 = .ok (.iconst 1, 1) := by decide +kernel
theorem d_B_divide_54 : decode b_B_divide 54 = .ok (.goto 4, 3) := by decide +kernel
theorem d_B_divide_57 : decode b_B_divide 57 = .ok (.iconst 0, 1) := by decide +kernel
theorem d_B_divide_58 : decode b_B_divide 58 = .ok (.aload_n 3, 1) := by decide +kernel
theorem d_B_divide_59 : decode b_B_divide 59 = .ok (.invokestatic 131, 3) := by decide +kernel
theorem d_B_divide_62 : decode b_B_divide 62 = .ok (.ireturn, 1) := by decide +kernel
theorem d_B_placesOfDivision_0 : decode b_B_placesOfDivision 0 = .ok (.aload_n 0, 1) := by decide +kernel
theorem d_B_placesOfDivision_1 : decode b_B_placesOfDivision 1 = .ok (.getfield 84, 3) := by decide +kernel
theorem d_B_placesOfDivision_4 : decode b_B_placesOfDivision 4 = .ok (.invokevirtual 144, 3) := by decide +kernel
theorem d_B_placesOfDivision_7 : decode b_B_placesOfDivision 7 = .ok (.aload_n 1, 1) := by decide +kernel
theorem d_B_placesOfDivision_8 : decode b_B_placesOfDivision 8 = .ok (.getfield 84, 3) := by decide +kernel
theorem d_B_placesOfDivision_11 : decode b_B_placesOfDivision 11 = .ok (.invokevirtual 144, 3) := by decide +kernel
theorem d_B_placesOfDivision_14 : decode b_B_placesOfDivision 14 = .ok (.isub, 1) := by decide +kernel
theorem d_B_placesOfDivision_15 : decode b_B_placesOfDivision 15 = .ok (.istore_n 2, 1) := by decide +kernel
theorem d_B_placesOfDivision_16 : decode b_B_placesOfDivision 16 = .ok (.aload_n 0, 1) := by decide +kernel
theorem d_B_placesOfDivision_17 : decode b_B_placesOfDivision 17 = .ok (.getfield 84, 3) := by decide +kernel
theorem d_B_placesOfDivision_20 : decode b_B_placesOfDivision 20 = .ok (.invokevirtual 147, 3) := by decide +kernel
theorem d_B_placesOfDivision_23 : decode b_B_placesOfDivision 23 = .ok (.aload_n 1, 1) := by decide +kernel
theorem d_B_placesOfDivision_24 : decode b_B_placesOfDivision 24 = .ok (.getfield 84, 3) := by decide +kernel
theorem d_B_placesOfDivision_27 : decode b_B_placesOfDivision 27 = .ok (.invokevirtual 147, 3) := by decide +kernel
theorem d_B_placesOfDivision_30 : decode b_B_placesOfDivision 30 = .ok (.if_icmp .gt 6, 3) := by decide +kernel
theorem d_B_placesOfDivision_33 : decode b_B_placesOfDivision 33 = .ok (.iinc 2 (-1), 3) := by decide +kernel
theorem d_B_placesOfDivision_36 : decode b_B_placesOfDivision 36 = .ok (.bipush 16, 2) := by decide +kernel
theorem d_B_placesOfDivision_38 : decode b_B_placesOfDivision 38 = .ok (.iconst 4, 1) := by decide +kernel
theorem d_B_placesOfDivision_39 : decode b_B_placesOfDivision 39 = .ok (.iload_n 2, 1) := by decide +kernel
theorem d_B_placesOfDivision_40 : decode b_B_placesOfDivision 40 = .ok (.imul, 1) := by decide +kernel
theorem d_B_placesOfDivision_41 : decode b_B_placesOfDivision 41 = .ok (.isub, 1) := by decide +kernel
theorem d_B_placesOfDivision_42 : decode b_B_placesOfDivision 42 = .ok (.aload_n 0, 1) := by decide +kernel
theorem d_B_placesOfDivision_43 : decode b_B_placesOfDivision 43 = .ok (.getfield 94, 3) := by decide +kernel
theorem d_B_placesOfDivision_46 : decode b_B_placesOfDivision 46 = .ok (.aload_n 1, 1) := by decide +kernel
theorem d_B_placesOfDivision_47 : decode b_B_placesOfDivision 47 = .ok (.getfield 94, 3) := by decide +kernel
theorem d_B_placesOfDivision_50 : decode b_B_placesOfDivision 50 = .ok (.invokestatic 98, 3) := by decide +kernel
theorem d_B_placesOfDivision_53 : decode b_B_placesOfDivision 53 = .ok (.invokestatic 98, 3) := by decide +kernel
theorem d_B_placesOfDivision_56 : decode b_B_placesOfDivision 56 = .ok (.istore_n 3, 1) := by decide +kernel
theorem d_B_placesOfDivision_57 : decode b_B_placesOfDivision 57 = .ok (.iload_n 3, 1) := by decide +kernel
theorem d_B_placesOfDivision_58 : decode b_B_placesOfDivision 58 = .ok (.bipush 24, 2) := by decide +kernel
theorem d_B_placesOfDivision_60 : decode b_B_placesOfDivision 60 = .ok (.invokestatic 124, 3) := by decide +kernel
theorem d_B_placesOfDivision_63 : decode b_B_placesOfDivision 63 = .ok (.ireturn, 1) := by decide +kernel
theorem d_B_divideInfinite_0 : decode b_B_divideInfinite 0 = .ok (.aload_n 1, 1) := by decide +kernel
theorem d_B_divideInfinite_1 : decode b_B_divideInfinite 1 = .ok (.invokevirtual 39, 3) := by decide +kernel
theorem d_B_divideInfinite_4 : decode b_B_divideInfinite 4 = .ok (.ifCond .eq 13, 3) := by decide +kernel
theorem d_B_divideInfinite_7 : decode b_B_divideInfinite 7 = .ok (.aload_n 3, 1) := by decide +kernel
theorem d_B_divideInfinite_8 : decode b_B_divideInfinite 8 = .ok (.getstatic 150, 3) := by decide +kernel
theorem d_B_divideInfinite_11 : decode b_B_divideInfinite 11 = .ok (.invokevirtual 35, 3) := by decide +kernel
theorem d_B_divideInfinite_14 : decode b_B_divideInfinite 14 = .ok (.goto 33, 3) := by decide +kernel
theorem d_B_divideInfinite_17 : decode b_B_divideInfinite 17 = .ok (.aload_n 2, 1) := by decide +kernel
theorem d_B_divideInfinite_18 : decode b_B_divideInfinite 18 = .ok (.invokevirtual 39, 3) := by decide +kernel
theorem d_B_divideInfinite_21 : decode b_B_divideInfinite 21 = .ok (.ifCond .eq 19, 3) := by decide +kernel
theorem d_B_divideInfinite_24 : decode b_B_divideInfinite 24 = .ok (.aload_n 3, 1) := by decide +kernel
theorem d_B_divideInfinite_25 : decode b_B_divideInfinite 25 = .ok (.aload_n 1, 1) := by decide +kernel
theorem d_B_divideInfinite_26 : decode b_B_divideInfinite 26 = .ok (.invokevirtual 108, 3) := by decide +kernel
theorem d_B_divideInfinite_29 : decode b_B_divideInfinite 29 = .ok (.aload_n 2, 1) := by decide +kernel
theorem d_B_divideInfinite_30 : decode b_B_divideInfinite 30 = .ok (.invokevirtual 108, 3) := by decide +kernel
theorem d_B_divideInfinite_33 : decode b_B_divideInfinite 33 = .ok (.imul, 1) := by decide +kernel
theorem d_B_divideInfinite_34 : decode b_B_divideInfinite 34 = .ok (.invokevirtual 112, 3) := by decide +kernel
theorem d_B_divideInfinite_37 : decode b_B_divideInfinite 37 = .ok (.goto 10, 3) := by decide +kernel
theorem d_B_divideInfinite_40 : decode b_B_divideInfinite 40 = .ok (.aload_n 3, 1) := by decide +kernel
theorem d_B_divideInfinite_41 : decode b_B_divideInfinite 41 = .ok (.getstatic 30, 3) := by decide +kernel
theorem d_B_divideInfinite_44 : decode b_B_divideInfinite 44 = .ok (.invokevirtual 35, 3) := by decide +kernel
theorem d_B_divideInfinite_47 : decode b_B_divideInfinite 47 = .ok (.iconst 0, 1) := by decide +kernel
theorem d_B_divideInfinite_48 : decode b_B_divideInfinite 48 = .ok (.ireturn, 1) := by decide +kernel
theorem d_B_quotient_0 : decode b_B_quotient 0 = .ok (.aload_n 0, 1) := by decide +kernel
theorem d_B_quotient_1 : decode b_B_quotient 1 = .ok (.aload_n 1, 1) := by decide +kernel
theorem d_B_quotient_2 : decode b_B_quotient 2 = .ok (.bipush 6, 2) := by decide +kernel
theorem d_B_quotient_4 : decode b_B_quotient 4 = .ok (.invokevirtual 135, 3) := by decide +kernel
theorem d_B_quotient_7 : decode b_B_quotient 7 = .ok (.aload_n 0, 1) := by decide +kernel
theorem d_B_quotient_8 : decode b_B_quotient 8 = .ok (.getfield 11, 3) := by decide +kernel
theorem d_B_quotient_11 : decode b_B_quotient 11 = .ok (.aload_n 0, 1) := by decide +kernel
theorem d_B_quotient_12 : decode b_B_quotient 12 = .ok (.getfield 15, 3) := by decide +kernel
theorem d_B_quotient_15 : decode b_B_quotient 15 = .ok (.aload_n 2, 1) := by decide +kernel
theorem d_B_quotient_16 : decode b_B_quotient 16 = .ok (.getfield 84, 3) := by decide +kernel
theorem d_B_quotient_19 : decode b_B_quotient 19 = .ok (.getfield 116, 3) := by decide +kernel
theorem d_B_quotient_22 : decode b_B_quotient 22 = .ok (.invokestatic 139, 3) := by decide +kernel
theorem d_B_quotient_25 : decode b_B_quotient 25 = .ok (.aload_n 0, 1) := by decide +kernel
theorem d_B_quotient_26 : decode b_B_quotient 26 = .ok (.getfield 15, 3) := by decide +kernel
theorem d_B_quotient_29 : decode b_B_quotient 29 = .ok (.bipush 24, 2) := by decide +kernel
theorem d_B_quotient_31 : decode b_B_quotient 31 = .ok (.invokestatic 153, 3) := by decide +kernel
theorem d_B_quotient_34 : decode b_B_quotient 34 = .ok (.aload_n 0, 1) := by decide +kernel
theorem d_B_quotient_35 : decode b_B_quotient 35 = .ok (.getfield 15, 3) := by decide +kernel
theorem d_B_quotient_38 : decode b_B_quotient 38 = .ok (.bipush 6, 2) := by decide +kernel
theorem d_B_quotient_40 : decode b_B_quotient 40 = .ok (.iconst 0, 1) := by decide +kernel
theorem d_B_quotient_41 : decode b_B_quotient 41 = .ok (.aload_n 1, 1) := by decide +kernel
theorem d_B_quotient_42 : decode b_B_quotient 42 = .ok (.getfield 84, 3) := by decide +kernel
theorem d_B_quotient_45 : decode b_B_quotient 45 = .ok (.getfield 127, 3) := by decide +kernel
theorem d_B_quotient_48 : decode b_B_quotient 48 = .ok (.aload_n 2, 1) := by decide +kernel
theorem d_B_quotient_49 : decode b_B_quotient 49 = .ok (.getfield 84, 3) := by decide +kernel
theorem d_B_quotient_52 : decode b_B_quotient 52 = .ok (.getfield 127, 3) := by decide +kernel
theorem d_B_quotient_55 : decode b_B_quotient 55 = .ok (.if_icmp .eq 7, 3) := by decide +kernel
theorem d_B_quotient_58 : decode b_B_quotient 58 = .ok (.iconst 1, 1) := by decide +kernel
theorem d_B_quotient_59 : decode b_B_quotient 59 = .ok (.goto 4, 3) := by decide +kernel
theorem d_B_quotient_62 : decode b_B_quotient 62 = .ok (.iconst 0, 1) := by decide +kernel
theorem d_B_quotient_63 : decode b_B_quotient 63 = .ok (.aload_n 3, 1) := by decide +kernel
theorem d_B_quotient_64 : decode b_B_quotient 64 = .ok (.invokestatic 131, 3) := by decide +kernel
theorem d_B_quotient_67 : decode b_B_quotient 67 = .ok (.ireturn, 1) := by decide +kernel
theorem d_B_remainder_0 : decode b_B_remainder 0 = .ok (.aload_n 0, 1) := by decide +kernel
theorem d_B_remainder_1 : decode b_B_remainder 1 = .ok (.aload_n 1, 1) := by decide +kernel
theorem d_B_remainder_2 : decode b_B_remainder 2 = .ok (.iconst 0, 1) := by decide +kernel
theorem d_B_remainder_3 : decode b_B_remainder 3 = .ok (.invokevirtual 135, 3) := by decide +kernel
theorem d_B_remainder_6 : decode b_B_remainder 6 = .ok (.aload_n 0, 1) := by decide +kernel
theorem d_B_remainder_7 : decode b_B_remainder 7 = .ok (.getfield 11, 3) := by decide +kernel
theorem d_B_remainder_10 : decode b_B_remainder 10 = .ok (.aload_n 0, 1) := by decide +kernel
theorem d_B_remainder_11 : decode b_B_remainder 11 = .ok (.getfield 15, 3) := by decide +kernel
theorem d_B_remainder_14 : decode b_B_remainder 14 = .ok (.aload_n 2, 1) := by decide +kernel
theorem d_B_remainder_15 : decode b_B_remainder 15 = .ok (.getfield 84, 3) := by decide +kernel
theorem d_B_remainder_18 : decode b_B_remainder 18 = .ok (.getfield 116, 3) := by decide +kernel
theorem d_B_remainder_21 : decode b_B_remainder 21 = .ok (.invokestatic 139, 3) := by decide +kernel
theorem d_B_remainder_24 : decode b_B_remainder 24 = .ok (.aload_n 0, 1) := by decide +kernel
theorem d_B_remainder_25 : decode b_B_remainder 25 = .ok (.getfield 11, 3) := by decide +kernel
theorem d_B_remainder_28 : decode b_B_remainder 28 = .ok (.bipush 6, 2) := by decide +kernel
theorem d_B_remainder_30 : decode b_B_remainder 30 = .ok (.aload_n 1, 1) := by decide +kernel
theorem d_B_remainder_31 : decode b_B_remainder 31 = .ok (.getfield 94, 3) := by decide +kernel
theorem d_B_remainder_34 : decode b_B_remainder 34 = .ok (.aload_n 2, 1) := by decide +kernel
theorem d_B_remainder_35 : decode b_B_remainder 35 = .ok (.getfield 94, 3) := by decide +kernel
theorem d_B_remainder_38 : decode b_B_remainder 38 = .ok (.invokestatic 98, 3) := by decide +kernel
theorem d_B_remainder_41 : decode b_B_remainder 41 = .ok (.aload_n 1, 1) := by decide +kernel
theorem d_B_remainder_42 : decode b_B_remainder 42 = .ok (.getfield 84, 3) := by decide +kernel
theorem d_B_remainder_45 : decode b_B_remainder 45 = .ok (.getfield 127, 3) := by decide +kernel
theorem d_B_remainder_48 : decode b_B_remainder 48 = .ok (.aload_n 3, 1) := by decide +kernel
theorem d_B_remainder_49 : decode b_B_remainder 49 = .ok (.invokestatic 131, 3) := by decide +kernel
theorem d_B_remainder_52 : decode b_B_remainder 52 = .ok (.ireturn, 1) := by decide +kernel
theorem d_B_remainderInfinite_0 : decode b_B_remainderInfinite 0 = .ok (.aload_n 1, 1) := by decide +kernel
theorem d_B_remainderInfinite_1 : decode b_B_remainderInfinite 1 = .ok (.invokevirtual 39, 3) := by decide +kernel
theorem d_B_remainderInfinite_4 : decode b_B_remainderInfinite 4 = .ok (.ifCond .eq 11, 3) := by decide +kernel
theorem d_B_remainderInfinite_7 : decode b_B_remainderInfinite 7 = .ok (.aload_n 2, 1) := by decide +kernel
theorem d_B_remainderInfinite_8 : decode b_B_remainderInfinite 8 = .ok (.aload_n 1, 1) := by decide +kernel
theorem d_B_remainderInfinite_9 : decode b_B_remainderInfinite 9 = .ok (.invokevirtual 80, 3) := by decide +kernel
theorem d_B_remainderInfinite_12 : decode b_B_remainderInfinite 12 = .ok (.goto 10, 3) := by decide +kernel
theorem d_B_remainderInfinite_15 : decode b_B_remainderInfinite 15 = .ok (.aload_n 2, 1) := by decide +kernel
theorem d_B_remainderInfinite_16 : decode b_B_remainderInfinite 16 = .ok (.getstatic 30, 3) := by decide +kernel
theorem d_B_remainderInfinite_19 : decode b_B_remainderInfinite 19 = .ok (.invokevirtual 35, 3) := by decide +kernel
theorem d_B_remainderInfinite_22 : decode b_B_remainderInfinite 22 = .ok (.iconst 0, 1) := by decide +kernel
theorem d_B_remainderInfinite_23 : decode b_B_remainderInfinite 23 = .ok (.ireturn, 1) := by decide +kernel
theorem d_B_alter_0 : decode b_B_alter 0 = .ok (.iload_n 1, 1) := by decide +kernel
theorem d_B_alter_1 : decode b_B_alter 1 = .ok (.bipush 6, 2) := by decide +kernel
theorem d_B_alter_3 : decode b_B_alter 3 = .ok (.if_icmp .ne 13, 3) := by decide +kernel
theorem d_B_alter_6 : decode b_B_alter 6 = .ok (.aload_n 2, 1) := by decide +kernel
theorem d_B_alter_7 : decode b_B_alter 7 = .ok (.invokevirtual 108, 3) := by decide +kernel
theorem d_B_alter_10 : decode b_B_alter 10 = .ok (.ifCond .ge 6, 3) := by decide +kernel
theorem d_B_alter_13 : decode b_B_alter 13 = .ok (.bipush (-5), 2) := by decide +kernel
theorem d_B_alter_15 : decode b_B_alter 15 = .ok (.ireturn, 1) := by decide +kernel
theorem d_B_alter_16 : decode b_B_alter 16 = .ok (.aload 4, 2) := by decide +kernel
theorem d_B_alter_18 : decode b_B_alter 18 = .ok (.aload_n 2, 1) := by decide +kernel
theorem d_B_alter_19 : decode b_B_alter 19 = .ok (.invokevirtual 80, 3) := by decide +kernel
theorem d_B_alter_22 : decode b_B_alter 22 = .ok (.aload_n 2, 1) := by decide +kernel
theorem d_B_alter_23 : decode b_B_alter 23 = .ok (.invokevirtual 39, 3) := by decide +kernel
theorem d_B_alter_26 : decode b_B_alter 26 = .ok (.ifCond .ne 11, 3) := by decide +kernel
theorem d_B_alter_29 : decode b_B_alter 29 = .ok (.aload_n 0, 1) := by decide +kernel
theorem d_B_alter_30 : decode b_B_alter 30 = .ok (.iload_n 1, 1) := by decide +kernel
theorem d_B_alter_31 : decode b_B_alter 31 = .ok (.aload 4, 2) := by decide +kernel
theorem d_B_alter_33 : decode b_B_alter 33 = .ok (.invokevirtual 157, 3) := by decide +kernel
theorem d_B_alter_36 : decode b_B_alter 36 = .ok (.ireturn, 1) := by decide +kernel
theorem d_B_alter_37 : decode b_B_alter 37 = .ok (.bipush (-32), 2) := by decide +kernel
theorem d_B_alter_39 : decode b_B_alter 39 = .ok (.iload_n 3, 1) := by decide +kernel
theorem d_B_alter_40 : decode b_B_alter 40 = .ok (.bipush 24, 2) := by decide +kernel
theorem d_B_alter_42 : decode b_B_alter 42 = .ok (.invokestatic 124, 3) := by decide +kernel
theorem d_B_alter_45 : decode b_B_alter 45 = .ok (.invokestatic 98, 3) := by decide +kernel
theorem d_B_alter_48 : decode b_B_alter 48 = .ok (.istore 5, 2) := by decide +kernel
theorem d_B_alter_50 : decode b_B_alter 50 = .ok (.iload_n 1, 1) := by decide +kernel
theorem d_B_alter_51 : decode b_B_alter 51 = .ok (.tableswitch 109 0 5 #[37, 47, 57, 66, 75, 101], 37) := by decide +kernel
theorem d_B_alter_88 : decode b_B_alter 88 = .ok (.aload 4, 2) := by decide +kernel
theorem d_B_alter_90 : decode b_B_alter 90 = .ok (.iload 5, 2) := by decide +kernel
theorem d_B_alter_92 : decode b_B_alter 92 = .ok (.invokevirtual 161, 3) := by decide +kernel
theorem d_B_alter_95 : decode b_B_alter 95 = .ok (.goto 73, 3) := by decide +kernel
theorem d_B_alter_98 : decode b_B_alter 98 = .ok (.aload 4, 2) := by decide +kernel
theorem d_B_alter_100 : decode b_B_alter 100 = .ok (.iload 5, 2) := by decide +kernel
theorem d_B_alter_102 : decode b_B_alter 102 = .ok (.invokevirtual 164, 3) := by decide +kernel
theorem d_B_alter_105 : decode b_B_alter 105 = .ok (.goto 63, 3) := by decide +kernel
theorem d_B_alter_108 : decode b_B_alter 108 = .ok (.aload 4, 2) := by decide +kernel
theorem d_B_alter_110 : decode b_B_alter 110 = .ok (.iconst 0, 1) := by decide +kernel
theorem d_B_alter_111 : decode b_B_alter 111 = .ok (.invokevirtual 167, 3) := by decide +kernel
theorem d_B_alter_114 : decode b_B_alter 114 = .ok (.goto 54, 3) := by decide +kernel
theorem d_B_alter_117 : decode b_B_alter 117 = .ok (.aload 4, 2) := by decide +kernel
theorem d_B_alter_119 : decode b_B_alter 119 = .ok (.iconst 1, 1) := by decide +kernel
theorem d_B_alter_120 : decode b_B_alter 120 = .ok (.invokevirtual 167, 3) := by decide +kernel
theorem d_B_alter_123 : decode b_B_alter 123 = .ok (.goto 45, 3) := by decide +kernel
theorem d_B_alter_126 : decode b_B_alter 126 = .ok (.aload 4, 2) := by decide +kernel
theorem d_B_alter_128 : decode b_B_alter 128 = .ok (.getfield 84, 3) := by decide +kernel
theorem d_B_alter_131 : decode b_B_alter 131 = .ok (.aload_n 2, 1) := by decide +kernel
theorem d_B_alter_132 : decode b_B_alter 132 = .ok (.getfield 84, 3) := by decide +kernel
theorem d_B_alter_135 : decode b_B_alter 135 = .ok (.getfield 127, 3) := by decide +kernel
theorem d_B_alter_138 : decode b_B_alter 138 = .ok (.ifCond .ne 7, 3) := by decide +kernel
theorem d_B_alter_141 : decode b_B_alter 141 = .ok (.iconst 1, 1) := by decide +kernel
theorem d_B_alter_142 : decode b_B_alter 142 = .ok (.goto 4, 3) := by decide +kernel
theorem d_B_alter_145 : decode b_B_alter 145 = .ok (.iconst 0, 1) := by decide +kernel
theorem d_B_alter_146 : decode b_B_alter 146 = .ok (.invokevirtual 171, 3) := by decide +kernel
theorem d_B_alter_149 : decode b_B_alter 149 = .ok (.goto 19, 3) := by decide +kernel
theorem d_B_alter_152 : decode b_B_alter 152 = .ok (.aload 4, 2) := by decide +kernel
theorem d_B_alter_154 : decode b_B_alter 154 = .ok (.invokevirtual 174, 3) := by decide +kernel
theorem d_B_alter_157 : decode b_B_alter 157 = .ok (.goto 11, 3) := by decide +kernel
theorem d_B_alter_160 : decode b_B_alter 160 = .ok (.aload_n 0, 1) := by decide +kernel
theorem d_B_alter_161 : decode b_B_alter 161 = .ok (.aload_n 2, 1) := by decide +kernel
theorem d_B_alter_162 : decode b_B_alter 162 = .ok (.aload 4, 2) := by decide +kernel
theorem d_B_alter_164 : decode b_B_alter 164 = .ok (.invokevirtual 177, 3) := by decide +kernel
theorem d_B_alter_167 : decode b_B_alter 167 = .ok (.ireturn, 1) := by decide +kernel
theorem d_B_alter_168 : decode b_B_alter 168 = .ok (.aload 4, 2) := by decide +kernel
theorem d_B_alter_170 : decode b_B_alter 170 = .ok (.invokestatic 104, 3) := by decide +kernel
theorem d_B_alter_173 : decode b_B_alter 173 = .ok (.ireturn, 1) := by decide +kernel
theorem d_B_alterOther_0 : decode b_B_alterOther 0 = .ok (.iload_n 1, 1) := by decide +kernel
theorem d_B_alterOther_1 : decode b_B_alterOther 1 = .ok (.iconst 4, 1) := by decide +kernel
theorem d_B_alterOther_2 : decode b_B_alterOther 2 = .ok (.if_icmp .ne 22, 3) := by decide +kernel
theorem d_B_alterOther_5 : decode b_B_alterOther 5 = .ok (.aload_n 2, 1) := by decide +kernel
theorem d_B_alterOther_6 : decode b_B_alterOther 6 = .ok (.getfield 24, 3) := by decide +kernel
theorem d_B_alterOther_9 : decode b_B_alterOther 9 = .ok (.getstatic 30, 3) := by decide +kernel
theorem d_B_alterOther_12 : decode b_B_alterOther 12 = .ok (.if_acmp .eq 12, 3) := by decide +kernel
theorem d_B_alterOther_15 : decode b_B_alterOther 15 = .ok (.aload_n 2, 1) := by decide +kernel
theorem d_B_alterOther_16 : decode b_B_alterOther 16 = .ok (.aload_n 2, 1) := by decide +kernel
theorem d_B_alterOther_17 : decode b_B_alterOther 17 = .ok (.invokevirtual 108, 3) := by decide +kernel
theorem d_B_alterOther_20 : decode b_B_alterOther 20 = .ok (.ineg, 1) := by decide +kernel
theorem d_B_alterOther_21 : decode b_B_alterOther 21 = .ok (.invokevirtual 112, 3) := by decide +kernel
theorem d_B_alterOther_24 : decode b_B_alterOther 24 = .ok (.iconst 0, 1) := by decide +kernel
theorem d_B_alterOther_25 : decode b_B_alterOther 25 = .ok (.ireturn, 1) := by decide +kernel
theorem d_B_root_0 : decode b_B_root 0 = .ok (.aload_n 0, 1) := by decide +kernel
theorem d_B_root_1 : decode b_B_root 1 = .ok (.aload_n 1, 1) := by decide +kernel
theorem d_B_root_2 : decode b_B_root 2 = .ok (.bipush 8, 2) := by decide +kernel
theorem d_B_root_4 : decode b_B_root 4 = .ok (.invokevirtual 135, 3) := by decide +kernel
theorem d_B_root_7 : decode b_B_root 7 = .ok (.aload_n 0, 1) := by decide +kernel
theorem d_B_root_8 : decode b_B_root 8 = .ok (.getfield 15, 3) := by decide +kernel
theorem d_B_root_11 : decode b_B_root 11 = .ok (.iconst 0, 1) := by decide +kernel
theorem d_B_root_12 : decode b_B_root 12 = .ok (.invokestatic 180, 3) := by decide +kernel
theorem d_B_root_15 : decode b_B_root 15 = .ok (.aload_n 0, 1) := by decide +kernel
theorem d_B_root_16 : decode b_B_root 16 = .ok (.getfield 18, 3) := by decide +kernel
theorem d_B_root_19 : decode b_B_root 19 = .ok (.iconst 0, 1) := by decide +kernel
theorem d_B_root_20 : decode b_B_root 20 = .ok (.invokestatic 180, 3) := by decide +kernel
theorem d_B_root_23 : decode b_B_root 23 = .ok (.bipush 10, 2) := by decide +kernel
theorem d_B_root_25 : decode b_B_root 25 = .ok (.istore_n 3, 1) := by decide +kernel
theorem d_B_root_26 : decode b_B_root 26 = .ok (.iload_n 3, 1) := by decide +kernel
theorem d_B_root_27 : decode b_B_root 27 = .ok (.ifCond .lt 20, 3) := by decide +kernel
theorem d_B_root_30 : decode b_B_root 30 = .ok (.aload_n 0, 1) := by decide +kernel
theorem d_B_root_31 : decode b_B_root 31 = .ok (.getfield 15, 3) := by decide +kernel
theorem d_B_root_34 : decode b_B_root 34 = .ok (.iload_n 3, 1) := by decide +kernel
theorem d_B_root_35 : decode b_B_root 35 = .ok (.aload_n 0, 1) := by decide +kernel
theorem d_B_root_36 : decode b_B_root 36 = .ok (.iload_n 3, 1) := by decide +kernel
theorem d_B_root_37 : decode b_B_root 37 = .ok (.invokevirtual 185, 3) := by decide +kernel
theorem d_B_root_40 : decode b_B_root 40 = .ok (.iastore, 1) := by decide +kernel
theorem d_B_root_41 : decode b_B_root 41 = .ok (.iinc 3 (-1), 3) := by decide +kernel
theorem d_B_root_44 : decode b_B_root 44 = .ok (.goto (-18), 3) := by decide +kernel
theorem d_B_root_47 : decode b_B_root 47 = .ok (.bipush 16, 2) := by decide +kernel
theorem d_B_root_49 : decode b_B_root 49 = .ok (.iconst 2, 1) := by decide +kernel
theorem d_B_root_50 : decode b_B_root 50 = .ok (.aload_n 1, 1) := by decide +kernel
theorem d_B_root_51 : decode b_B_root 51 = .ok (.getfield 84, 3) := by decide +kernel
theorem d_B_root_54 : decode b_B_root 54 = .ok (.invokevirtual 144, 3) := by decide +kernel
theorem d_B_root_57 : decode b_B_root 57 = .ok (.imul, 1) := by decide +kernel
theorem d_B_root_58 : decode b_B_root 58 = .ok (.isub, 1) := by decide +kernel
theorem d_B_root_59 : decode b_B_root 59 = .ok (.aload_n 1, 1) := by decide +kernel
theorem d_B_root_60 : decode b_B_root 60 = .ok (.getfield 94, 3) := by decide +kernel
theorem d_B_root_63 : decode b_B_root 63 = .ok (.invokestatic 98, 3) := by decide +kernel
theorem d_B_root_66 : decode b_B_root 66 = .ok (.istore_n 3, 1) := by decide +kernel
theorem d_B_root_67 : decode b_B_root 67 = .ok (.aload_n 0, 1) := by decide +kernel
theorem d_B_root_68 : decode b_B_root 68 = .ok (.getfield 15, 3) := by decide +kernel
theorem d_B_root_71 : decode b_B_root 71 = .ok (.bipush 7, 2) := by decide +kernel
theorem d_B_root_73 : decode b_B_root 73 = .ok (.iload_n 3, 1) := by decide +kernel
theorem d_B_root_74 : decode b_B_root 74 = .ok (.bipush 24, 2) := by decide +kernel
theorem d_B_root_76 : decode b_B_root 76 = .ok (.invokestatic 124, 3) := by decide +kernel
theorem d_B_root_79 : decode b_B_root 79 = .ok (.iconst 0, 1) := by decide +kernel
theorem d_B_root_80 : decode b_B_root 80 = .ok (.aload_n 2, 1) := by decide +kernel
theorem d_B_root_81 : decode b_B_root 81 = .ok (.invokestatic 131, 3) := by decide +kernel
theorem d_B_root_84 : decode b_B_root 84 = .ok (.ireturn, 1) := by decide +kernel
theorem d_B_nextRootLimb_0 : decode b_B_nextRootLimb 0 = .ok (.iconst 0, 1) := by decide +kernel
theorem d_B_nextRootLimb_1 : decode b_B_nextRootLimb 1 = .ok (.istore_n 2, 1) := by decide +kernel
theorem d_B_nextRootLimb_2 : decode b_B_nextRootLimb 2 = .ok (.sipush 8192, 3) := by decide +kernel
theorem d_B_nextRootLimb_5 : decode b_B_nextRootLimb 5 = .ok (.istore_n 3, 1) := by decide +kernel
theorem d_B_nextRootLimb_6 : decode b_B_nextRootLimb 6 = .ok (.iload_n 3, 1) := by decide +kernel
theorem d_B_nextRootLimb_7 : decode b_B_nextRootLimb 7 = .ok (.ifCond .le 34, 3) := by decide +kernel
theorem d_B_nextRootLimb_10 : decode b_B_nextRootLimb 10 = .ok (.iload_n 2, 1) := by decide +kernel
theorem d_B_nextRootLimb_11 : decode b_B_nextRootLimb 11 = .ok (.iload_n 3, 1) := by decide +kernel
theorem d_B_nextRootLimb_12 : decode b_B_nextRootLimb 12 = .ok (.iadd, 1) := by decide +kernel
theorem d_B_nextRootLimb_13 : decode b_B_nextRootLimb 13 = .ok (.sipush 10000, 3) := by decide +kernel
theorem d_B_nextRootLimb_16 : decode b_B_nextRootLimb 16 = .ok (.if_icmp .ge 18, 3) := by decide +kernel
theorem d_B_nextRootLimb_19 : decode b_B_nextRootLimb 19 = .ok (.aload_n 0, 1) := by decide +kernel
theorem d_B_nextRootLimb_20 : decode b_B_nextRootLimb 20 = .ok (.iload_n 1, 1) := by decide +kernel
theorem d_B_nextRootLimb_21 : decode b_B_nextRootLimb 21 = .ok (.iload_n 2, 1) := by decide +kernel
theorem d_B_nextRootLimb_22 : decode b_B_nextRootLimb 22 = .ok (.iload_n 3, 1) := by decide +kernel
theorem d_B_nextRootLimb_23 : decode b_B_nextRootLimb 23 = .ok (.iadd, 1) := by decide +kernel
theorem d_B_nextRootLimb_24 : decode b_B_nextRootLimb 24 = .ok (.invokevirtual 189, 3) := by decide +kernel
theorem d_B_nextRootLimb_27 : decode b_B_nextRootLimb 27 = .ok (.ifCond .eq 7, 3) := by decide +kernel
theorem d_B_nextRootLimb_30 : decode b_B_nextRootLimb 30 = .ok (.iload_n 2, 1) := by decide +kernel
theorem d_B_nextRootLimb_31 : decode b_B_nextRootLimb 31 = .ok (.iload_n 3, 1) := by decide +kernel
theorem d_B_nextRootLimb_32 : decode b_B_nextRootLimb 32 = .ok (.iadd, 1) := by decide +kernel
theorem d_B_nextRootLimb_33 : decode b_B_nextRootLimb 33 = .ok (.istore_n 2, 1) := by decide +kernel
theorem d_B_nextRootLimb_34 : decode b_B_nextRootLimb 34 = .ok (.iload_n 3, 1) := by decide +kernel
theorem d_B_nextRootLimb_35 : decode b_B_nextRootLimb 35 = .ok (.iconst 2, 1) := by decide +kernel
theorem d_B_nextRootLimb_36 : decode b_B_nextRootLimb 36 = .ok (.idiv, 1) := by decide +kernel
theorem d_B_nextRootLimb_37 : decode b_B_nextRootLimb 37 = .ok (.istore_n 3, 1) := by decide +kernel
theorem d_B_nextRootLimb_38 : decode b_B_nextRootLimb 38 = .ok (.goto (-32), 3) := by decide +kernel
theorem d_B_nextRootLimb_41 : decode b_B_nextRootLimb 41 = .ok (.aload_n 0, 1) := by decide +kernel
theorem d_B_nextRootLimb_42 : decode b_B_nextRootLimb 42 = .ok (.iload_n 1, 1) := by decide +kernel
theorem d_B_nextRootLimb_43 : decode b_B_nextRootLimb 43 = .ok (.iload_n 2, 1) := by decide +kernel
theorem d_B_nextRootLimb_44 : decode b_B_nextRootLimb 44 = .ok (.invokevirtual 189, 3) := by decide +kernel
theorem d_B_nextRootLimb_47 : decode b_B_nextRootLimb 47 = .ok (.ifCond .eq 18, 3) := by decide +kernel
theorem d_B_nextRootLimb_50 : decode b_B_nextRootLimb 50 = .ok (.aload_n 0, 1) := by decide +kernel
theorem d_B_nextRootLimb_51 : decode b_B_nextRootLimb 51 = .ok (.getfield 11, 3) := by decide +kernel
theorem d_B_nextRootLimb_54 : decode b_B_nextRootLimb 54 = .ok (.aload_n 0, 1) := by decide +kernel
theorem d_B_nextRootLimb_55 : decode b_B_nextRootLimb 55 = .ok (.getfield 11, 3) := by decide +kernel
theorem d_B_nextRootLimb_58 : decode b_B_nextRootLimb 58 = .ok (.aload_n 0, 1) := by decide +kernel
theorem d_B_nextRootLimb_59 : decode b_B_nextRootLimb 59 = .ok (.getfield 21, 3) := by decide +kernel
theorem d_B_nextRootLimb_62 : decode b_B_nextRootLimb 62 = .ok (.invokestatic 193, 3) := by decide +kernel
theorem d_B_nextRootLimb_65 : decode b_B_nextRootLimb 65 = .ok (.aload_n 0, 1) := by decide +kernel
theorem d_B_nextRootLimb_66 : decode b_B_nextRootLimb 66 = .ok (.getfield 18, 3) := by decide +kernel
theorem d_B_nextRootLimb_69 : decode b_B_nextRootLimb 69 = .ok (.iload_n 1, 1) := by decide +kernel
theorem d_B_nextRootLimb_70 : decode b_B_nextRootLimb 70 = .ok (.iconst 2, 1) := by decide +kernel
theorem d_B_nextRootLimb_71 : decode b_B_nextRootLimb 71 = .ok (.iload_n 2, 1) := by decide +kernel
theorem d_B_nextRootLimb_72 : decode b_B_nextRootLimb 72 = .ok (.imul, 1) := by decide +kernel
theorem d_B_nextRootLimb_73 : decode b_B_nextRootLimb 73 = .ok (.sipush 10000, 3) := by decide +kernel
theorem d_B_nextRootLimb_76 : decode b_B_nextRootLimb 76 = .ok (.irem, 1) := by decide +kernel
theorem d_B_nextRootLimb_77 : decode b_B_nextRootLimb 77 = .ok (.iastore, 1) := by decide +kernel
theorem d_B_nextRootLimb_78 : decode b_B_nextRootLimb 78 = .ok (.iconst 2, 1) := by decide +kernel
theorem d_B_nextRootLimb_79 : decode b_B_nextRootLimb 79 = .ok (.iload_n 2, 1) := by decide +kernel
theorem d_B_nextRootLimb_80 : decode b_B_nextRootLimb 80 = .ok (.imul, 1) := by decide +kernel
theorem d_B_nextRootLimb_81 : decode b_B_nextRootLimb 81 = .ok (.sipush 10000, 3) := by decide +kernel
theorem d_B_nextRootLimb_84 : decode b_B_nextRootLimb 84 = .ok (.if_icmp .lt 15, 3) := by decide +kernel
theorem d_B_nextRootLimb_87 : decode b_B_nextRootLimb 87 = .ok (.aload_n 0, 1) := by decide +kernel
theorem d_B_nextRootLimb_88 : decode b_B_nextRootLimb 88 = .ok (.getfield 18, 3) := by decide +kernel
theorem d_B_nextRootLimb_91 : decode b_B_nextRootLimb 91 = .ok (.iload_n 1, 1) := by decide +kernel
theorem d_B_nextRootLimb_92 : decode b_B_nextRootLimb 92 = .ok (.iconst 1, 1) := by decide +kernel
theorem d_B_nextRootLimb_93 : decode b_B_nextRootLimb 93 = .ok (.iadd, 1) := by decide +kernel
theorem d_B_nextRootLimb_94 : decode b_B_nextRootLimb 94 = .ok (.iconst 4, 1) := by decide +kernel
theorem d_B_nextRootLimb_95 : decode b_B_nextRootLimb 95 = .ok (.imul, 1) := by decide +kernel
theorem d_B_nextRootLimb_96 : decode b_B_nextRootLimb 96 = .ok (.invokestatic 196, 3) := by decide +kernel
theorem d_B_nextRootLimb_99 : decode b_B_nextRootLimb 99 = .ok (.iload_n 2, 1) := by decide +kernel
theorem d_B_nextRootLimb_100 : decode b_B_nextRootLimb 100 = .ok (.ireturn, 1) := by decide +kernel
theorem d_B_rootLimbFits_0 : decode b_B_rootLimbFits 0 = .ok (.aload_n 0, 1) := by decide +kernel
theorem d_B_rootLimbFits_1 : decode b_B_rootLimbFits 1 = .ok (.getfield 18, 3) := by decide +kernel
theorem d_B_rootLimbFits_4 : decode b_B_rootLimbFits 4 = .ok (.iload_n 1, 1) := by decide +kernel
theorem d_B_rootLimbFits_5 : decode b_B_rootLimbFits 5 = .ok (.iload_n 2, 1) := by decide +kernel
theorem d_B_rootLimbFits_6 : decode b_B_rootLimbFits 6 = .ok (.iastore, 1) := by decide +kernel
theorem d_B_rootLimbFits_7 : decode b_B_rootLimbFits 7 = .ok (.aload_n 0, 1) := by decide +kernel
theorem d_B_rootLimbFits_8 : decode b_B_rootLimbFits 8 = .ok (.getfield 21, 3) := by decide +kernel
theorem d_B_rootLimbFits_11 : decode b_B_rootLimbFits 11 = .ok (.aload_n 0, 1) := by decide +kernel
theorem d_B_rootLimbFits_12 : decode b_B_rootLimbFits 12 = .ok (.getfield 18, 3) := by decide +kernel
theorem d_B_rootLimbFits_15 : decode b_B_rootLimbFits 15 = .ok (.iload_n 2, 1) := by decide +kernel
theorem d_B_rootLimbFits_16 : decode b_B_rootLimbFits 16 = .ok (.iload_n 1, 1) := by decide +kernel
theorem d_B_rootLimbFits_17 : decode b_B_rootLimbFits 17 = .ok (.invokestatic 199, 3) := by decide +kernel
theorem d_B_rootLimbFits_20 : decode b_B_rootLimbFits 20 = .ok (.aload_n 0, 1) := by decide +kernel
theorem d_B_rootLimbFits_21 : decode b_B_rootLimbFits 21 = .ok (.getfield 21, 3) := by decide +kernel
theorem d_B_rootLimbFits_24 : decode b_B_rootLimbFits 24 = .ok (.aload_n 0, 1) := by decide +kernel
theorem d_B_rootLimbFits_25 : decode b_B_rootLimbFits 25 = .ok (.getfield 11, 3) := by decide +kernel
theorem d_B_rootLimbFits_28 : decode b_B_rootLimbFits 28 = .ok (.invokestatic 203, 3) := by decide +kernel
theorem d_B_rootLimbFits_31 : decode b_B_rootLimbFits 31 = .ok (.ifCond .gt 7, 3) := by decide +kernel
theorem d_B_rootLimbFits_34 : decode b_B_rootLimbFits 34 = .ok (.iconst 1, 1) := by decide +kernel
theorem d_B_rootLimbFits_35 : decode b_B_rootLimbFits 35 = .ok (.goto 4, 3) := by decide +kernel
theorem d_B_rootLimbFits_38 : decode b_B_rootLimbFits 38 = .ok (.iconst 0, 1) := by decide +kernel
theorem d_B_rootLimbFits_39 : decode b_B_rootLimbFits 39 = .ok (.ireturn, 1) := by decide +kernel
theorem d_B_load_0 : decode b_B_load 0 = .ok (.aload_n 0, 1) := by decide +kernel
theorem d_B_load_1 : decode b_B_load 1 = .ok (.getfield 11, 3) := by decide +kernel
theorem d_B_load_4 : decode b_B_load 4 = .ok (.iconst 0, 1) := by decide +kernel
theorem d_B_load_5 : decode b_B_load 5 = .ok (.invokestatic 180, 3) := by decide +kernel
theorem d_B_load_8 : decode b_B_load 8 = .ok (.aload_n 1, 1) := by decide +kernel
theorem d_B_load_9 : decode b_B_load 9 = .ok (.getfield 84, 3) := by decide +kernel
theorem d_B_load_12 : decode b_B_load 12 = .ok (.getfield 116, 3) := by decide +kernel
theorem d_B_load_15 : decode b_B_load 15 = .ok (.iconst 0, 1) := by decide +kernel
theorem d_B_load_16 : decode b_B_load 16 = .ok (.aload_n 0, 1) := by decide +kernel
theorem d_B_load_17 : decode b_B_load 17 = .ok (.getfield 11, 3) := by decide +kernel
theorem d_B_load_20 : decode b_B_load 20 = .ok (.iload_n 2, 1) := by decide +kernel
theorem d_B_load_21 : decode b_B_load 21 = .ok (.bipush 15, 2) := by decide +kernel
theorem d_B_load_23 : decode b_B_load 23 = .ok (.invokestatic 207, 3) := by decide +kernel
theorem d_B_load_26 : decode b_B_load 26 = .ok (.return_, 1) := by decide +kernel
theorem d_B_settle_0 : decode b_B_settle 0 = .ok (.iload_n 1, 1) := by decide +kernel
theorem d_B_settle_1 : decode b_B_settle 1 = .ok (.iconst 4, 1) := by decide +kernel
theorem d_B_settle_2 : decode b_B_settle 2 = .ok (.imul, 1) := by decide +kernel
theorem d_B_settle_3 : decode b_B_settle 3 = .ok (.istore 5, 2) := by decide +kernel
theorem d_B_settle_5 : decode b_B_settle 5 = .ok (.aload_n 0, 1) := by decide +kernel
theorem d_B_settle_6 : decode b_B_settle 6 = .ok (.iload 5, 2) := by decide +kernel
theorem d_B_settle_8 : decode b_B_settle 8 = .ok (.iload_n 2, 1) := by decide +kernel
theorem d_B_settle_9 : decode b_B_settle 9 = .ok (.isub, 1) := by decide +kernel
theorem d_B_settle_10 : decode b_B_settle 10 = .ok (.invokestatic 213, 3) := by decide +kernel
theorem d_B_settle_13 : decode b_B_settle 13 = .ok (.aload_n 0, 1) := by decide +kernel
theorem d_B_settle_14 : decode b_B_settle 14 = .ok (.invokestatic 216, 3) := by decide +kernel
theorem d_B_settle_17 : decode b_B_settle 17 = .ok (.iload 5, 2) := by decide +kernel
theorem d_B_settle_19 : decode b_B_settle 19 = .ok (.bipush 32, 2) := by decide +kernel
theorem d_B_settle_21 : decode b_B_settle 21 = .ok (.iadd, 1) := by decide +kernel
theorem d_B_settle_22 : decode b_B_settle 22 = .ok (.if_icmp .le 6, 3) := by decide +kernel
theorem d_B_settle_25 : decode b_B_settle 25 = .ok (.bipush (-3), 2) := by decide +kernel
theorem d_B_settle_27 : decode b_B_settle 27 = .ok (.ireturn, 1) := by decide +kernel
theorem d_B_settle_28 : decode b_B_settle 28 = .ok (.aload 4, 2) := by decide +kernel
theorem d_B_settle_30 : decode b_B_settle 30 = .ok (.getstatic 150, 3) := by decide +kernel
theorem d_B_settle_33 : decode b_B_settle 33 = .ok (.invokevirtual 35, 3) := by decide +kernel
theorem d_B_settle_36 : decode b_B_settle 36 = .ok (.aload 4, 2) := by decide +kernel
theorem d_B_settle_38 : decode b_B_settle 38 = .ok (.iload_n 2, 1) := by decide +kernel
theorem d_B_settle_39 : decode b_B_settle 39 = .ok (.putfield 94, 3) := by decide +kernel
theorem d_B_settle_42 : decode b_B_settle 42 = .ok (.aload_n 0, 1) := by decide +kernel
theorem d_B_settle_43 : decode b_B_settle 43 = .ok (.iload_n 1, 1) := by decide +kernel
theorem d_B_settle_44 : decode b_B_settle 44 = .ok (.bipush 6, 2) := by decide +kernel
theorem d_B_settle_46 : decode b_B_settle 46 = .ok (.isub, 1) := by decide +kernel
theorem d_B_settle_47 : decode b_B_settle 47 = .ok (.aload 4, 2) := by decide +kernel
theorem d_B_settle_49 : decode b_B_settle 49 = .ok (.getfield 84, 3) := by decide +kernel
theorem d_B_settle_52 : decode b_B_settle 52 = .ok (.getfield 116, 3) := by decide +kernel
theorem d_B_settle_55 : decode b_B_settle 55 = .ok (.iconst 0, 1) := by decide +kernel
theorem d_B_settle_56 : decode b_B_settle 56 = .ok (.bipush 15, 2) := by decide +kernel
theorem d_B_settle_58 : decode b_B_settle 58 = .ok (.invokestatic 207, 3) := by decide +kernel
theorem d_B_settle_61 : decode b_B_settle 61 = .ok (.aload 4, 2) := by decide +kernel
theorem d_B_settle_63 : decode b_B_settle 63 = .ok (.getfield 84, 3) := by decide +kernel
theorem d_B_settle_66 : decode b_B_settle 66 = .ok (.iload_n 3, 1) := by decide +kernel
theorem d_B_settle_67 : decode b_B_settle 67 = .ok (.invokevirtual 171, 3) := by decide +kernel
theorem d_B_settle_70 : decode b_B_settle 70 = .ok (.iconst 0, 1) := by decide +kernel
theorem d_B_settle_71 : decode b_B_settle 71 = .ok (.ireturn, 1) := by decide +kernel
theorem d_B_judged_0 : decode b_B_judged 0 = .ok (.aload_n 0, 1) := by decide +kernel
theorem d_B_judged_1 : decode b_B_judged 1 = .ok (.invokevirtual 220, 3) := by decide +kernel
theorem d_B_judged_4 : decode b_B_judged 4 = .ok (.ifCond .eq 8, 3) := by decide +kernel
theorem d_B_judged_7 : decode b_B_judged 7 = .ok (.bipush (-3), 2) := by decide +kernel
theorem d_B_judged_9 : decode b_B_judged 9 = .ok (.goto 4, 3) := by decide +kernel
theorem d_B_judged_12 : decode b_B_judged 12 = .ok (.iconst 0, 1) := by decide +kernel
theorem d_B_judged_13 : decode b_B_judged 13 = .ok (.ireturn, 1) := by decide +kernel
end
section
def rm_S_clear : Room := { frames := 2, cells := 0, slots := 0, locals := 43 }
set_option maxHeartbeats 4000000 in
set_option maxRecDepth 100000 in
theorem c_S_clear (l : Launch) (E : zE) (w0 : zW) (y : Nat) (sn sz : Int) (sf cn : Int → Int) (q0lt : y < zn E) (q1lt : y + 1 < zn E) (q2lt : y + 2 < zn E) (q3lt : y + 3 < zn E) (c0 : w0 y = .inr (2, [.ref (ad E (y + 1)), .ref (ad E (y + 3)), .int (iI sz)])) (c1 : w0 (y + 1) = .inr (0, [.ref (ad E (y + 2)), .int (iI sn)])) (c2 : w0 (y + 2) = zar E 15 sf) (c3 : w0 (y + 3) = zar E 28 cn) (bs : bd sf 15 0 9999) (hsn : sn = 0 ∨ sn = 1) (bc : bd cn 28 0 sz) (hsz : 0 ≤ sz ∧ sz ≤ 1000) : zM l y_S_clear ws_S_clear rm_S_clear E [.ref (ad E y)] w0 (zQv E w0 (fun w' => (∃ (f' : Int → Int) (c' : Int → Int), w' y = .inr (2, [.ref (ad E (y + 1)), .ref (ad E (y + 3)), .int (iI 0)]) ∧ w' (y + 1) = .inr (0, [.ref (ad E (y + 2)), .int (iI 0)]) ∧ w' (y + 2) = zar E 15 f' ∧ w' (y + 3) = zar E 28 c' ∧ bd f' 15 0 9999 ∧ (V f' 15 = 0 ∧ ∀ j : Int, 0 ≤ j → j < 28 → c' j = 0)) ∧ ∀ k, k ≠ y → k ≠ (y + 1) → k ≠ (y + 2) → k ≠ (y + 3) → w' k = w0 k)) := by
  refine z_met (cc := b_S_clear) (maxL := 1) (ret := none) (by decide +kernel) rfl (Nat.le_of_ble_eq_true rfl) ?_
  intro p e s m below meth cd ls a Qf hQ hC hl hH
  obtain ⟨hF, hr, hlk, hK, hG, hn⟩ := hC
  obtain ⟨hx, hb, hml, hown, hts⟩ := hF
  have hg : ∀ w ∈ GW, w.before a s = true := fun w h => hts w (List.mem_cons_of_mem _ h)
  have hA : ∀ q, s.heap.size ≤ q → va_A (wl E w0) s.heap.size q := fun q h => Or.inr h
  have hl : lv_has ls 1 [(0, .ref (ad E y))] := hl
  refine lv_aload_n hx hb d_S_clear_0 rfl (lv_at hl 0 rfl) ?_
  refine zv_get (C := "ScaledNumeralDesk$Sum") (T := TS) (N := 3) hx hb hg uS_in hown hK hH q0lt c0 rfl 0 (by decide) (hg _ wm_85) (fun _ h9 => h9) rfl d_S_clear_1 ?_
  refine z_callv (va_runV (As := []) (rest := []) ⟨hx, hb, hml, hown, hts⟩ (c_A_clear (l := l) (E := E) (w0 := w0) (q := y + 1) (f := sf) (ng := sn) (q0lt := q1lt) (q1lt := q2lt) (c0 := c1) (c1 := c2) (bf := bs) s.heap.size) (z_cwV (C := "ScaledNumeralDesk$Amount") 0 hg wm_234 wm_639 wm_5 wm_232 wm_233 (by decide +kernel) ⟨Nat.le_of_ble_eq_true rfl, Nat.le_of_ble_eq_true rfl⟩) (z_preV (r := ("ScaledNumeralDesk$Amount", TA, 2)) hK hG hn hH hA q1lt c1 rfl) rfl rfl hl.1 rfl (lv_room (Nat.le_of_ble_eq_true rfl)) d_S_clear_4 ⟨Nat.zero_le _, Nat.zero_le _⟩) hH hA (fun  w3 H1 lc2 hH4 p4 => ?_)
  obtain ⟨⟨f_5, e6, e7, bd8, p4⟩, hg9⟩ := p4
  have bd8 : bd f_5 15 0 9999 := bd8
  have p4 : ∀ j : Int, 0 ≤ j → j < 15 → f_5 j = 0 := p4
  have e10 : w3 y = .inr (2, [.ref (ad E (y + 1)), .ref (ad E (y + 3)), .int (iI sz)]) := (hg9 y (by omega) (by omega)).trans c0
  have e11 : w3 (y + 3) = zar E 28 cn := (hg9 (y + 3) (by omega) (by omega)).trans c3
  have hf12 : ∀ k, k ≠ (y + 1) → k ≠ (y + 2) → w3 k = w0 k := fun k g0 g1 => hg9 k g0 g1
  refine lv_aload_n hx hb d_S_clear_7 rfl (lv_at hl 0 rfl) ?_
  refine zv_get (C := "ScaledNumeralDesk$Sum") (T := TS) (N := 3) hx hb hg uS_in hown hK hH4 q0lt e10 rfl 1 (by decide) (hg _ wm_86) (fun _ h9 => h9) rfl d_S_clear_8 ?_
  refine zv_iconst hx hb d_S_clear_11 ?_
  refine z_callv (va_runS (As := [.ref (ad E (y + 3)), .int (iI 0)]) (rest := []) ⟨hx, hb, hml, hown, hts⟩ (c_fill (l := l) (E := E) (w0 := w3) (q := y + 3) (N := 28) (f := cn) (v := 0) (q0lt := q3lt) (c0 := e11) (hN := by omega) H1.size) (z_cwS 2 hg wm_237 wm_640 wm_14 wm_236 (by decide +kernel) ⟨Nat.le_of_ble_eq_true rfl, Nat.le_of_ble_eq_true rfl⟩) (z_preS hK hG hn hH4 hA) rfl rfl hl.1 rfl (lv_room (Nat.le_of_ble_eq_true rfl)) d_S_clear_12 ⟨Nat.zero_le _, Nat.zero_le _⟩) hH4 hA (fun  w15 H13 lc14 hH16 p12 => ?_)
  obtain ⟨⟨f_17, e18, p12⟩, hg19⟩ := p12
  have p12 : ∀ j : Int, 0 ≤ j → j < 28 → f_17 j = (0 : Int) := p12
  have e20 : w15 y = .inr (2, [.ref (ad E (y + 1)), .ref (ad E (y + 3)), .int (iI sz)]) := (hg19 y (by omega)).trans e10
  have e21 : w15 (y + 1) = .inr (0, [.ref (ad E (y + 2)), .int (iI 0)]) := (hg19 (y + 1) (by omega)).trans e6
  have e22 : w15 (y + 2) = zar E 15 f_5 := (hg19 (y + 2) (by omega)).trans e7
  have hf23 : ∀ k, k ≠ (y + 1) → k ≠ (y + 2) → k ≠ (y + 3) → w15 k = w0 k := fun k g0 g1 g2 => (hg19 k g2).trans (hf12 k g0 g1)
  refine lv_aload_n hx hb d_S_clear_15 rfl (lv_at hl 0 rfl) ?_
  refine zv_iconst hx hb d_S_clear_16 ?_
  refine zv_put (C := "ScaledNumeralDesk$Sum") (T := TS) (N := 3) (fs' := [.ref (ad E (y + 1)), .ref (ad E (y + 3)), .int (iI 0)]) hx hb hg uS_in tyS tyS_ok nmS hown hK hH16 q0lt e20 rfl 2 (by decide) (hg _ wm_87) (fun _ h9 => h9) rfl (ty := tyS 2) (by decide +kernel) (rfl) (by rfl) (Nat.le_of_ble_eq_true rfl) d_S_clear_17 rfl (fun H25 lc26 w24 hH27 e28 hg29 => ?_)
  have e30 : w24 (y + 1) = .inr (0, [.ref (ad E (y + 2)), .int (iI 0)]) := (hg29 (y + 1) (by omega)).trans e21
  have e31 : w24 (y + 2) = zar E 15 f_5 := (hg29 (y + 2) (by omega)).trans e22
  have e32 : w24 (y + 3) = zar E 28 f_17 := (hg29 (y + 3) (by omega)).trans e18
  have hf33 : ∀ k, k ≠ (y + 1) → k ≠ (y + 2) → k ≠ (y + 3) → k ≠ y → w24 k = w0 k := fun k g0 g1 g2 g3 => (hg29 k g3).trans (hf23 k g0 g1 g2)
  rw [hQ]
  exact z_vret hx hb hr hlk hH27 (⟨⟨f_5, f_17, e28, e30, e31, e32, bd8, ⟨V0_of p4, p12⟩⟩, (fun k g0 g1 g2 g3 => hf33 k g1 g2 g3 g0)⟩) d_S_clear_20
def rm_S_countOf : Room := { frames := 1, cells := 0, slots := 0, locals := 20 }
set_option maxHeartbeats 4000000 in
set_option maxRecDepth 100000 in
theorem c_S_countOf (l : Launch) (E : zE) (w0 : zW) (q : Nat) (kd : Nat) (pl ng : Int) (f : Int → Int) (q0lt : q < zn E) (q1lt : q + 1 < zn E) (q2lt : q + 2 < zn E) (c0 : w0 q = .inr (1, [.ref (zg E (1 + kd)), .int (iI pl), .ref (ad E (q + 1))])) (c1 : w0 (q + 1) = .inr (0, [.ref (ad E (q + 2)), .int (iI ng)])) (c2 : w0 (q + 2) = zar E 15 f) (bf : bd f 15 0 9999) (hkd : kd < 4) (hng : ng = 0 ∨ ng = 1) : zM l y_S_countOf ws_S_countOf rm_S_countOf E [.ref (ad E q)] w0 (zQi E w0 (fun z w' => w' = w0 ∧ (z = (cidx kd pl)))) := by
  refine z_met (cc := b_S_countOf) (maxL := 1) (ret := (some .int)) (by decide +kernel) rfl (Nat.le_of_ble_eq_true rfl) ?_
  intro p e s m below meth cd ls a Qf hQ hC hl hH
  obtain ⟨hF, hr, hlk, hK, hG, hn⟩ := hC
  obtain ⟨hx, hb, hml, hown, hts⟩ := hF
  have hg : ∀ w ∈ GW, w.before a s = true := fun w h => hts w (List.mem_cons_of_mem _ h)
  have hA : ∀ q, s.heap.size ≤ q → va_A (wl E w0) s.heap.size q := fun q h => Or.inr h
  have hl : lv_has ls 1 [(0, .ref (ad E q))] := hl
  refine lv_aload_n hx hb d_S_countOf_0 rfl (lv_at hl 0 rfl) ?_
  refine z_calli (va_runV (As := []) (rest := []) ⟨hx, hb, hml, hown, hts⟩ (c_N_isFinite (l := l) (E := E) (w0 := w0) (q := q) (kd := kd) (pl := pl) (ng := ng) (f := f) (q0lt := q0lt) (q1lt := q1lt) (q2lt := q2lt) (c0 := c0) (c1 := c1) (c2 := c2) (bf := bf) (hkd := by omega) (hng := by omega) s.heap.size) (z_cwV (C := "ScaledNumeralDesk$Numeral") 0 hg wm_344 wm_611 wm_2 wm_342 wm_343 (by decide +kernel) ⟨Nat.le_of_ble_eq_true rfl, Nat.le_of_ble_eq_true rfl⟩) (z_preV (r := ("ScaledNumeralDesk$Numeral", TN, 3)) hK hG hn hH hA q0lt c0 rfl) rfl rfl hl.1 rfl (lv_room (Nat.le_of_ble_eq_true rfl)) d_S_countOf_1 ⟨Nat.zero_le _, Nat.zero_le _⟩) hH hA (fun z6 w3 H1 lc2 hH4 hp5 => ?_)
  obtain ⟨ew7, hp5⟩ := hp5
  rw [ew7] at hH4
  have hp5 : (z6 = 1 ∧ kd = 1) ∨ (z6 = 0 ∧ kd ≠ 1) := hp5
  refine zv_if_eq (tgt := 12) hx hb d_S_countOf_4 rfl (by omega) (fun h8 => ?_) (fun h8 => ?_)
  · refine lv_aload_n hx hb d_S_countOf_12 rfl (lv_at hl 0 rfl) ?_
    refine zv_get (C := "ScaledNumeralDesk$Numeral") (T := TN) (N := 3) hx hb hg uN_in hown hK hH4 q0lt c0 rfl 0 (by decide) (hg _ wm_57) (fun _ h9 => h9) rfl d_S_countOf_13 ?_
    refine zv_kind hx hb hG hH4 hown 3 (by decide) (hg _ wm_612) (fun _ h9 => h9) d_S_countOf_16 ?_
    refine zv_acmp_ne (a := kd) (b := 3) (tgt := 25) hx hb hG (by omega) (by omega) d_S_countOf_19 rfl (fun h9 => ?_) (fun h9 => ?_)
    · refine lv_aload_n hx hb d_S_countOf_25 rfl (lv_at hl 0 rfl) ?_
      refine zv_get (C := "ScaledNumeralDesk$Numeral") (T := TN) (N := 3) hx hb hg uN_in hown hK hH4 q0lt c0 rfl 0 (by decide) (hg _ wm_57) (fun _ h9 => h9) rfl d_S_countOf_26 ?_
      refine zv_kind hx hb hG hH4 hown 2 (by decide) (hg _ wm_613) (fun _ h9 => h9) d_S_countOf_29 ?_
      refine zv_acmp_ne (a := kd) (b := 2) (tgt := 40) hx hb hG (by omega) (by omega) d_S_countOf_32 rfl (fun h10 => ?_) (fun h10 => ?_)
      · refine zv_bipush hx hb d_S_countOf_40 rfl ?_
        rw [hQ]
        exact z_iret hx hb hr hlk hH4 (⟨rfl, (cidx_0 (by omega)).symm⟩) d_S_countOf_42
      · refine zv_bipush hx hb d_S_countOf_35 rfl ?_
        refine lv_goto (tgt := 42) hx hb d_S_countOf_37 rfl ?_
        rw [hQ]
        exact z_iret hx hb hr hlk hH4 (⟨rfl, (cidx_2 (by omega)).symm⟩) d_S_countOf_42
    · refine zv_bipush hx hb d_S_countOf_22 rfl ?_
      rw [hQ]
      exact z_iret hx hb hr hlk hH4 (⟨rfl, (cidx_3 (by omega)).symm⟩) d_S_countOf_24
  · refine lv_aload_n hx hb d_S_countOf_7 rfl (lv_at hl 0 rfl) ?_
    refine zv_get (C := "ScaledNumeralDesk$Numeral") (T := TN) (N := 3) hx hb hg uN_in hown hK hH4 q0lt c0 rfl 1 (by decide) (hg _ wm_62) (fun _ h9 => h9) rfl d_S_countOf_8 ?_
    rw [hQ]
    exact z_iret hx hb hr hlk hH4 (⟨rfl, (cidx_1 (by omega)).symm⟩) d_S_countOf_11
def rm_S_change : Room := { frames := 4, cells := 0, slots := 0, locals := 85 }
set_option maxHeartbeats 4000000 in
set_option maxRecDepth 100000 in
theorem c_S_change (l : Launch) (E : zE) (w0 : zW) (y : Nat) (sn sz : Int) (sf cn : Int → Int) (q : Nat) (kd : Nat) (pl ng : Int) (f : Int → Int) (by1 : Int) (q0lt : y < zn E) (q1lt : y + 1 < zn E) (q2lt : y + 2 < zn E) (q3lt : y + 3 < zn E) (q4lt : q < zn E) (q5lt : q + 1 < zn E) (q6lt : q + 2 < zn E) (c0 : w0 y = .inr (2, [.ref (ad E (y + 1)), .ref (ad E (y + 3)), .int (iI sz)])) (c1 : w0 (y + 1) = .inr (0, [.ref (ad E (y + 2)), .int (iI sn)])) (c2 : w0 (y + 2) = zar E 15 sf) (c3 : w0 (y + 3) = zar E 28 cn) (c4 : w0 q = .inr (1, [.ref (zg E (1 + kd)), .int (iI pl), .ref (ad E (q + 1))])) (c5 : w0 (q + 1) = .inr (0, [.ref (ad E (q + 2)), .int (iI ng)])) (c6 : w0 (q + 2) = zar E 15 f) (bs : bd sf 15 0 9999) (hsn : sn = 0 ∨ sn = 1) (bc : bd cn 28 0 sz) (hsz : 0 ≤ sz ∧ sz ≤ 1000) (bf : bd f 15 0 9999) (hkd : kd < 4) (hng : ng = 0 ∨ ng = 1) (hpl : 0 ≤ pl ∧ pl ≤ 24) (hqy : y + 3 < q ∨ q + 2 < y) (hs : V sf 15 + V f 15 < Bp 15) (csf : V sf 15 = 0 → sn = 0) (hby : (by1 = 1) ∨ (by1 = -1 ∧ 1 ≤ cn (cidx kd pl))) : zM l y_S_change ws_S_change rm_S_change E [.ref (ad E y), .ref (ad E q), .int (iI by1)] w0 (zQv E w0 (fun w' => (∃ (n' : Int) (f' : Int → Int) (c' : Int → Int), w' y = .inr (2, [.ref (ad E (y + 1)), .ref (ad E (y + 3)), .int (iI (sz + 1))]) ∧ w' (y + 1) = .inr (0, [.ref (ad E (y + 2)), .int (iI n')]) ∧ w' (y + 2) = zar E 15 f' ∧ w' (y + 3) = zar E 28 c' ∧ bd f' 15 0 9999 ∧ bd c' 28 0 (sz + 1) ∧ ((n' = 0 ∨ n' = 1) ∧ (V f' 15 = 0 → n' = 0) ∧ sv n' (V f' 15) = sv sn (V sf 15) + vadd kd by1 (sv ng (V f 15)) ∧ (∀ j : Int, 0 ≤ j → j < 28 → c' j = cn j + cadd (cidx kd pl) j by1))) ∧ ∀ k, k ≠ y → k ≠ (y + 1) → k ≠ (y + 2) → k ≠ (y + 3) → w' k = w0 k)) := by
  refine z_met (cc := b_S_change) (maxL := 3) (ret := none) (by decide +kernel) rfl (Nat.le_of_ble_eq_true rfl) ?_
  intro p e s m below meth cd ls a Qf hQ hC hl hH
  obtain ⟨hF, hr, hlk, hK, hG, hn⟩ := hC
  obtain ⟨hx, hb, hml, hown, hts⟩ := hF
  have hg : ∀ w ∈ GW, w.before a s = true := fun w h => hts w (List.mem_cons_of_mem _ h)
  have hA : ∀ q, s.heap.size ≤ q → va_A (wl E w0) s.heap.size q := fun q h => Or.inr h
  have hl : lv_has ls 3 [(0, .ref (ad E y)), (1, .ref (ad E q)), (2, .int (iI by1))] := hl
  refine lv_aload_n hx hb d_S_change_0 rfl (lv_at hl 0 rfl) ?_
  refine zv_get (C := "ScaledNumeralDesk$Sum") (T := TS) (N := 3) hx hb hg uS_in hown hK hH q0lt c0 rfl 1 (by decide) (hg _ wm_86) (fun _ h9 => h9) rfl d_S_change_1 ?_
  refine lv_aload_n hx hb d_S_change_4 rfl (lv_at hl 1 rfl) ?_
  refine z_calli (va_runS (As := [.ref (ad E q)]) (rest := [.ref (ad E (y + 3))]) ⟨hx, hb, hml, hown, hts⟩ (c_S_countOf (l := l) (E := E) (w0 := w0) (q := q) (kd := kd) (pl := pl) (ng := ng) (f := f) (q0lt := q4lt) (q1lt := q5lt) (q2lt := q6lt) (c0 := c4) (c1 := c5) (c2 := c6) (bf := bf) (hkd := by omega) (hng := by omega) s.heap.size) (z_cwS 1 hg wm_610 wm_608 wm_6 wm_609 (by decide +kernel) ⟨Nat.le_of_ble_eq_true rfl, Nat.le_of_ble_eq_true rfl⟩) (z_preS hK hG hn hH hA) rfl rfl hl.1 rfl (lv_room (Nat.le_of_ble_eq_true rfl)) d_S_change_5 ⟨Nat.zero_le _, Nat.zero_le _⟩) hH hA (fun i w3 H1 lc2 hH4 p5 => ?_)
  obtain ⟨ew5, p5⟩ := p5
  rw [ew5] at hH4
  have p5 : i = (cidx kd pl) := p5
  have hi := cidx_in hkd hpl
  rw [← p5] at hi
  rw [← p5] at hby
  have bc2 : bd cn 28 0 (sz + 1) := bd_w bc (by omega)
  refine lv_dup2_11 hx hb d_S_change_8 rfl rfl ?_
  refine zv_iald hx hb hK hH4 q3lt c3 (by omega) (by omega) (by omega) d_S_change_9 ?_
  have b6 := bc i (by omega) (by omega)
  refine lv_iload_n hx hb d_S_change_10 rfl (lv_at hl 2 rfl) ?_
  refine zv_iadd hx hb d_S_change_11 ?_
  refine zv_iast hx hb hK hH4 q3lt c3 (by omega) (by omega) (by omega) d_S_change_12 (fun H8 lc9 w7 hH10 e11 hg12 => ?_)
  have bd13 := bd_up bc2 i ((cn i) + by1) (by omega)
  have e14 : w7 y = .inr (2, [.ref (ad E (y + 1)), .ref (ad E (y + 3)), .int (iI sz)]) := (hg12 y (by omega)).trans c0
  have e15 : w7 (y + 1) = .inr (0, [.ref (ad E (y + 2)), .int (iI sn)]) := (hg12 (y + 1) (by omega)).trans c1
  have e16 : w7 (y + 2) = zar E 15 sf := (hg12 (y + 2) (by omega)).trans c2
  have e17 : w7 q = .inr (1, [.ref (zg E (1 + kd)), .int (iI pl), .ref (ad E (q + 1))]) := (hg12 q (by omega)).trans c4
  have e18 : w7 (q + 1) = .inr (0, [.ref (ad E (q + 2)), .int (iI ng)]) := (hg12 (q + 1) (by omega)).trans c5
  have e19 : w7 (q + 2) = zar E 15 f := (hg12 (q + 2) (by omega)).trans c6
  have hf20 : ∀ k, k ≠ (y + 3) → w7 k = w0 k := fun k g0 => hg12 k g0
  refine lv_aload_n hx hb d_S_change_13 rfl (lv_at hl 1 rfl) ?_
  refine z_calli (va_runV (As := []) (rest := []) ⟨hx, hb, hml, hown, hts⟩ (c_N_isFinite (l := l) (E := E) (w0 := w7) (q := q) (kd := kd) (pl := pl) (ng := ng) (f := f) (q0lt := q4lt) (q1lt := q5lt) (q2lt := q6lt) (c0 := e17) (c1 := e18) (c2 := e19) (bf := bf) (hkd := by omega) (hng := by omega) H8.size) (z_cwV (C := "ScaledNumeralDesk$Numeral") 0 hg wm_344 wm_611 wm_2 wm_342 wm_343 (by decide +kernel) ⟨Nat.le_of_ble_eq_true rfl, Nat.le_of_ble_eq_true rfl⟩) (z_preV (r := ("ScaledNumeralDesk$Numeral", TN, 3)) hK hG hn hH10 hA q4lt e17 rfl) rfl rfl hl.1 rfl (lv_room (Nat.le_of_ble_eq_true rfl)) d_S_change_14 ⟨Nat.zero_le _, Nat.zero_le _⟩) hH10 hA (fun z25 w23 H21 lc22 hH24 p14 => ?_)
  obtain ⟨ew26, p14⟩ := p14
  rw [ew26] at hH24
  have p14 : (z25 = 1 ∧ kd = 1) ∨ (z25 = 0 ∧ kd ≠ 1) := p14
  refine zv_if_eq (tgt := 40) hx hb d_S_change_17 rfl (by omega) (fun h27 => ?_) (fun h27 => ?_)
  · refine lv_aload_n hx hb d_S_change_40 rfl (lv_at hl 0 rfl) ?_
    refine lv_dup hx hb d_S_change_41 rfl ?_
    refine zv_get (C := "ScaledNumeralDesk$Sum") (T := TS) (N := 3) hx hb hg uS_in hown hK hH24 q0lt e14 rfl 2 (by decide) (hg _ wm_87) (fun _ h9 => h9) rfl d_S_change_42 ?_
    refine zv_iconst hx hb d_S_change_45 ?_
    refine zv_iadd hx hb d_S_change_46 ?_
    refine zv_put (C := "ScaledNumeralDesk$Sum") (T := TS) (N := 3) (fs' := [.ref (ad E (y + 1)), .ref (ad E (y + 3)), .int (iI (sz + 1))]) hx hb hg uS_in tyS tyS_ok nmS hown hK hH24 q0lt e14 rfl 2 (by decide) (hg _ wm_87) (fun _ h9 => h9) rfl (ty := tyS 2) (by decide +kernel) (rfl) (by rfl) (Nat.le_of_ble_eq_true rfl) d_S_change_47 rfl (fun H29 lc30 w28 hH31 e32 hg33 => ?_)
    have e34 : w28 (y + 1) = .inr (0, [.ref (ad E (y + 2)), .int (iI sn)]) := (hg33 (y + 1) (by omega)).trans e15
    have e35 : w28 (y + 2) = zar E 15 sf := (hg33 (y + 2) (by omega)).trans e16
    have e36 : w28 (y + 3) = zar E 28 (up cn i ((cn i) + by1)) := (hg33 (y + 3) (by omega)).trans e11
    have e37 : w28 q = .inr (1, [.ref (zg E (1 + kd)), .int (iI pl), .ref (ad E (q + 1))]) := (hg33 q (by omega)).trans e17
    have e38 : w28 (q + 1) = .inr (0, [.ref (ad E (q + 2)), .int (iI ng)]) := (hg33 (q + 1) (by omega)).trans e18
    have e39 : w28 (q + 2) = zar E 15 f := (hg33 (q + 2) (by omega)).trans e19
    have hf40 : ∀ k, k ≠ (y + 3) → k ≠ y → w28 k = w0 k := fun k g0 g1 => (hg33 k g1).trans (hf20 k g0)
    rw [hQ]
    exact z_vret hx hb hr hlk hH31 (⟨⟨sn, sf, (up cn i ((cn i) + by1)), e32, e34, e35, e36, bs, bd13, ⟨hsn, csf, by rw [vadd_0 (by omega)]; omega, fun j g1 g2 => by rw [← p5]; exact ch_d cn i by1 j⟩⟩, (fun k g0 g1 g2 g3 => hf40 k g3 g0)⟩) d_S_change_50
  · refine lv_aload_n hx hb d_S_change_20 rfl (lv_at hl 0 rfl) ?_
    refine zv_get (C := "ScaledNumeralDesk$Sum") (T := TS) (N := 3) hx hb hg uS_in hown hK hH24 q0lt e14 rfl 0 (by decide) (hg _ wm_85) (fun _ h9 => h9) rfl d_S_change_21 ?_
    refine lv_aload_n hx hb d_S_change_24 rfl (lv_at hl 1 rfl) ?_
    refine zv_get (C := "ScaledNumeralDesk$Numeral") (T := TN) (N := 3) hx hb hg uN_in hown hK hH24 q4lt e17 rfl 2 (by decide) (hg _ wm_66) (fun _ h9 => h9) rfl d_S_change_25 ?_
    refine lv_iload_n hx hb d_S_change_28 rfl (lv_at hl 2 rfl) ?_
    refine zv_if_ge (tgt := 36) hx hb d_S_change_29 rfl (by omega) (fun h41 => ?_) (fun h41 => ?_)
    · refine zv_iconst hx hb d_S_change_36 ?_
      refine z_callv (va_runV (As := [.ref (ad E (q + 1)), .int (iI 0)]) (rest := []) ⟨hx, hb, hml, hown, hts⟩ (c_A_increase (l := l) (E := E) (w0 := w7) (q := y + 1) (r := q + 1) (f := sf) (g := f) (ng := sn) (no := ng) (ta := 0) (q0lt := q1lt) (q1lt := q2lt) (q2lt := q5lt) (q3lt := q6lt) (c0 := e15) (c1 := e16) (c2 := e18) (c3 := e19) (bf := bs) (bg := bf) (hno := by omega) (hqr := by omega) (hng := by omega) (hta := by omega) (hs := by omega) H21.size) (z_cwV (C := "ScaledNumeralDesk$Amount") 2 hg wm_388 wm_614 wm_5 wm_386 wm_387 (by decide +kernel) ⟨Nat.le_of_ble_eq_true rfl, Nat.le_of_ble_eq_true rfl⟩) (z_preV (r := ("ScaledNumeralDesk$Amount", TA, 2)) hK hG hn hH24 hA q1lt e15 rfl) rfl rfl hl.1 rfl (lv_room (Nat.le_of_ble_eq_true rfl)) d_S_change_37 ⟨Nat.zero_le _, Nat.zero_le _⟩) hH24 hA (fun  w44 H42 lc43 hH45 p37 => ?_)
      obtain ⟨⟨n_46, f_47, e48, e49, bd50, p37⟩, hg51⟩ := p37
      have bd50 : bd f_47 15 0 9999 := bd50
      have p37 : (n_46 = 0 ∨ n_46 = 1) ∧ (V f_47 15 = 0 → n_46 = 0) ∧ sv n_46 (V f_47 15) = sv sn (V sf 15) + (if (0 : Int) = 1 then -(sv ng (V f 15)) else sv ng (V f 15)) := p37
      have e52 : w44 y = .inr (2, [.ref (ad E (y + 1)), .ref (ad E (y + 3)), .int (iI sz)]) := (hg51 y (by omega) (by omega)).trans e14
      have e53 : w44 (y + 3) = zar E 28 (up cn i ((cn i) + by1)) := (hg51 (y + 3) (by omega) (by omega)).trans e11
      have e54 : w44 q = .inr (1, [.ref (zg E (1 + kd)), .int (iI pl), .ref (ad E (q + 1))]) := (hg51 q (by omega) (by omega)).trans e17
      have e55 : w44 (q + 1) = .inr (0, [.ref (ad E (q + 2)), .int (iI ng)]) := (hg51 (q + 1) (by omega) (by omega)).trans e18
      have e56 : w44 (q + 2) = zar E 15 f := (hg51 (q + 2) (by omega) (by omega)).trans e19
      have hf57 : ∀ k, k ≠ (y + 3) → k ≠ (y + 1) → k ≠ (y + 2) → w44 k = w0 k := fun k g0 g1 g2 => (hg51 k g1 g2).trans (hf20 k g0)
      refine lv_aload_n hx hb d_S_change_40 rfl (lv_at hl 0 rfl) ?_
      refine lv_dup hx hb d_S_change_41 rfl ?_
      refine zv_get (C := "ScaledNumeralDesk$Sum") (T := TS) (N := 3) hx hb hg uS_in hown hK hH45 q0lt e52 rfl 2 (by decide) (hg _ wm_87) (fun _ h9 => h9) rfl d_S_change_42 ?_
      refine zv_iconst hx hb d_S_change_45 ?_
      refine zv_iadd hx hb d_S_change_46 ?_
      refine zv_put (C := "ScaledNumeralDesk$Sum") (T := TS) (N := 3) (fs' := [.ref (ad E (y + 1)), .ref (ad E (y + 3)), .int (iI (sz + 1))]) hx hb hg uS_in tyS tyS_ok nmS hown hK hH45 q0lt e52 rfl 2 (by decide) (hg _ wm_87) (fun _ h9 => h9) rfl (ty := tyS 2) (by decide +kernel) (rfl) (by rfl) (Nat.le_of_ble_eq_true rfl) d_S_change_47 rfl (fun H59 lc60 w58 hH61 e62 hg63 => ?_)
      have e64 : w58 (y + 1) = .inr (0, [.ref (ad E (y + 2)), .int (iI n_46)]) := (hg63 (y + 1) (by omega)).trans e48
      have e65 : w58 (y + 2) = zar E 15 f_47 := (hg63 (y + 2) (by omega)).trans e49
      have e66 : w58 (y + 3) = zar E 28 (up cn i ((cn i) + by1)) := (hg63 (y + 3) (by omega)).trans e53
      have e67 : w58 q = .inr (1, [.ref (zg E (1 + kd)), .int (iI pl), .ref (ad E (q + 1))]) := (hg63 q (by omega)).trans e54
      have e68 : w58 (q + 1) = .inr (0, [.ref (ad E (q + 2)), .int (iI ng)]) := (hg63 (q + 1) (by omega)).trans e55
      have e69 : w58 (q + 2) = zar E 15 f := (hg63 (q + 2) (by omega)).trans e56
      have hf70 : ∀ k, k ≠ (y + 3) → k ≠ (y + 1) → k ≠ (y + 2) → k ≠ y → w58 k = w0 k := fun k g0 g1 g2 g3 => (hg63 k g3).trans (hf57 k g0 g1 g2)
      rw [hQ]
      exact z_vret hx hb hr hlk hH61 (⟨⟨n_46, f_47, (up cn i ((cn i) + by1)), e62, e64, e65, e66, bd50, bd13, ⟨p37.1, p37.2.1, by rw [p37.2.2, if_neg (by decide), vadd_p (by omega) (by omega)], fun j g1 g2 => by rw [← p5]; exact ch_d cn i by1 j⟩⟩, (fun k g0 g1 g2 g3 => hf70 k g3 g1 g2 g0)⟩) d_S_change_50
    · refine zv_iconst hx hb d_S_change_32 ?_
      refine lv_goto (tgt := 37) hx hb d_S_change_33 rfl ?_
      refine z_callv (va_runV (As := [.ref (ad E (q + 1)), .int (iI 1)]) (rest := []) ⟨hx, hb, hml, hown, hts⟩ (c_A_increase (l := l) (E := E) (w0 := w7) (q := y + 1) (r := q + 1) (f := sf) (g := f) (ng := sn) (no := ng) (ta := 1) (q0lt := q1lt) (q1lt := q2lt) (q2lt := q5lt) (q3lt := q6lt) (c0 := e15) (c1 := e16) (c2 := e18) (c3 := e19) (bf := bs) (bg := bf) (hno := by omega) (hqr := by omega) (hng := by omega) (hta := by omega) (hs := by omega) H21.size) (z_cwV (C := "ScaledNumeralDesk$Amount") 2 hg wm_388 wm_614 wm_5 wm_386 wm_387 (by decide +kernel) ⟨Nat.le_of_ble_eq_true rfl, Nat.le_of_ble_eq_true rfl⟩) (z_preV (r := ("ScaledNumeralDesk$Amount", TA, 2)) hK hG hn hH24 hA q1lt e15 rfl) rfl rfl hl.1 rfl (lv_room (Nat.le_of_ble_eq_true rfl)) d_S_change_37 ⟨Nat.zero_le _, Nat.zero_le _⟩) hH24 hA (fun  w73 H71 lc72 hH74 p37 => ?_)
      obtain ⟨⟨n_75, f_76, e77, e78, bd79, p37⟩, hg80⟩ := p37
      have bd79 : bd f_76 15 0 9999 := bd79
      have p37 : (n_75 = 0 ∨ n_75 = 1) ∧ (V f_76 15 = 0 → n_75 = 0) ∧ sv n_75 (V f_76 15) = sv sn (V sf 15) + (if (1 : Int) = 1 then -(sv ng (V f 15)) else sv ng (V f 15)) := p37
      have e81 : w73 y = .inr (2, [.ref (ad E (y + 1)), .ref (ad E (y + 3)), .int (iI sz)]) := (hg80 y (by omega) (by omega)).trans e14
      have e82 : w73 (y + 3) = zar E 28 (up cn i ((cn i) + by1)) := (hg80 (y + 3) (by omega) (by omega)).trans e11
      have e83 : w73 q = .inr (1, [.ref (zg E (1 + kd)), .int (iI pl), .ref (ad E (q + 1))]) := (hg80 q (by omega) (by omega)).trans e17
      have e84 : w73 (q + 1) = .inr (0, [.ref (ad E (q + 2)), .int (iI ng)]) := (hg80 (q + 1) (by omega) (by omega)).trans e18
      have e85 : w73 (q + 2) = zar E 15 f := (hg80 (q + 2) (by omega) (by omega)).trans e19
      have hf86 : ∀ k, k ≠ (y + 3) → k ≠ (y + 1) → k ≠ (y + 2) → w73 k = w0 k := fun k g0 g1 g2 => (hg80 k g1 g2).trans (hf20 k g0)
      refine lv_aload_n hx hb d_S_change_40 rfl (lv_at hl 0 rfl) ?_
      refine lv_dup hx hb d_S_change_41 rfl ?_
      refine zv_get (C := "ScaledNumeralDesk$Sum") (T := TS) (N := 3) hx hb hg uS_in hown hK hH74 q0lt e81 rfl 2 (by decide) (hg _ wm_87) (fun _ h9 => h9) rfl d_S_change_42 ?_
      refine zv_iconst hx hb d_S_change_45 ?_
      refine zv_iadd hx hb d_S_change_46 ?_
      refine zv_put (C := "ScaledNumeralDesk$Sum") (T := TS) (N := 3) (fs' := [.ref (ad E (y + 1)), .ref (ad E (y + 3)), .int (iI (sz + 1))]) hx hb hg uS_in tyS tyS_ok nmS hown hK hH74 q0lt e81 rfl 2 (by decide) (hg _ wm_87) (fun _ h9 => h9) rfl (ty := tyS 2) (by decide +kernel) (rfl) (by rfl) (Nat.le_of_ble_eq_true rfl) d_S_change_47 rfl (fun H88 lc89 w87 hH90 e91 hg92 => ?_)
      have e93 : w87 (y + 1) = .inr (0, [.ref (ad E (y + 2)), .int (iI n_75)]) := (hg92 (y + 1) (by omega)).trans e77
      have e94 : w87 (y + 2) = zar E 15 f_76 := (hg92 (y + 2) (by omega)).trans e78
      have e95 : w87 (y + 3) = zar E 28 (up cn i ((cn i) + by1)) := (hg92 (y + 3) (by omega)).trans e82
      have e96 : w87 q = .inr (1, [.ref (zg E (1 + kd)), .int (iI pl), .ref (ad E (q + 1))]) := (hg92 q (by omega)).trans e83
      have e97 : w87 (q + 1) = .inr (0, [.ref (ad E (q + 2)), .int (iI ng)]) := (hg92 (q + 1) (by omega)).trans e84
      have e98 : w87 (q + 2) = zar E 15 f := (hg92 (q + 2) (by omega)).trans e85
      have hf99 : ∀ k, k ≠ (y + 3) → k ≠ (y + 1) → k ≠ (y + 2) → k ≠ y → w87 k = w0 k := fun k g0 g1 g2 g3 => (hg92 k g3).trans (hf86 k g0 g1 g2)
      rw [hQ]
      exact z_vret hx hb hr hlk hH90 (⟨⟨n_75, f_76, (up cn i ((cn i) + by1)), e91, e93, e94, e95, bd79, bd13, ⟨p37.1, p37.2.1, by rw [p37.2.2, if_pos rfl, vadd_m (by omega) (by omega)], fun j g1 g2 => by rw [← p5]; exact ch_d cn i by1 j⟩⟩, (fun k g0 g1 g2 g3 => hf99 k g3 g1 g2 g0)⟩) d_S_change_50
def rm_S_putIn : Room := { frames := 5, cells := 0, slots := 0, locals := 107 }
set_option maxHeartbeats 4000000 in
set_option maxRecDepth 100000 in
theorem c_S_putIn (l : Launch) (E : zE) (w0 : zW) (y : Nat) (sn sz : Int) (sf cn : Int → Int) (q : Nat) (kd : Nat) (pl ng : Int) (f : Int → Int) (q0lt : y < zn E) (q1lt : y + 1 < zn E) (q2lt : y + 2 < zn E) (q3lt : y + 3 < zn E) (q4lt : q < zn E) (q5lt : q + 1 < zn E) (q6lt : q + 2 < zn E) (c0 : w0 y = .inr (2, [.ref (ad E (y + 1)), .ref (ad E (y + 3)), .int (iI sz)])) (c1 : w0 (y + 1) = .inr (0, [.ref (ad E (y + 2)), .int (iI sn)])) (c2 : w0 (y + 2) = zar E 15 sf) (c3 : w0 (y + 3) = zar E 28 cn) (c4 : w0 q = .inr (1, [.ref (zg E (1 + kd)), .int (iI pl), .ref (ad E (q + 1))])) (c5 : w0 (q + 1) = .inr (0, [.ref (ad E (q + 2)), .int (iI ng)])) (c6 : w0 (q + 2) = zar E 15 f) (bs : bd sf 15 0 9999) (hsn : sn = 0 ∨ sn = 1) (bc : bd cn 28 0 sz) (hsz : 0 ≤ sz ∧ sz ≤ 1000) (bf : bd f 15 0 9999) (hkd : kd < 4) (hng : ng = 0 ∨ ng = 1) (hpl : 0 ≤ pl ∧ pl ≤ 24) (hqy : y + 3 < q ∨ q + 2 < y) (hs : V sf 15 + V f 15 < Bp 15) (csf : V sf 15 = 0 → sn = 0) : zM l y_S_putIn ws_S_putIn rm_S_putIn E [.ref (ad E y), .ref (ad E q)] w0 (zQi E w0 (fun z w' => (∃ (s' : Int) (n' : Int) (f' : Int → Int) (c' : Int → Int), w' y = .inr (2, [.ref (ad E (y + 1)), .ref (ad E (y + 3)), .int (iI s')]) ∧ w' (y + 1) = .inr (0, [.ref (ad E (y + 2)), .int (iI n')]) ∧ w' (y + 2) = zar E 15 f' ∧ w' (y + 3) = zar E 28 c' ∧ bd f' 15 0 9999 ∧ bd c' 28 0 (s') ∧ ((z = -2 ∧ 1000 ≤ sz ∧ (s' = sz ∧ n' = sn ∧ f' = sf ∧ c' = cn)) ∨ (z = 0 ∧ sz < 1000 ∧ s' = sz + 1 ∧ (n' = 0 ∨ n' = 1) ∧ (V f' 15 = 0 → n' = 0) ∧ sv n' (V f' 15) = sv sn (V sf 15) + vadd kd 1 (sv ng (V f 15)) ∧ (∀ j : Int, 0 ≤ j → j < 28 → c' j = cn j + cadd (cidx kd pl) j 1)))) ∧ ∀ k, k ≠ y → k ≠ (y + 1) → k ≠ (y + 2) → k ≠ (y + 3) → w' k = w0 k)) := by
  refine z_met (cc := b_S_putIn) (maxL := 2) (ret := (some .int)) (by decide +kernel) rfl (Nat.le_of_ble_eq_true rfl) ?_
  intro p e s m below meth cd ls a Qf hQ hC hl hH
  obtain ⟨hF, hr, hlk, hK, hG, hn⟩ := hC
  obtain ⟨hx, hb, hml, hown, hts⟩ := hF
  have hg : ∀ w ∈ GW, w.before a s = true := fun w h => hts w (List.mem_cons_of_mem _ h)
  have hA : ∀ q, s.heap.size ≤ q → va_A (wl E w0) s.heap.size q := fun q h => Or.inr h
  have hl : lv_has ls 2 [(0, .ref (ad E y)), (1, .ref (ad E q))] := hl
  refine lv_aload_n hx hb d_S_putIn_0 rfl (lv_at hl 0 rfl) ?_
  refine zv_get (C := "ScaledNumeralDesk$Sum") (T := TS) (N := 3) hx hb hg uS_in hown hK hH q0lt c0 rfl 2 (by decide) (hg _ wm_87) (fun _ h9 => h9) rfl d_S_putIn_1 ?_
  refine zv_sipush hx hb d_S_putIn_4 rfl ?_
  refine zv_icmp_lt (tgt := 13) hx hb d_S_putIn_7 rfl (by omega) (by omega) (fun h1 => ?_) (fun h1 => ?_)
  · refine lv_aload_n hx hb d_S_putIn_13 rfl (lv_at hl 0 rfl) ?_
    refine lv_aload_n hx hb d_S_putIn_14 rfl (lv_at hl 1 rfl) ?_
    refine zv_iconst hx hb d_S_putIn_15 ?_
    refine z_callv (va_runV (As := [.ref (ad E q), .int (iI 1)]) (rest := []) ⟨hx, hb, hml, hown, hts⟩ (c_S_change (l := l) (E := E) (w0 := w0) (y := y) (sn := sn) (sz := sz) (sf := sf) (cn := cn) (q := q) (kd := kd) (pl := pl) (ng := ng) (f := f) (by1 := 1) (q0lt := q0lt) (q1lt := q1lt) (q2lt := q2lt) (q3lt := q3lt) (q4lt := q4lt) (q5lt := q5lt) (q6lt := q6lt) (c0 := c0) (c1 := c1) (c2 := c2) (c3 := c3) (c4 := c4) (c5 := c5) (c6 := c6) (bs := bs) (hsn := by omega) (bc := bc) (hsz := by omega) (bf := bf) (hkd := by omega) (hng := by omega) (hpl := by omega) (hqy := by omega) (hs := by omega) (csf := by omega) (hby := by omega) s.heap.size) (z_cwV (C := "ScaledNumeralDesk$Sum") 2 hg wm_607 wm_604 wm_6 wm_606 wm_s27 (by decide +kernel) ⟨Nat.le_of_ble_eq_true rfl, Nat.le_of_ble_eq_true rfl⟩) (z_preV (r := ("ScaledNumeralDesk$Sum", TS, 3)) hK hG hn hH hA q0lt c0 rfl) rfl rfl hl.1 rfl (lv_room (Nat.le_of_ble_eq_true rfl)) d_S_putIn_16 ⟨Nat.zero_le _, Nat.zero_le _⟩) hH hA (fun  w4 H2 lc3 hH5 p16 => ?_)
    obtain ⟨⟨n_6, f_7, c_8, e9, e10, e11, e12, bd13, bd14, p16⟩, hg15⟩ := p16
    have bd13 : bd f_7 15 0 9999 := bd13
    have bd14 : bd c_8 28 0 (sz + 1) := bd14
    have p16 : (n_6 = 0 ∨ n_6 = 1) ∧ (V f_7 15 = 0 → n_6 = 0) ∧ sv n_6 (V f_7 15) = sv sn (V sf 15) + vadd kd (1 : Int) (sv ng (V f 15)) ∧ (∀ j : Int, 0 ≤ j → j < 28 → c_8 j = cn j + cadd (cidx kd pl) j (1 : Int)) := p16
    have e16 : w4 q = .inr (1, [.ref (zg E (1 + kd)), .int (iI pl), .ref (ad E (q + 1))]) := (hg15 q (by omega) (by omega) (by omega) (by omega)).trans c4
    have e17 : w4 (q + 1) = .inr (0, [.ref (ad E (q + 2)), .int (iI ng)]) := (hg15 (q + 1) (by omega) (by omega) (by omega) (by omega)).trans c5
    have e18 : w4 (q + 2) = zar E 15 f := (hg15 (q + 2) (by omega) (by omega) (by omega) (by omega)).trans c6
    have hf19 : ∀ k, k ≠ y → k ≠ (y + 1) → k ≠ (y + 2) → k ≠ (y + 3) → w4 k = w0 k := fun k g0 g1 g2 g3 => hg15 k g0 g1 g2 g3
    refine zv_iconst hx hb d_S_putIn_19 ?_
    rw [hQ]
    exact z_iret hx hb hr hlk hH5 (⟨⟨(sz + 1), n_6, f_7, c_8, e9, e10, e11, e12, bd13, bd14, Or.inr ⟨rfl, by omega, rfl, p16⟩⟩, (fun k g0 g1 g2 g3 => hf19 k g0 g1 g2 g3)⟩) d_S_putIn_20
  · refine zv_bipush hx hb d_S_putIn_10 rfl ?_
    rw [hQ]
    exact z_iret hx hb hr hlk hH (⟨⟨sz, sn, sf, cn, c0, c1, c2, c3, bs, bc, Or.inl ⟨rfl, by omega, rfl, rfl, rfl, rfl⟩⟩, (fun k _ _ _ _ => rfl)⟩) d_S_putIn_12
def rm_S_takeOut : Room := { frames := 5, cells := 0, slots := 0, locals := 107 }
set_option maxHeartbeats 4000000 in
set_option maxRecDepth 100000 in
theorem c_S_takeOut (l : Launch) (E : zE) (w0 : zW) (y : Nat) (sn sz : Int) (sf cn : Int → Int) (q : Nat) (kd : Nat) (pl ng : Int) (f : Int → Int) (q0lt : y < zn E) (q1lt : y + 1 < zn E) (q2lt : y + 2 < zn E) (q3lt : y + 3 < zn E) (q4lt : q < zn E) (q5lt : q + 1 < zn E) (q6lt : q + 2 < zn E) (c0 : w0 y = .inr (2, [.ref (ad E (y + 1)), .ref (ad E (y + 3)), .int (iI sz)])) (c1 : w0 (y + 1) = .inr (0, [.ref (ad E (y + 2)), .int (iI sn)])) (c2 : w0 (y + 2) = zar E 15 sf) (c3 : w0 (y + 3) = zar E 28 cn) (c4 : w0 q = .inr (1, [.ref (zg E (1 + kd)), .int (iI pl), .ref (ad E (q + 1))])) (c5 : w0 (q + 1) = .inr (0, [.ref (ad E (q + 2)), .int (iI ng)])) (c6 : w0 (q + 2) = zar E 15 f) (bs : bd sf 15 0 9999) (hsn : sn = 0 ∨ sn = 1) (bc : bd cn 28 0 sz) (hsz : 0 ≤ sz ∧ sz ≤ 1000) (bf : bd f 15 0 9999) (hkd : kd < 4) (hng : ng = 0 ∨ ng = 1) (hpl : 0 ≤ pl ∧ pl ≤ 24) (hqy : y + 3 < q ∨ q + 2 < y) (hs : V sf 15 + V f 15 < Bp 15) (csf : V sf 15 = 0 → sn = 0) : zM l y_S_takeOut ws_S_takeOut rm_S_takeOut E [.ref (ad E y), .ref (ad E q)] w0 (zQi E w0 (fun z w' => (∃ (s' : Int) (n' : Int) (f' : Int → Int) (c' : Int → Int), w' y = .inr (2, [.ref (ad E (y + 1)), .ref (ad E (y + 3)), .int (iI s')]) ∧ w' (y + 1) = .inr (0, [.ref (ad E (y + 2)), .int (iI n')]) ∧ w' (y + 2) = zar E 15 f' ∧ w' (y + 3) = zar E 28 c' ∧ bd f' 15 0 9999 ∧ bd c' 28 0 (s') ∧ ((z = -2 ∧ 1000 ≤ sz ∧ (s' = sz ∧ n' = sn ∧ f' = sf ∧ c' = cn)) ∨ (z = -6 ∧ sz < 1000 ∧ cn (cidx kd pl) = 0 ∧ (s' = sz ∧ n' = sn ∧ f' = sf ∧ c' = cn)) ∨ (z = 0 ∧ sz < 1000 ∧ cn (cidx kd pl) ≠ 0 ∧ s' = sz + 1 ∧ (n' = 0 ∨ n' = 1) ∧ (V f' 15 = 0 → n' = 0) ∧ sv n' (V f' 15) = sv sn (V sf 15) + vadd kd (-1) (sv ng (V f 15)) ∧ (∀ j : Int, 0 ≤ j → j < 28 → c' j = cn j + cadd (cidx kd pl) j (-1))))) ∧ ∀ k, k ≠ y → k ≠ (y + 1) → k ≠ (y + 2) → k ≠ (y + 3) → w' k = w0 k)) := by
  refine z_met (cc := b_S_takeOut) (maxL := 2) (ret := (some .int)) (by decide +kernel) rfl (Nat.le_of_ble_eq_true rfl) ?_
  intro p e s m below meth cd ls a Qf hQ hC hl hH
  obtain ⟨hF, hr, hlk, hK, hG, hn⟩ := hC
  obtain ⟨hx, hb, hml, hown, hts⟩ := hF
  have hg : ∀ w ∈ GW, w.before a s = true := fun w h => hts w (List.mem_cons_of_mem _ h)
  have hA : ∀ q, s.heap.size ≤ q → va_A (wl E w0) s.heap.size q := fun q h => Or.inr h
  have hl : lv_has ls 2 [(0, .ref (ad E y)), (1, .ref (ad E q))] := hl
  refine lv_aload_n hx hb d_S_takeOut_0 rfl (lv_at hl 0 rfl) ?_
  refine zv_get (C := "ScaledNumeralDesk$Sum") (T := TS) (N := 3) hx hb hg uS_in hown hK hH q0lt c0 rfl 2 (by decide) (hg _ wm_87) (fun _ h9 => h9) rfl d_S_takeOut_1 ?_
  refine zv_sipush hx hb d_S_takeOut_4 rfl ?_
  refine zv_icmp_lt (tgt := 13) hx hb d_S_takeOut_7 rfl (by omega) (by omega) (fun h1 => ?_) (fun h1 => ?_)
  · refine lv_aload_n hx hb d_S_takeOut_13 rfl (lv_at hl 0 rfl) ?_
    refine zv_get (C := "ScaledNumeralDesk$Sum") (T := TS) (N := 3) hx hb hg uS_in hown hK hH q0lt c0 rfl 1 (by decide) (hg _ wm_86) (fun _ h9 => h9) rfl d_S_takeOut_14 ?_
    refine lv_aload_n hx hb d_S_takeOut_17 rfl (lv_at hl 1 rfl) ?_
    refine z_calli (va_runS (As := [.ref (ad E q)]) (rest := [.ref (ad E (y + 3))]) ⟨hx, hb, hml, hown, hts⟩ (c_S_countOf (l := l) (E := E) (w0 := w0) (q := q) (kd := kd) (pl := pl) (ng := ng) (f := f) (q0lt := q4lt) (q1lt := q5lt) (q2lt := q6lt) (c0 := c4) (c1 := c5) (c2 := c6) (bf := bf) (hkd := by omega) (hng := by omega) s.heap.size) (z_cwS 1 hg wm_610 wm_608 wm_6 wm_609 (by decide +kernel) ⟨Nat.le_of_ble_eq_true rfl, Nat.le_of_ble_eq_true rfl⟩) (z_preS hK hG hn hH hA) rfl rfl hl.1 rfl (lv_room (Nat.le_of_ble_eq_true rfl)) d_S_takeOut_18 ⟨Nat.zero_le _, Nat.zero_le _⟩) hH hA (fun i w4 H2 lc3 hH5 p18 => ?_)
    obtain ⟨ew6, p18⟩ := p18
    rw [ew6] at hH5
    have p18 : i = (cidx kd pl) := p18
    have hi := cidx_in hkd hpl
    rw [← p18] at hi
    refine zv_iald hx hb hK hH5 q3lt c3 (by omega) (by omega) (by omega) d_S_takeOut_21 ?_
    have b7 := bc i (by omega) (by omega)
    refine zv_if_ne (tgt := 28) hx hb d_S_takeOut_22 rfl (by omega) (fun h8 => ?_) (fun h8 => ?_)
    · refine lv_aload_n hx hb d_S_takeOut_28 rfl (lv_at hl 0 rfl) ?_
      refine lv_aload_n hx hb d_S_takeOut_29 rfl (lv_at hl 1 rfl) ?_
      refine zv_iconst hx hb d_S_takeOut_30 ?_
      refine z_callv (va_runV (As := [.ref (ad E q), .int (iI (-1))]) (rest := []) ⟨hx, hb, hml, hown, hts⟩ (c_S_change (l := l) (E := E) (w0 := w0) (y := y) (sn := sn) (sz := sz) (sf := sf) (cn := cn) (q := q) (kd := kd) (pl := pl) (ng := ng) (f := f) (by1 := -1) (q0lt := q0lt) (q1lt := q1lt) (q2lt := q2lt) (q3lt := q3lt) (q4lt := q4lt) (q5lt := q5lt) (q6lt := q6lt) (c0 := c0) (c1 := c1) (c2 := c2) (c3 := c3) (c4 := c4) (c5 := c5) (c6 := c6) (bs := bs) (hsn := by omega) (bc := bc) (hsz := by omega) (bf := bf) (hkd := by omega) (hng := by omega) (hpl := by omega) (hqy := by omega) (hs := by omega) (csf := by omega) (hby := (Or.inr ⟨rfl, by rw [← p18]; omega⟩)) H2.size) (z_cwV (C := "ScaledNumeralDesk$Sum") 2 hg wm_607 wm_604 wm_6 wm_606 wm_s27 (by decide +kernel) ⟨Nat.le_of_ble_eq_true rfl, Nat.le_of_ble_eq_true rfl⟩) (z_preV (r := ("ScaledNumeralDesk$Sum", TS, 3)) hK hG hn hH5 hA q0lt c0 rfl) rfl rfl hl.1 rfl (lv_room (Nat.le_of_ble_eq_true rfl)) d_S_takeOut_31 ⟨Nat.zero_le _, Nat.zero_le _⟩) hH5 hA (fun  w11 H9 lc10 hH12 p31 => ?_)
      obtain ⟨⟨n_13, f_14, c_15, e16, e17, e18, e19, bd20, bd21, p31⟩, hg22⟩ := p31
      have bd20 : bd f_14 15 0 9999 := bd20
      have bd21 : bd c_15 28 0 (sz + 1) := bd21
      have p31 : (n_13 = 0 ∨ n_13 = 1) ∧ (V f_14 15 = 0 → n_13 = 0) ∧ sv n_13 (V f_14 15) = sv sn (V sf 15) + vadd kd (-1 : Int) (sv ng (V f 15)) ∧ (∀ j : Int, 0 ≤ j → j < 28 → c_15 j = cn j + cadd (cidx kd pl) j (-1 : Int)) := p31
      have e23 : w11 q = .inr (1, [.ref (zg E (1 + kd)), .int (iI pl), .ref (ad E (q + 1))]) := (hg22 q (by omega) (by omega) (by omega) (by omega)).trans c4
      have e24 : w11 (q + 1) = .inr (0, [.ref (ad E (q + 2)), .int (iI ng)]) := (hg22 (q + 1) (by omega) (by omega) (by omega) (by omega)).trans c5
      have e25 : w11 (q + 2) = zar E 15 f := (hg22 (q + 2) (by omega) (by omega) (by omega) (by omega)).trans c6
      have hf26 : ∀ k, k ≠ y → k ≠ (y + 1) → k ≠ (y + 2) → k ≠ (y + 3) → w11 k = w0 k := fun k g0 g1 g2 g3 => hg22 k g0 g1 g2 g3
      refine zv_iconst hx hb d_S_takeOut_34 ?_
      rw [hQ]
      exact z_iret hx hb hr hlk hH12 (⟨⟨(sz + 1), n_13, f_14, c_15, e16, e17, e18, e19, bd20, bd21, Or.inr (Or.inr ⟨rfl, by omega, by rw [← p18]; assumption, rfl, p31⟩)⟩, (fun k g0 g1 g2 g3 => hf26 k g0 g1 g2 g3)⟩) d_S_takeOut_35
    · refine zv_bipush hx hb d_S_takeOut_25 rfl ?_
      rw [hQ]
      exact z_iret hx hb hr hlk hH5 (⟨⟨sz, sn, sf, cn, c0, c1, c2, c3, bs, bc, Or.inr (Or.inl ⟨rfl, by omega, by rw [← p18]; assumption, rfl, rfl, rfl, rfl⟩)⟩, (fun k _ _ _ _ => rfl)⟩) d_S_takeOut_27
  · refine zv_bipush hx hb d_S_takeOut_10 rfl ?_
    rw [hQ]
    exact z_iret hx hb hr hlk hH (⟨⟨sz, sn, sf, cn, c0, c1, c2, c3, bs, bc, Or.inl ⟨rfl, by omega, rfl, rfl, rfl, rfl⟩⟩, (fun k _ _ _ _ => rfl)⟩) d_S_takeOut_12
def rm_S_members : Room := { frames := 0, cells := 0, slots := 0, locals := 0 }
set_option maxHeartbeats 4000000 in
set_option maxRecDepth 100000 in
theorem c_S_members (l : Launch) (E : zE) (w0 : zW) (y : Nat) (sn sz : Int) (sf cn : Int → Int) (q0lt : y < zn E) (q1lt : y + 1 < zn E) (q2lt : y + 2 < zn E) (q3lt : y + 3 < zn E) (c0 : w0 y = .inr (2, [.ref (ad E (y + 1)), .ref (ad E (y + 3)), .int (iI sz)])) (c1 : w0 (y + 1) = .inr (0, [.ref (ad E (y + 2)), .int (iI sn)])) (c2 : w0 (y + 2) = zar E 15 sf) (c3 : w0 (y + 3) = zar E 28 cn) (bs : bd sf 15 0 9999) (hsn : sn = 0 ∨ sn = 1) (bc : bd cn 28 0 sz) (hsz : 0 ≤ sz ∧ sz ≤ 1000) : zM l y_S_members ws_S_members rm_S_members E [.ref (ad E y)] w0 (zQi E w0 (fun z w' => w' = w0 ∧ (z = Sm cn 28 ∧ 0 ≤ z ∧ z ≤ 28000))) := by
  refine z_met (cc := b_S_members) (maxL := 3) (ret := (some .int)) (by decide +kernel) rfl (Nat.le_of_ble_eq_true rfl) ?_
  intro p e s m below meth cd ls a Qf hQ hC hl hH
  obtain ⟨hF, hr, hlk, hK, hG, hn⟩ := hC
  obtain ⟨hx, hb, hml, hown, hts⟩ := hF
  have hg : ∀ w ∈ GW, w.before a s = true := fun w h => hts w (List.mem_cons_of_mem _ h)
  have hA : ∀ q, s.heap.size ≤ q → va_A (wl E w0) s.heap.size q := fun q h => Or.inr h
  have hl : lv_has ls 3 [(0, .ref (ad E y))] := hl
  refine zv_iconst hx hb d_S_members_0 ?_
  refine lv_istore_n (lv' := [(1, .int (iI 0)), (0, .ref (ad E y))]) hx hb d_S_members_1 rfl hl (by decide) rfl (fun ls hl => ?_)
  refine zv_iconst hx hb d_S_members_2 ?_
  refine lv_istore_n (lv' := [(2, .int (iI 0)), (1, .int (iI 0)), (0, .ref (ad E y))]) hx hb d_S_members_3 rfl hl (by decide) rfl (fun ls hl => ?_)
  have L4 : ∀ (fu : Nat) (i : Int) (u : Int) (ls : Array Slot) (H1 : Heap) (lc2 : List Loc), (lv_has ls 3 [(2, .int (iI i)), (1, .int (iI u)), (0, .ref (ad E y))]) → (zH E w0 (va_A (wl E w0) s.heap.size) s.heap H1 lc2) → (0 ≤ i ∧ i ≤ 28) → (u = Sm cn i) → (0 ≤ u ∧ u ≤ i * 1000) → (28 - i < (fu : Int)) → W p l e rm_S_members s m a below meth cd H1 lc2 0 0 Qf (F0 m 4 ls []) := by
    intro fu
    induction fu with
    | zero => intro i u ls H1 lc2 hl hH hi hu hb9 hm; exact absurd hm (by omega)
    | succ fu ih =>
      intro i u ls H1 lc2 hl hH hi hu hb9 hm
      refine lv_iload_n hx hb d_S_members_4 rfl (lv_at hl 0 rfl) ?_
      refine zv_bipush hx hb d_S_members_5 rfl ?_
      refine zv_icmp_ge (tgt := 25) hx hb d_S_members_7 rfl (by omega) (by omega) (fun h3 => ?_) (fun h3 => ?_)
      · refine lv_iload_n hx hb d_S_members_25 rfl (lv_at hl 1 rfl) ?_
        rw [hQ]
        exact z_iret hx hb hr hlk hH (⟨rfl, ⟨by rw [hu, show i = 28 by omega], by omega, by omega⟩⟩) d_S_members_26
      · refine lv_iload_n hx hb d_S_members_10 rfl (lv_at hl 1 rfl) ?_
        refine lv_aload_n hx hb d_S_members_11 rfl (lv_at hl 2 rfl) ?_
        refine zv_get (C := "ScaledNumeralDesk$Sum") (T := TS) (N := 3) hx hb hg uS_in hown hK hH q0lt c0 rfl 1 (by decide) (hg _ wm_86) (fun _ h9 => h9) rfl d_S_members_12 ?_
        refine lv_iload_n hx hb d_S_members_15 rfl (lv_at hl 0 rfl) ?_
        refine zv_iald hx hb hK hH q3lt c3 (by omega) (by omega) (by omega) d_S_members_16 ?_
        have b4 := bc i (by omega) (by omega)
        refine zv_iadd hx hb d_S_members_17 ?_
        refine lv_istore_n (lv' := [(1, .int (iI (u + (cn i)))), (2, .int (iI i)), (0, .ref (ad E y))]) hx hb d_S_members_18 rfl hl (by decide) rfl (fun ls hl => ?_)
        refine zv_iinc (k := 1) (lv' := [(2, .int (iI (i + 1))), (1, .int (iI (u + (cn i)))), (0, .ref (ad E y))]) hx hb d_S_members_19 hl rfl (by decide) rfl (fun ls hl => ?_)
        refine lv_goto (tgt := 4) hx hb d_S_members_22 rfl ?_
        exact ih  (i + 1) (u + (cn i)) _ H1 lc2 (lv_sub hl [0, 1, 2] rfl) hH (by omega) (by rw [Sm_s cn hi.1, hu]) (by omega) (by omega)
  exact L4 ((28 - 0 : Int).toNat + 1) 0 0 _ s.heap ([]) (lv_sub hl [0, 1, 2] rfl) hH (by omega) (by rfl) (by omega) (by omega)
def rm_S_greatest : Room := { frames := 0, cells := 0, slots := 0, locals := 0 }
set_option maxHeartbeats 4000000 in
set_option maxRecDepth 100000 in
theorem c_S_greatest (l : Launch) (E : zE) (w0 : zW) (y : Nat) (sn sz : Int) (sf cn : Int → Int) (q0lt : y < zn E) (q1lt : y + 1 < zn E) (q2lt : y + 2 < zn E) (q3lt : y + 3 < zn E) (c0 : w0 y = .inr (2, [.ref (ad E (y + 1)), .ref (ad E (y + 3)), .int (iI sz)])) (c1 : w0 (y + 1) = .inr (0, [.ref (ad E (y + 2)), .int (iI sn)])) (c2 : w0 (y + 2) = zar E 15 sf) (c3 : w0 (y + 3) = zar E 28 cn) (bs : bd sf 15 0 9999) (hsn : sn = 0 ∨ sn = 1) (bc : bd cn 28 0 sz) (hsz : 0 ≤ sz ∧ sz ≤ 1000) : zM l y_S_greatestPlaces ws_S_greatestPlaces rm_S_greatest E [.ref (ad E y)] w0 (zQi E w0 (fun z w' => w' = w0 ∧ (0 ≤ z ∧ z ≤ 24 ∧ (z = 0 ∨ cn z ≠ 0) ∧ ∀ k : Int, z < k → k ≤ 24 → cn k = 0))) := by
  refine z_met (cc := b_S_greatestPlaces) (maxL := 2) (ret := (some .int)) (by decide +kernel) rfl (Nat.le_of_ble_eq_true rfl) ?_
  intro p e s m below meth cd ls a Qf hQ hC hl hH
  obtain ⟨hF, hr, hlk, hK, hG, hn⟩ := hC
  obtain ⟨hx, hb, hml, hown, hts⟩ := hF
  have hg : ∀ w ∈ GW, w.before a s = true := fun w h => hts w (List.mem_cons_of_mem _ h)
  have hA : ∀ q, s.heap.size ≤ q → va_A (wl E w0) s.heap.size q := fun q h => Or.inr h
  have hl : lv_has ls 2 [(0, .ref (ad E y))] := hl
  refine zv_bipush hx hb d_S_greatestPlaces_0 rfl ?_
  refine lv_istore_n (lv' := [(1, .int (iI 24)), (0, .ref (ad E y))]) hx hb d_S_greatestPlaces_2 rfl hl (by decide) rfl (fun ls hl => ?_)
  have L3 : ∀ (fu : Nat) (x : Int) (ls : Array Slot) (H1 : Heap) (lc2 : List Loc), (lv_has ls 2 [(1, .int (iI x)), (0, .ref (ad E y))]) → (zH E w0 (va_A (wl E w0) s.heap.size) s.heap H1 lc2) → (0 ≤ x ∧ x ≤ 24) → (∀ k : Int, x < k → k ≤ 24 → cn k = 0) → (x < (fu : Int)) → W p l e rm_S_greatest s m a below meth cd H1 lc2 0 0 Qf (F0 m 3 ls []) := by
    intro fu
    induction fu with
    | zero => intro x ls H1 lc2 hl hH hx0 hz hm; exact absurd hm (by omega)
    | succ fu ih =>
      intro x ls H1 lc2 hl hH hx0 hz hm
      refine lv_iload_n hx hb d_S_greatestPlaces_3 rfl (lv_at hl 0 rfl) ?_
      refine zv_if_le (tgt := 22) hx hb d_S_greatestPlaces_4 rfl (by omega) (fun h3 => ?_) (fun h3 => ?_)
      · refine lv_iload_n hx hb d_S_greatestPlaces_22 rfl (lv_at hl 0 rfl) ?_
        rw [hQ]
        exact z_iret hx hb hr hlk hH (⟨rfl, ⟨hx0.1, hx0.2, Or.inl (by omega), hz⟩⟩) d_S_greatestPlaces_23
      · refine lv_aload_n hx hb d_S_greatestPlaces_7 rfl (lv_at hl 1 rfl) ?_
        refine zv_get (C := "ScaledNumeralDesk$Sum") (T := TS) (N := 3) hx hb hg uS_in hown hK hH q0lt c0 rfl 1 (by decide) (hg _ wm_86) (fun _ h9 => h9) rfl d_S_greatestPlaces_8 ?_
        refine lv_iload_n hx hb d_S_greatestPlaces_11 rfl (lv_at hl 0 rfl) ?_
        refine zv_iald hx hb hK hH q3lt c3 (by omega) (by omega) (by omega) d_S_greatestPlaces_12 ?_
        have b4 := bc x (by omega) (by omega)
        refine zv_if_ne (tgt := 22) hx hb d_S_greatestPlaces_13 rfl (by omega) (fun h5 => ?_) (fun h5 => ?_)
        · refine lv_iload_n hx hb d_S_greatestPlaces_22 rfl (lv_at hl 0 rfl) ?_
          rw [hQ]
          exact z_iret hx hb hr hlk hH (⟨rfl, ⟨hx0.1, hx0.2, Or.inr (by assumption), hz⟩⟩) d_S_greatestPlaces_23
        · refine zv_iinc (k := 0) (lv' := [(1, .int (iI (x + (-1)))), (0, .ref (ad E y))]) hx hb d_S_greatestPlaces_16 hl rfl (by decide) rfl (fun ls hl => ?_)
          refine lv_goto (tgt := 3) hx hb d_S_greatestPlaces_19 rfl ?_
          exact ih  (x + (-1)) _ H1 lc2 (lv_sub hl [0, 1] rfl) hH (by omega) (by intro k g1 g2; by_cases e9 : k = x; rw [e9]; assumption; exact hz k (by omega) g2) (by omega)
  exact L3 ((24 : Int).toNat + 1) 24 _ s.heap ([]) (lv_sub hl [0, 1] rfl) hH (by omega) (by intro k g1 g2; omega) (by omega)
def rm_S_join : Room := { frames := 4, cells := 0, slots := 0, locals := 85 }
set_option maxHeartbeats 4000000 in
set_option maxRecDepth 100000 in
theorem c_S_join (l : Launch) (E : zE) (w0 : zW) (y : Nat) (sn sz : Int) (sf cn : Int → Int) (x : Nat) (on oz : Int) (of co : Int → Int) (q0lt : y < zn E) (q1lt : y + 1 < zn E) (q2lt : y + 2 < zn E) (q3lt : y + 3 < zn E) (q4lt : x < zn E) (q5lt : x + 1 < zn E) (q6lt : x + 2 < zn E) (q7lt : x + 3 < zn E) (c0 : w0 y = .inr (2, [.ref (ad E (y + 1)), .ref (ad E (y + 3)), .int (iI sz)])) (c1 : w0 (y + 1) = .inr (0, [.ref (ad E (y + 2)), .int (iI sn)])) (c2 : w0 (y + 2) = zar E 15 sf) (c3 : w0 (y + 3) = zar E 28 cn) (c4 : w0 x = .inr (2, [.ref (ad E (x + 1)), .ref (ad E (x + 3)), .int (iI oz)])) (c5 : w0 (x + 1) = .inr (0, [.ref (ad E (x + 2)), .int (iI on)])) (c6 : w0 (x + 2) = zar E 15 of) (c7 : w0 (x + 3) = zar E 28 co) (bs : bd sf 15 0 9999) (hsn : sn = 0 ∨ sn = 1) (bc : bd cn 28 0 sz) (hsz : 0 ≤ sz ∧ sz ≤ 1000) (bo : bd of 15 0 9999) (hon : on = 0 ∨ on = 1) (bco : bd co 28 0 oz) (hoz : 0 ≤ oz ∧ oz ≤ 1000) (hs : V sf 15 + V of 15 < Bp 15) (hxy : y + 3 < x ∨ x + 3 < y) : zM l y_S_join ws_S_join rm_S_join E [.ref (ad E y), .ref (ad E x)] w0 (zQi E w0 (fun z w' => (∃ (s' : Int) (n' : Int) (f' : Int → Int) (c' : Int → Int), w' y = .inr (2, [.ref (ad E (y + 1)), .ref (ad E (y + 3)), .int (iI s')]) ∧ w' (y + 1) = .inr (0, [.ref (ad E (y + 2)), .int (iI n')]) ∧ w' (y + 2) = zar E 15 f' ∧ w' (y + 3) = zar E 28 c' ∧ bd f' 15 0 9999 ∧ bd c' 28 0 (s') ∧ ((z = -2 ∧ 1000 < sz + oz ∧ (s' = sz ∧ n' = sn ∧ f' = sf ∧ c' = cn)) ∨ (z = 0 ∧ sz + oz ≤ 1000 ∧ s' = sz + oz ∧ (n' = 0 ∨ n' = 1) ∧ (V f' 15 = 0 → n' = 0) ∧ sv n' (V f' 15) = sv sn (V sf 15) + sv on (V of 15) ∧ ∀ j : Int, 0 ≤ j → j < 28 → c' j = cn j + co j))) ∧ ∀ k, k ≠ y → k ≠ (y + 1) → k ≠ (y + 2) → k ≠ (y + 3) → w' k = w0 k)) := by
  refine z_met (cc := b_S_join) (maxL := 3) (ret := (some .int)) (by decide +kernel) rfl (Nat.le_of_ble_eq_true rfl) ?_
  intro p e s m below meth cd ls a Qf hQ hC hl hH
  obtain ⟨hF, hr, hlk, hK, hG, hn⟩ := hC
  obtain ⟨hx, hb, hml, hown, hts⟩ := hF
  have hg : ∀ w ∈ GW, w.before a s = true := fun w h => hts w (List.mem_cons_of_mem _ h)
  have hA : ∀ q, s.heap.size ≤ q → va_A (wl E w0) s.heap.size q := fun q h => Or.inr h
  have hl : lv_has ls 3 [(0, .ref (ad E y)), (1, .ref (ad E x))] := hl
  refine lv_aload_n hx hb d_S_join_0 rfl (lv_at hl 0 rfl) ?_
  refine zv_get (C := "ScaledNumeralDesk$Sum") (T := TS) (N := 3) hx hb hg uS_in hown hK hH q0lt c0 rfl 2 (by decide) (hg _ wm_87) (fun _ h9 => h9) rfl d_S_join_1 ?_
  refine lv_aload_n hx hb d_S_join_4 rfl (lv_at hl 1 rfl) ?_
  refine zv_get (C := "ScaledNumeralDesk$Sum") (T := TS) (N := 3) hx hb hg uS_in hown hK hH q4lt c4 rfl 2 (by decide) (hg _ wm_87) (fun _ h9 => h9) rfl d_S_join_5 ?_
  refine zv_iadd hx hb d_S_join_8 ?_
  refine zv_sipush hx hb d_S_join_9 rfl ?_
  refine zv_icmp_le (tgt := 18) hx hb d_S_join_12 rfl (by omega) (by omega) (fun h1 => ?_) (fun h1 => ?_)
  · refine lv_aload_n hx hb d_S_join_18 rfl (lv_at hl 0 rfl) ?_
    refine zv_get (C := "ScaledNumeralDesk$Sum") (T := TS) (N := 3) hx hb hg uS_in hown hK hH q0lt c0 rfl 0 (by decide) (hg _ wm_85) (fun _ h9 => h9) rfl d_S_join_19 ?_
    refine lv_aload_n hx hb d_S_join_22 rfl (lv_at hl 1 rfl) ?_
    refine zv_get (C := "ScaledNumeralDesk$Sum") (T := TS) (N := 3) hx hb hg uS_in hown hK hH q4lt c4 rfl 0 (by decide) (hg _ wm_85) (fun _ h9 => h9) rfl d_S_join_23 ?_
    refine zv_iconst hx hb d_S_join_26 ?_
    refine z_callv (va_runV (As := [.ref (ad E (x + 1)), .int (iI 0)]) (rest := []) ⟨hx, hb, hml, hown, hts⟩ (c_A_increase (l := l) (E := E) (w0 := w0) (q := y + 1) (r := x + 1) (f := sf) (g := of) (ng := sn) (no := on) (ta := 0) (q0lt := q1lt) (q1lt := q2lt) (q2lt := q5lt) (q3lt := q6lt) (c0 := c1) (c1 := c2) (c2 := c5) (c3 := c6) (bf := bs) (bg := bo) (hno := by omega) (hqr := by omega) (hng := by omega) (hta := by omega) (hs := by omega) s.heap.size) (z_cwV (C := "ScaledNumeralDesk$Amount") 2 hg wm_388 wm_614 wm_5 wm_386 wm_387 (by decide +kernel) ⟨Nat.le_of_ble_eq_true rfl, Nat.le_of_ble_eq_true rfl⟩) (z_preV (r := ("ScaledNumeralDesk$Amount", TA, 2)) hK hG hn hH hA q1lt c1 rfl) rfl rfl hl.1 rfl (lv_room (Nat.le_of_ble_eq_true rfl)) d_S_join_27 ⟨Nat.zero_le _, Nat.zero_le _⟩) hH hA (fun  w4 H2 lc3 hH5 p27 => ?_)
    obtain ⟨⟨m1, g1, e6, e7, bd8, p27⟩, hg9⟩ := p27
    have bd8 : bd g1 15 0 9999 := bd8
    have p27 : (m1 = 0 ∨ m1 = 1) ∧ (V g1 15 = 0 → m1 = 0) ∧ sv m1 (V g1 15) = sv sn (V sf 15) + (if (0 : Int) = 1 then -(sv on (V of 15)) else sv on (V of 15)) := p27
    have e10 : w4 y = .inr (2, [.ref (ad E (y + 1)), .ref (ad E (y + 3)), .int (iI sz)]) := (hg9 y (by omega) (by omega)).trans c0
    have e11 : w4 (y + 3) = zar E 28 cn := (hg9 (y + 3) (by omega) (by omega)).trans c3
    have e12 : w4 x = .inr (2, [.ref (ad E (x + 1)), .ref (ad E (x + 3)), .int (iI oz)]) := (hg9 x (by omega) (by omega)).trans c4
    have e13 : w4 (x + 1) = .inr (0, [.ref (ad E (x + 2)), .int (iI on)]) := (hg9 (x + 1) (by omega) (by omega)).trans c5
    have e14 : w4 (x + 2) = zar E 15 of := (hg9 (x + 2) (by omega) (by omega)).trans c6
    have e15 : w4 (x + 3) = zar E 28 co := (hg9 (x + 3) (by omega) (by omega)).trans c7
    have hf16 : ∀ k, k ≠ (y + 1) → k ≠ (y + 2) → w4 k = w0 k := fun k g0 g1 => hg9 k g0 g1
    rw [if_neg (by decide)] at p27
    have bc2 : bd cn 28 0 (sz + oz) := bd_w bc (by omega)
    refine zv_iconst hx hb d_S_join_30 ?_
    refine lv_istore_n (lv' := [(2, .int (iI 0)), (0, .ref (ad E y)), (1, .ref (ad E x))]) hx hb d_S_join_31 rfl hl (by decide) rfl (fun ls hl => ?_)
    have L32 : ∀ (fu : Nat) (i : Int) (h : Int → Int) (ls : Array Slot) (H17 : Heap) (lc18 : List Loc) (w19 : zW), (lv_has ls 3 [(2, .int (iI i)), (0, .ref (ad E y)), (1, .ref (ad E x))]) → (zH E w19 (va_A (wl E w0) s.heap.size) s.heap H17 lc18) → (w19 y = .inr (2, [.ref (ad E (y + 1)), .ref (ad E (y + 3)), .int (iI sz)])) → (w19 (y + 1) = .inr (0, [.ref (ad E (y + 2)), .int (iI m1)])) → (w19 (y + 2) = zar E 15 g1) → (w19 (y + 3) = zar E 28 h) → (w19 x = .inr (2, [.ref (ad E (x + 1)), .ref (ad E (x + 3)), .int (iI oz)])) → (w19 (x + 1) = .inr (0, [.ref (ad E (x + 2)), .int (iI on)])) → (w19 (x + 2) = zar E 15 of) → (w19 (x + 3) = zar E 28 co) → (∀ k, k ≠ (y + 1) → k ≠ (y + 2) → k ≠ (y + 3) → w19 k = w0 k) → (bd h 28 0 (sz + oz)) → (0 ≤ i ∧ i ≤ 28) → (∀ j : Int, 0 ≤ j → j < i → h j = cn j + co j) → (∀ j : Int, i ≤ j → h j = cn j) → (28 - i < (fu : Int)) → W p l e rm_S_join s m a below meth cd H17 lc18 0 0 Qf (F0 m 32 ls []) := by
      intro fu
      induction fu with
      | zero => intro i h ls H17 lc18 w19 hl hH e20 e21 e22 e23 e24 e25 e26 e27 hf28 bh hi hd hk hm; exact absurd hm (by omega)
      | succ fu ih =>
        intro i h ls H17 lc18 w19 hl hH e20 e21 e22 e23 e24 e25 e26 e27 hf28 bh hi hd hk hm
        refine lv_iload_n hx hb d_S_join_32 rfl (lv_at hl 0 rfl) ?_
        refine zv_bipush hx hb d_S_join_33 rfl ?_
        refine zv_icmp_ge (tgt := 59) hx hb d_S_join_35 rfl (by omega) (by omega) (fun h29 => ?_) (fun h29 => ?_)
        · refine lv_aload_n hx hb d_S_join_59 rfl (lv_at hl 1 rfl) ?_
          refine lv_dup hx hb d_S_join_60 rfl ?_
          refine zv_get (C := "ScaledNumeralDesk$Sum") (T := TS) (N := 3) hx hb hg uS_in hown hK hH q0lt e20 rfl 2 (by decide) (hg _ wm_87) (fun _ h9 => h9) rfl d_S_join_61 ?_
          refine lv_aload_n hx hb d_S_join_64 rfl (lv_at hl 2 rfl) ?_
          refine zv_get (C := "ScaledNumeralDesk$Sum") (T := TS) (N := 3) hx hb hg uS_in hown hK hH q4lt e24 rfl 2 (by decide) (hg _ wm_87) (fun _ h9 => h9) rfl d_S_join_65 ?_
          refine zv_iadd hx hb d_S_join_68 ?_
          refine zv_put (C := "ScaledNumeralDesk$Sum") (T := TS) (N := 3) (fs' := [.ref (ad E (y + 1)), .ref (ad E (y + 3)), .int (iI (sz + oz))]) hx hb hg uS_in tyS tyS_ok nmS hown hK hH q0lt e20 rfl 2 (by decide) (hg _ wm_87) (fun _ h9 => h9) rfl (ty := tyS 2) (by decide +kernel) (rfl) (by rfl) (Nat.le_of_ble_eq_true rfl) d_S_join_69 rfl (fun H31 lc32 w30 hH33 e34 hg35 => ?_)
          have e36 : w30 (y + 1) = .inr (0, [.ref (ad E (y + 2)), .int (iI m1)]) := (hg35 (y + 1) (by omega)).trans e21
          have e37 : w30 (y + 2) = zar E 15 g1 := (hg35 (y + 2) (by omega)).trans e22
          have e38 : w30 (y + 3) = zar E 28 h := (hg35 (y + 3) (by omega)).trans e23
          have e39 : w30 x = .inr (2, [.ref (ad E (x + 1)), .ref (ad E (x + 3)), .int (iI oz)]) := (hg35 x (by omega)).trans e24
          have e40 : w30 (x + 1) = .inr (0, [.ref (ad E (x + 2)), .int (iI on)]) := (hg35 (x + 1) (by omega)).trans e25
          have e41 : w30 (x + 2) = zar E 15 of := (hg35 (x + 2) (by omega)).trans e26
          have e42 : w30 (x + 3) = zar E 28 co := (hg35 (x + 3) (by omega)).trans e27
          have hf43 : ∀ k, k ≠ (y + 1) → k ≠ (y + 2) → k ≠ (y + 3) → k ≠ y → w30 k = w0 k := fun k g0 g1 g2 g3 => (hg35 k g3).trans (hf28 k g0 g1 g2)
          refine zv_iconst hx hb d_S_join_72 ?_
          rw [hQ]
          exact z_iret hx hb hr hlk hH33 (⟨⟨(sz + oz), m1, g1, h, e34, e36, e37, e38, bd8, bh, Or.inr ⟨rfl, by omega, rfl, p27.1, p27.2.1, p27.2.2, fun j g1 g2 => hd j g1 (by omega)⟩⟩, (fun k g0 g1 g2 g3 => hf43 k g1 g2 g3 g0)⟩) d_S_join_73
        · refine lv_aload_n hx hb d_S_join_38 rfl (lv_at hl 1 rfl) ?_
          refine zv_get (C := "ScaledNumeralDesk$Sum") (T := TS) (N := 3) hx hb hg uS_in hown hK hH q0lt e20 rfl 1 (by decide) (hg _ wm_86) (fun _ h9 => h9) rfl d_S_join_39 ?_
          refine lv_iload_n hx hb d_S_join_42 rfl (lv_at hl 0 rfl) ?_
          refine lv_dup2_11 hx hb d_S_join_43 rfl rfl ?_
          refine zv_iald hx hb hK hH q3lt e23 (by omega) (by omega) (by omega) d_S_join_44 ?_
          have b44 := bh i (by omega) (by omega)
          refine lv_aload_n hx hb d_S_join_45 rfl (lv_at hl 2 rfl) ?_
          refine zv_get (C := "ScaledNumeralDesk$Sum") (T := TS) (N := 3) hx hb hg uS_in hown hK hH q4lt e24 rfl 1 (by decide) (hg _ wm_86) (fun _ h9 => h9) rfl d_S_join_46 ?_
          refine lv_iload_n hx hb d_S_join_49 rfl (lv_at hl 0 rfl) ?_
          refine zv_iald hx hb hK hH q7lt e27 (by omega) (by omega) (by omega) d_S_join_50 ?_
          have b45 := bco i (by omega) (by omega)
          refine zv_iadd hx hb d_S_join_51 ?_
          have hk9 := hk i (Int.le_refl i)
          have bq1 := bc i (by omega) (by omega)
          have bq2 := bco i (by omega) (by omega)
          refine zv_iast hx hb hK hH q3lt e23 (by omega) (by omega) (by omega) d_S_join_52 (fun H47 lc48 w46 hH49 e50 hg51 => ?_)
          have bd52 := bd_up bh i ((h i) + (co i)) (by omega)
          have e53 : w46 y = .inr (2, [.ref (ad E (y + 1)), .ref (ad E (y + 3)), .int (iI sz)]) := (hg51 y (by omega)).trans e20
          have e54 : w46 (y + 1) = .inr (0, [.ref (ad E (y + 2)), .int (iI m1)]) := (hg51 (y + 1) (by omega)).trans e21
          have e55 : w46 (y + 2) = zar E 15 g1 := (hg51 (y + 2) (by omega)).trans e22
          have e56 : w46 x = .inr (2, [.ref (ad E (x + 1)), .ref (ad E (x + 3)), .int (iI oz)]) := (hg51 x (by omega)).trans e24
          have e57 : w46 (x + 1) = .inr (0, [.ref (ad E (x + 2)), .int (iI on)]) := (hg51 (x + 1) (by omega)).trans e25
          have e58 : w46 (x + 2) = zar E 15 of := (hg51 (x + 2) (by omega)).trans e26
          have e59 : w46 (x + 3) = zar E 28 co := (hg51 (x + 3) (by omega)).trans e27
          have hf60 : ∀ k, k ≠ (y + 1) → k ≠ (y + 2) → k ≠ (y + 3) → w46 k = w0 k := fun k g0 g1 g2 => (hg51 k g2).trans (hf28 k g0 g1 g2)
          refine zv_iinc (k := 0) (lv' := [(2, .int (iI (i + 1))), (0, .ref (ad E y)), (1, .ref (ad E x))]) hx hb d_S_join_53 hl rfl (by decide) rfl (fun ls hl => ?_)
          refine lv_goto (tgt := 32) hx hb d_S_join_56 rfl ?_
          exact ih  (i + 1) (up h i ((h i) + (co i))) _ H47 lc48 w46 (lv_sub hl [0, 1, 2] rfl) hH49 e53 e54 e55 e50 e56 e57 e58 e59 (fun k g0 g1 g2 => hf60 k g0 g1 g2) (by assumption) (by omega) (by intro j g1 g2; by_cases e9 : j = i; rw [e9, up_at, hk i (Int.le_refl i)]; rw [up_ne e9]; exact hd j g1 (by omega)) (ks_step hk) (by omega)
    exact L32 ((28 - 0 : Int).toNat + 1) 0 cn _ H2 lc3 w4 (lv_sub hl [0, 1, 2] rfl) hH5 e10 e6 e7 e11 e12 e13 e14 e15 (fun k g0 g1 g2 => hf16 k g0 g1) (by exact bc2) (by omega) (by intro j g1 g2; omega) (by intro j _; rfl) (by omega)
  · refine zv_bipush hx hb d_S_join_15 rfl ?_
    rw [hQ]
    exact z_iret hx hb hr hlk hH (⟨⟨sz, sn, sf, cn, c0, c1, c2, c3, bs, bc, Or.inl ⟨rfl, by omega, rfl, rfl, rfl, rfl⟩⟩, (fun k _ _ _ _ => rfl)⟩) d_S_join_17
def rm_S_joinAA : Room := { frames := 4, cells := 0, slots := 0, locals := 85 }
set_option maxHeartbeats 4000000 in
set_option maxRecDepth 100000 in
theorem c_S_joinAA (l : Launch) (E : zE) (w0 : zW) (y : Nat) (sn sz : Int) (sf cn : Int → Int) (q0lt : y < zn E) (q1lt : y + 1 < zn E) (q2lt : y + 2 < zn E) (q3lt : y + 3 < zn E) (c0 : w0 y = .inr (2, [.ref (ad E (y + 1)), .ref (ad E (y + 3)), .int (iI sz)])) (c1 : w0 (y + 1) = .inr (0, [.ref (ad E (y + 2)), .int (iI sn)])) (c2 : w0 (y + 2) = zar E 15 sf) (c3 : w0 (y + 3) = zar E 28 cn) (bs : bd sf 15 0 9999) (hsn : sn = 0 ∨ sn = 1) (bc : bd cn 28 0 sz) (hsz : 0 ≤ sz ∧ sz ≤ 1000) (hs : V sf 15 + V sf 15 < Bp 15) : zM l y_S_join ws_S_join rm_S_joinAA E [.ref (ad E y), .ref (ad E y)] w0 (zQi E w0 (fun z w' => (∃ (s' : Int) (n' : Int) (f' : Int → Int) (c' : Int → Int), w' y = .inr (2, [.ref (ad E (y + 1)), .ref (ad E (y + 3)), .int (iI s')]) ∧ w' (y + 1) = .inr (0, [.ref (ad E (y + 2)), .int (iI n')]) ∧ w' (y + 2) = zar E 15 f' ∧ w' (y + 3) = zar E 28 c' ∧ bd f' 15 0 9999 ∧ bd c' 28 0 (s') ∧ ((z = -2 ∧ 1000 < sz + sz ∧ (s' = sz ∧ n' = sn ∧ f' = sf ∧ c' = cn)) ∨ (z = 0 ∧ sz + sz ≤ 1000 ∧ s' = sz + sz ∧ (n' = 0 ∨ n' = 1) ∧ (V f' 15 = 0 → n' = 0) ∧ sv n' (V f' 15) = sv sn (V sf 15) + sv sn (V sf 15) ∧ ∀ j : Int, 0 ≤ j → j < 28 → c' j = cn j + cn j))) ∧ ∀ k, k ≠ y → k ≠ (y + 1) → k ≠ (y + 2) → k ≠ (y + 3) → w' k = w0 k)) := by
  refine z_met (cc := b_S_join) (maxL := 3) (ret := (some .int)) (by decide +kernel) rfl (Nat.le_of_ble_eq_true rfl) ?_
  intro p e s m below meth cd ls a Qf hQ hC hl hH
  obtain ⟨hF, hr, hlk, hK, hG, hn⟩ := hC
  obtain ⟨hx, hb, hml, hown, hts⟩ := hF
  have hg : ∀ w ∈ GW, w.before a s = true := fun w h => hts w (List.mem_cons_of_mem _ h)
  have hA : ∀ q, s.heap.size ≤ q → va_A (wl E w0) s.heap.size q := fun q h => Or.inr h
  have hl : lv_has ls 3 [(0, .ref (ad E y)), (1, .ref (ad E y))] := hl
  refine lv_aload_n hx hb d_S_join_0 rfl (lv_at hl 0 rfl) ?_
  refine zv_get (C := "ScaledNumeralDesk$Sum") (T := TS) (N := 3) hx hb hg uS_in hown hK hH q0lt c0 rfl 2 (by decide) (hg _ wm_87) (fun _ h9 => h9) rfl d_S_join_1 ?_
  refine lv_aload_n hx hb d_S_join_4 rfl (lv_at hl 1 rfl) ?_
  refine zv_get (C := "ScaledNumeralDesk$Sum") (T := TS) (N := 3) hx hb hg uS_in hown hK hH q0lt c0 rfl 2 (by decide) (hg _ wm_87) (fun _ h9 => h9) rfl d_S_join_5 ?_
  refine zv_iadd hx hb d_S_join_8 ?_
  refine zv_sipush hx hb d_S_join_9 rfl ?_
  refine zv_icmp_le (tgt := 18) hx hb d_S_join_12 rfl (by omega) (by omega) (fun h1 => ?_) (fun h1 => ?_)
  · refine lv_aload_n hx hb d_S_join_18 rfl (lv_at hl 0 rfl) ?_
    refine zv_get (C := "ScaledNumeralDesk$Sum") (T := TS) (N := 3) hx hb hg uS_in hown hK hH q0lt c0 rfl 0 (by decide) (hg _ wm_85) (fun _ h9 => h9) rfl d_S_join_19 ?_
    refine lv_aload_n hx hb d_S_join_22 rfl (lv_at hl 1 rfl) ?_
    refine zv_get (C := "ScaledNumeralDesk$Sum") (T := TS) (N := 3) hx hb hg uS_in hown hK hH q0lt c0 rfl 0 (by decide) (hg _ wm_85) (fun _ h9 => h9) rfl d_S_join_23 ?_
    refine zv_iconst hx hb d_S_join_26 ?_
    refine z_callv (va_runV (As := [.ref (ad E (y + 1)), .int (iI 0)]) (rest := []) ⟨hx, hb, hml, hown, hts⟩ (c_A_increaseAA (l := l) (E := E) (w0 := w0) (q := y + 1) (f := sf) (ng := sn) (q0lt := q1lt) (q1lt := q2lt) (c0 := c1) (c1 := c2) (bf := bs) (hng := by omega) (hs := by omega) s.heap.size) (z_cwV (C := "ScaledNumeralDesk$Amount") 2 hg wm_388 wm_614 wm_5 wm_386 wm_387 (by decide +kernel) ⟨Nat.le_of_ble_eq_true rfl, Nat.le_of_ble_eq_true rfl⟩) (z_preV (r := ("ScaledNumeralDesk$Amount", TA, 2)) hK hG hn hH hA q1lt c1 rfl) rfl rfl hl.1 rfl (lv_room (Nat.le_of_ble_eq_true rfl)) d_S_join_27 ⟨Nat.zero_le _, Nat.zero_le _⟩) hH hA (fun  w4 H2 lc3 hH5 p27 => ?_)
    obtain ⟨⟨m1, g1, e6, e7, bd8, p27⟩, hg9⟩ := p27
    have bd8 : bd g1 15 0 9999 := bd8
    have p27 : (m1 = 0 ∨ m1 = 1) ∧ (V g1 15 = 0 → m1 = 0) ∧ sv m1 (V g1 15) = sv sn (V sf 15) + sv sn (V sf 15) := p27
    have e10 : w4 y = .inr (2, [.ref (ad E (y + 1)), .ref (ad E (y + 3)), .int (iI sz)]) := (hg9 y (by omega) (by omega)).trans c0
    have e11 : w4 (y + 3) = zar E 28 cn := (hg9 (y + 3) (by omega) (by omega)).trans c3
    have hf12 : ∀ k, k ≠ (y + 1) → k ≠ (y + 2) → w4 k = w0 k := fun k g0 g1 => hg9 k g0 g1
    have bc2 : bd cn 28 0 (sz + sz) := bd_w bc (by omega)
    refine zv_iconst hx hb d_S_join_30 ?_
    refine lv_istore_n (lv' := [(2, .int (iI 0)), (0, .ref (ad E y)), (1, .ref (ad E y))]) hx hb d_S_join_31 rfl hl (by decide) rfl (fun ls hl => ?_)
    have L32 : ∀ (fu : Nat) (i : Int) (h : Int → Int) (ls : Array Slot) (H13 : Heap) (lc14 : List Loc) (w15 : zW), (lv_has ls 3 [(2, .int (iI i)), (0, .ref (ad E y)), (1, .ref (ad E y))]) → (zH E w15 (va_A (wl E w0) s.heap.size) s.heap H13 lc14) → (w15 y = .inr (2, [.ref (ad E (y + 1)), .ref (ad E (y + 3)), .int (iI sz)])) → (w15 (y + 1) = .inr (0, [.ref (ad E (y + 2)), .int (iI m1)])) → (w15 (y + 2) = zar E 15 g1) → (w15 (y + 3) = zar E 28 h) → (∀ k, k ≠ (y + 1) → k ≠ (y + 2) → k ≠ (y + 3) → w15 k = w0 k) → (bd h 28 0 (sz + sz)) → (0 ≤ i ∧ i ≤ 28) → (∀ j : Int, 0 ≤ j → j < i → h j = cn j + cn j) → (∀ j : Int, i ≤ j → h j = cn j) → (28 - i < (fu : Int)) → W p l e rm_S_joinAA s m a below meth cd H13 lc14 0 0 Qf (F0 m 32 ls []) := by
      intro fu
      induction fu with
      | zero => intro i h ls H13 lc14 w15 hl hH e16 e17 e18 e19 hf20 bh hi hd hk hm; exact absurd hm (by omega)
      | succ fu ih =>
        intro i h ls H13 lc14 w15 hl hH e16 e17 e18 e19 hf20 bh hi hd hk hm
        refine lv_iload_n hx hb d_S_join_32 rfl (lv_at hl 0 rfl) ?_
        refine zv_bipush hx hb d_S_join_33 rfl ?_
        refine zv_icmp_ge (tgt := 59) hx hb d_S_join_35 rfl (by omega) (by omega) (fun h21 => ?_) (fun h21 => ?_)
        · refine lv_aload_n hx hb d_S_join_59 rfl (lv_at hl 1 rfl) ?_
          refine lv_dup hx hb d_S_join_60 rfl ?_
          refine zv_get (C := "ScaledNumeralDesk$Sum") (T := TS) (N := 3) hx hb hg uS_in hown hK hH q0lt e16 rfl 2 (by decide) (hg _ wm_87) (fun _ h9 => h9) rfl d_S_join_61 ?_
          refine lv_aload_n hx hb d_S_join_64 rfl (lv_at hl 2 rfl) ?_
          refine zv_get (C := "ScaledNumeralDesk$Sum") (T := TS) (N := 3) hx hb hg uS_in hown hK hH q0lt e16 rfl 2 (by decide) (hg _ wm_87) (fun _ h9 => h9) rfl d_S_join_65 ?_
          refine zv_iadd hx hb d_S_join_68 ?_
          refine zv_put (C := "ScaledNumeralDesk$Sum") (T := TS) (N := 3) (fs' := [.ref (ad E (y + 1)), .ref (ad E (y + 3)), .int (iI (sz + sz))]) hx hb hg uS_in tyS tyS_ok nmS hown hK hH q0lt e16 rfl 2 (by decide) (hg _ wm_87) (fun _ h9 => h9) rfl (ty := tyS 2) (by decide +kernel) (rfl) (by rfl) (Nat.le_of_ble_eq_true rfl) d_S_join_69 rfl (fun H23 lc24 w22 hH25 e26 hg27 => ?_)
          have e28 : w22 (y + 1) = .inr (0, [.ref (ad E (y + 2)), .int (iI m1)]) := (hg27 (y + 1) (by omega)).trans e17
          have e29 : w22 (y + 2) = zar E 15 g1 := (hg27 (y + 2) (by omega)).trans e18
          have e30 : w22 (y + 3) = zar E 28 h := (hg27 (y + 3) (by omega)).trans e19
          have hf31 : ∀ k, k ≠ (y + 1) → k ≠ (y + 2) → k ≠ (y + 3) → k ≠ y → w22 k = w0 k := fun k g0 g1 g2 g3 => (hg27 k g3).trans (hf20 k g0 g1 g2)
          refine zv_iconst hx hb d_S_join_72 ?_
          rw [hQ]
          exact z_iret hx hb hr hlk hH25 (⟨⟨(sz + sz), m1, g1, h, e26, e28, e29, e30, bd8, bh, Or.inr ⟨rfl, by omega, rfl, p27.1, p27.2.1, p27.2.2, fun j g1 g2 => hd j g1 (by omega)⟩⟩, (fun k g0 g1 g2 g3 => hf31 k g1 g2 g3 g0)⟩) d_S_join_73
        · refine lv_aload_n hx hb d_S_join_38 rfl (lv_at hl 1 rfl) ?_
          refine zv_get (C := "ScaledNumeralDesk$Sum") (T := TS) (N := 3) hx hb hg uS_in hown hK hH q0lt e16 rfl 1 (by decide) (hg _ wm_86) (fun _ h9 => h9) rfl d_S_join_39 ?_
          refine lv_iload_n hx hb d_S_join_42 rfl (lv_at hl 0 rfl) ?_
          refine lv_dup2_11 hx hb d_S_join_43 rfl rfl ?_
          refine zv_iald hx hb hK hH q3lt e19 (by omega) (by omega) (by omega) d_S_join_44 ?_
          have b32 := bh i (by omega) (by omega)
          refine lv_aload_n hx hb d_S_join_45 rfl (lv_at hl 2 rfl) ?_
          refine zv_get (C := "ScaledNumeralDesk$Sum") (T := TS) (N := 3) hx hb hg uS_in hown hK hH q0lt e16 rfl 1 (by decide) (hg _ wm_86) (fun _ h9 => h9) rfl d_S_join_46 ?_
          refine lv_iload_n hx hb d_S_join_49 rfl (lv_at hl 0 rfl) ?_
          refine zv_iald hx hb hK hH q3lt e19 (by omega) (by omega) (by omega) d_S_join_50 ?_
          have b33 := bh i (by omega) (by omega)
          refine zv_iadd hx hb d_S_join_51 ?_
          have hk9 := hk i (Int.le_refl i)
          have bq1 := bc i (by omega) (by omega)
          refine zv_iast hx hb hK hH q3lt e19 (by omega) (by omega) (by omega) d_S_join_52 (fun H35 lc36 w34 hH37 e38 hg39 => ?_)
          have bd40 := bd_up bh i ((h i) + (h i)) (by omega)
          have e41 : w34 y = .inr (2, [.ref (ad E (y + 1)), .ref (ad E (y + 3)), .int (iI sz)]) := (hg39 y (by omega)).trans e16
          have e42 : w34 (y + 1) = .inr (0, [.ref (ad E (y + 2)), .int (iI m1)]) := (hg39 (y + 1) (by omega)).trans e17
          have e43 : w34 (y + 2) = zar E 15 g1 := (hg39 (y + 2) (by omega)).trans e18
          have hf44 : ∀ k, k ≠ (y + 1) → k ≠ (y + 2) → k ≠ (y + 3) → w34 k = w0 k := fun k g0 g1 g2 => (hg39 k g2).trans (hf20 k g0 g1 g2)
          refine zv_iinc (k := 0) (lv' := [(2, .int (iI (i + 1))), (0, .ref (ad E y)), (1, .ref (ad E y))]) hx hb d_S_join_53 hl rfl (by decide) rfl (fun ls hl => ?_)
          refine lv_goto (tgt := 32) hx hb d_S_join_56 rfl ?_
          exact ih  (i + 1) (up h i ((h i) + (h i))) _ H35 lc36 w34 (lv_sub hl [0, 1, 2] rfl) hH37 e41 e42 e43 e38 (fun k g0 g1 g2 => hf44 k g0 g1 g2) (by assumption) (by omega) (by intro j g1 g2; by_cases e9 : j = i; rw [e9, up_at, hk i (Int.le_refl i)]; rw [up_ne e9]; exact hd j g1 (by omega)) (ks_step hk) (by omega)
    exact L32 ((28 - 0 : Int).toNat + 1) 0 cn _ H2 lc3 w4 (lv_sub hl [0, 1, 2] rfl) hH5 e10 e6 e7 e11 (fun k g0 g1 g2 => hf12 k g0 g1) (by exact bc2) (by omega) (by intro j g1 g2; omega) (by intro j _; rfl) (by omega)
  · refine zv_bipush hx hb d_S_join_15 rfl ?_
    rw [hQ]
    exact z_iret hx hb hr hlk hH (⟨⟨sz, sn, sf, cn, c0, c1, c2, c3, bs, bc, Or.inl ⟨rfl, by omega, rfl, rfl, rfl, rfl⟩⟩, (fun k _ _ _ _ => rfl)⟩) d_S_join_17
end
section
def rm_S_result : Room := { frames := 5, cells := 0, slots := 0, locals := 104 }
set_option maxHeartbeats 4000000 in
set_option maxRecDepth 100000 in
theorem c_S_result (l : Launch) (E : zE) (w0 : zW) (y : Nat) (sn sz : Int) (sf cn : Int → Int) (q : Nat) (kd : Nat) (pl ng : Int) (f : Int → Int) (q0lt : y < zn E) (q1lt : y + 1 < zn E) (q2lt : y + 2 < zn E) (q3lt : y + 3 < zn E) (q4lt : q < zn E) (q5lt : q + 1 < zn E) (q6lt : q + 2 < zn E) (c0 : w0 y = .inr (2, [.ref (ad E (y + 1)), .ref (ad E (y + 3)), .int (iI sz)])) (c1 : w0 (y + 1) = .inr (0, [.ref (ad E (y + 2)), .int (iI sn)])) (c2 : w0 (y + 2) = zar E 15 sf) (c3 : w0 (y + 3) = zar E 28 cn) (c4 : w0 q = .inr (1, [.ref (zg E (1 + kd)), .int (iI pl), .ref (ad E (q + 1))])) (c5 : w0 (q + 1) = .inr (0, [.ref (ad E (q + 2)), .int (iI ng)])) (c6 : w0 (q + 2) = zar E 15 f) (bs : bd sf 15 0 9999) (hsn : sn = 0 ∨ sn = 1) (bc : bd cn 28 0 sz) (hsz : 0 ≤ sz ∧ sz ≤ 1000) (bf : bd f 15 0 9999) (hkd : kd < 4) (hng : ng = 0 ∨ ng = 1) (hqy : y + 3 < q ∨ q + 2 < y) : zM l y_S_resultInto ws_S_resultInto rm_S_result E [.ref (ad E y), .ref (ad E q)] w0 (zQi E w0 (fun z w' => (∃ (k' : Nat) (p' : Int) (n' : Int) (f' : Int → Int), w' q = .inr (1, [.ref (zg E (1 + k')), .int (iI p'), .ref (ad E (q + 1))]) ∧ w' (q + 1) = .inr (0, [.ref (ad E (q + 2)), .int (iI n')]) ∧ w' (q + 2) = zar E 15 f' ∧ bd f' 15 0 9999 ∧ (k' < 4 ∧ (n' = 0 ∨ n' = 1) ∧ ((z = -6 ∧ Sm cn 28 = 0) ∨ (Sm cn 28 ≠ 0 ∧ ((z = 0 ∧ k' = 3 ∧ (cn 25 ≠ 0 ∨ (cn 26 ≠ 0 ∧ cn 27 ≠ 0))) ∨ (cn 25 = 0 ∧ z = 0 ∧ k' = 0 ∧ cn 26 = 0 ∧ cn 27 ≠ 0) ∨ (cn 25 = 0 ∧ z = 0 ∧ k' = 2 ∧ cn 26 ≠ 0 ∧ cn 27 = 0) ∨ (cn 25 = 0 ∧ cn 26 = 0 ∧ cn 27 = 0 ∧ k' = 1 ∧ ∃ g : Int, 0 ≤ g ∧ g ≤ 24 ∧ (g = 0 ∨ cn g ≠ 0) ∧ (∀ k : Int, g < k → k ≤ 24 → cn k = 0) ∧ p' = g ∧ V f' 15 = Rn (V sf 15) (24 - g) % Bp 15 ∧ (V f' 15 = 0 → n' = 0) ∧ (0 < V f' 15 → n' = sn) ∧ ((z = -3 ∧ Tp 56 ≤ V f' 15) ∨ (z = 0 ∧ V f' 15 < Tp 56)))))))) ∧ ∀ k, k ≠ q → k ≠ (q + 1) → k ≠ (q + 2) → w' k = w0 k)) := by
  refine z_met (cc := b_S_resultInto) (maxL := 4) (ret := (some .int)) (by decide +kernel) rfl (Nat.le_of_ble_eq_true rfl) ?_
  intro p e s m below meth cd ls a Qf hQ hC hl hH
  obtain ⟨hF, hr, hlk, hK, hG, hn⟩ := hC
  obtain ⟨hx, hb, hml, hown, hts⟩ := hF
  have hg : ∀ w ∈ GW, w.before a s = true := fun w h => hts w (List.mem_cons_of_mem _ h)
  have hA : ∀ q, s.heap.size ≤ q → va_A (wl E w0) s.heap.size q := fun q h => Or.inr h
  have hl : lv_has ls 4 [(0, .ref (ad E y)), (1, .ref (ad E q))] := hl
  refine lv_aload_n hx hb d_S_resultInto_0 rfl (lv_at hl 0 rfl) ?_
  refine z_calli (va_runV (As := []) (rest := []) ⟨hx, hb, hml, hown, hts⟩ (c_S_members (l := l) (E := E) (w0 := w0) (y := y) (sn := sn) (sz := sz) (sf := sf) (cn := cn) (q0lt := q0lt) (q1lt := q1lt) (q2lt := q2lt) (q3lt := q3lt) (c0 := c0) (c1 := c1) (c2 := c2) (c3 := c3) (bs := bs) (hsn := by omega) (bc := bc) (hsz := by omega) s.heap.size) (z_cwV (C := "ScaledNumeralDesk$Sum") 0 hg wm_648 wm_657 wm_6 wm_646 wm_647 (by decide +kernel) ⟨Nat.le_of_ble_eq_true rfl, Nat.le_of_ble_eq_true rfl⟩) (z_preV (r := ("ScaledNumeralDesk$Sum", TS, 3)) hK hG hn hH hA q0lt c0 rfl) rfl rfl hl.1 rfl (lv_room (Nat.le_of_ble_eq_true rfl)) d_S_resultInto_1 ⟨Nat.zero_le _, Nat.zero_le _⟩) hH hA (fun z5 w3 H1 lc2 hH4 p1 => ?_)
  obtain ⟨ew6, p1⟩ := p1
  rw [ew6] at hH4
  have p1 : z5 = Sm cn 28 ∧ 0 ≤ z5 ∧ z5 ≤ 28000 := p1
  refine zv_if_ne (tgt := 10) hx hb d_S_resultInto_4 rfl (by omega) (fun h7 => ?_) (fun h7 => ?_)
  · have L25 : ∀ (u : Int) (ls : Array Slot) (H8 : Heap) (lc9 : List Loc), (lv_has ls 4 [(0, .ref (ad E y)), (1, .ref (ad E q))]) → (zH E w0 (va_A (wl E w0) s.heap.size) s.heap H8 lc9) → ((u = 1 ∧ cn 26 ≠ 0) ∨ (u = 0 ∧ cn 26 = 0)) → W p l e rm_S_result s m a below meth cd H8 lc9 0 0 Qf (F0 m 25 ls [.int (iI u)]) := by
      intro u ls H8 lc9 hl hH hu
      refine lv_istore_n (lv' := [(2, .int (iI u)), (0, .ref (ad E y)), (1, .ref (ad E q))]) hx hb d_S_resultInto_25 rfl hl (by decide) rfl (fun ls hl => ?_)
      have L41 : ∀ (v : Int) (ls : Array Slot) (H10 : Heap) (lc11 : List Loc), (lv_has ls 4 [(2, .int (iI u)), (0, .ref (ad E y)), (1, .ref (ad E q))]) → (zH E w0 (va_A (wl E w0) s.heap.size) s.heap H10 lc11) → ((v = 1 ∧ cn 27 ≠ 0) ∨ (v = 0 ∧ cn 27 = 0)) → W p l e rm_S_result s m a below meth cd H10 lc11 0 0 Qf (F0 m 41 ls [.int (iI v)]) := by
        intro v ls H10 lc11 hl hH hv
        refine lv_istore_n (lv' := [(3, .int (iI v)), (2, .int (iI u)), (0, .ref (ad E y)), (1, .ref (ad E q))]) hx hb d_S_resultInto_41 rfl hl (by decide) rfl (fun ls hl => ?_)
        have L60 : ∀  (ls : Array Slot) (H12 : Heap) (lc13 : List Loc), (lv_has ls 4 [(3, .int (iI v)), (2, .int (iI u)), (0, .ref (ad E y)), (1, .ref (ad E q))]) → (zH E w0 (va_A (wl E w0) s.heap.size) s.heap H12 lc13) → (cn 25 ≠ 0 ∨ (cn 26 ≠ 0 ∧ cn 27 ≠ 0)) → W p l e rm_S_result s m a below meth cd H12 lc13 0 0 Qf (F0 m 60 ls []) := by
          intro ls H12 lc13 hl hH h60
          refine lv_aload_n hx hb d_S_resultInto_60 rfl (lv_at hl 3 rfl) ?_
          refine zv_kind hx hb hG hH hown 3 (by decide) (hg _ wm_612) (fun _ h9 => h9) d_S_resultInto_61 ?_
          refine z_callv (va_runV (As := [.ref (zg E (1 + 3))]) (rest := []) ⟨hx, hb, hml, hown, hts⟩ (c_N_become (l := l) (E := E) (w0 := w0) (q := q) (kd := kd) (k2 := 3) (pl := pl) (ng := ng) (f := f) (q0lt := q4lt) (q1lt := q5lt) (q2lt := q6lt) (c0 := c4) (c1 := c5) (c2 := c6) (bf := bf) (hkd := by omega) (hng := by omega) H12.size) (z_cwV (C := "ScaledNumeralDesk$Numeral") 1 hg wm_230 wm_658 wm_2 wm_228 wm_229 (by decide +kernel) ⟨Nat.le_of_ble_eq_true rfl, Nat.le_of_ble_eq_true rfl⟩) (z_preV (r := ("ScaledNumeralDesk$Numeral", TN, 3)) hK hG hn hH hA q4lt c4 rfl) rfl rfl hl.1 rfl (lv_room (Nat.le_of_ble_eq_true rfl)) d_S_resultInto_64 ⟨Nat.zero_le _, Nat.zero_le _⟩) hH hA (fun  w16 H14 lc15 hH17 p64 => ?_)
          obtain ⟨⟨f_18, e19, e20, e21, bd22, p64⟩, hg23⟩ := p64
          have bd22 : bd f_18 15 0 9999 := bd22
          have p64 : ∀ j : Int, 0 ≤ j → j < 15 → f_18 j = 0 := p64
          have e24 : w16 y = .inr (2, [.ref (ad E (y + 1)), .ref (ad E (y + 3)), .int (iI sz)]) := (hg23 y (by omega) (by omega) (by omega)).trans c0
          have e25 : w16 (y + 1) = .inr (0, [.ref (ad E (y + 2)), .int (iI sn)]) := (hg23 (y + 1) (by omega) (by omega) (by omega)).trans c1
          have e26 : w16 (y + 2) = zar E 15 sf := (hg23 (y + 2) (by omega) (by omega) (by omega)).trans c2
          have e27 : w16 (y + 3) = zar E 28 cn := (hg23 (y + 3) (by omega) (by omega) (by omega)).trans c3
          have hf28 : ∀ k, k ≠ q → k ≠ (q + 1) → k ≠ (q + 2) → w16 k = w0 k := fun k g0 g1 g2 => hg23 k g0 g1 g2
          refine zv_iconst hx hb d_S_resultInto_67 ?_
          rw [hQ]
          exact z_iret hx hb hr hlk hH17 (⟨⟨3, 0, 0, f_18, e19, e20, e21, bd22, ⟨by omega, Or.inl rfl, Or.inr ⟨by omega, Or.inl ⟨rfl, rfl, h60⟩⟩⟩⟩, (fun k g0 g1 g2 => hf28 k g0 g1 g2)⟩) d_S_resultInto_68
        have L69 : ∀  (ls : Array Slot) (H29 : Heap) (lc30 : List Loc), (lv_has ls 4 [(3, .int (iI v)), (2, .int (iI u)), (0, .ref (ad E y)), (1, .ref (ad E q))]) → (zH E w0 (va_A (wl E w0) s.heap.size) s.heap H29 lc30) → (cn 25 = 0 ∧ ¬ (cn 26 ≠ 0 ∧ cn 27 ≠ 0)) → W p l e rm_S_result s m a below meth cd H29 lc30 0 0 Qf (F0 m 69 ls []) := by
          intro ls H29 lc30 hl hH h69
          have L77 : ∀  (ls : Array Slot) (H31 : Heap) (lc32 : List Loc), (lv_has ls 4 [(3, .int (iI v)), (2, .int (iI u)), (0, .ref (ad E y)), (1, .ref (ad E q))]) → (zH E w0 (va_A (wl E w0) s.heap.size) s.heap H31 lc32) → (cn 26 ≠ 0 ∨ cn 27 ≠ 0) → W p l e rm_S_result s m a below meth cd H31 lc32 0 0 Qf (F0 m 77 ls []) := by
            intro ls H31 lc32 hl hH h77
            refine lv_aload_n hx hb d_S_resultInto_77 rfl (lv_at hl 3 rfl) ?_
            refine lv_iload_n hx hb d_S_resultInto_78 rfl (lv_at hl 0 rfl) ?_
            refine zv_if_eq (tgt := 86) hx hb d_S_resultInto_79 rfl (by omega) (fun h33 => ?_) (fun h33 => ?_)
            · refine zv_iconst hx hb d_S_resultInto_86 ?_
              refine z_callv (va_runV (As := [.int (iI 1)]) (rest := []) ⟨hx, hb, hml, hown, hts⟩ (c_N_becomeInf (l := l) (E := E) (w0 := w0) (q := q) (kd := kd) (pl := pl) (ng := ng) (sg := 1) (f := f) (q0lt := q4lt) (q1lt := q5lt) (q2lt := q6lt) (c0 := c4) (c1 := c5) (c2 := c6) (bf := bf) (hkd := by omega) (hng := by omega) (hsg := by omega) H31.size) (z_cwV (C := "ScaledNumeralDesk$Numeral") 1 hg wm_247 wm_659 wm_2 wm_245 wm_246 (by decide +kernel) ⟨Nat.le_of_ble_eq_true rfl, Nat.le_of_ble_eq_true rfl⟩) (z_preV (r := ("ScaledNumeralDesk$Numeral", TN, 3)) hK hG hn hH hA q4lt c4 rfl) rfl rfl hl.1 rfl (lv_room (Nat.le_of_ble_eq_true rfl)) d_S_resultInto_87 ⟨Nat.zero_le _, Nat.zero_le _⟩) hH hA (fun  w36 H34 lc35 hH37 p87 => ?_)
              obtain ⟨⟨k_38, f_39, e40, e41, e42, bd43, p87⟩, hg44⟩ := p87
              have bd43 : bd f_39 15 0 9999 := bd43
              have p87 : (∀ j : Int, 0 ≤ j → j < 15 → f_39 j = 0) ∧ (((1 : Int) < 0 ∧ k_38 = 0) ∨ (0 ≤ (1 : Int) ∧ k_38 = 2)) := p87
              have e45 : w36 y = .inr (2, [.ref (ad E (y + 1)), .ref (ad E (y + 3)), .int (iI sz)]) := (hg44 y (by omega) (by omega) (by omega)).trans c0
              have e46 : w36 (y + 1) = .inr (0, [.ref (ad E (y + 2)), .int (iI sn)]) := (hg44 (y + 1) (by omega) (by omega) (by omega)).trans c1
              have e47 : w36 (y + 2) = zar E 15 sf := (hg44 (y + 2) (by omega) (by omega) (by omega)).trans c2
              have e48 : w36 (y + 3) = zar E 28 cn := (hg44 (y + 3) (by omega) (by omega) (by omega)).trans c3
              have hf49 : ∀ k, k ≠ q → k ≠ (q + 1) → k ≠ (q + 2) → w36 k = w0 k := fun k g0 g1 g2 => hg44 k g0 g1 g2
              refine zv_iconst hx hb d_S_resultInto_90 ?_
              rw [hQ]
              exact z_iret hx hb hr hlk hH37 (⟨⟨k_38, 0, 0, f_39, e40, e41, e42, bd43, ⟨by omega, Or.inl rfl, Or.inr ⟨by omega, by omega⟩⟩⟩, (fun k g0 g1 g2 => hf49 k g0 g1 g2)⟩) d_S_resultInto_91
            · refine zv_iconst hx hb d_S_resultInto_82 ?_
              refine lv_goto (tgt := 87) hx hb d_S_resultInto_83 rfl ?_
              refine z_callv (va_runV (As := [.int (iI (-1))]) (rest := []) ⟨hx, hb, hml, hown, hts⟩ (c_N_becomeInf (l := l) (E := E) (w0 := w0) (q := q) (kd := kd) (pl := pl) (ng := ng) (sg := -1) (f := f) (q0lt := q4lt) (q1lt := q5lt) (q2lt := q6lt) (c0 := c4) (c1 := c5) (c2 := c6) (bf := bf) (hkd := by omega) (hng := by omega) (hsg := by omega) H31.size) (z_cwV (C := "ScaledNumeralDesk$Numeral") 1 hg wm_247 wm_659 wm_2 wm_245 wm_246 (by decide +kernel) ⟨Nat.le_of_ble_eq_true rfl, Nat.le_of_ble_eq_true rfl⟩) (z_preV (r := ("ScaledNumeralDesk$Numeral", TN, 3)) hK hG hn hH hA q4lt c4 rfl) rfl rfl hl.1 rfl (lv_room (Nat.le_of_ble_eq_true rfl)) d_S_resultInto_87 ⟨Nat.zero_le _, Nat.zero_le _⟩) hH hA (fun  w52 H50 lc51 hH53 p87 => ?_)
              obtain ⟨⟨k_54, f_55, e56, e57, e58, bd59, p87⟩, hg60⟩ := p87
              have bd59 : bd f_55 15 0 9999 := bd59
              have p87 : (∀ j : Int, 0 ≤ j → j < 15 → f_55 j = 0) ∧ (((-1 : Int) < 0 ∧ k_54 = 0) ∨ (0 ≤ (-1 : Int) ∧ k_54 = 2)) := p87
              have e61 : w52 y = .inr (2, [.ref (ad E (y + 1)), .ref (ad E (y + 3)), .int (iI sz)]) := (hg60 y (by omega) (by omega) (by omega)).trans c0
              have e62 : w52 (y + 1) = .inr (0, [.ref (ad E (y + 2)), .int (iI sn)]) := (hg60 (y + 1) (by omega) (by omega) (by omega)).trans c1
              have e63 : w52 (y + 2) = zar E 15 sf := (hg60 (y + 2) (by omega) (by omega) (by omega)).trans c2
              have e64 : w52 (y + 3) = zar E 28 cn := (hg60 (y + 3) (by omega) (by omega) (by omega)).trans c3
              have hf65 : ∀ k, k ≠ q → k ≠ (q + 1) → k ≠ (q + 2) → w52 k = w0 k := fun k g0 g1 g2 => hg60 k g0 g1 g2
              refine zv_iconst hx hb d_S_resultInto_90 ?_
              rw [hQ]
              exact z_iret hx hb hr hlk hH53 (⟨⟨k_54, 0, 0, f_55, e56, e57, e58, bd59, ⟨by omega, Or.inl rfl, Or.inr ⟨by omega, by omega⟩⟩⟩, (fun k g0 g1 g2 => hf65 k g0 g1 g2)⟩) d_S_resultInto_91
          refine lv_iload_n hx hb d_S_resultInto_69 rfl (lv_at hl 1 rfl) ?_
          refine zv_if_ne (tgt := 77) hx hb d_S_resultInto_70 rfl (by omega) (fun h66 => ?_) (fun h66 => ?_)
          · exact L77 _ H29 lc30 (lv_sub hl [0, 1, 2, 3] rfl) hH (by omega)
          · refine lv_iload_n hx hb d_S_resultInto_73 rfl (lv_at hl 0 rfl) ?_
            refine zv_if_eq (tgt := 92) hx hb d_S_resultInto_74 rfl (by omega) (fun h67 => ?_) (fun h67 => ?_)
            · refine lv_aload_n hx hb d_S_resultInto_92 rfl (lv_at hl 3 rfl) ?_
              refine zv_kind hx hb hG hH hown 1 (by decide) (hg _ wm_660) (fun _ h9 => h9) d_S_resultInto_93 ?_
              refine z_callv (va_runV (As := [.ref (zg E (1 + 1))]) (rest := []) ⟨hx, hb, hml, hown, hts⟩ (c_N_become (l := l) (E := E) (w0 := w0) (q := q) (kd := kd) (k2 := 1) (pl := pl) (ng := ng) (f := f) (q0lt := q4lt) (q1lt := q5lt) (q2lt := q6lt) (c0 := c4) (c1 := c5) (c2 := c6) (bf := bf) (hkd := by omega) (hng := by omega) H29.size) (z_cwV (C := "ScaledNumeralDesk$Numeral") 1 hg wm_230 wm_658 wm_2 wm_228 wm_229 (by decide +kernel) ⟨Nat.le_of_ble_eq_true rfl, Nat.le_of_ble_eq_true rfl⟩) (z_preV (r := ("ScaledNumeralDesk$Numeral", TN, 3)) hK hG hn hH hA q4lt c4 rfl) rfl rfl hl.1 rfl (lv_room (Nat.le_of_ble_eq_true rfl)) d_S_resultInto_96 ⟨Nat.zero_le _, Nat.zero_le _⟩) hH hA (fun  w70 H68 lc69 hH71 p96 => ?_)
              obtain ⟨⟨f_72, e73, e74, e75, bd76, p96⟩, hg77⟩ := p96
              have bd76 : bd f_72 15 0 9999 := bd76
              have p96 : ∀ j : Int, 0 ≤ j → j < 15 → f_72 j = 0 := p96
              have e78 : w70 y = .inr (2, [.ref (ad E (y + 1)), .ref (ad E (y + 3)), .int (iI sz)]) := (hg77 y (by omega) (by omega) (by omega)).trans c0
              have e79 : w70 (y + 1) = .inr (0, [.ref (ad E (y + 2)), .int (iI sn)]) := (hg77 (y + 1) (by omega) (by omega) (by omega)).trans c1
              have e80 : w70 (y + 2) = zar E 15 sf := (hg77 (y + 2) (by omega) (by omega) (by omega)).trans c2
              have e81 : w70 (y + 3) = zar E 28 cn := (hg77 (y + 3) (by omega) (by omega) (by omega)).trans c3
              have hf82 : ∀ k, k ≠ q → k ≠ (q + 1) → k ≠ (q + 2) → w70 k = w0 k := fun k g0 g1 g2 => hg77 k g0 g1 g2
              refine lv_aload_n hx hb d_S_resultInto_99 rfl (lv_at hl 3 rfl) ?_
              refine zv_get (C := "ScaledNumeralDesk$Numeral") (T := TN) (N := 3) hx hb hg uN_in hown hK hH71 q4lt e73 rfl 2 (by decide) (hg _ wm_66) (fun _ h9 => h9) rfl d_S_resultInto_100 ?_
              refine lv_aload_n hx hb d_S_resultInto_103 rfl (lv_at hl 2 rfl) ?_
              refine zv_get (C := "ScaledNumeralDesk$Sum") (T := TS) (N := 3) hx hb hg uS_in hown hK hH71 q0lt e78 rfl 0 (by decide) (hg _ wm_85) (fun _ h9 => h9) rfl d_S_resultInto_104 ?_
              refine z_callv (va_runV (As := [.ref (ad E (y + 1))]) (rest := []) ⟨hx, hb, hml, hown, hts⟩ (c_A_take (l := l) (E := E) (w0 := w70) (q := q + 1) (r := y + 1) (f := f_72) (g := sf) (ng := 0) (no := sn) (q0lt := q5lt) (q1lt := q6lt) (q2lt := q1lt) (q3lt := q2lt) (c0 := e74) (c1 := e75) (c2 := e79) (c3 := e80) (bf := bd76) (bg := bs) (hno := by omega) (hqr := by omega) H68.size) (z_cwV (C := "ScaledNumeralDesk$Amount") 1 hg wm_328 wm_661 wm_5 wm_326 wm_327 (by decide +kernel) ⟨Nat.le_of_ble_eq_true rfl, Nat.le_of_ble_eq_true rfl⟩) (z_preV (r := ("ScaledNumeralDesk$Amount", TA, 2)) hK hG hn hH71 hA q5lt e74 rfl) rfl rfl hl.1 rfl (lv_room (Nat.le_of_ble_eq_true rfl)) d_S_resultInto_107 ⟨Nat.zero_le _, Nat.zero_le _⟩) hH71 hA (fun  w85 H83 lc84 hH86 p107 => ?_)
              obtain ⟨⟨f_87, e88, e89, bd90, p107⟩, hg91⟩ := p107
              have bd90 : bd f_87 15 0 9999 := bd90
              have p107 : V f_87 15 = V sf 15 := p107
              have e92 : w85 y = .inr (2, [.ref (ad E (y + 1)), .ref (ad E (y + 3)), .int (iI sz)]) := (hg91 y (by omega) (by omega)).trans e78
              have e93 : w85 (y + 1) = .inr (0, [.ref (ad E (y + 2)), .int (iI sn)]) := (hg91 (y + 1) (by omega) (by omega)).trans e79
              have e94 : w85 (y + 2) = zar E 15 sf := (hg91 (y + 2) (by omega) (by omega)).trans e80
              have e95 : w85 (y + 3) = zar E 28 cn := (hg91 (y + 3) (by omega) (by omega)).trans e81
              have e96 : w85 q = .inr (1, [.ref (zg E (1 + 1)), .int (iI 0), .ref (ad E (q + 1))]) := (hg91 q (by omega) (by omega)).trans e73
              have hf97 : ∀ k, k ≠ q → k ≠ (q + 1) → k ≠ (q + 2) → w85 k = w0 k := fun k g0 g1 g2 => (hg91 k g1 g2).trans (hf82 k g0 g1 g2)
              refine lv_aload_n hx hb d_S_resultInto_110 rfl (lv_at hl 3 rfl) ?_
              refine lv_aload_n hx hb d_S_resultInto_111 rfl (lv_at hl 2 rfl) ?_
              refine z_calli (va_runV (As := []) (rest := [.ref (ad E q)]) ⟨hx, hb, hml, hown, hts⟩ (c_S_greatest (l := l) (E := E) (w0 := w85) (y := y) (sn := sn) (sz := sz) (sf := sf) (cn := cn) (q0lt := q0lt) (q1lt := q1lt) (q2lt := q2lt) (q3lt := q3lt) (c0 := e92) (c1 := e93) (c2 := e94) (c3 := e95) (bs := bs) (hsn := by omega) (bc := bc) (hsz := by omega) H83.size) (z_cwV (C := "ScaledNumeralDesk$Sum") 0 hg wm_665 wm_662 wm_6 wm_664 wm_s28 (by decide +kernel) ⟨Nat.le_of_ble_eq_true rfl, Nat.le_of_ble_eq_true rfl⟩) (z_preV (r := ("ScaledNumeralDesk$Sum", TS, 3)) hK hG hn hH86 hA q0lt e92 rfl) rfl rfl hl.1 rfl (lv_room (Nat.le_of_ble_eq_true rfl)) d_S_resultInto_112 ⟨Nat.zero_le _, Nat.zero_le _⟩) hH86 hA (fun g w100 H98 lc99 hH101 p112 => ?_)
              obtain ⟨ew102, p112⟩ := p112
              rw [ew102] at hH101
              have p112 : 0 ≤ g ∧ g ≤ 24 ∧ (g = 0 ∨ cn g ≠ 0) ∧ ∀ k : Int, g < k → k ≤ 24 → cn k = 0 := p112
              refine z_callv (va_runV (As := [.int (iI g)]) (rest := []) ⟨hx, hb, hml, hown, hts⟩ (c_N_roundAt (l := l) (E := E) (w0 := w85) (q := q) (kd := 1) (pl := 0) (ng := sn) (x := g) (f := f_87) (q0lt := q4lt) (q1lt := q5lt) (q2lt := q6lt) (c0 := e96) (c1 := e88) (c2 := e89) (bf := bd90) (hkd := by omega) (hng := by omega) (hx0 := by omega) H98.size) (z_cwV (C := "ScaledNumeralDesk$Numeral") 1 hg wm_526 wm_666 wm_2 wm_524 wm_525 (by decide +kernel) ⟨Nat.le_of_ble_eq_true rfl, Nat.le_of_ble_eq_true rfl⟩) (z_preV (r := ("ScaledNumeralDesk$Numeral", TN, 3)) hK hG hn hH101 hA q4lt e96 rfl) rfl rfl hl.1 rfl (lv_room (Nat.le_of_ble_eq_true rfl)) d_S_resultInto_115 ⟨Nat.zero_le _, Nat.zero_le _⟩) hH101 hA (fun  w105 H103 lc104 hH106 p115 => ?_)
              obtain ⟨⟨p_107, n_108, f_109, e110, e111, e112, bd113, p115⟩, hg114⟩ := p115
              have bd113 : bd f_109 15 0 9999 := bd113
              have p115 : V f_109 15 = Rn (V f_87 15) (24 - g) % Bp 15 ∧ (n_108 = 0 ∨ n_108 = 1) ∧ (V f_109 15 = 0 → n_108 = 0) ∧ (0 < V f_109 15 → n_108 = sn) ∧ p_107 = max g 0 := p115
              have e115 : w105 y = .inr (2, [.ref (ad E (y + 1)), .ref (ad E (y + 3)), .int (iI sz)]) := (hg114 y (by omega) (by omega) (by omega)).trans e92
              have e116 : w105 (y + 1) = .inr (0, [.ref (ad E (y + 2)), .int (iI sn)]) := (hg114 (y + 1) (by omega) (by omega) (by omega)).trans e93
              have e117 : w105 (y + 2) = zar E 15 sf := (hg114 (y + 2) (by omega) (by omega) (by omega)).trans e94
              have e118 : w105 (y + 3) = zar E 28 cn := (hg114 (y + 3) (by omega) (by omega) (by omega)).trans e95
              have hf119 : ∀ k, k ≠ q → k ≠ (q + 1) → k ≠ (q + 2) → w105 k = w0 k := fun k g0 g1 g2 => (hg114 k g0 g1 g2).trans (hf97 k g0 g1 g2)
              refine lv_aload_n hx hb d_S_resultInto_118 rfl (lv_at hl 3 rfl) ?_
              refine z_calli (va_runV (As := []) (rest := []) ⟨hx, hb, hml, hown, hts⟩ (c_N_isTooLarge (l := l) (E := E) (w0 := w105) (q := q) (kd := 1) (pl := p_107) (ng := n_108) (f := f_109) (q0lt := q4lt) (q1lt := q5lt) (q2lt := q6lt) (c0 := e110) (c1 := e111) (c2 := e112) (bf := bd113) (hkd := by omega) (hng := by omega) H103.size) (z_cwV (C := "ScaledNumeralDesk$Numeral") 0 hg wm_304 wm_667 wm_2 wm_302 wm_303 (by decide +kernel) ⟨Nat.le_of_ble_eq_true rfl, Nat.le_of_ble_eq_true rfl⟩) (z_preV (r := ("ScaledNumeralDesk$Numeral", TN, 3)) hK hG hn hH106 hA q4lt e110 rfl) rfl rfl hl.1 rfl (lv_room (Nat.le_of_ble_eq_true rfl)) d_S_resultInto_119 ⟨Nat.zero_le _, Nat.zero_le _⟩) hH106 hA (fun z124 w122 H120 lc121 hH123 p119 => ?_)
              obtain ⟨ew125, p119⟩ := p119
              rw [ew125] at hH123
              have p119 : (z124 = 1 ∧ Tp 56 ≤ V f_109 15) ∨ (z124 = 0 ∧ V f_109 15 < Tp 56) := p119
              refine zv_if_eq (tgt := 130) hx hb d_S_resultInto_122 rfl (by omega) (fun h126 => ?_) (fun h126 => ?_)
              · refine zv_iconst hx hb d_S_resultInto_130 ?_
                rw [hQ]
                exact z_iret hx hb hr hlk hH123 (⟨⟨1, p_107, n_108, f_109, e110, e111, e112, bd113, ⟨by omega, p115.2.1, Or.inr ⟨by omega, Or.inr (Or.inr (Or.inr ⟨by omega, by omega, by omega, rfl, g, p112.1, p112.2.1, p112.2.2.1, p112.2.2.2, by rw [p115.2.2.2.2]; omega, by rw [p115.1, p107], p115.2.2.1, p115.2.2.2.1, by omega⟩))⟩⟩⟩, (fun k g0 g1 g2 => hf119 k g0 g1 g2)⟩) d_S_resultInto_131
              · refine zv_bipush hx hb d_S_resultInto_125 rfl ?_
                refine lv_goto (tgt := 131) hx hb d_S_resultInto_127 rfl ?_
                rw [hQ]
                exact z_iret hx hb hr hlk hH123 (⟨⟨1, p_107, n_108, f_109, e110, e111, e112, bd113, ⟨by omega, p115.2.1, Or.inr ⟨by omega, Or.inr (Or.inr (Or.inr ⟨by omega, by omega, by omega, rfl, g, p112.1, p112.2.1, p112.2.2.1, p112.2.2.2, by rw [p115.2.2.2.2]; omega, by rw [p115.1, p107], p115.2.2.1, p115.2.2.2.1, by omega⟩))⟩⟩⟩, (fun k g0 g1 g2 => hf119 k g0 g1 g2)⟩) d_S_resultInto_131
            · exact L77 _ H29 lc30 (lv_sub hl [0, 1, 2, 3] rfl) hH (by omega)
        refine lv_aload_n hx hb d_S_resultInto_42 rfl (lv_at hl 2 rfl) ?_
        refine zv_get (C := "ScaledNumeralDesk$Sum") (T := TS) (N := 3) hx hb hg uS_in hown hK hH q0lt c0 rfl 1 (by decide) (hg _ wm_86) (fun _ h9 => h9) rfl d_S_resultInto_43 ?_
        refine zv_bipush hx hb d_S_resultInto_46 rfl ?_
        refine zv_iald hx hb hK hH q3lt c3 (by omega) (by omega) (by omega) d_S_resultInto_48 ?_
        have b127 := bc 25 (by omega) (by omega)
        refine zv_if_ne (tgt := 60) hx hb d_S_resultInto_49 rfl (by omega) (fun h128 => ?_) (fun h128 => ?_)
        · exact L60 _ H10 lc11 (lv_sub hl [0, 1, 2, 3] rfl) hH (by omega)
        · refine lv_iload_n hx hb d_S_resultInto_52 rfl (lv_at hl 1 rfl) ?_
          refine zv_if_eq (tgt := 69) hx hb d_S_resultInto_53 rfl (by omega) (fun h129 => ?_) (fun h129 => ?_)
          · have L77 : ∀  (ls : Array Slot) (H130 : Heap) (lc131 : List Loc), (lv_has ls 4 [(3, .int (iI v)), (2, .int (iI u)), (0, .ref (ad E y)), (1, .ref (ad E q))]) → (zH E w0 (va_A (wl E w0) s.heap.size) s.heap H130 lc131) → (cn 26 ≠ 0 ∨ cn 27 ≠ 0) → W p l e rm_S_result s m a below meth cd H130 lc131 0 0 Qf (F0 m 77 ls []) := by
              intro ls H130 lc131 hl hH h77
              refine lv_aload_n hx hb d_S_resultInto_77 rfl (lv_at hl 3 rfl) ?_
              refine lv_iload_n hx hb d_S_resultInto_78 rfl (lv_at hl 0 rfl) ?_
              refine zv_if_eq (tgt := 86) hx hb d_S_resultInto_79 rfl (by omega) (fun h132 => ?_) (fun h132 => ?_)
              · refine zv_iconst hx hb d_S_resultInto_86 ?_
                refine z_callv (va_runV (As := [.int (iI 1)]) (rest := []) ⟨hx, hb, hml, hown, hts⟩ (c_N_becomeInf (l := l) (E := E) (w0 := w0) (q := q) (kd := kd) (pl := pl) (ng := ng) (sg := 1) (f := f) (q0lt := q4lt) (q1lt := q5lt) (q2lt := q6lt) (c0 := c4) (c1 := c5) (c2 := c6) (bf := bf) (hkd := by omega) (hng := by omega) (hsg := by omega) H130.size) (z_cwV (C := "ScaledNumeralDesk$Numeral") 1 hg wm_247 wm_659 wm_2 wm_245 wm_246 (by decide +kernel) ⟨Nat.le_of_ble_eq_true rfl, Nat.le_of_ble_eq_true rfl⟩) (z_preV (r := ("ScaledNumeralDesk$Numeral", TN, 3)) hK hG hn hH hA q4lt c4 rfl) rfl rfl hl.1 rfl (lv_room (Nat.le_of_ble_eq_true rfl)) d_S_resultInto_87 ⟨Nat.zero_le _, Nat.zero_le _⟩) hH hA (fun  w135 H133 lc134 hH136 p87 => ?_)
                obtain ⟨⟨k_137, f_138, e139, e140, e141, bd142, p87⟩, hg143⟩ := p87
                have bd142 : bd f_138 15 0 9999 := bd142
                have p87 : (∀ j : Int, 0 ≤ j → j < 15 → f_138 j = 0) ∧ (((1 : Int) < 0 ∧ k_137 = 0) ∨ (0 ≤ (1 : Int) ∧ k_137 = 2)) := p87
                have e144 : w135 y = .inr (2, [.ref (ad E (y + 1)), .ref (ad E (y + 3)), .int (iI sz)]) := (hg143 y (by omega) (by omega) (by omega)).trans c0
                have e145 : w135 (y + 1) = .inr (0, [.ref (ad E (y + 2)), .int (iI sn)]) := (hg143 (y + 1) (by omega) (by omega) (by omega)).trans c1
                have e146 : w135 (y + 2) = zar E 15 sf := (hg143 (y + 2) (by omega) (by omega) (by omega)).trans c2
                have e147 : w135 (y + 3) = zar E 28 cn := (hg143 (y + 3) (by omega) (by omega) (by omega)).trans c3
                have hf148 : ∀ k, k ≠ q → k ≠ (q + 1) → k ≠ (q + 2) → w135 k = w0 k := fun k g0 g1 g2 => hg143 k g0 g1 g2
                refine zv_iconst hx hb d_S_resultInto_90 ?_
                rw [hQ]
                exact z_iret hx hb hr hlk hH136 (⟨⟨k_137, 0, 0, f_138, e139, e140, e141, bd142, ⟨by omega, Or.inl rfl, Or.inr ⟨by omega, by omega⟩⟩⟩, (fun k g0 g1 g2 => hf148 k g0 g1 g2)⟩) d_S_resultInto_91
              · refine zv_iconst hx hb d_S_resultInto_82 ?_
                refine lv_goto (tgt := 87) hx hb d_S_resultInto_83 rfl ?_
                refine z_callv (va_runV (As := [.int (iI (-1))]) (rest := []) ⟨hx, hb, hml, hown, hts⟩ (c_N_becomeInf (l := l) (E := E) (w0 := w0) (q := q) (kd := kd) (pl := pl) (ng := ng) (sg := -1) (f := f) (q0lt := q4lt) (q1lt := q5lt) (q2lt := q6lt) (c0 := c4) (c1 := c5) (c2 := c6) (bf := bf) (hkd := by omega) (hng := by omega) (hsg := by omega) H130.size) (z_cwV (C := "ScaledNumeralDesk$Numeral") 1 hg wm_247 wm_659 wm_2 wm_245 wm_246 (by decide +kernel) ⟨Nat.le_of_ble_eq_true rfl, Nat.le_of_ble_eq_true rfl⟩) (z_preV (r := ("ScaledNumeralDesk$Numeral", TN, 3)) hK hG hn hH hA q4lt c4 rfl) rfl rfl hl.1 rfl (lv_room (Nat.le_of_ble_eq_true rfl)) d_S_resultInto_87 ⟨Nat.zero_le _, Nat.zero_le _⟩) hH hA (fun  w151 H149 lc150 hH152 p87 => ?_)
                obtain ⟨⟨k_153, f_154, e155, e156, e157, bd158, p87⟩, hg159⟩ := p87
                have bd158 : bd f_154 15 0 9999 := bd158
                have p87 : (∀ j : Int, 0 ≤ j → j < 15 → f_154 j = 0) ∧ (((-1 : Int) < 0 ∧ k_153 = 0) ∨ (0 ≤ (-1 : Int) ∧ k_153 = 2)) := p87
                have e160 : w151 y = .inr (2, [.ref (ad E (y + 1)), .ref (ad E (y + 3)), .int (iI sz)]) := (hg159 y (by omega) (by omega) (by omega)).trans c0
                have e161 : w151 (y + 1) = .inr (0, [.ref (ad E (y + 2)), .int (iI sn)]) := (hg159 (y + 1) (by omega) (by omega) (by omega)).trans c1
                have e162 : w151 (y + 2) = zar E 15 sf := (hg159 (y + 2) (by omega) (by omega) (by omega)).trans c2
                have e163 : w151 (y + 3) = zar E 28 cn := (hg159 (y + 3) (by omega) (by omega) (by omega)).trans c3
                have hf164 : ∀ k, k ≠ q → k ≠ (q + 1) → k ≠ (q + 2) → w151 k = w0 k := fun k g0 g1 g2 => hg159 k g0 g1 g2
                refine zv_iconst hx hb d_S_resultInto_90 ?_
                rw [hQ]
                exact z_iret hx hb hr hlk hH152 (⟨⟨k_153, 0, 0, f_154, e155, e156, e157, bd158, ⟨by omega, Or.inl rfl, Or.inr ⟨by omega, by omega⟩⟩⟩, (fun k g0 g1 g2 => hf164 k g0 g1 g2)⟩) d_S_resultInto_91
            exact L69 _ H10 lc11 (lv_sub hl [0, 1, 2, 3] rfl) hH (by omega)
          · refine lv_iload_n hx hb d_S_resultInto_56 rfl (lv_at hl 0 rfl) ?_
            refine zv_if_eq (tgt := 69) hx hb d_S_resultInto_57 rfl (by omega) (fun h165 => ?_) (fun h165 => ?_)
            · exact L69 _ H10 lc11 (lv_sub hl [0, 1, 2, 3] rfl) hH (by omega)
            · exact L60 _ H10 lc11 (lv_sub hl [0, 1, 2, 3] rfl) hH (by omega)
      refine lv_aload_n hx hb d_S_resultInto_26 rfl (lv_at hl 1 rfl) ?_
      refine zv_get (C := "ScaledNumeralDesk$Sum") (T := TS) (N := 3) hx hb hg uS_in hown hK hH q0lt c0 rfl 1 (by decide) (hg _ wm_86) (fun _ h9 => h9) rfl d_S_resultInto_27 ?_
      refine zv_bipush hx hb d_S_resultInto_30 rfl ?_
      refine zv_iald hx hb hK hH q3lt c3 (by omega) (by omega) (by omega) d_S_resultInto_32 ?_
      have b166 := bc 27 (by omega) (by omega)
      refine zv_if_eq (tgt := 40) hx hb d_S_resultInto_33 rfl (by omega) (fun h167 => ?_) (fun h167 => ?_)
      · refine zv_iconst hx hb d_S_resultInto_40 ?_
        exact L41 0 _ H8 lc9 (lv_sub hl [0, 1, 2] rfl) hH (by omega)
      · refine zv_iconst hx hb d_S_resultInto_36 ?_
        refine lv_goto (tgt := 41) hx hb d_S_resultInto_37 rfl ?_
        exact L41 1 _ H8 lc9 (lv_sub hl [0, 1, 2] rfl) hH (by omega)
    refine lv_aload_n hx hb d_S_resultInto_10 rfl (lv_at hl 0 rfl) ?_
    refine zv_get (C := "ScaledNumeralDesk$Sum") (T := TS) (N := 3) hx hb hg uS_in hown hK hH4 q0lt c0 rfl 1 (by decide) (hg _ wm_86) (fun _ h9 => h9) rfl d_S_resultInto_11 ?_
    refine zv_bipush hx hb d_S_resultInto_14 rfl ?_
    refine zv_iald hx hb hK hH4 q3lt c3 (by omega) (by omega) (by omega) d_S_resultInto_16 ?_
    have b168 := bc 26 (by omega) (by omega)
    refine zv_if_eq (tgt := 24) hx hb d_S_resultInto_17 rfl (by omega) (fun h169 => ?_) (fun h169 => ?_)
    · refine zv_iconst hx hb d_S_resultInto_24 ?_
      exact L25 0 _ H1 lc2 (lv_sub hl [0, 1] rfl) hH4 (by omega)
    · refine zv_iconst hx hb d_S_resultInto_20 ?_
      refine lv_goto (tgt := 25) hx hb d_S_resultInto_21 rfl ?_
      exact L25 1 _ H1 lc2 (lv_sub hl [0, 1] rfl) hH4 (by omega)
  · refine zv_bipush hx hb d_S_resultInto_7 rfl ?_
    rw [hQ]
    exact z_iret hx hb hr hlk hH4 (⟨⟨kd, pl, ng, f, c4, c5, c6, bf, ⟨hkd, hng, Or.inl ⟨rfl, by omega⟩⟩⟩, (fun k _ _ _ => rfl)⟩) d_S_resultInto_9
end
