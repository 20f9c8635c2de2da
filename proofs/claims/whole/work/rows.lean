section
-- ===== PART A: goes FIRST, ahead of the names: the tables' words, and 'selects' of the private methods out of them =====
/-- a private method of a class that the tables say can be made, by its rows of tables_1 -/
def lw_okq (q : MethodName × Nat) : Prop := (q.1.cls ≠ "java/lang/invoke/MethodHandle" ∧ q.1.cls ≠ "java/lang/invoke/VarHandle") ∧ Cond.instantiable q.1.cls q.2 ∈ tables_1 ∧ Cond.privateMethod q.1 ∈ tables_1 ∧ Cond.instanceMethod q.1 ∈ tables_1
theorem lw_p0 : lw_okq (⟨"KiteHire$Past", "stateAt", "(I)LKiteHire$Hut;"⟩, 3) := ⟨⟨by decide +kernel, by decide +kernel⟩, List.mem_of_getElem? (i := 111) (by decide +kernel), List.mem_of_getElem? (i := 200) (by decide +kernel), List.mem_of_getElem? (i := 201) (by decide +kernel)⟩
theorem lw_p1 : lw_okq (⟨"KiteHire$Note", "readPart", "()Z"⟩, 5) := ⟨⟨by decide +kernel, by decide +kernel⟩, List.mem_of_getElem? (i := 131) (by decide +kernel), List.mem_of_getElem? (i := 263) (by decide +kernel), List.mem_of_getElem? (i := 264) (by decide +kernel)⟩
theorem lw_p2 : lw_okq (⟨"KiteHire$Note", "takeSign", "(C)Z"⟩, 5) := ⟨⟨by decide +kernel, by decide +kernel⟩, List.mem_of_getElem? (i := 131) (by decide +kernel), List.mem_of_getElem? (i := 267) (by decide +kernel), List.mem_of_getElem? (i := 268) (by decide +kernel)⟩
theorem lw_p3 : lw_okq (⟨"KiteHire$Note", "readNumber", "(III)Z"⟩, 5) := ⟨⟨by decide +kernel, by decide +kernel⟩, List.mem_of_getElem? (i := 131) (by decide +kernel), List.mem_of_getElem? (i := 272) (by decide +kernel), List.mem_of_getElem? (i := 273) (by decide +kernel)⟩
theorem lw_p4 : lw_okq (⟨"KiteHire$Note", "digitHere", "()I"⟩, 5) := ⟨⟨by decide +kernel, by decide +kernel⟩, List.mem_of_getElem? (i := 131) (by decide +kernel), List.mem_of_getElem? (i := 276) (by decide +kernel), List.mem_of_getElem? (i := 277) (by decide +kernel)⟩
theorem lw_p5 : lw_okq (⟨"KiteHire", "errorOfParts", "()I"⟩, 6) := ⟨⟨by decide +kernel, by decide +kernel⟩, List.mem_of_getElem? (i := 11) (by decide +kernel), List.mem_of_getElem? (i := 280) (by decide +kernel), List.mem_of_getElem? (i := 281) (by decide +kernel)⟩
theorem lw_p6 : lw_okq (⟨"KiteHire", "tellParts", "()V"⟩, 6) := ⟨⟨by decide +kernel, by decide +kernel⟩, List.mem_of_getElem? (i := 11) (by decide +kernel), List.mem_of_getElem? (i := 293) (by decide +kernel), List.mem_of_getElem? (i := 294) (by decide +kernel)⟩
theorem lw_p7 : lw_okq (⟨"KiteHire", "isKite", "(I)Z"⟩, 6) := ⟨⟨by decide +kernel, by decide +kernel⟩, List.mem_of_getElem? (i := 11) (by decide +kernel), List.mem_of_getElem? (i := 305) (by decide +kernel), List.mem_of_getElem? (i := 306) (by decide +kernel)⟩
theorem lw_p8 : lw_okq (⟨"KiteHire$Hut", "spoolFor", "(I)I"⟩, 16) := ⟨⟨by decide +kernel, by decide +kernel⟩, List.mem_of_getElem? (i := 19) (by decide +kernel), List.mem_of_getElem? (i := 329) (by decide +kernel), List.mem_of_getElem? (i := 330) (by decide +kernel)⟩
theorem lw_p9 : lw_okq (⟨"KiteHire$Hut", "isBetterSpool", "(II)Z"⟩, 16) := ⟨⟨by decide +kernel, by decide +kernel⟩, List.mem_of_getElem? (i := 19) (by decide +kernel), List.mem_of_getElem? (i := 333) (by decide +kernel), List.mem_of_getElem? (i := 334) (by decide +kernel)⟩
theorem lw_p10 : lw_okq (⟨"KiteHire$Hut", "anyTailWanting", "(I)Z"⟩, 16) := ⟨⟨by decide +kernel, by decide +kernel⟩, List.mem_of_getElem? (i := 19) (by decide +kernel), List.mem_of_getElem? (i := 337) (by decide +kernel), List.mem_of_getElem? (i := 338) (by decide +kernel)⟩
theorem lw_p11 : lw_okq (⟨"KiteHire$Hut", "priceOfHour", "(I)I"⟩, 16) := ⟨⟨by decide +kernel, by decide +kernel⟩, List.mem_of_getElem? (i := 19) (by decide +kernel), List.mem_of_getElem? (i := 354) (by decide +kernel), List.mem_of_getElem? (i := 355) (by decide +kernel)⟩
theorem lw_p12 : lw_okq (⟨"KiteHire$Hut", "passHourOf", "(I)V"⟩, 16) := ⟨⟨by decide +kernel, by decide +kernel⟩, List.mem_of_getElem? (i := 19) (by decide +kernel), List.mem_of_getElem? (i := 400) (by decide +kernel), List.mem_of_getElem? (i := 401) (by decide +kernel)⟩
theorem lw_p13 : lw_okq (⟨"KiteHire$Hut", "wearSnaps", "(I)Z"⟩, 16) := ⟨⟨by decide +kernel, by decide +kernel⟩, List.mem_of_getElem? (i := 19) (by decide +kernel), List.mem_of_getElem? (i := 405) (by decide +kernel), List.mem_of_getElem? (i := 406) (by decide +kernel)⟩
theorem lw_p14 : lw_okq (⟨"KiteHire$Hut", "snapLine", "(I)V"⟩, 16) := ⟨⟨by decide +kernel, by decide +kernel⟩, List.mem_of_getElem? (i := 19) (by decide +kernel), List.mem_of_getElem? (i := 409) (by decide +kernel), List.mem_of_getElem? (i := 410) (by decide +kernel)⟩
theorem lw_p15 : lw_okq (⟨"KiteHire$Hut", "kitesThatAre", "(I)I"⟩, 16) := ⟨⟨by decide +kernel, by decide +kernel⟩, List.mem_of_getElem? (i := 19) (by decide +kernel), List.mem_of_getElem? (i := 492) (by decide +kernel), List.mem_of_getElem? (i := 493) (by decide +kernel)⟩
def lw_privs_1 : List (MethodName × Nat) := [(⟨"KiteHire$Past", "stateAt", "(I)LKiteHire$Hut;"⟩, 3), (⟨"KiteHire$Note", "readPart", "()Z"⟩, 5), (⟨"KiteHire$Note", "takeSign", "(C)Z"⟩, 5), (⟨"KiteHire$Note", "readNumber", "(III)Z"⟩, 5), (⟨"KiteHire$Note", "digitHere", "()I"⟩, 5), (⟨"KiteHire", "errorOfParts", "()I"⟩, 6), (⟨"KiteHire", "tellParts", "()V"⟩, 6), (⟨"KiteHire", "isKite", "(I)Z"⟩, 6), (⟨"KiteHire$Hut", "spoolFor", "(I)I"⟩, 16), (⟨"KiteHire$Hut", "isBetterSpool", "(II)Z"⟩, 16), (⟨"KiteHire$Hut", "anyTailWanting", "(I)Z"⟩, 16), (⟨"KiteHire$Hut", "priceOfHour", "(I)I"⟩, 16), (⟨"KiteHire$Hut", "passHourOf", "(I)V"⟩, 16), (⟨"KiteHire$Hut", "wearSnaps", "(I)Z"⟩, 16), (⟨"KiteHire$Hut", "snapLine", "(I)V"⟩, 16), (⟨"KiteHire$Hut", "kitesThatAre", "(I)I"⟩, 16)]
theorem lw_r1 : ∀ q ∈ lw_privs_1, lw_okq q := List.forall_mem_cons.mpr ⟨lw_p0, List.forall_mem_cons.mpr ⟨lw_p1, List.forall_mem_cons.mpr ⟨lw_p2, List.forall_mem_cons.mpr ⟨lw_p3, List.forall_mem_cons.mpr ⟨lw_p4, List.forall_mem_cons.mpr ⟨lw_p5, List.forall_mem_cons.mpr ⟨lw_p6, List.forall_mem_cons.mpr ⟨lw_p7, List.forall_mem_cons.mpr ⟨lw_p8, List.forall_mem_cons.mpr ⟨lw_p9, List.forall_mem_cons.mpr ⟨lw_p10, List.forall_mem_cons.mpr ⟨lw_p11, List.forall_mem_cons.mpr ⟨lw_p12, List.forall_mem_cons.mpr ⟨lw_p13, List.forall_mem_cons.mpr ⟨lw_p14, List.forall_mem_cons.mpr ⟨lw_p15, fun _ h => absurd h List.not_mem_nil⟩⟩⟩⟩⟩⟩⟩⟩⟩⟩⟩⟩⟩⟩⟩⟩
theorem lw_p16 : lw_okq (⟨"KiteHire$Hut", "sumOfSpools", "(I)I"⟩, 16) := ⟨⟨by decide +kernel, by decide +kernel⟩, List.mem_of_getElem? (i := 19) (by decide +kernel), List.mem_of_getElem? (i := 496) (by decide +kernel), List.mem_of_getElem? (i := 497) (by decide +kernel)⟩
theorem lw_p17 : lw_okq (⟨"KiteHireModel", "looks", "()V"⟩, 14) := ⟨⟨by decide +kernel, by decide +kernel⟩, List.mem_of_getElem? (i := 550) (by decide +kernel), List.mem_of_getElem? (i := 609) (by decide +kernel), List.mem_of_getElem? (i := 610) (by decide +kernel)⟩
theorem lw_p18 : lw_okq (⟨"KiteHireModel", "lays", "(III)I"⟩, 14) := ⟨⟨by decide +kernel, by decide +kernel⟩, List.mem_of_getElem? (i := 550) (by decide +kernel), List.mem_of_getElem? (i := 613) (by decide +kernel), List.mem_of_getElem? (i := 614) (by decide +kernel)⟩
theorem lw_p19 : lw_okq (⟨"KiteHireModel", "records", "()V"⟩, 14) := ⟨⟨by decide +kernel, by decide +kernel⟩, List.mem_of_getElem? (i := 550) (by decide +kernel), List.mem_of_getElem? (i := 617) (by decide +kernel), List.mem_of_getElem? (i := 618) (by decide +kernel)⟩
theorem lw_p20 : lw_okq (⟨"KiteHireModel", "know", "()V"⟩, 14) := ⟨⟨by decide +kernel, by decide +kernel⟩, List.mem_of_getElem? (i := 550) (by decide +kernel), List.mem_of_getElem? (i := 625) (by decide +kernel), List.mem_of_getElem? (i := 626) (by decide +kernel)⟩
theorem lw_p21 : lw_okq (⟨"KiteHireModel", "comes", "(IIII)I"⟩, 14) := ⟨⟨by decide +kernel, by decide +kernel⟩, List.mem_of_getElem? (i := 550) (by decide +kernel), List.mem_of_getElem? (i := 629) (by decide +kernel), List.mem_of_getElem? (i := 630) (by decide +kernel)⟩
theorem lw_p22 : lw_okq (⟨"KiteHireModel", "isKite", "(I)Z"⟩, 14) := ⟨⟨by decide +kernel, by decide +kernel⟩, List.mem_of_getElem? (i := 550) (by decide +kernel), List.mem_of_getElem? (i := 654) (by decide +kernel), List.mem_of_getElem? (i := 655) (by decide +kernel)⟩
theorem lw_p23 : lw_okq (⟨"KiteHireModel", "reason", "(IIII)I"⟩, 14) := ⟨⟨by decide +kernel, by decide +kernel⟩, List.mem_of_getElem? (i := 550) (by decide +kernel), List.mem_of_getElem? (i := 661) (by decide +kernel), List.mem_of_getElem? (i := 662) (by decide +kernel)⟩
theorem lw_p24 : lw_okq (⟨"KiteHireModel", "isCalled", "(III)Z"⟩, 14) := ⟨⟨by decide +kernel, by decide +kernel⟩, List.mem_of_getElem? (i := 550) (by decide +kernel), List.mem_of_getElem? (i := 665) (by decide +kernel), List.mem_of_getElem? (i := 666) (by decide +kernel)⟩
theorem lw_p25 : lw_okq (⟨"KiteHireModel", "isTooMuch", "(II)Z"⟩, 14) := ⟨⟨by decide +kernel, by decide +kernel⟩, List.mem_of_getElem? (i := 550) (by decide +kernel), List.mem_of_getElem? (i := 669) (by decide +kernel), List.mem_of_getElem? (i := 670) (by decide +kernel)⟩
theorem lw_p26 : lw_okq (⟨"KiteHireModel", "isRed", "(I)Z"⟩, 14) := ⟨⟨by decide +kernel, by decide +kernel⟩, List.mem_of_getElem? (i := 550) (by decide +kernel), List.mem_of_getElem? (i := 673) (by decide +kernel), List.mem_of_getElem? (i := 674) (by decide +kernel)⟩
theorem lw_p27 : lw_okq (⟨"KiteHireModel", "spoolFor", "(I)I"⟩, 14) := ⟨⟨by decide +kernel, by decide +kernel⟩, List.mem_of_getElem? (i := 550) (by decide +kernel), List.mem_of_getElem? (i := 677) (by decide +kernel), List.mem_of_getElem? (i := 678) (by decide +kernel)⟩
theorem lw_p28 : lw_okq (⟨"KiteHireModel", "lacksTails", "(I)Z"⟩, 14) := ⟨⟨by decide +kernel, by decide +kernel⟩, List.mem_of_getElem? (i := 550) (by decide +kernel), List.mem_of_getElem? (i := 681) (by decide +kernel), List.mem_of_getElem? (i := 682) (by decide +kernel)⟩
theorem lw_p29 : lw_okq (⟨"KiteHireModel", "pays", "(II)V"⟩, 14) := ⟨⟨by decide +kernel, by decide +kernel⟩, List.mem_of_getElem? (i := 550) (by decide +kernel), List.mem_of_getElem? (i := 691) (by decide +kernel), List.mem_of_getElem? (i := 692) (by decide +kernel)⟩
theorem lw_p30 : lw_okq (⟨"KiteHireModel", "placeOf", "(I)I"⟩, 14) := ⟨⟨by decide +kernel, by decide +kernel⟩, List.mem_of_getElem? (i := 550) (by decide +kernel), List.mem_of_getElem? (i := 699) (by decide +kernel), List.mem_of_getElem? (i := 700) (by decide +kernel)⟩
theorem lw_p31 : lw_okq (⟨"KiteHireModel", "of", "(II)I"⟩, 14) := ⟨⟨by decide +kernel, by decide +kernel⟩, List.mem_of_getElem? (i := 550) (by decide +kernel), List.mem_of_getElem? (i := 703) (by decide +kernel), List.mem_of_getElem? (i := 704) (by decide +kernel)⟩
def lw_privs_2 : List (MethodName × Nat) := [(⟨"KiteHire$Hut", "sumOfSpools", "(I)I"⟩, 16), (⟨"KiteHireModel", "looks", "()V"⟩, 14), (⟨"KiteHireModel", "lays", "(III)I"⟩, 14), (⟨"KiteHireModel", "records", "()V"⟩, 14), (⟨"KiteHireModel", "know", "()V"⟩, 14), (⟨"KiteHireModel", "comes", "(IIII)I"⟩, 14), (⟨"KiteHireModel", "isKite", "(I)Z"⟩, 14), (⟨"KiteHireModel", "reason", "(IIII)I"⟩, 14), (⟨"KiteHireModel", "isCalled", "(III)Z"⟩, 14), (⟨"KiteHireModel", "isTooMuch", "(II)Z"⟩, 14), (⟨"KiteHireModel", "isRed", "(I)Z"⟩, 14), (⟨"KiteHireModel", "spoolFor", "(I)I"⟩, 14), (⟨"KiteHireModel", "lacksTails", "(I)Z"⟩, 14), (⟨"KiteHireModel", "pays", "(II)V"⟩, 14), (⟨"KiteHireModel", "placeOf", "(I)I"⟩, 14), (⟨"KiteHireModel", "of", "(II)I"⟩, 14)]
theorem lw_r2 : ∀ q ∈ lw_privs_2, lw_okq q := List.forall_mem_cons.mpr ⟨lw_p16, List.forall_mem_cons.mpr ⟨lw_p17, List.forall_mem_cons.mpr ⟨lw_p18, List.forall_mem_cons.mpr ⟨lw_p19, List.forall_mem_cons.mpr ⟨lw_p20, List.forall_mem_cons.mpr ⟨lw_p21, List.forall_mem_cons.mpr ⟨lw_p22, List.forall_mem_cons.mpr ⟨lw_p23, List.forall_mem_cons.mpr ⟨lw_p24, List.forall_mem_cons.mpr ⟨lw_p25, List.forall_mem_cons.mpr ⟨lw_p26, List.forall_mem_cons.mpr ⟨lw_p27, List.forall_mem_cons.mpr ⟨lw_p28, List.forall_mem_cons.mpr ⟨lw_p29, List.forall_mem_cons.mpr ⟨lw_p30, List.forall_mem_cons.mpr ⟨lw_p31, fun _ h => absurd h List.not_mem_nil⟩⟩⟩⟩⟩⟩⟩⟩⟩⟩⟩⟩⟩⟩⟩⟩
theorem lw_p32 : lw_okq (⟨"KiteHireModel", "priceOf", "(I)I"⟩, 14) := ⟨⟨by decide +kernel, by decide +kernel⟩, List.mem_of_getElem? (i := 550) (by decide +kernel), List.mem_of_getElem? (i := 707) (by decide +kernel), List.mem_of_getElem? (i := 708) (by decide +kernel)⟩
theorem lw_p33 : lw_okq (⟨"KiteHireModel", "tailsGo", "(II)V"⟩, 14) := ⟨⟨by decide +kernel, by decide +kernel⟩, List.mem_of_getElem? (i := 550) (by decide +kernel), List.mem_of_getElem? (i := 714) (by decide +kernel), List.mem_of_getElem? (i := 715) (by decide +kernel)⟩
theorem lw_p34 : lw_okq (⟨"KiteHireModel", "comesBack", "(I)V"⟩, 14) := ⟨⟨by decide +kernel, by decide +kernel⟩, List.mem_of_getElem? (i := 550) (by decide +kernel), List.mem_of_getElem? (i := 718) (by decide +kernel), List.mem_of_getElem? (i := 719) (by decide +kernel)⟩
theorem lw_p35 : lw_okq (⟨"KiteHireModel", "ends", "(II)V"⟩, 14) := ⟨⟨by decide +kernel, by decide +kernel⟩, List.mem_of_getElem? (i := 550) (by decide +kernel), List.mem_of_getElem? (i := 722) (by decide +kernel), List.mem_of_getElem? (i := 723) (by decide +kernel)⟩
theorem lw_p36 : lw_okq (⟨"KiteHireModel", "passes", "(I)I"⟩, 14) := ⟨⟨by decide +kernel, by decide +kernel⟩, List.mem_of_getElem? (i := 550) (by decide +kernel), List.mem_of_getElem? (i := 734) (by decide +kernel), List.mem_of_getElem? (i := 735) (by decide +kernel)⟩
theorem lw_p37 : lw_okq (⟨"KiteHireModel", "hourOf", "(I)Z"⟩, 14) := ⟨⟨by decide +kernel, by decide +kernel⟩, List.mem_of_getElem? (i := 550) (by decide +kernel), List.mem_of_getElem? (i := 738) (by decide +kernel), List.mem_of_getElem? (i := 739) (by decide +kernel)⟩
theorem lw_p38 : lw_okq (⟨"KiteHireModel", "flies", "(II)Z"⟩, 14) := ⟨⟨by decide +kernel, by decide +kernel⟩, List.mem_of_getElem? (i := 550) (by decide +kernel), List.mem_of_getElem? (i := 742) (by decide +kernel), List.mem_of_getElem? (i := 743) (by decide +kernel)⟩
theorem lw_p39 : lw_okq (⟨"KiteHireModel", "snaps", "(I)V"⟩, 14) := ⟨⟨by decide +kernel, by decide +kernel⟩, List.mem_of_getElem? (i := 550) (by decide +kernel), List.mem_of_getElem? (i := 746) (by decide +kernel), List.mem_of_getElem? (i := 747) (by decide +kernel)⟩
theorem lw_p40 : lw_okq (⟨"KiteHireModel", "goes", "(Z)I"⟩, 14) := ⟨⟨by decide +kernel, by decide +kernel⟩, List.mem_of_getElem? (i := 550) (by decide +kernel), List.mem_of_getElem? (i := 772) (by decide +kernel), List.mem_of_getElem? (i := 773) (by decide +kernel)⟩
theorem lw_p41 : lw_okq (⟨"KiteHireModel", "readPart", "()V"⟩, 14) := ⟨⟨by decide +kernel, by decide +kernel⟩, List.mem_of_getElem? (i := 550) (by decide +kernel), List.mem_of_getElem? (i := 776) (by decide +kernel), List.mem_of_getElem? (i := 777) (by decide +kernel)⟩
theorem lw_p42 : lw_okq (⟨"KiteHireModel", "takesNumber", "(II)I"⟩, 14) := ⟨⟨by decide +kernel, by decide +kernel⟩, List.mem_of_getElem? (i := 550) (by decide +kernel), List.mem_of_getElem? (i := 780) (by decide +kernel), List.mem_of_getElem? (i := 781) (by decide +kernel)⟩
theorem lw_p43 : lw_okq (⟨"KiteHireModel", "takes", "(II)I"⟩, 14) := ⟨⟨by decide +kernel, by decide +kernel⟩, List.mem_of_getElem? (i := 550) (by decide +kernel), List.mem_of_getElem? (i := 784) (by decide +kernel), List.mem_of_getElem? (i := 785) (by decide +kernel)⟩
theorem lw_p44 : lw_okq (⟨"KiteHireModel", "isNext", "(II)Z"⟩, 14) := ⟨⟨by decide +kernel, by decide +kernel⟩, List.mem_of_getElem? (i := 550) (by decide +kernel), List.mem_of_getElem? (i := 788) (by decide +kernel), List.mem_of_getElem? (i := 789) (by decide +kernel)⟩
theorem lw_p45 : lw_okq (⟨"KiteHireModel", "takesBehind", "(III)I"⟩, 14) := ⟨⟨by decide +kernel, by decide +kernel⟩, List.mem_of_getElem? (i := 550) (by decide +kernel), List.mem_of_getElem? (i := 792) (by decide +kernel), List.mem_of_getElem? (i := 793) (by decide +kernel)⟩
theorem lw_p46 : lw_okq (⟨"KiteHireModel", "does", "()I"⟩, 14) := ⟨⟨by decide +kernel, by decide +kernel⟩, List.mem_of_getElem? (i := 550) (by decide +kernel), List.mem_of_getElem? (i := 796) (by decide +kernel), List.mem_of_getElem? (i := 797) (by decide +kernel)⟩
theorem lw_p47 : lw_okq (⟨"KiteHireModel", "hireWith", "(I)I"⟩, 14) := ⟨⟨by decide +kernel, by decide +kernel⟩, List.mem_of_getElem? (i := 550) (by decide +kernel), List.mem_of_getElem? (i := 820) (by decide +kernel), List.mem_of_getElem? (i := 821) (by decide +kernel)⟩
def lw_privs_3 : List (MethodName × Nat) := [(⟨"KiteHireModel", "priceOf", "(I)I"⟩, 14), (⟨"KiteHireModel", "tailsGo", "(II)V"⟩, 14), (⟨"KiteHireModel", "comesBack", "(I)V"⟩, 14), (⟨"KiteHireModel", "ends", "(II)V"⟩, 14), (⟨"KiteHireModel", "passes", "(I)I"⟩, 14), (⟨"KiteHireModel", "hourOf", "(I)Z"⟩, 14), (⟨"KiteHireModel", "flies", "(II)Z"⟩, 14), (⟨"KiteHireModel", "snaps", "(I)V"⟩, 14), (⟨"KiteHireModel", "goes", "(Z)I"⟩, 14), (⟨"KiteHireModel", "readPart", "()V"⟩, 14), (⟨"KiteHireModel", "takesNumber", "(II)I"⟩, 14), (⟨"KiteHireModel", "takes", "(II)I"⟩, 14), (⟨"KiteHireModel", "isNext", "(II)Z"⟩, 14), (⟨"KiteHireModel", "takesBehind", "(III)I"⟩, 14), (⟨"KiteHireModel", "does", "()I"⟩, 14), (⟨"KiteHireModel", "hireWith", "(I)I"⟩, 14)]
theorem lw_r3 : ∀ q ∈ lw_privs_3, lw_okq q := List.forall_mem_cons.mpr ⟨lw_p32, List.forall_mem_cons.mpr ⟨lw_p33, List.forall_mem_cons.mpr ⟨lw_p34, List.forall_mem_cons.mpr ⟨lw_p35, List.forall_mem_cons.mpr ⟨lw_p36, List.forall_mem_cons.mpr ⟨lw_p37, List.forall_mem_cons.mpr ⟨lw_p38, List.forall_mem_cons.mpr ⟨lw_p39, List.forall_mem_cons.mpr ⟨lw_p40, List.forall_mem_cons.mpr ⟨lw_p41, List.forall_mem_cons.mpr ⟨lw_p42, List.forall_mem_cons.mpr ⟨lw_p43, List.forall_mem_cons.mpr ⟨lw_p44, List.forall_mem_cons.mpr ⟨lw_p45, List.forall_mem_cons.mpr ⟨lw_p46, List.forall_mem_cons.mpr ⟨lw_p47, fun _ h => absurd h List.not_mem_nil⟩⟩⟩⟩⟩⟩⟩⟩⟩⟩⟩⟩⟩⟩⟩⟩
theorem lw_p48 : lw_okq (⟨"KiteHireModel", "kitesThatAre", "(I)I"⟩, 14) := ⟨⟨by decide +kernel, by decide +kernel⟩, List.mem_of_getElem? (i := 550) (by decide +kernel), List.mem_of_getElem? (i := 848) (by decide +kernel), List.mem_of_getElem? (i := 849) (by decide +kernel)⟩
theorem lw_p49 : lw_okq (⟨"KiteHireModel", "allMetres", "()I"⟩, 14) := ⟨⟨by decide +kernel, by decide +kernel⟩, List.mem_of_getElem? (i := 550) (by decide +kernel), List.mem_of_getElem? (i := 852) (by decide +kernel), List.mem_of_getElem? (i := 853) (by decide +kernel)⟩
theorem lw_p50 : lw_okq (⟨"KiteHireModel", "longestOf", "(II)I"⟩, 14) := ⟨⟨by decide +kernel, by decide +kernel⟩, List.mem_of_getElem? (i := 550) (by decide +kernel), List.mem_of_getElem? (i := 872) (by decide +kernel), List.mem_of_getElem? (i := 873) (by decide +kernel)⟩
theorem lw_p51 : lw_okq (⟨"KiteHireModel", "putAside", "()V"⟩, 14) := ⟨⟨by decide +kernel, by decide +kernel⟩, List.mem_of_getElem? (i := 550) (by decide +kernel), List.mem_of_getElem? (i := 888) (by decide +kernel), List.mem_of_getElem? (i := 889) (by decide +kernel)⟩
theorem lw_p52 : lw_okq (⟨"KiteHireModel", "putBack", "()V"⟩, 14) := ⟨⟨by decide +kernel, by decide +kernel⟩, List.mem_of_getElem? (i := 550) (by decide +kernel), List.mem_of_getElem? (i := 893) (by decide +kernel), List.mem_of_getElem? (i := 894) (by decide +kernel)⟩
def lw_privs_4 : List (MethodName × Nat) := [(⟨"KiteHireModel", "kitesThatAre", "(I)I"⟩, 14), (⟨"KiteHireModel", "allMetres", "()I"⟩, 14), (⟨"KiteHireModel", "longestOf", "(II)I"⟩, 14), (⟨"KiteHireModel", "putAside", "()V"⟩, 14), (⟨"KiteHireModel", "putBack", "()V"⟩, 14)]
theorem lw_r4 : ∀ q ∈ lw_privs_4, lw_okq q := List.forall_mem_cons.mpr ⟨lw_p48, List.forall_mem_cons.mpr ⟨lw_p49, List.forall_mem_cons.mpr ⟨lw_p50, List.forall_mem_cons.mpr ⟨lw_p51, List.forall_mem_cons.mpr ⟨lw_p52, fun _ h => absurd h List.not_mem_nil⟩⟩⟩⟩⟩
def lw_privs : List (MethodName × Nat) := lw_privs_1 ++ (lw_privs_2 ++ (lw_privs_3 ++ (lw_privs_4)))
def lw_tbl : List Cond := k2_sels lw_privs ++ tables_1
theorem lw_privs_ok : ∀ q ∈ lw_privs, lw_okq q := by
  show ∀ q ∈ lw_privs_1 ++ (lw_privs_2 ++ (lw_privs_3 ++ (lw_privs_4))), lw_okq q
  exact List.forall_mem_append.mpr ⟨lw_r1, List.forall_mem_append.mpr ⟨lw_r2, List.forall_mem_append.mpr ⟨lw_r3, lw_r4⟩⟩⟩
/-- the streams that the claim lets the run draw from -/
abbrev lw_cs : List Choice := [Jvm.Choice.named "NaN.bits"]
theorem lw_bits : nanBits ∈ lw_cs := by first | decide | exact List.mem_cons_self | simp [lw_cs, nanBits]
end
section
def RX0 : String := "KiteHire$Hut"
def TX0 : u_T := fun k => match k with
  | 0 => ("KiteHire$Hut", "winds", "LKiteHire$Table;", true)
  | 1 => ("KiteHire$Hut", "settings", "LKiteHire$Table;", true)
  | 2 => ("KiteHire$Hut", "kites", "LKiteHire$Table;", true)
  | 3 => ("KiteHire$Hut", "spools", "LKiteHire$Table;", true)
  | 4 => ("KiteHire$Hut", "tails", "LKiteHire$Table;", true)
  | 5 => ("KiteHire$Hut", "hires", "LKiteHire$Table;", true)
  | 6 => ("KiteHire$Hut", "ended", "LKiteHire$Table;", true)
  | 7 => ("KiteHire$Hut", "ways", "LKiteHire$Table;", true)
  | 8 => ("KiteHire$Hut", "now", "I", false)
  | 9 => ("KiteHire$Hut", "kitesCame", "I", false)
  | 10 => ("KiteHire$Hut", "spoolsCame", "I", false)
  | 11 => ("KiteHire$Hut", "hiresCame", "I", false)
  | 12 => ("KiteHire$Hut", "hiresOut", "I", false)
  | 13 => ("KiteHire$Hut", "endings", "I", false)
  | 14 => ("KiteHire$Hut", "coins", "I", false)
  | _ => ("KiteHire$Hut", "flown", "I", false)
def tyX0 : Nat → FieldType := fun k => match k with
  | 0 => .object "KiteHire$Table"
  | 1 => .object "KiteHire$Table"
  | 2 => .object "KiteHire$Table"
  | 3 => .object "KiteHire$Table"
  | 4 => .object "KiteHire$Table"
  | 5 => .object "KiteHire$Table"
  | 6 => .object "KiteHire$Table"
  | 7 => .object "KiteHire$Table"
  | 8 => .int
  | 9 => .int
  | 10 => .int
  | 11 => .int
  | 12 => .int
  | 13 => .int
  | 14 => .int
  | _ => .int
abbrev wsX00 : List Cond := u_ws RX0 TX0 16
theorem nmX0 : ∀ a, a < 16 → ∀ b, b < 16 → a ≠ b → (TX0 a).2.1 ≠ (TX0 b).2.1 := by decide +kernel
theorem tyX0_ok : ∀ k, k < 16 → parseFieldDescriptor (TX0 k).2.2.1 = some (tyX0 k) := by decide +kernel
def RX1 : String := "KiteHire$Note"
def TX1 : u_T := fun k => match k with
  | 0 => ("KiteHire$Note", "signs", "[C", true)
  | 1 => ("KiteHire$Note", "parts", "LKiteHire$Table;", true)
  | 2 => ("KiteHire$Note", "length", "I", false)
  | 3 => ("KiteHire$Note", "partCount", "I", false)
  | _ => ("KiteHire$Note", "place", "I", false)
def tyX1 : Nat → FieldType := fun k => match k with
  | 0 => .array .char
  | 1 => .object "KiteHire$Table"
  | 2 => .int
  | 3 => .int
  | _ => .int
abbrev wsX10 : List Cond := u_ws RX1 TX1 5
theorem nmX1 : ∀ a, a < 5 → ∀ b, b < 5 → a ≠ b → (TX1 a).2.1 ≠ (TX1 b).2.1 := by decide +kernel
theorem tyX1_ok : ∀ k, k < 5 → parseFieldDescriptor (TX1 k).2.2.1 = some (tyX1 k) := by decide +kernel
def RX2 : String := "KiteHire$Past"
def TX2 : u_T := fun k => match k with
  | 0 => ("KiteHire$Past", "states", "[LKiteHire$Hut;", true)
  | 1 => ("KiteHire$Past", "latest", "I", false)
  | _ => ("KiteHire$Past", "held", "I", false)
def tyX2 : Nat → FieldType := fun k => match k with
  | 0 => .array (.object "KiteHire$Hut")
  | 1 => .int
  | _ => .int
abbrev wsX20 : List Cond := u_ws RX2 TX2 3
theorem nmX2 : ∀ a, a < 3 → ∀ b, b < 3 → a ≠ b → (TX2 a).2.1 ≠ (TX2 b).2.1 := by decide +kernel
theorem tyX2_ok : ∀ k, k < 3 → parseFieldDescriptor (TX2 k).2.2.1 = some (tyX2 k) := by decide +kernel
def RX3 : String := "KiteHire$Table"
def TX3 : u_T := fun k => match k with
  | 0 => ("KiteHire$Table", "columns", "I", true)
  | _ => ("KiteHire$Table", "cells", "[I", true)
def tyX3 : Nat → FieldType := fun k => match k with
  | 0 => .int
  | _ => .array .int
abbrev wsX30 : List Cond := u_ws RX3 TX3 2
theorem nmX3 : ∀ a, a < 2 → ∀ b, b < 2 → a ≠ b → (TX3 a).2.1 ≠ (TX3 b).2.1 := by decide +kernel
theorem tyX3_ok : ∀ k, k < 2 → parseFieldDescriptor (TX3 k).2.2.1 = some (tyX3 k) := by decide +kernel
def RX4 : String := "KiteHire"
def TX4 : u_T := fun k => match k with
  | 0 => ("KiteHire", "hut", "LKiteHire$Hut;", true)
  | 1 => ("KiteHire", "trial", "LKiteHire$Hut;", true)
  | 2 => ("KiteHire", "kept", "LKiteHire$Hut;", true)
  | 3 => ("KiteHire", "past", "LKiteHire$Past;", true)
  | 4 => ("KiteHire", "note", "LKiteHire$Note;", true)
  | _ => ("KiteHire", "anyKept", "Z", false)
def tyX4 : Nat → FieldType := fun k => match k with
  | 0 => .object "KiteHire$Hut"
  | 1 => .object "KiteHire$Hut"
  | 2 => .object "KiteHire$Hut"
  | 3 => .object "KiteHire$Past"
  | 4 => .object "KiteHire$Note"
  | _ => .boolean
abbrev wsX40 : List Cond := u_ws RX4 TX4 6
theorem nmX4 : ∀ a, a < 6 → ∀ b, b < 6 → a ≠ b → (TX4 a).2.1 ≠ (TX4 b).2.1 := by decide +kernel
theorem tyX4_ok : ∀ k, k < 6 → parseFieldDescriptor (TX4 k).2.2.1 = some (tyX4 k) := by decide +kernel
def RX5 : String := "KiteHireModel"
def TX5 : u_T := fun k => match k with
  | 0 => ("KiteHireModel", "s", "[I", true)
  | 1 => ("KiteHireModel", "aside", "[I", true)
  | 2 => ("KiteHireModel", "ahead", "[I", true)
  | 3 => ("KiteHireModel", "snapshot", "[I", true)
  | 4 => ("KiteHireModel", "isKept", "Z", false)
  | 5 => ("KiteHireModel", "before", "[I", true)
  | 6 => ("KiteHireModel", "known", "I", false)
  | 7 => ("KiteHireModel", "text", "[I", true)
  | 8 => ("KiteHireModel", "length", "I", false)
  | 9 => ("KiteHireModel", "position", "I", false)
  | 10 => ("KiteHireModel", "isWrong", "Z", false)
  | 11 => ("KiteHireModel", "part", "[I", true)
  | 12 => ("KiteHireModel", "from", "I", false)
  | _ => ("KiteHireModel", "stop", "I", false)
def tyX5 : Nat → FieldType := fun k => match k with
  | 0 => .array .int
  | 1 => .array .int
  | 2 => .array .int
  | 3 => .array .int
  | 4 => .boolean
  | 5 => .array .int
  | 6 => .int
  | 7 => .array .int
  | 8 => .int
  | 9 => .int
  | 10 => .boolean
  | 11 => .array .int
  | 12 => .int
  | _ => .int
abbrev wsX50 : List Cond := u_ws RX5 TX5 14
theorem nmX5 : ∀ a, a < 14 → ∀ b, b < 14 → a ≠ b → (TX5 a).2.1 ≠ (TX5 b).2.1 := by decide +kernel
theorem tyX5_ok : ∀ k, k < 14 → parseFieldDescriptor (TX5 k).2.2.1 = some (tyX5 k) := by decide +kernel
abbrev vwCl : List vw_C := [(RX0, TX0, 16), (RX1, TX1, 5), (RX2, TX2, 3), (RX3, TX3, 2), (RX4, TX4, 6), (RX5, TX5, 14)]
/-- the classes by number -/
def cn : Nat → String := fun k => match k with
  | 0 => "KiteHire$Hut"
  | 1 => "KiteHire$Note"
  | 2 => "KiteHire$Past"
  | 3 => "KiteHire$Table"
  | 4 => "KiteHire"
  | 5 => "KiteHireModel"
  | 6 => "java/lang/Integer"
  | 7 => "java/lang/Math"
  | 8 => "KiteHireLaw"
  | _ => ""
/-- the methods by number: name, code, locals, answer, class, depth, arguments without the object, whether static -/
def mtab : List (MethodName × ByteArray × Nat × Option FieldType × Nat × Nat × Nat × Bool) := [
  (⟨"java/lang/Math", "max", "(II)I"⟩, prog_9_method_65_code, 2, (some (.int)), 7, 0, 2, true), -- 0
  (⟨"java/lang/Math", "min", "(II)I"⟩, prog_9_method_69_code, 2, (some (.int)), 7, 0, 2, true), -- 1
  (⟨"java/lang/Integer", "bitCount", "(I)I"⟩, prog_8_method_49_code, 1, (some (.int)), 6, 0, 1, true), -- 2
  (⟨"KiteHire$Table", "put", "(III)V"⟩, prog_5_method_3_code, 5, none, 3, 0, 3, false), -- 3
  (⟨"KiteHire$Table", "at", "(II)I"⟩, prog_5_method_2_code, 4, (some (.int)), 3, 0, 2, false), -- 4
  (⟨"KiteHire$Table", "add", "(III)V"⟩, prog_5_method_4_code, 5, none, 3, 0, 3, false), -- 5
  (⟨"KiteHire$Table", "dropRow", "(I)V"⟩, prog_5_method_5_code, 4, none, 3, 0, 1, false), -- 6
  (⟨"KiteHire$Table", "<init>", "(II)V"⟩, prog_5_method_1_code, 3, none, 3, 1, 2, false), -- 7
  (⟨"KiteHire$Table", "copyFrom", "(LKiteHire$Table;)V"⟩, prog_5_method_6_code, 3, none, 3, 1, 1, false), -- 8
  (⟨"KiteHire$Hut", "windAt", "(I)I"⟩, prog_2_method_4_code, 2, (some (.int)), 0, 1, 1, false), -- 9
  (⟨"KiteHire$Hut", "foresee", "(III)V"⟩, prog_2_method_6_code, 5, none, 0, 1, 3, false), -- 10
  (⟨"KiteHire$Hut", "addKite", "(IIII)I"⟩, prog_2_method_12_code, 6, (some (.int)), 0, 1, 4, false), -- 11
  (⟨"KiteHire$Hut", "addSpool", "(I)I"⟩, prog_2_method_13_code, 3, (some (.int)), 0, 1, 1, false), -- 12
  (⟨"KiteHire$Hut", "tailsOfColour", "(I)I"⟩, prog_2_method_14_code, 2, (some (.int)), 0, 1, 1, false), -- 13
  (⟨"KiteHire$Hut", "setting", "(I)I"⟩, prog_2_method_3_code, 2, (some (.int)), 0, 1, 1, false), -- 14
  (⟨"KiteHire$Hut", "isBetterSpool", "(II)Z"⟩, prog_2_method_18_code, 5, (some (.boolean)), 0, 1, 2, false), -- 15
  (⟨"KiteHire$Hut", "anyTailWanting", "(I)Z"⟩, prog_2_method_16_code, 3, (some (.boolean)), 0, 1, 1, false), -- 16
  (⟨"KiteHire$Hut", "moveTails", "(III)V"⟩, prog_2_method_15_code, 6, none, 0, 1, 3, false), -- 17
  (⟨"KiteHire$Hut", "priceOfHour", "(I)I"⟩, prog_2_method_23_code, 2, (some (.int)), 0, 1, 1, false), -- 18
  (⟨"KiteHire$Hut", "takeCoins", "(II)V"⟩, prog_2_method_25_code, 3, none, 0, 1, 2, false), -- 19
  (⟨"KiteHire$Hut", "rowOfHire", "(I)I"⟩, prog_2_method_22_code, 3, (some (.int)), 0, 1, 1, false), -- 20
  (⟨"KiteHire$Hut", "kitesThatAre", "(I)I"⟩, prog_2_method_33_code, 4, (some (.int)), 0, 1, 1, false), -- 21
  (⟨"KiteHire$Hut", "sumOfSpools", "(I)I"⟩, prog_2_method_34_code, 4, (some (.int)), 0, 1, 1, false), -- 22
  (⟨"KiteHire$Hut", "<init>", "()V"⟩, prog_2_method_1_code, 2, none, 0, 2, 0, false), -- 23
  (⟨"KiteHire$Hut", "otherWinds", "(III)I"⟩, prog_2_method_5_code, 6, (some (.int)), 0, 2, 3, false), -- 24
  (⟨"KiteHire$Hut", "copyFrom", "(LKiteHire$Hut;)V"⟩, prog_2_method_2_code, 2, none, 0, 2, 1, false), -- 25
  (⟨"KiteHire$Hut", "tooWindy", "(II)Z"⟩, prog_2_method_8_code, 3, (some (.boolean)), 0, 2, 2, false), -- 26
  (⟨"KiteHire$Hut", "tooCalm", "(II)Z"⟩, prog_2_method_10_code, 3, (some (.boolean)), 0, 2, 2, false), -- 27
  (⟨"KiteHire$Hut", "spoolFor", "(I)I"⟩, prog_2_method_17_code, 5, (some (.int)), 0, 2, 1, false), -- 28
  (⟨"KiteHire$Hut", "priceOfRest", "(I)I"⟩, prog_2_method_24_code, 2, (some (.int)), 0, 2, 1, false), -- 29
  (⟨"KiteHire$Hut", "endHire", "(III)V"⟩, prog_2_method_26_code, 6, none, 0, 2, 3, false), -- 30
  (⟨"KiteHire$Hut", "wearSnaps", "(I)Z"⟩, prog_2_method_29_code, 4, (some (.boolean)), 0, 2, 1, false), -- 31
  (⟨"KiteHire$Hut", "flagIsUp", "(I)Z"⟩, prog_2_method_7_code, 2, (some (.boolean)), 0, 2, 1, false), -- 32
  (⟨"KiteHire$Hut", "anyTooWindy", "(III)Z"⟩, prog_2_method_9_code, 5, (some (.boolean)), 0, 3, 3, false), -- 33
  (⟨"KiteHire$Hut", "beginHire", "(IIII)I"⟩, prog_2_method_21_code, 8, (some (.int)), 0, 3, 4, false), -- 34
  (⟨"KiteHire$Hut", "snapLine", "(I)V"⟩, prog_2_method_30_code, 5, none, 0, 3, 1, false), -- 35
  (⟨"KiteHire$Hut", "tally", "(I)I"⟩, prog_2_method_32_code, 2, (some (.int)), 0, 3, 1, false), -- 36
  (⟨"KiteHire$Hut", "flies", "(II)Z"⟩, prog_2_method_11_code, 3, (some (.boolean)), 0, 3, 2, false), -- 37
  (⟨"KiteHire$Hut", "refusal", "(IIII)I"⟩, prog_2_method_19_code, 5, (some (.int)), 0, 4, 4, false), -- 38
  (⟨"KiteHire$Hut", "passHourOf", "(I)V"⟩, prog_2_method_28_code, 3, none, 0, 4, 1, false), -- 39
  (⟨"KiteHire$Hut", "hoursToSnap", "(I)I"⟩, prog_2_method_31_code, 5, (some (.int)), 0, 4, 1, false), -- 40
  (⟨"KiteHire$Hut", "passHour", "()V"⟩, prog_2_method_27_code, 4, none, 0, 5, 0, false), -- 41
  (⟨"KiteHire$Hut", "longestHire", "(II)I"⟩, prog_2_method_20_code, 4, (some (.int)), 0, 5, 2, false), -- 42
  (⟨"KiteHire$Note", "takeSign", "(C)Z"⟩, prog_3_method_7_code, 2, (some (.boolean)), 1, 0, 1, false), -- 43
  (⟨"KiteHire$Note", "digitHere", "()I"⟩, prog_3_method_8_code, 2, (some (.int)), 1, 0, 0, false), -- 44
  (⟨"KiteHire$Note", "append", "(C)Z"⟩, prog_3_method_2_code, 2, (some (.boolean)), 1, 0, 1, false), -- 45
  (⟨"KiteHire$Note", "readNumber", "(III)Z"⟩, prog_3_method_9_code, 6, (some (.boolean)), 1, 1, 3, false), -- 46
  (⟨"KiteHire$Note", "kindOf", "(I)I"⟩, prog_3_method_3_code, 2, (some (.int)), 1, 1, 1, false), -- 47
  (⟨"KiteHire$Note", "numberOf", "(II)I"⟩, prog_3_method_4_code, 3, (some (.int)), 1, 1, 2, false), -- 48
  (⟨"KiteHire$Note", "<init>", "()V"⟩, prog_3_method_1_code, 1, none, 1, 2, 0, false), -- 49
  (⟨"KiteHire$Note", "readPart", "()Z"⟩, prog_3_method_6_code, 1, (some (.boolean)), 1, 2, 0, false), -- 50
  (⟨"KiteHire$Note", "findFault", "()I"⟩, prog_3_method_5_code, 2, (some (.int)), 1, 3, 0, false), -- 51
  (⟨"KiteHire$Past", "stateAt", "(I)LKiteHire$Hut;"⟩, prog_4_method_2_code, 2, (some (.object "KiteHire$Hut")), 2, 0, 1, false), -- 52
  (⟨"KiteHire$Past", "<init>", "()V"⟩, prog_4_method_1_code, 2, none, 2, 3, 0, false), -- 53
  (⟨"KiteHire$Past", "record", "(LKiteHire$Hut;)V"⟩, prog_4_method_3_code, 3, none, 2, 3, 1, false), -- 54
  (⟨"KiteHire$Past", "takeLatest", "(LKiteHire$Hut;)Z"⟩, prog_4_method_4_code, 3, (some (.boolean)), 2, 3, 1, false), -- 55
  (⟨"KiteHire", "within", "(III)Z"⟩, prog_1_method_33_code, 3, (some (.boolean)), 4, 0, 3, true), -- 56
  (⟨"KiteHire", "clearText", "()I"⟩, prog_1_method_13_code, 2, (some (.int)), 4, 0, 0, false), -- 57
  (⟨"KiteHire", "perHour", "()D"⟩, prog_1_method_25_code, 1, (some (.double)), 4, 0, 0, false), -- 58
  (⟨"KiteHire", "isColour", "(I)Z"⟩, prog_1_method_34_code, 1, (some (.boolean)), 4, 1, 1, true), -- 59
  (⟨"KiteHire", "isKite", "(I)Z"⟩, prog_1_method_35_code, 2, (some (.boolean)), 4, 1, 1, false), -- 60
  (⟨"KiteHire", "isSettingValue", "(II)Z"⟩, prog_1_method_36_code, 2, (some (.boolean)), 4, 1, 2, true), -- 61
  (⟨"KiteHire", "type", "(C)I"⟩, prog_1_method_12_code, 2, (some (.int)), 4, 1, 1, false), -- 62
  (⟨"KiteHire", "spoolOf", "(II)I"⟩, prog_1_method_19_code, 3, (some (.int)), 4, 1, 2, false), -- 63
  (⟨"KiteHire", "ended", "(II)I"⟩, prog_1_method_22_code, 3, (some (.int)), 4, 1, 2, false), -- 64
  (⟨"KiteHire", "errorOfParts", "()I"⟩, prog_1_method_37_code, 4, (some (.int)), 4, 2, 0, false), -- 65
  (⟨"KiteHire", "tellParts", "()V"⟩, prog_1_method_38_code, 5, none, 4, 2, 0, false), -- 66
  (⟨"KiteHire", "kiteOf", "(II)I"⟩, prog_1_method_18_code, 3, (some (.int)), 4, 2, 2, false), -- 67
  (⟨"KiteHire", "tailsOf", "(II)I"⟩, prog_1_method_20_code, 3, (some (.int)), 4, 2, 2, false), -- 68
  (⟨"KiteHire", "hireOf", "(II)I"⟩, prog_1_method_21_code, 4, (some (.int)), 4, 2, 2, false), -- 69
  (⟨"KiteHire", "windOf", "(I)I"⟩, prog_1_method_23_code, 2, (some (.int)), 4, 2, 1, false), -- 70
  (⟨"KiteHire", "keep", "()I"⟩, prog_1_method_16_code, 1, (some (.int)), 4, 3, 0, false), -- 71
  (⟨"KiteHire", "<init>", "()V"⟩, prog_1_method_1_code, 1, none, 4, 4, 0, false), -- 72
  (⟨"KiteHire", "wind", "(III)I"⟩, prog_1_method_2_code, 5, (some (.int)), 4, 4, 3, false), -- 73
  (⟨"KiteHire", "kite", "(IIII)I"⟩, prog_1_method_3_code, 5, (some (.int)), 4, 4, 4, false), -- 74
  (⟨"KiteHire", "spool", "(I)I"⟩, prog_1_method_4_code, 2, (some (.int)), 4, 4, 1, false), -- 75
  (⟨"KiteHire", "tails", "(II)I"⟩, prog_1_method_5_code, 3, (some (.int)), 4, 4, 2, false), -- 76
  (⟨"KiteHire", "tellAll", "()I"⟩, prog_1_method_6_code, 3, (some (.int)), 4, 4, 0, false), -- 77
  (⟨"KiteHire", "back", "(II)I"⟩, prog_1_method_8_code, 6, (some (.int)), 4, 4, 2, false), -- 78
  (⟨"KiteHire", "found", "(I)I"⟩, prog_1_method_9_code, 2, (some (.int)), 4, 4, 1, false), -- 79
  (⟨"KiteHire", "set", "(II)I"⟩, prog_1_method_11_code, 4, (some (.int)), 4, 4, 2, false), -- 80
  (⟨"KiteHire", "fault", "()I"⟩, prog_1_method_14_code, 1, (some (.int)), 4, 4, 0, false), -- 81
  (⟨"KiteHire", "undo", "()I"⟩, prog_1_method_15_code, 1, (some (.int)), 4, 4, 0, false), -- 82
  (⟨"KiteHire", "restore", "()I"⟩, prog_1_method_17_code, 1, (some (.int)), 4, 4, 0, false), -- 83
  (⟨"KiteHire", "count", "(I)I"⟩, prog_1_method_24_code, 2, (some (.int)), 4, 4, 1, false), -- 84
  (⟨"KiteHire", "next", "(II)I"⟩, prog_1_method_27_code, 4, (some (.int)), 4, 4, 2, false), -- 85
  (⟨"KiteHire", "flyable", "(I)I"⟩, prog_1_method_30_code, 4, (some (.int)), 4, 4, 1, false), -- 86
  (⟨"KiteHire", "why", "(IIII)I"⟩, prog_1_method_26_code, 5, (some (.int)), 4, 5, 4, false), -- 87
  (⟨"KiteHire", "snapsIn", "(I)I"⟩, prog_1_method_29_code, 3, (some (.int)), 4, 5, 1, false), -- 88
  (⟨"KiteHire", "hire", "(IIII)I"⟩, prog_1_method_7_code, 6, (some (.int)), 4, 6, 4, false), -- 89
  (⟨"KiteHire", "pass", "(I)I"⟩, prog_1_method_10_code, 4, (some (.int)), 4, 6, 1, false), -- 90
  (⟨"KiteHire", "longest", "(II)I"⟩, prog_1_method_28_code, 4, (some (.int)), 4, 6, 2, false), -- 91
  (⟨"KiteHire", "ifPassed", "(II)I"⟩, prog_1_method_31_code, 4, (some (.int)), 4, 6, 2, false), -- 92
  (⟨"KiteHire", "dearest", "(I)I"⟩, prog_1_method_32_code, 6, (some (.int)), 4, 6, 1, false), -- 93
  (⟨"KiteHireModel", "tail", "(II)I"⟩, prog_7_method_6_code, 2, (some (.int)), 5, 0, 2, true), -- 94
  (⟨"KiteHireModel", "in", "(III)Z"⟩, prog_7_method_3_code, 3, (some (.boolean)), 5, 0, 3, true), -- 95
  (⟨"KiteHireModel", "looks", "()V"⟩, prog_7_method_11_code, 2, none, 5, 0, 0, false), -- 96
  (⟨"KiteHireModel", "lays", "(III)I"⟩, prog_7_method_35_code, 6, (some (.int)), 5, 0, 3, false), -- 97
  (⟨"KiteHireModel", "records", "()V"⟩, prog_7_method_12_code, 2, none, 5, 0, 0, false), -- 98
  (⟨"KiteHireModel", "atKite", "(II)I"⟩, prog_7_method_4_code, 2, (some (.int)), 5, 0, 2, true), -- 99
  (⟨"KiteHireModel", "atSpool", "(II)I"⟩, prog_7_method_5_code, 2, (some (.int)), 5, 0, 2, true), -- 100
  (⟨"KiteHireModel", "isRed", "(I)Z"⟩, prog_7_method_16_code, 2, (some (.boolean)), 5, 0, 1, false), -- 101
  (⟨"KiteHireModel", "has", "(II)Z"⟩, prog_7_method_10_code, 2, (some (.boolean)), 5, 0, 2, true), -- 102
  (⟨"KiteHireModel", "atHire", "(II)I"⟩, prog_7_method_7_code, 2, (some (.int)), 5, 0, 2, true), -- 103
  (⟨"KiteHireModel", "bits", "(I)I"⟩, prog_7_method_24_code, 3, (some (.int)), 5, 0, 1, true), -- 104
  (⟨"KiteHireModel", "least", "(I)I"⟩, prog_7_method_45_code, 1, (some (.int)), 5, 0, 1, true), -- 105
  (⟨"KiteHireModel", "most", "(I)I"⟩, prog_7_method_46_code, 1, (some (.int)), 5, 0, 1, true), -- 106
  (⟨"KiteHireModel", "type", "(C)I"⟩, prog_7_method_48_code, 2, (some (.int)), 5, 0, 1, false), -- 107
  (⟨"KiteHireModel", "clearText", "()I"⟩, prog_7_method_49_code, 2, (some (.int)), 5, 0, 0, false), -- 108
  (⟨"KiteHireModel", "undo", "()I"⟩, prog_7_method_59_code, 2, (some (.int)), 5, 0, 0, false), -- 109
  (⟨"KiteHireModel", "keep", "()I"⟩, prog_7_method_60_code, 2, (some (.int)), 5, 0, 0, false), -- 110
  (⟨"KiteHireModel", "perHour", "()D"⟩, prog_7_method_72_code, 1, (some (.double)), 5, 0, 0, false), -- 111
  (⟨"KiteHireModel", "putAside", "()V"⟩, prog_7_method_14_code, 2, none, 5, 0, 0, false), -- 112
  (⟨"KiteHireModel", "putBack", "()V"⟩, prog_7_method_15_code, 2, none, 5, 0, 0, false), -- 113
  (⟨"KiteHireModel", "<init>", "()V"⟩, prog_7_method_1_code, 2, none, 5, 1, 0, false), -- 114
  (⟨"KiteHireModel", "wind", "(III)I"⟩, prog_7_method_36_code, 5, (some (.int)), 5, 1, 3, false), -- 115
  (⟨"KiteHireModel", "know", "()V"⟩, prog_7_method_13_code, 1, none, 5, 1, 0, false), -- 116
  (⟨"KiteHireModel", "comes", "(IIII)I"⟩, prog_7_method_37_code, 6, (some (.int)), 5, 1, 4, false), -- 117
  (⟨"KiteHireModel", "isColour", "(I)Z"⟩, prog_7_method_9_code, 1, (some (.boolean)), 5, 1, 1, true), -- 118
  (⟨"KiteHireModel", "isKite", "(I)Z"⟩, prog_7_method_8_code, 2, (some (.boolean)), 5, 1, 1, false), -- 119
  (⟨"KiteHireModel", "isHire", "(III)Z"⟩, prog_7_method_34_code, 3, (some (.boolean)), 5, 1, 3, true), -- 120
  (⟨"KiteHireModel", "isTooMuch", "(II)Z"⟩, prog_7_method_17_code, 3, (some (.boolean)), 5, 1, 2, false), -- 121
  (⟨"KiteHireModel", "spoolFor", "(I)I"⟩, prog_7_method_30_code, 7, (some (.int)), 5, 1, 1, false), -- 122
  (⟨"KiteHireModel", "lacksTails", "(I)Z"⟩, prog_7_method_31_code, 4, (some (.boolean)), 5, 1, 1, false), -- 123
  (⟨"KiteHireModel", "pays", "(II)V"⟩, prog_7_method_22_code, 3, none, 5, 1, 2, false), -- 124
  (⟨"KiteHireModel", "placeOf", "(I)I"⟩, prog_7_method_19_code, 4, (some (.int)), 5, 1, 1, false), -- 125
  (⟨"KiteHireModel", "of", "(II)I"⟩, prog_7_method_20_code, 3, (some (.int)), 5, 1, 2, false), -- 126
  (⟨"KiteHireModel", "tailsGo", "(II)V"⟩, prog_7_method_23_code, 4, none, 5, 1, 2, false), -- 127
  (⟨"KiteHireModel", "takes", "(II)I"⟩, prog_7_method_51_code, 4, (some (.int)), 5, 1, 2, false), -- 128
  (⟨"KiteHireModel", "isNext", "(II)Z"⟩, prog_7_method_50_code, 3, (some (.boolean)), 5, 1, 2, false), -- 129
  (⟨"KiteHireModel", "spoolOf", "(II)I"⟩, prog_7_method_64_code, 3, (some (.int)), 5, 1, 2, false), -- 130
  (⟨"KiteHireModel", "ended", "(II)I"⟩, prog_7_method_67_code, 3, (some (.int)), 5, 1, 2, false), -- 131
  (⟨"KiteHireModel", "windOf", "(I)I"⟩, prog_7_method_68_code, 2, (some (.int)), 5, 1, 1, false), -- 132
  (⟨"KiteHireModel", "kitesThatAre", "(I)I"⟩, prog_7_method_69_code, 4, (some (.int)), 5, 1, 1, false), -- 133
  (⟨"KiteHireModel", "allMetres", "()I"⟩, prog_7_method_70_code, 3, (some (.int)), 5, 1, 0, false), -- 134
  (⟨"KiteHireModel", "kite", "(IIII)I"⟩, prog_7_method_38_code, 5, (some (.int)), 5, 2, 4, false), -- 135
  (⟨"KiteHireModel", "spool", "(I)I"⟩, prog_7_method_39_code, 3, (some (.int)), 5, 2, 1, false), -- 136
  (⟨"KiteHireModel", "tails", "(II)I"⟩, prog_7_method_40_code, 3, (some (.int)), 5, 2, 2, false), -- 137
  (⟨"KiteHireModel", "isCalled", "(III)Z"⟩, prog_7_method_32_code, 6, (some (.boolean)), 5, 2, 3, false), -- 138
  (⟨"KiteHireModel", "priceOf", "(I)I"⟩, prog_7_method_21_code, 2, (some (.int)), 5, 2, 1, false), -- 139
  (⟨"KiteHireModel", "ends", "(II)V"⟩, prog_7_method_25_code, 4, none, 5, 2, 2, false), -- 140
  (⟨"KiteHireModel", "found", "(I)I"⟩, prog_7_method_43_code, 2, (some (.int)), 5, 2, 1, false), -- 141
  (⟨"KiteHireModel", "flies", "(II)Z"⟩, prog_7_method_18_code, 3, (some (.boolean)), 5, 2, 2, false), -- 142
  (⟨"KiteHireModel", "set", "(II)I"⟩, prog_7_method_47_code, 4, (some (.int)), 5, 2, 2, false), -- 143
  (⟨"KiteHireModel", "takesNumber", "(II)I"⟩, prog_7_method_52_code, 5, (some (.int)), 5, 2, 2, false), -- 144
  (⟨"KiteHireModel", "does", "()I"⟩, prog_7_method_55_code, 2, (some (.int)), 5, 2, 0, false), -- 145
  (⟨"KiteHireModel", "restore", "()I"⟩, prog_7_method_61_code, 2, (some (.int)), 5, 2, 0, false), -- 146
  (⟨"KiteHireModel", "hireWith", "(I)I"⟩, prog_7_method_62_code, 4, (some (.int)), 5, 2, 1, false), -- 147
  (⟨"KiteHireModel", "tailsOf", "(II)I"⟩, prog_7_method_65_code, 3, (some (.int)), 5, 2, 2, false), -- 148
  (⟨"KiteHireModel", "hireOf", "(II)I"⟩, prog_7_method_66_code, 4, (some (.int)), 5, 2, 2, false), -- 149
  (⟨"KiteHireModel", "count", "(I)I"⟩, prog_7_method_71_code, 2, (some (.int)), 5, 2, 1, false), -- 150
  (⟨"KiteHireModel", "reason", "(IIII)I"⟩, prog_7_method_33_code, 6, (some (.int)), 5, 3, 4, false), -- 151
  (⟨"KiteHireModel", "comesBack", "(I)V"⟩, prog_7_method_26_code, 2, none, 5, 3, 1, false), -- 152
  (⟨"KiteHireModel", "snaps", "(I)V"⟩, prog_7_method_27_code, 3, none, 5, 3, 1, false), -- 153
  (⟨"KiteHireModel", "takesBehind", "(III)I"⟩, prog_7_method_53_code, 5, (some (.int)), 5, 3, 3, false), -- 154
  (⟨"KiteHireModel", "kiteOf", "(II)I"⟩, prog_7_method_63_code, 3, (some (.int)), 5, 3, 2, false), -- 155
  (⟨"KiteHireModel", "next", "(II)I"⟩, prog_7_method_74_code, 4, (some (.int)), 5, 3, 2, false), -- 156
  (⟨"KiteHireModel", "snapsIn", "(I)I"⟩, prog_7_method_77_code, 6, (some (.int)), 5, 3, 1, false), -- 157
  (⟨"KiteHireModel", "flyable", "(I)I"⟩, prog_7_method_78_code, 4, (some (.int)), 5, 3, 1, false), -- 158
  (⟨"KiteHireModel", "hire", "(IIII)I"⟩, prog_7_method_41_code, 9, (some (.int)), 5, 4, 4, false), -- 159
  (⟨"KiteHireModel", "back", "(II)I"⟩, prog_7_method_42_code, 6, (some (.int)), 5, 4, 2, false), -- 160
  (⟨"KiteHireModel", "hourOf", "(I)Z"⟩, prog_7_method_28_code, 5, (some (.boolean)), 5, 4, 1, false), -- 161
  (⟨"KiteHireModel", "readPart", "()V"⟩, prog_7_method_54_code, 2, none, 5, 4, 0, false), -- 162
  (⟨"KiteHireModel", "why", "(IIII)I"⟩, prog_7_method_73_code, 5, (some (.int)), 5, 4, 4, false), -- 163
  (⟨"KiteHireModel", "longestOf", "(II)I"⟩, prog_7_method_75_code, 5, (some (.int)), 5, 4, 2, false), -- 164
  (⟨"KiteHireModel", "passes", "(I)I"⟩, prog_7_method_29_code, 6, (some (.int)), 5, 5, 1, false), -- 165
  (⟨"KiteHireModel", "goes", "(Z)I"⟩, prog_7_method_56_code, 5, (some (.int)), 5, 5, 1, false), -- 166
  (⟨"KiteHireModel", "longest", "(II)I"⟩, prog_7_method_76_code, 3, (some (.int)), 5, 5, 2, false), -- 167
  (⟨"KiteHireModel", "dearest", "(I)I"⟩, prog_7_method_80_code, 7, (some (.int)), 5, 5, 1, false), -- 168
  (⟨"KiteHireModel", "pass", "(I)I"⟩, prog_7_method_44_code, 2, (some (.int)), 5, 6, 1, false), -- 169
  (⟨"KiteHireModel", "fault", "()I"⟩, prog_7_method_57_code, 2, (some (.int)), 5, 6, 0, false), -- 170
  (⟨"KiteHireModel", "tellAll", "()I"⟩, prog_7_method_58_code, 4, (some (.int)), 5, 6, 0, false), -- 171
  (⟨"KiteHireModel", "ifPassed", "(II)I"⟩, prog_7_method_79_code, 7, (some (.int)), 5, 6, 2, false), -- 172
  (⟨"KiteHireLaw", "law", "([I)Z"⟩, code, 8, (some .boolean), 8, 7, 1, true)] -- 173
abbrev iJ_max : Nat := 0
abbrev iJ_min : Nat := 1
abbrev iJ_bitCount : Nat := 2
abbrev iT_put : Nat := 3
abbrev iT_at : Nat := 4
abbrev iT_add : Nat := 5
abbrev iT_dropRow : Nat := 6
abbrev iT_init : Nat := 7
abbrev iT_copyFrom : Nat := 8
abbrev iH_windAt : Nat := 9
abbrev iH_foresee : Nat := 10
abbrev iH_addKite : Nat := 11
abbrev iH_addSpool : Nat := 12
abbrev iH_tailsOfColour : Nat := 13
abbrev iH_setting : Nat := 14
abbrev iH_isBetterSpool : Nat := 15
abbrev iH_anyTailWanting : Nat := 16
abbrev iH_moveTails : Nat := 17
abbrev iH_priceOfHour : Nat := 18
abbrev iH_takeCoins : Nat := 19
abbrev iH_rowOfHire : Nat := 20
abbrev iH_kitesThatAre : Nat := 21
abbrev iH_sumOfSpools : Nat := 22
abbrev iH_init : Nat := 23
abbrev iH_otherWinds : Nat := 24
abbrev iH_copyFrom : Nat := 25
abbrev iH_tooWindy : Nat := 26
abbrev iH_tooCalm : Nat := 27
abbrev iH_spoolFor : Nat := 28
abbrev iH_priceOfRest : Nat := 29
abbrev iH_endHire : Nat := 30
abbrev iH_wearSnaps : Nat := 31
abbrev iH_flagIsUp : Nat := 32
abbrev iH_anyTooWindy : Nat := 33
abbrev iH_beginHire : Nat := 34
abbrev iH_snapLine : Nat := 35
abbrev iH_tally : Nat := 36
abbrev iH_flies : Nat := 37
abbrev iH_refusal : Nat := 38
abbrev iH_passHourOf : Nat := 39
abbrev iH_hoursToSnap : Nat := 40
abbrev iH_passHour : Nat := 41
abbrev iH_longestHire : Nat := 42
abbrev iN_takeSign : Nat := 43
abbrev iN_digitHere : Nat := 44
abbrev iN_append : Nat := 45
abbrev iN_readNumber : Nat := 46
abbrev iN_kindOf : Nat := 47
abbrev iN_numberOf : Nat := 48
abbrev iN_init : Nat := 49
abbrev iN_readPart : Nat := 50
abbrev iN_findFault : Nat := 51
abbrev iP_stateAt : Nat := 52
abbrev iP_init : Nat := 53
abbrev iP_record : Nat := 54
abbrev iP_takeLatest : Nat := 55
abbrev iX_within : Nat := 56
abbrev iX_clearText : Nat := 57
abbrev iX_perHour : Nat := 58
abbrev iX_isColour : Nat := 59
abbrev iX_isKite : Nat := 60
abbrev iX_isSettingValue : Nat := 61
abbrev iX_type : Nat := 62
abbrev iX_spoolOf : Nat := 63
abbrev iX_ended : Nat := 64
abbrev iX_errorOfParts : Nat := 65
abbrev iX_tellParts : Nat := 66
abbrev iX_kiteOf : Nat := 67
abbrev iX_tailsOf : Nat := 68
abbrev iX_hireOf : Nat := 69
abbrev iX_windOf : Nat := 70
abbrev iX_keep : Nat := 71
abbrev iX_init : Nat := 72
abbrev iX_wind : Nat := 73
abbrev iX_kite : Nat := 74
abbrev iX_spool : Nat := 75
abbrev iX_tails : Nat := 76
abbrev iX_tellAll : Nat := 77
abbrev iX_back : Nat := 78
abbrev iX_found : Nat := 79
abbrev iX_set : Nat := 80
abbrev iX_fault : Nat := 81
abbrev iX_undo : Nat := 82
abbrev iX_restore : Nat := 83
abbrev iX_count : Nat := 84
abbrev iX_next : Nat := 85
abbrev iX_flyable : Nat := 86
abbrev iX_why : Nat := 87
abbrev iX_snapsIn : Nat := 88
abbrev iX_hire : Nat := 89
abbrev iX_pass : Nat := 90
abbrev iX_longest : Nat := 91
abbrev iX_ifPassed : Nat := 92
abbrev iX_dearest : Nat := 93
abbrev iM_tail : Nat := 94
abbrev iM_in : Nat := 95
abbrev iM_looks : Nat := 96
abbrev iM_lays : Nat := 97
abbrev iM_records : Nat := 98
abbrev iM_atKite : Nat := 99
abbrev iM_atSpool : Nat := 100
abbrev iM_isRed : Nat := 101
abbrev iM_has : Nat := 102
abbrev iM_atHire : Nat := 103
abbrev iM_bits : Nat := 104
abbrev iM_least : Nat := 105
abbrev iM_most : Nat := 106
abbrev iM_type : Nat := 107
abbrev iM_clearText : Nat := 108
abbrev iM_undo : Nat := 109
abbrev iM_keep : Nat := 110
abbrev iM_perHour : Nat := 111
abbrev iM_putAside : Nat := 112
abbrev iM_putBack : Nat := 113
abbrev iM_init : Nat := 114
abbrev iM_wind : Nat := 115
abbrev iM_know : Nat := 116
abbrev iM_comes : Nat := 117
abbrev iM_isColour : Nat := 118
abbrev iM_isKite : Nat := 119
abbrev iM_isHire : Nat := 120
abbrev iM_isTooMuch : Nat := 121
abbrev iM_spoolFor : Nat := 122
abbrev iM_lacksTails : Nat := 123
abbrev iM_pays : Nat := 124
abbrev iM_placeOf : Nat := 125
abbrev iM_of : Nat := 126
abbrev iM_tailsGo : Nat := 127
abbrev iM_takes : Nat := 128
abbrev iM_isNext : Nat := 129
abbrev iM_spoolOf : Nat := 130
abbrev iM_ended : Nat := 131
abbrev iM_windOf : Nat := 132
abbrev iM_kitesThatAre : Nat := 133
abbrev iM_allMetres : Nat := 134
abbrev iM_kite : Nat := 135
abbrev iM_spool : Nat := 136
abbrev iM_tails : Nat := 137
abbrev iM_isCalled : Nat := 138
abbrev iM_priceOf : Nat := 139
abbrev iM_ends : Nat := 140
abbrev iM_found : Nat := 141
abbrev iM_flies : Nat := 142
abbrev iM_set : Nat := 143
abbrev iM_takesNumber : Nat := 144
abbrev iM_does : Nat := 145
abbrev iM_restore : Nat := 146
abbrev iM_hireWith : Nat := 147
abbrev iM_tailsOf : Nat := 148
abbrev iM_hireOf : Nat := 149
abbrev iM_count : Nat := 150
abbrev iM_reason : Nat := 151
abbrev iM_comesBack : Nat := 152
abbrev iM_snaps : Nat := 153
abbrev iM_takesBehind : Nat := 154
abbrev iM_kiteOf : Nat := 155
abbrev iM_next : Nat := 156
abbrev iM_snapsIn : Nat := 157
abbrev iM_flyable : Nat := 158
abbrev iM_hire : Nat := 159
abbrev iM_back : Nat := 160
abbrev iM_hourOf : Nat := 161
abbrev iM_readPart : Nat := 162
abbrev iM_why : Nat := 163
abbrev iM_longestOf : Nat := 164
abbrev iM_passes : Nat := 165
abbrev iM_goes : Nat := 166
abbrev iM_longest : Nat := 167
abbrev iM_dearest : Nat := 168
abbrev iM_pass : Nat := 169
abbrev iM_fault : Nat := 170
abbrev iM_tellAll : Nat := 171
abbrev iM_ifPassed : Nat := 172
abbrev iL_law : Nat := 173
/-- where their words stand: code, instance or static, selects (0 for a static or a constructor), initialized -/
def mwds : List (Nat × Nat × Nat × Nat) := [
  (85, 84, 0, 57), (266, 265, 0, 57), (425, 424, 0, 62), (97, 95, 96, 56), (247, 245, 246, 56), (305, 303, 304, 56), (438, 436, 437, 56), (81, 80, 0, 56), (263, 261, 262, 56), (243, 241, 242, 55), (274, 272, 273, 55), (282, 280, 281, 55), (290, 288, 289, 55), (301, 299, 300, 55), (376, 374, 375, 55), (388, 387, 9, 55), (392, 391, 10, 55), (401, 399, 400, 55), (409, 408, 11, 55), (413, 411, 412, 55), (421, 419, 420, 55), (547, 546, 15, 55), (551, 550, 16, 55), (75, 74, 0, 55), (239, 237, 238, 55), (259, 257, 258, 55), (372, 370, 371, 55), (380, 378, 379, 55), (384, 383, 8, 55), (405, 403, 404, 55), (434, 432, 433, 55), (460, 459, 13, 55), (555, 553, 554, 55), (368, 366, 367, 55), (396, 394, 395, 55), (464, 463, 14, 55), (543, 541, 542, 55), (587, 585, 586, 55), (364, 362, 363, 55), (455, 454, 12, 55), (583, 581, 582, 55), (451, 449, 450, 55), (574, 572, 573, 55), (322, 321, 2, 59), (331, 330, 4, 59), (485, 483, 484, 59), (327, 326, 3, 59), (339, 337, 338, 59), (344, 342, 343, 59), (187, 186, 0, 59), (318, 317, 1, 59), (314, 312, 313, 59), (255, 254, 0, 58), (167, 166, 0, 58), (251, 249, 250, 58), (501, 499, 500, 58), (235, 234, 0, 54), (489, 487, 488, 54), (559, 557, 558, 54), (297, 296, 0, 54), (360, 359, 7, 54), (472, 471, 0, 54), (481, 479, 480, 54), (518, 516, 517, 54), (530, 528, 529, 54), (335, 334, 5, 54), (348, 347, 6, 54), (514, 512, 513, 54), (522, 520, 521, 54), (526, 524, 525, 54), (534, 532, 533, 54), (505, 503, 504, 54), (67, 66, 0, 54), (232, 230, 231, 54), (278, 276, 277, 54), (286, 284, 285, 54), (294, 292, 293, 54), (310, 308, 309, 54), (417, 415, 416, 54), (442, 440, 441, 54), (469, 467, 468, 54), (493, 491, 492, 54), (497, 495, 496, 54), (510, 508, 509, 54), (539, 537, 538, 54), (564, 562, 563, 54), (591, 589, 590, 54), (356, 354, 355, 54), (579, 577, 578, 54), (352, 350, 351, 54), (447, 445, 446, 54), (570, 568, 569, 54), (596, 594, 595, 54), (601, 599, 600, 54), (610, 609, 0, 60), (660, 659, 0, 60), (664, 663, 17, 60), (668, 667, 18, 60), (672, 671, 19, 60), (687, 686, 0, 60), (694, 693, 0, 60), (728, 727, 26, 60), (739, 738, 0, 60), (742, 741, 0, 60), (765, 764, 0, 60), (808, 807, 0, 60), (811, 810, 0, 60), (815, 813, 814, 60), (819, 817, 818, 60), (859, 857, 858, 60), (863, 861, 862, 60), (911, 909, 910, 60), (943, 942, 51, 60), (948, 947, 52, 60), (606, 605, 0, 60), (657, 655, 656, 60), (680, 679, 20, 60), (684, 683, 21, 60), (701, 700, 0, 60), (709, 708, 22, 60), (712, 711, 0, 60), (724, 723, 25, 60), (732, 731, 27, 60), (736, 735, 28, 60), (746, 745, 29, 60), (754, 753, 30, 60), (758, 757, 31, 60), (769, 768, 33, 60), (839, 838, 43, 60), (843, 842, 44, 60), (879, 877, 878, 60), (891, 889, 890, 60), (895, 893, 894, 60), (903, 902, 48, 60), (907, 906, 49, 60), (676, 674, 675, 60), (691, 689, 690, 60), (698, 696, 697, 60), (720, 719, 24, 60), (762, 761, 32, 60), (777, 776, 35, 60), (781, 779, 780, 60), (797, 796, 38, 60), (805, 803, 804, 60), (835, 834, 42, 60), (851, 850, 46, 60), (867, 865, 866, 60), (875, 874, 47, 60), (883, 881, 882, 60), (887, 885, 886, 60), (899, 897, 898, 60), (716, 715, 23, 60), (773, 772, 34, 60), (801, 800, 39, 60), (847, 846, 45, 60), (871, 869, 870, 60), (919, 917, 918, 60), (931, 929, 930, 60), (935, 933, 934, 60), (705, 703, 704, 60), (750, 748, 749, 60), (793, 792, 37, 60), (831, 830, 41, 60), (915, 913, 914, 60), (927, 926, 50, 60), (789, 788, 36, 60), (827, 826, 40, 60), (923, 921, 922, 60), (952, 950, 951, 60), (785, 783, 784, 60), (823, 821, 822, 60), (855, 853, 854, 60), (939, 937, 938, 60), (0, 0, 0, 0)]
/-- field links: the class, the entry, the field's class and place, whether a nest mate's, the word -/
def fltab : List (Nat × Nat × Nat × Nat × Bool × Nat) := [(3, 7, 3, 0, false, 86), (3, 19, 3, 1, false, 87), (0, 14, 0, 0, false, 100), (0, 20, 0, 1, false, 101), (0, 23, 0, 2, false, 103), (0, 26, 0, 3, false, 105), (0, 29, 0, 4, false, 107), (0, 32, 0, 5, false, 109), (0, 35, 0, 6, false, 111), (0, 38, 0, 7, false, 113), (0, 53, 0, 8, false, 116), (0, 57, 0, 9, false, 117), (0, 60, 0, 10, false, 119), (0, 63, 0, 11, false, 121), (0, 66, 0, 12, false, 123), (0, 69, 0, 13, false, 124), (0, 72, 0, 14, false, 126), (0, 75, 0, 15, false, 128), (2, 11, 2, 0, false, 172), (2, 18, 2, 1, false, 173), (2, 30, 2, 2, false, 174), (1, 9, 1, 0, false, 191), (1, 20, 1, 1, false, 192), (1, 24, 1, 2, false, 193), (1, 35, 1, 3, false, 195), (1, 32, 1, 4, false, 197), (4, 10, 4, 0, false, 210), (4, 16, 4, 1, false, 211), (4, 19, 4, 2, false, 212), (4, 25, 4, 3, false, 213), (4, 32, 4, 4, false, 214), (4, 172, 4, 5, false, 215), (5, 7, 5, 0, false, 611), (5, 13, 5, 1, false, 612), (5, 16, 5, 2, false, 613), (5, 19, 5, 3, false, 614), (5, 185, 5, 4, false, 615), (5, 22, 5, 5, false, 616), (5, 39, 5, 6, false, 617), (5, 25, 5, 7, false, 618), (5, 146, 5, 8, false, 619), (5, 153, 5, 9, false, 620), (5, 149, 5, 10, false, 621), (5, 28, 5, 11, false, 622), (5, 168, 5, 12, false, 623), (5, 171, 5, 13, false, 624), (4, 149, 0, 1, true, 102), (4, 179, 0, 2, true, 104), (4, 182, 0, 3, true, 106), (4, 77, 0, 4, true, 108), (4, 115, 0, 5, true, 110), (4, 185, 0, 6, true, 112), (4, 219, 0, 7, true, 114), (4, 36, 0, 8, true, 115), (4, 56, 0, 9, true, 118), (4, 63, 0, 10, true, 120), (4, 106, 0, 11, true, 122), (4, 139, 0, 13, true, 125), (4, 197, 0, 14, true, 127), (4, 194, 0, 15, true, 129), (4, 166, 2, 2, true, 175), (4, 159, 1, 2, true, 194), (4, 100, 1, 3, true, 196)]
def sltab : List (Nat × Nat × Nat × Bool × Nat) := [(4, 222, 0, false, 473), (4, 226, 1, false, 475), (0, 45, 2, true, 98)]
/-- method links: the class, the entry, the method (900: arraycopy, 901: Object's constructor), whether a nest mate's, the word -/
def mltab : List (Nat × Nat × Nat × Bool × Nat) := [(3, 1, 901, false, 82), (3, 13, 0, false, 83), (3, 23, 1, false, 264), (3, 26, 900, false, 267), (0, 78, 4, false, 244), (0, 41, 3, false, 94), (0, 96, 5, false, 397), (0, 3, 901, false, 76), (0, 11, 7, false, 79), (0, 82, 9, false, 240), (0, 49, 8, false, 260), (0, 86, 14, false, 373), (0, 99, 15, false, 385), (0, 126, 18, false, 406), (0, 117, 17, false, 398), (0, 129, 6, false, 435), (0, 89, 26, false, 369), (0, 106, 28, false, 381), (0, 120, 29, false, 402), (0, 123, 19, false, 410), (0, 145, 2, false, 465), (0, 136, 30, false, 456), (0, 153, 21, false, 544), (0, 156, 22, false, 548), (0, 159, 32, false, 552), (0, 93, 27, false, 377), (0, 102, 33, false, 365), (0, 109, 16, false, 389), (0, 139, 31, false, 457), (0, 142, 35, false, 461), (0, 150, 37, false, 584), (0, 133, 39, false, 452), (0, 113, 38, false, 575), (1, 54, 44, false, 328), (1, 46, 3, false, 323), (1, 28, 4, false, 340), (1, 3, 901, false, 188), (1, 17, 7, false, 190), (1, 42, 43, false, 319), (1, 50, 46, false, 324), (1, 38, 50, false, 315), (2, 3, 901, false, 168), (2, 17, 23, false, 171), (2, 22, 52, false, 252), (2, 26, 25, false, 256), (2, 33, 1, false, 270), (4, 40, 56, false, 233), (4, 155, 45, false, 482), (4, 86, 4, false, 306), (4, 229, 47, false, 336), (4, 232, 48, false, 341), (4, 52, 10, false, 271), (4, 59, 11, false, 279), (4, 176, 60, false, 357), (4, 70, 59, false, 295), (4, 112, 20, false, 418), (4, 188, 9, false, 535), (4, 169, 25, false, 506), (4, 1, 901, false, 68), (4, 9, 23, false, 73), (4, 24, 53, false, 165), (4, 31, 49, true, 185), (4, 44, 24, false, 236), (4, 48, 54, false, 248), (4, 66, 12, false, 287), (4, 74, 13, false, 298), (4, 81, 5, false, 302), (4, 90, 51, false, 311), (4, 94, 65, false, 332), (4, 97, 66, false, 345), (4, 118, 29, false, 422), (4, 121, 2, false, 423), (4, 126, 14, false, 429), (4, 129, 19, false, 430), (4, 133, 30, false, 431), (4, 136, 17, false, 443), (4, 145, 61, false, 470), (4, 152, 3, false, 477), (4, 162, 55, false, 498), (4, 191, 36, false, 540), (4, 203, 27, false, 565), (4, 206, 33, false, 566), (4, 215, 37, false, 592), (4, 200, 38, false, 361), (4, 212, 40, false, 580), (4, 103, 87, false, 353), (4, 109, 34, false, 393), (4, 142, 41, false, 448), (4, 209, 42, false, 571), (5, 1, 901, false, 607), (5, 31, 94, false, 608), (5, 35, 95, false, 658), (5, 43, 96, false, 661), (5, 111, 97, false, 665), (5, 46, 98, false, 669), (5, 49, 99, false, 685), (5, 52, 101, false, 725), (5, 69, 100, false, 692), (5, 66, 102, false, 737), (5, 60, 103, false, 740), (5, 115, 116, false, 677), (5, 118, 117, false, 681), (5, 122, 118, false, 699), (5, 56, 121, false, 721), (5, 63, 126, false, 755), (5, 140, 105, false, 806), (5, 143, 106, false, 809), (5, 156, 128, false, 836), (5, 159, 129, false, 840), (5, 134, 125, false, 751), (5, 191, 133, false, 900), (5, 194, 134, false, 904), (5, 102, 138, false, 717), (5, 105, 122, false, 729), (5, 108, 123, false, 733), (5, 72, 127, false, 766), (5, 76, 140, false, 774), (5, 79, 104, false, 763), (5, 83, 124, false, 743), (5, 162, 144, false, 832), (5, 125, 119, false, 706), (5, 188, 147, false, 872), (5, 89, 142, false, 794), (5, 128, 120, false, 710), (5, 131, 151, false, 713), (5, 86, 139, false, 759), (5, 96, 152, false, 770), (5, 92, 153, false, 798), (5, 165, 154, false, 844), (5, 99, 161, false, 790), (5, 174, 162, false, 828), (5, 177, 145, false, 848), (5, 197, 164, false, 924), (5, 137, 165, false, 786), (5, 181, 166, false, 824), (5, 200, 112, false, 940), (5, 204, 113, false, 945), (8, 9, 72, false, 65), (8, 12, 114, false, 604), (8, 13, 73, false, 229), (8, 17, 115, false, 654), (8, 18, 74, false, 275), (8, 22, 135, false, 673), (8, 23, 75, false, 283), (8, 27, 136, false, 688), (8, 28, 76, false, 291), (8, 32, 137, false, 695), (8, 33, 77, false, 307), (8, 37, 171, false, 852), (8, 38, 89, false, 349), (8, 41, 159, false, 702), (8, 42, 78, false, 414), (8, 45, 160, false, 747), (8, 46, 79, false, 439), (8, 49, 141, false, 778), (8, 50, 90, false, 444), (8, 53, 169, false, 782), (8, 54, 80, false, 466), (8, 57, 143, false, 802), (8, 58, 62, false, 478), (8, 62, 107, false, 812), (8, 63, 57, false, 486), (8, 66, 108, false, 816), (8, 67, 81, false, 490), (8, 70, 170, false, 820), (8, 71, 82, false, 494), (8, 74, 109, false, 856), (8, 75, 71, false, 502), (8, 78, 110, false, 860), (8, 79, 83, false, 507), (8, 82, 146, false, 864), (8, 83, 67, false, 511), (8, 86, 155, false, 868), (8, 87, 63, false, 515), (8, 90, 130, false, 876), (8, 91, 68, false, 519), (8, 94, 148, false, 880), (8, 95, 69, false, 523), (8, 98, 149, false, 884), (8, 99, 64, false, 527), (8, 102, 131, false, 888), (8, 103, 70, false, 531), (8, 106, 132, false, 892), (8, 107, 84, false, 536), (8, 110, 150, false, 896), (8, 111, 58, false, 556), (8, 115, 111, false, 908), (8, 116, 87, false, 560), (8, 119, 163, false, 912), (8, 120, 85, false, 561), (8, 123, 156, false, 916), (8, 124, 91, false, 567), (8, 127, 167, false, 920), (8, 128, 88, false, 576), (8, 131, 157, false, 928), (8, 132, 86, false, 588), (8, 135, 158, false, 932), (8, 136, 92, false, 593), (8, 139, 172, false, 936), (8, 140, 93, false, 598), (8, 143, 168, false, 949)]
def cltab : List (Nat × Nat × Int32 × Nat) := [(6, 265, 1431655765, 426), (6, 266, 858993459, 427), (6, 267, 252645135, 428), (4, 218, 100000, 597), (5, 203, 100000, 944)]
/-- class links: the class, the entry, the class named, the word, the words that it can be made and is initialized -/
def nltab : List (Nat × Nat × Nat × Nat × Nat × Nat) := [(8, 7, 4, 63, 64, 54), (4, 7, 0, 71, 72, 55), (0, 9, 3, 77, 78, 56), (4, 22, 2, 163, 164, 58), (2, 9, 0, 169, 72, 55), (4, 29, 1, 183, 184, 59), (1, 15, 3, 189, 78, 56), (8, 10, 5, 602, 603, 60)]
end
section
/-! THE SMALL MACHINE: what the class's bytecode does to a row of cells that are named by numbers; its steps are read off 'decode'. -/
/-- cells made, their slots, kind and length of a cell, what a cell holds -/
abbrev MS : Type := Nat × Nat × (Nat → Nat × Nat) × (Nat → Nat → Value)
/-- program counter, locals, stack, cells -/
abbrev Cf : Type := Nat × List Value × List Value × MS
abbrev Rs : Type := Prop × (Cf ⊕ (Option Value × MS))
/-- what a method does: what it asks, what it answers, the cells then -/
abbrev Sp : Type := List Value → MS → Prop × Option Value × MS
/-- the room, the script -/
abbrev En : Type := (Nat × Nat) × (Nat × (Nat → Int32))
def svNil : MS := (0, 0, fun _ => (0, 0), fun _ _ => .null)
def svSet (S : MS) (a k : Nat) (v : Value) : MS := (S.1, S.2.1, S.2.2.1, fun a' k' => if a' = a ∧ k' = k then v else S.2.2.2 a' k')
def svNew (S : MS) (kd len sz : Nat) (f : Nat → Value) : MS := (S.1 + 1, S.2.1 + sz, fun a => if a = S.1 then (kd, len) else S.2.2.1 a, fun a k => if a = S.1 then f k else S.2.2.2 a k)
def svCpy (S : MS) (a sp b dp n : Nat) : MS := (S.1, S.2.1, S.2.2.1, fun c k => if c = b ∧ dp ≤ k ∧ k < dp + n then S.2.2.2 a (sp + (k - dp)) else S.2.2.2 c k)
def bad : Rs := (False, .inr (none, svNil))
def nx (p : Prop) (pc : Nat) (ls st : List Value) (S : MS) : Rs := (p, .inl (pc, ls, st, S))
def lget (ls : List Value) (k : Nat) : Value := ls.getD k .null
def lset (ls : List Value) (k : Nat) (v : Value) : List Value := ls.set k v
/-- a place that may be written: the one before it holds no double -/
def stok (ls : List Value) (k : Nat) : Prop := k < ls.length ∧ ∀ j, j + 1 = k → (lget ls j).category = 1
/-- no double -/
def ct1 (v : Value) : Prop := v.category = 1
def toI (v : Value) : Int32 := match v with
  | .int x => x
  | _ => 0
def toR (v : Value) : Option Nat := match v with
  | .ref x => some x
  | _ => none
def tg (pc : Nat) (off : Int) : Nat := ((pc : Int) + off).toNat
def tgo (pc : Nat) (off : Int) : Prop := (0 : Int) ≤ (pc : Int) + off
def vmdef : MethodName × ByteArray × Nat × Option FieldType × Nat × Nat × Nat × Bool := (⟨"", "", ""⟩, .mk #[], 0, none, 0, 0, 0, false)
def mtN (y : Nat) : MethodName := (mtab.getD y vmdef).1
def mtC (y : Nat) : ByteArray := (mtab.getD y vmdef).2.1
def mtL (y : Nat) : Nat := (mtab.getD y vmdef).2.2.1
def mtR (y : Nat) : Option FieldType := (mtab.getD y vmdef).2.2.2.1
def mtO (y : Nat) : Nat := (mtab.getD y vmdef).2.2.2.2.1
def mtD (y : Nat) : Nat := (mtab.getD y vmdef).2.2.2.2.2.1
def mtA (y : Nat) : Nat := (mtab.getD y vmdef).2.2.2.2.2.2.1
def mtS (y : Nat) : Bool := (mtab.getD y vmdef).2.2.2.2.2.2.2
/-- an entry's field: its class and place -/
def FL (o i : Nat) : Option (Nat × Nat) := (fltab.find? fun q => q.1 == o && q.2.1 == i).map fun q => (q.2.2.1, q.2.2.2.1)
def SL (o i : Nat) : Option Nat := (sltab.find? fun q => q.1 == o && q.2.1 == i).map fun q => q.2.2.1
def ML (o i : Nat) : Option Nat := (mltab.find? fun q => q.1 == o && q.2.1 == i).map fun q => q.2.2.1
def CL (o i : Nat) : Option Int32 := (cltab.find? fun q => q.1 == o && q.2.1 == i).map fun q => q.2.2.1
def NL (o i : Nat) : Option Nat := (nltab.find? fun q => q.1 == o && q.2.1 == i).map fun q => q.2.2.1
/-- a class's fields -/
def nf (c : Nat) : Nat := (vwCl.getD c ("", TX0, 0)).2.2
def fT (c : Nat) : u_T := (vwCl.getD c ("", TX0, 0)).2.1
def fty (c : Nat) : Nat → FieldType := match c with
  | 0 => tyX0
  | 1 => tyX1
  | 2 => tyX2
  | 3 => tyX3
  | 4 => tyX4
  | _ => tyX5
/-- the three rows of settings -/
def stv (t : Nat) : List Int32 := match t with
  | 0 => [1, 20, 0, 0, 0]
  | 1 => [13, 999, 99, 99, 50]
  | _ => [8, 120, 15, 3, 5]
/-- an array that can be read: its length -/
def aln (e : En) (S : MS) (a : Nat) : Nat := if a < 1000 then (S.2.2.1 a).2 else if a < 2000 then 5 else e.2.1
/-- its contents -/
def ard (e : En) (S : MS) (a j : Nat) : Int32 := if a < 1000 then toI (S.2.2.2 a j) else if a < 2000 then (stv (a - 1000)).getD j 0 else e.2.2 j
/-- it is an array of kind kd -/
def aok (S : MS) (a kd : Nat) : Prop := if a < 1000 then a < S.1 ∧ (S.2.2.1 a).1 = kd else (if a < 2000 then a < 1003 else a = 2000) ∧ kd = 7
def iin (i : Int32) (n : Nat) : Prop := ¬ (i < 0 ∨ n ≤ i.toNatClampNeg)
/-- a cell that is an object of class c -/
def obj (S : MS) (a c : Nat) : Prop := a < 1000 ∧ a < S.1 ∧ (S.2.2.1 a).1 = c ∧ c < 6
def ari (S : MS) (a kd : Nat) : Prop := a < 1000 ∧ a < S.1 ∧ (S.2.2.1 a).1 = kd
/-- what a field of a type may hold -/
def fok (ty : FieldType) (v : Value) : Prop := narrow ty v = v ∧ fits ty v = true
def i_bin (f : Int32 → Int32 → Value) (p : Int32 → Int32 → Prop) (q : Prop) (pc : Nat) (ls st : List Value) (S : MS) : Rs := match st with
  | .int b :: .int a :: r => nx (q ∧ p a b) pc ls (f a b :: r) S
  | _ => bad
def i_un (f : Int32 → Value) (q : Prop) (pc : Nat) (ls st : List Value) (S : MS) : Rs := match st with
  | .int a :: r => nx q pc ls (f a :: r) S
  | _ => bad
def i_ild (q : Prop) (pc k : Nat) (ls st : List Value) (S : MS) : Rs := match lget ls k with
  | .int x => nx q pc ls (.int x :: st) S
  | _ => bad
def i_ald (q : Prop) (pc k : Nat) (ls st : List Value) (S : MS) : Rs := match lget ls k with
  | .ref x => nx q pc ls (.ref x :: st) S
  | _ => bad
def i_dld (q : Prop) (pc k : Nat) (ls st : List Value) (S : MS) : Rs := match lget ls k with
  | .double x => nx q pc ls (.double x :: st) S
  | _ => bad
def i_ist (q : Prop) (pc k : Nat) (ls st : List Value) (S : MS) : Rs := match st with
  | .int x :: r => nx (q ∧ stok ls k) pc (lset ls k (.int x)) r S
  | _ => bad
def i_ast (q : Prop) (pc k : Nat) (ls st : List Value) (S : MS) : Rs := match st with
  | .ref x :: r => nx (q ∧ stok ls k) pc (lset ls k (.ref x)) r S
  | _ => bad
def i_dst (q : Prop) (pc k : Nat) (ls st : List Value) (S : MS) : Rs := match st with
  | .double x :: r => nx (q ∧ stok ls k ∧ k + 1 < ls.length) pc (lset (lset ls k (.double x)) (k + 1) .null) r S
  | _ => bad
def i_inc (q : Prop) (pc k : Nat) (n : Int) (ls st : List Value) (S : MS) : Rs := match lget ls k with
  | .int x => nx (q ∧ stok ls k) pc (lset ls k (.int (x + Int32.ofInt n))) st S
  | _ => bad
def cnd (c : Jvm.ClassFile.Cond) (a b : Int32) : Bool := match c with
  | .eq => decide (a = b)
  | .ne => decide (¬ a = b)
  | .lt => decide (a < b)
  | .ge => decide (b ≤ a)
  | .gt => decide (b < a)
  | .le => decide (a ≤ b)
def i_if1 (c : Jvm.ClassFile.Cond) (off : Int) (q : Prop) (pc : Nat) (ls st : List Value) (S : MS) : Rs := match st with
  | .int a :: r => nx (q ∧ tgo pc off) (if cnd c a 0 = true then tg pc off else pc + 3) ls r S
  | _ => bad
def i_if2 (c : Jvm.ClassFile.Cond) (off : Int) (q : Prop) (pc : Nat) (ls st : List Value) (S : MS) : Rs := match st with
  | .int b :: .int a :: r => nx (q ∧ tgo pc off) (if cnd c a b = true then tg pc off else pc + 3) ls r S
  | _ => bad
def i_nul (off : Int) (q : Prop) (pc : Nat) (ls st : List Value) (S : MS) : Rs := match st with
  | .ref _ :: r => nx q (pc + 3) ls r S
  | .null :: r => nx (q ∧ tgo pc off) (tg pc off) ls r S
  | _ => bad
def i_nnl (off : Int) (q : Prop) (pc : Nat) (ls st : List Value) (S : MS) : Rs := match st with
  | .null :: r => nx q (pc + 3) ls r S
  | .ref _ :: r => nx (q ∧ tgo pc off) (tg pc off) ls r S
  | _ => bad
def tsw (pc : Nat) (x : Int32) (dflt lo hi : Int) (offs : Array Int) : Int := if x.toInt < lo ∨ hi < x.toInt then dflt else offs.getD (x.toInt - lo).toNat 0
def i_tsw (dflt lo hi : Int) (offs : Array Int) (pc : Nat) (ls st : List Value) (S : MS) : Rs := match st with
  | .int x :: r => nx (tgo pc (tsw pc x dflt lo hi offs) ∧ (¬ (x.toInt < lo ∨ hi < x.toInt) → (x.toInt - lo).toNat < offs.size)) (tg pc (tsw pc x dflt lo hi offs)) ls r S
  | _ => bad
def i_lsw (dflt : Int) (ps : Array (Int × Int)) (pc : Nat) (ls st : List Value) (S : MS) : Rs := match st with
  | .int x :: r => nx (tgo pc (Op.lookupswitch.offset ps.toList dflt x.toInt) ∧ (ps.toList.zip (ps.toList.drop 1)).all (fun (a, next) => a.1 < next.1) = true) (tg pc (Op.lookupswitch.offset ps.toList dflt x.toInt)) ls r S
  | _ => bad
def i_get (y ix : Nat) (q : Prop) (pc : Nat) (ls st : List Value) (S : MS) : Rs := match FL (mtO y) ix, st with
  | some (c, k), .ref a :: r => nx (q ∧ obj S a c ∧ k < nf c) pc ls (S.2.2.2 a k :: r) S
  | _, _ => bad
def i_put (y ix : Nat) (q : Prop) (pc : Nat) (ls st : List Value) (S : MS) : Rs := match FL (mtO y) ix, st with
  | some (c, k), v :: .ref a :: r => nx (q ∧ obj S a c ∧ k < nf c ∧ ((fT c k).2.2.2 = true → mtO y = c ∧ (mtN y).name = "<init>") ∧ fok (fty c k) v) pc ls r (svSet S a k v)
  | _, _ => bad
def i_gst (y ix : Nat) (q : Prop) (pc : Nat) (ls st : List Value) (S : MS) : Rs := match SL (mtO y) ix with
  | some t => nx (q ∧ t < 3) pc ls (.ref (1000 + t) :: st) S
  | _ => bad
def i_len (e : En) (q : Prop) (pc : Nat) (ls st : List Value) (S : MS) : Rs := match st with
  | .ref a :: r => nx (q ∧ (aok S a 7 ∨ aok S a 6 ∨ aok S a 8)) pc ls (.int (Int32.ofNat (aln e S a)) :: r) S
  | _ => bad
def i_ard (e : En) (kd : Nat) (q : Prop) (pc : Nat) (ls st : List Value) (S : MS) : Rs := match st with
  | .int i :: .ref a :: r => nx (q ∧ aok S a kd ∧ iin i (aln e S a)) pc ls (.int (ard e S a i.toNatClampNeg) :: r) S
  | _ => bad
def i_aqd (q : Prop) (pc : Nat) (ls st : List Value) (S : MS) : Rs := match st with
  | .int i :: .ref a :: r => nx (q ∧ ari S a 8 ∧ iin i (S.2.2.1 a).2 ∧ (∀ x, toR (S.2.2.2 a i.toNatClampNeg) = some x → x < 1000)) pc ls ((match toR (S.2.2.2 a i.toNatClampNeg) with
    | some x => .ref x
    | none => .null) :: r) S
  | _ => bad
def i_ast7 (q : Prop) (pc : Nat) (ls st : List Value) (S : MS) : Rs := match st with
  | .int x :: .int i :: .ref a :: r => nx (q ∧ ari S a 7 ∧ iin i (S.2.2.1 a).2) pc ls r (svSet S a i.toNatClampNeg (.int x))
  | _ => bad
def i_ast6 (q : Prop) (pc : Nat) (ls st : List Value) (S : MS) : Rs := match st with
  | .int x :: .int i :: .ref a :: r => nx (q ∧ ari S a 6 ∧ iin i (S.2.2.1 a).2) pc ls r (svSet S a i.toNatClampNeg (.int (vp_nar .char x)))
  | _ => bad
def i_ast8 (q : Prop) (pc : Nat) (ls st : List Value) (S : MS) : Rs := match st with
  | .ref x :: .int i :: .ref a :: r => nx (q ∧ ari S a 8 ∧ iin i (S.2.2.1 a).2 ∧ obj S x 0) pc ls r (svSet S a i.toNatClampNeg (.ref x))
  | _ => bad
def i_new (y ix : Nat) (e : En) (q : Prop) (pc : Nat) (ls st : List Value) (S : MS) : Rs := match NL (mtO y) ix with
  | some c => nx (q ∧ S.1 < 1000 ∧ c < 6 ∧ S.1 + 1 ≤ e.1.1 ∧ S.2.1 + nf c ≤ e.1.2) pc ls (.ref S.1 :: st) (svNew S c 0 (nf c) (fun k => defaultValue (fty c k)))
  | _ => bad
def i_nar (at' : ArrayType) (e : En) (q : Prop) (pc : Nat) (ls st : List Value) (S : MS) : Rs := match st with
  | .int n :: r => nx (q ∧ S.1 < 1000 ∧ (at' = .int ∨ at' = .char) ∧ ¬ n < 0 ∧ n.toNatClampNeg ≤ 100000 ∧ S.1 + 1 ≤ e.1.1 ∧ S.2.1 + n.toNatClampNeg ≤ e.1.2) pc ls (.ref S.1 :: r) (svNew S (if at' = .char then 6 else 7) n.toNatClampNeg n.toNatClampNeg (fun _ => .int 0))
  | _ => bad
def i_naq (y ix : Nat) (e : En) (q : Prop) (pc : Nat) (ls st : List Value) (S : MS) : Rs := match st with
  | .int n :: r => nx (q ∧ NL (mtO y) ix = some 0 ∧ S.1 < 1000 ∧ ¬ n < 0 ∧ n.toNatClampNeg ≤ 100000 ∧ S.1 + 1 ≤ e.1.1 ∧ S.2.1 + n.toNatClampNeg ≤ e.1.2) pc ls (.ref S.1 :: r) (svNew S 8 n.toNatClampNeg n.toNatClampNeg (fun _ => .null))
  | _ => bad
/-- the copy of a row of ints -/
def i_cpy (q : Prop) (pc : Nat) (ls st : List Value) (S : MS) : Rs := match st with
  | .int n :: .int dp :: .ref b :: .int sp :: .ref a :: r => nx (q ∧ r = [] ∧ ari S a 7 ∧ ari S b 7 ∧ ¬ sp < 0 ∧ ¬ dp < 0 ∧ ¬ n < 0 ∧ sp.toNatClampNeg + n.toNatClampNeg ≤ (S.2.2.1 a).2 ∧ dp.toNatClampNeg + n.toNatClampNeg ≤ (S.2.2.1 b).2) pc ls r (svCpy S a sp.toNatClampNeg b dp.toNatClampNeg n.toNatClampNeg)
  | _ => bad
/-- a call: n values off the stack, the last on top -/
def i_cal (y z : Nat) (sp : Nat → Sp) (e : En) (n : Nat) (q : Prop) (pc : Nat) (ls st : List Value) (S : MS) : Rs :=
  nx (q ∧ z < 173 ∧ 2 ≤ z ∧ mtD z < mtD y ∧ n ≤ st.length ∧ (st.drop n).length ≤ 4 ∧ (sp z (st.take n).reverse S).1 ∧ S.1 ≤ (sp z (st.take n).reverse S).2.2.1 ∧ S.2.1 ≤ (sp z (st.take n).reverse S).2.2.2.1 ∧ (sp z (st.take n).reverse S).2.2.1 ≤ e.1.1 ∧ (sp z (st.take n).reverse S).2.2.2.1 ≤ e.1.2)
    pc ls ((sp z (st.take n).reverse S).2.1.toList ++ st.drop n) (sp z (st.take n).reverse S).2.2
def isO (S : MS) (c : Nat) (v : Value) : Prop := match v with
  | .ref a => obj S a c
  | _ => False
def i_inv (y ix : Nat) (sp : Nat → Sp) (e : En) (q : Prop) (pc : Nat) (ls st : List Value) (S : MS) : Rs := match ML (mtO y) ix with
  | some z => i_cal y z sp e (mtA z + 1) (q ∧ mtS z = false ∧ (mtN z).name ≠ "<init>" ∧ isO S (mtO z) (lget st (mtA z))) pc ls st S
  | _ => bad
def i_ivs (y ix : Nat) (sp : Nat → Sp) (e : En) (q : Prop) (pc : Nat) (ls st : List Value) (S : MS) : Rs := match ML (mtO y) ix with
  | some z => if z = 900 then i_cpy (q ∧ 0 < mtD y) pc ls st S else if z = 0 then i_bin (fun a b => .int (if a < b then b else a)) (fun _ _ => True) (q ∧ 0 < mtD y ∧ (st.drop 2).length ≤ 4 ∧ S.1 ≤ e.1.1 ∧ S.2.1 ≤ e.1.2) pc ls st S else if z = 1 then i_bin (fun a b => .int (if b < a then b else a)) (fun _ _ => True) (q ∧ 0 < mtD y ∧ (st.drop 2).length ≤ 4 ∧ S.1 ≤ e.1.1 ∧ S.2.1 ≤ e.1.2) pc ls st S else i_cal y z sp e (mtA z) (q ∧ mtS z = true) pc ls st S
  | _ => bad
def i_ivp (y ix : Nat) (sp : Nat → Sp) (e : En) (q : Prop) (pc : Nat) (ls st : List Value) (S : MS) : Rs := match ML (mtO y) ix with
  | some z => if z = 901 then (match st with
      | .ref a :: r => nx (q ∧ r = [] ∧ 0 < mtD y) pc ls r S
      | _ => bad) else i_cal y z sp e (mtA z + 1) (q ∧ mtS z = false ∧ (mtN z).name = "<init>" ∧ mtR z = none ∧ isO S (mtO z) (lget st (mtA z))) pc ls st S
  | _ => bad
def i_ret (y : Nat) (q : Prop) (st : List Value) (S : MS) : Rs := match st with
  | [.int v] => (q ∧ (∃ ty, mtR y = some ty ∧ narrow ty (.int v) = .int v), .inr (some (.int v), S))
  | _ => bad
def i_drt (y : Nat) (q : Prop) (st : List Value) (S : MS) : Rs := match st with
  | [.double v] => (q ∧ mtR y = some .double, .inr (some (.double v), S))
  | _ => bad
def i_art (y : Nat) (q : Prop) (st : List Value) (S : MS) : Rs := match st with
  | [.ref a] => (q ∧ (∃ n, mtR y = some (.object n)), .inr (some (.ref a), S))
  | [.null] => (q ∧ (∃ n, mtR y = some (.object n)), .inr (some .null, S))
  | _ => bad
def i_vrt (y : Nat) (q : Prop) (st : List Value) (S : MS) : Rs := match st with
  | [] => (q ∧ mtR y = none, .inr (none, S))
  | _ => bad
def i_dup (q : Prop) (pc : Nat) (ls st : List Value) (S : MS) : Rs := match st with
  | v :: r => nx (q ∧ ct1 v) pc ls (v :: v :: r) S
  | _ => bad
def i_dup2 (q : Prop) (pc : Nat) (ls st : List Value) (S : MS) : Rs := match st with
  | v :: w :: r => nx (q ∧ ct1 v ∧ ct1 w) pc ls (v :: w :: v :: w :: r) S
  | _ => bad
def i_pop (q : Prop) (pc : Nat) (ls st : List Value) (S : MS) : Rs := match st with
  | v :: r => nx (q ∧ ct1 v) pc ls r S
  | _ => bad
def i_ddv (q : Prop) (pc : Nat) (ls st : List Value) (S : MS) : Rs := match st with
  | .double b :: .double a :: r => nx (q ∧ vf_n64 (FP.ddiv a b)) pc ls (.double (FP.ddiv a b) :: r) S
  | _ => bad
def i_dcm (op : CmpOp) (q : Prop) (pc : Nat) (ls st : List Value) (S : MS) : Rs := match st with
  | .double b :: .double a :: r => nx q pc ls (.int (Op.cmpValue (FP.dcmp a b) op) :: r) S
  | _ => bad
def i_ldc (y ix : Nat) (q : Prop) (pc : Nat) (ls st : List Value) (S : MS) : Rs := match CL (mtO y) ix with
  | some v => nx q pc ls (.int v :: st) S
  | _ => bad
def ins (y : Nat) (sp : Nat → Sp) (e : En) (i : Instr) (len pc : Nat) (ls st : List Value) (S : MS) : Rs := match i with
  | .iconst n => nx (len = 1) (pc + 1) ls (.int (Int32.ofInt n) :: st) S
  | .bipush n => nx (len = 2) (pc + 2) ls (.int (Int8.ofInt n).toInt32 :: st) S
  | .sipush n => nx (len = 3) (pc + 3) ls (.int (Int16.ofInt n).toInt32 :: st) S
  | .ldc ix => i_ldc y ix (len = 2) (pc + 2) ls st S
  | .ldc_w ix => i_ldc y ix (len = 3) (pc + 3) ls st S
  | .aconst_null => nx (len = 1) (pc + 1) ls (.null :: st) S
  | .dconst n => nx (len = 1 ∧ n = 0) (pc + 1) ls (.double FP.dconst0 :: st) S
  | .iload_n k => i_ild (len = 1) (pc + 1) k.val ls st S
  | .iload k => i_ild (len = 2) (pc + 2) k ls st S
  | .aload_n k => i_ald (len = 1) (pc + 1) k.val ls st S
  | .dload k => i_dld (len = 2) (pc + 2) k ls st S
  | .istore_n k => i_ist (len = 1) (pc + 1) k.val ls st S
  | .istore k => i_ist (len = 2) (pc + 2) k ls st S
  | .astore_n k => i_ast (len = 1) (pc + 1) k.val ls st S
  | .dstore k => i_dst (len = 2) (pc + 2) k ls st S
  | .iinc k n => i_inc (len = 3) (pc + 3) k n ls st S
  | .iadd => i_bin (fun a b => .int (a + b)) (fun _ _ => True) (len = 1) (pc + 1) ls st S
  | .isub => i_bin (fun a b => .int (a - b)) (fun _ _ => True) (len = 1) (pc + 1) ls st S
  | .imul => i_bin (fun a b => .int (a * b)) (fun _ _ => True) (len = 1) (pc + 1) ls st S
  | .iand => i_bin (fun a b => .int (a &&& b)) (fun _ _ => True) (len = 1) (pc + 1) ls st S
  | .ior => i_bin (fun a b => .int (a ||| b)) (fun _ _ => True) (len = 1) (pc + 1) ls st S
  | .ixor => i_bin (fun a b => .int (a ^^^ b)) (fun _ _ => True) (len = 1) (pc + 1) ls st S
  | .ishl => i_bin (fun a b => .int (a <<< (b &&& 31))) (fun _ _ => True) (len = 1) (pc + 1) ls st S
  | .ishr => i_bin (fun a b => .int (a >>> (b &&& 31))) (fun _ _ => True) (len = 1) (pc + 1) ls st S
  | .iushr => i_bin (fun a b => .int (a.toUInt32 >>> (b.toUInt32 &&& Int32.toUInt32 31)).toInt32) (fun _ _ => True) (len = 1) (pc + 1) ls st S
  | .idiv => i_bin (fun a b => .int (a / b)) (fun _ b => ¬ b = 0) (len = 1) (pc + 1) ls st S
  | .irem => i_bin (fun a b => .int (a - a / b * b)) (fun _ b => ¬ b = 0) (len = 1) (pc + 1) ls st S
  | .ineg => i_un (fun a => .int (-a)) (len = 1) (pc + 1) ls st S
  | .i2c => i_un (fun a => .int (a.toUInt32 % 65536).toInt32) (len = 1) (pc + 1) ls st S
  | .i2d => i_un (fun a => .double (FP.i2d a)) (len = 1) (pc + 1) ls st S
  | .ddiv => i_ddv (len = 1) (pc + 1) ls st S
  | .dcmp op => i_dcm op (len = 1) (pc + 1) ls st S
  | .dup => i_dup (len = 1) (pc + 1) ls st S
  | .dup2 => i_dup2 (len = 1) (pc + 1) ls st S
  | .pop => i_pop (len = 1) (pc + 1) ls st S
  | .ifCond c off => i_if1 c off (len = 3) pc ls st S
  | .if_icmp c off => i_if2 c off (len = 3) pc ls st S
  | .ifnull off => i_nul off (len = 3) pc ls st S
  | .ifnonnull off => i_nnl off (len = 3) pc ls st S
  | .goto off => nx (len = 3 ∧ tgo pc off) (tg pc off) ls st S
  | .tableswitch d lo hi offs => i_tsw d lo hi offs pc ls st S
  | .lookupswitch d ps => i_lsw d ps pc ls st S
  | .getfield ix => i_get y ix (len = 3) (pc + 3) ls st S
  | .putfield ix => i_put y ix (len = 3) (pc + 3) ls st S
  | .getstatic ix => i_gst y ix (len = 3) (pc + 3) ls st S
  | .arraylength => i_len e (len = 1) (pc + 1) ls st S
  | .iaload => i_ard e 7 (len = 1) (pc + 1) ls st S
  | .caload => i_ard e 6 (len = 1) (pc + 1) ls st S
  | .aaload => i_aqd (len = 1) (pc + 1) ls st S
  | .iastore => i_ast7 (len = 1) (pc + 1) ls st S
  | .castore => i_ast6 (len = 1) (pc + 1) ls st S
  | .aastore => i_ast8 (len = 1) (pc + 1) ls st S
  | .new ix => i_new y ix e (len = 3) (pc + 3) ls st S
  | .newarray t => i_nar t e (len = 2) (pc + 2) ls st S
  | .anewarray ix => i_naq y ix e (len = 3) (pc + 3) ls st S
  | .invokevirtual ix => i_inv y ix sp e (len = 3) (pc + 3) ls st S
  | .invokestatic ix => i_ivs y ix sp e (len = 3) (pc + 3) ls st S
  | .invokespecial ix => i_ivp y ix sp e (len = 3) (pc + 3) ls st S
  | .ireturn => i_ret y (len = 1) st S
  | .dreturn => i_drt y (len = 1) st S
  | .areturn => i_art y (len = 1) st S
  | .return_ => i_vrt y (len = 1) st S
  | _ => bad
def stp (y : Nat) (sp : Nat → Sp) (e : En) (pc : Nat) (ls st : List Value) (S : MS) : Rs := match decode (mtC y) pc with
  | .ok (i, len) => ins y sp e i len pc ls st S
  | _ => bad
def run (y : Nat) (sp : Nat → Sp) (e : En) : Nat → Nat → List Value → List Value → MS → (Option Value → MS → Prop) → Prop
  | 0, _, _, _, _, _ => False
  | n + 1, pc, ls, st, S, Q => (stp y sp e pc ls st S).1 ∧ match (stp y sp e pc ls st S).2 with
    | .inl c => run y sp e n c.1 c.2.1 c.2.2.1 c.2.2.2 Q
    | .inr r => Q r.1 r.2
/-- from this point method y ends, with Q of its answer and of the cells -/
def Vf (y : Nat) (sp : Nat → Sp) (e : En) (pc : Nat) (ls st : List Value) (S : MS) (Q : Option Value → MS → Prop) : Prop := ∃ n, run y sp e n pc ls st S Q
theorem Vf.eq {y : Nat} {sp : Nat → Sp} {e : En} {pc : Nat} {ls st : List Value} {S : MS} {Q : Option Value → MS → Prop} : Vf y sp e pc ls st S Q = ((stp y sp e pc ls st S).1 ∧ match (stp y sp e pc ls st S).2 with
    | .inl c => Vf y sp e c.1 c.2.1 c.2.2.1 c.2.2.2 Q
    | .inr r => Q r.1 r.2) := by
  apply propext
  constructor
  · rintro ⟨n, h⟩
    cases n with
    | zero => exact absurd h (by simp [run])
    | succ n =>
      simp only [run] at h
      refine ⟨h.1, ?_⟩
      cases hc : (stp y sp e pc ls st S).2 with
      | inl c => rw [hc] at h; exact ⟨n, h.2⟩
      | inr r => rw [hc] at h; exact h.2
  · intro h
    cases hc : (stp y sp e pc ls st S).2 with
    | inl c =>
      rw [hc] at h
      obtain ⟨h1, n, h2⟩ := h
      exact ⟨n + 1, by simp only [run]; exact ⟨h1, by rw [hc]; exact h2⟩⟩
    | inr r =>
      rw [hc] at h
      exact ⟨1, by simp only [run]; exact ⟨h.1, by rw [hc]; exact h.2⟩⟩
theorem Vf.nx {y : Nat} {sp : Nat → Sp} {e : En} {pc : Nat} {ls st : List Value} {S : MS} {Q : Option Value → MS → Prop} {p : Prop} {pc1 : Nat} {ls1 st1 : List Value} {S1 : MS} (h : stp y sp e pc ls st S = nx p pc1 ls1 st1 S1) : Vf y sp e pc ls st S Q = (p ∧ Vf y sp e pc1 ls1 st1 S1 Q) := by
  rw [Vf.eq, h]
  rfl
theorem Vf.rt {y : Nat} {sp : Nat → Sp} {e : En} {pc : Nat} {ls st : List Value} {S : MS} {Q : Option Value → MS → Prop} {p : Prop} {r : Option Value} {S1 : MS} (h : stp y sp e pc ls st S = (p, .inr (r, S1))) : Vf y sp e pc ls st S Q = (p ∧ Q r S1) := by
  rw [Vf.eq, h]
theorem stp_of {y : Nat} {sp : Nat → Sp} {e : En} {pc : Nat} {ls st : List Value} {S : MS} {i : Instr} {len : Nat} (h : decode (mtC y) pc = .ok (i, len)) : stp y sp e pc ls st S = ins y sp e i len pc ls st S := by
  unfold stp
  rw [h]
end
section
/-! THE SMALL MACHINE IS THE MACHINE: what it does, the JVM does (over the kit's rows) -/
abbrev PR : Type := (va_G × (ClassId × ClassId × ClassId)) × (Nat × (Nat → Nat) × Nat)
def pD (P : PR) : va_G := P.1.1
def pcC (P : PR) : ClassId := P.1.2.1
def pcI (P : PR) : ClassId := P.1.2.2.1
def pcH (P : PR) : ClassId := P.1.2.2.2
def pB (P : PR) : Nat := P.2.1
def pRo (P : PR) : Nat → Nat := P.2.2.1
def pSc (P : PR) : Nat := P.2.2.2
/-- where a named cell lies -/
def pad (P : PR) (a : Nat) : Nat := if a < 1000 then pB P + a else if a < 2000 then pRo P (a - 1000) else pSc P
def tr (P : PR) (v : Value) : Value := match v with
  | .ref a => .ref (pad P a)
  | w => w
def ent (P : PR) (S : MS) (a : Nat) : va_E :=
  if (S.2.2.1 a).1 < 6 then .inr ((S.2.2.1 a).1, (List.range (nf (S.2.2.1 a).1)).map fun k => tr P (S.2.2.2 a k))
  else if (S.2.2.1 a).1 = 8 then .inl (pcH P, (S.2.2.1 a).2, .inr (.inr (.inr (.inr (fun j => (toR (S.2.2.2 a j)).map (pad P))))))
  else .inl (if (S.2.2.1 a).1 = 6 then pcC P else pcI P, (S.2.2.1 a).2, .inl (fun j => toI (S.2.2.2 a j)))
def wl (P : PR) (S : MS) : va_W := (List.range S.1).map fun a => (pB P + a, ent P S a)
def ptys (P : PR) : List (ClassId × FieldType) := [(pcC P, .char), (pcI P, .int), (pcH P, .object "KiteHire$Hut")]
def AP (P : PR) : Nat → Prop := fun q => pB P ≤ q
/-- words of nest mates: they stay true in their own way -/
def nstWord : Jvm.Cond → Bool
  | .fieldLinkNest _ _ _ _ _ _ => true
  | .methodLinkNest _ _ _ _ => true
  | _ => false
def lwn : List Jvm.Cond := lw_tbl.filter nstWord
theorem nst_warm {w : Jvm.Cond} {s U : State} (h : w ∈ lwn) (hW : s.WarmedH U.vm) (hZ : va_Nw w s) : va_Nw w U := by
  have h1 := (List.mem_filter.mp h).2
  unfold nstWord at h1
  split at h1
  · exact va_Nw.warmF hW hZ
  · exact va_Nw.warmM hW hZ
  · cases h1
def snm (t : Nat) : String := match t with
  | 0 => "SETTING_LEAST"
  | 1 => "SETTING_MOST"
  | _ => "SETTING_FIRST"
def StOK (P : PR) (sc : Nat × (Nat → Int32)) (U : State) : Prop := (∀ t, t < 3 → va_Z "KiteHire" (snm t) "[I" (.ref (pRo P t)) (AP P) U U.heap ∧ va_T .int (pRo P t) 5 (fun j => .int ((stv t).getD j 0)) (AP P) U U.heap) ∧ va_X (pSc P) sc.1 sc.2 U U.heap ∧ pSc P < U.heap.size ∧ ¬ AP P (pSc P) ∧ va_AO "KiteHire$Hut" U ∧ ∀ w ∈ lwn, va_Nw w U
def PcM (P : PR) (sc : Nat × (Nat → Int32)) (av : List Value) (S : MS) : Array Value → State → Prop := fun a U => a = (av.map (tr P)).toArray ∧ U.heap.size = pB P + S.1 ∧ va_P (pD P) vwCl (wl P S) U.heap ∧ va_K (pD P) vwCl (ptys P) U ∧ StOK P sc U
def QcM (P : PR) (r : Option Value) (S : MS) : Array Value → State → Outcome → State → Prop := fun _ st oc t => oc = .returned (r.map (tr P)) ∧ va_P (pD P) vwCl (wl P S) t.heap ∧ va_F (AP P) st t
/-- the tables' words that stay true -/
def lwg : List Jvm.Cond := lw_tbl.filter goodWord
def wsm (y : Nat) : List Jvm.Cond := Jvm.Cond.code (mtN y) (mtC y) (mtL y) (mtR y) :: lwg
def rmm (y k n : Nat) : Room := { frames := mtD y, cells := k, slots := n, locals := 36 * mtD y }
/-- method y does what f says -/
def SpecOK (y : Nat) (f : Sp) : Prop := ∀ (l : Launch) (P : PR) (sc : Nat × (Nat → Int32)) (av : List Value) (S : MS), (f av S).1 → Met l (mtN y) (wsm y) (rmm y ((f av S).2.2.1 - S.1) ((f av S).2.2.2.1 - S.2.1)) (PcM P sc av S) (QcM P (f av S).2.1 (f av S).2.2) ((f av S).2.2.1 - S.1) ((f av S).2.2.2.1 - S.2.1) (AP P)
def lvr (P : PR) (als : Array Slot) (nL : Nat) (ls : List Value) : Prop := ls.length = nL ∧ als.size = nL ∧ lv_wf als ∧ ∀ (k : Nat) (v : Value), ls[k]? = some v → v ≠ .null → als[k]? = some (.val (tr P v))
def lvl (P : PR) (ls : List Value) : List (Nat × Value) := (List.range ls.length).filterMap fun j => match lget ls j with
  | .null => none
  | v => some (j, tr P v)
theorem tr_cat (P : PR) (v : Value) : (tr P v).category = v.category := by cases v <;> rfl
theorem lget_some {ls : List Value} {k : Nat} {v : Value} (h : lget ls k = v) (hv : v ≠ .null) : ls[k]? = some v := by
  unfold lget at h
  rw [List.getD_eq_getElem?_getD] at h
  cases hk : ls[k]? with
  | none => rw [hk] at h; exact absurd h.symm hv
  | some w => rw [hk] at h; exact congrArg some h
theorem lvl_mem {P : PR} {ls : List Value} {j : Nat} {w : Value} (h : (j, w) ∈ lvl P ls) : ∃ v, ls[j]? = some v ∧ v ≠ .null ∧ w = tr P v := by
  unfold lvl at h
  obtain ⟨i, hi, h2⟩ := List.mem_filterMap.mp h
  have hlt := List.mem_range.mp hi
  cases hg : lget ls i with
  | null => simp only [hg] at h2; cases h2
  | _ =>
    simp only [hg] at h2
    cases h2
    exact ⟨_, lget_some hg (by intro q; cases q), by (intro q; cases q), rfl⟩
theorem lvl_of {P : PR} {ls : List Value} {j : Nat} {v : Value} (h : ls[j]? = some v) (hv : v ≠ .null) : (j, tr P v) ∈ lvl P ls := by
  unfold lvl
  refine List.mem_filterMap.mpr ⟨j, List.mem_range.mpr (List.getElem?_eq_some_iff.mp h).1, ?_⟩
  have hg : lget ls j = v := by
    unfold lget
    rw [List.getD_eq_getElem?_getD, h]
    rfl
  rw [hg]
  cases v <;> first | rfl | exact absurd rfl hv
theorem lvr.has {P : PR} {als : Array Slot} {nL : Nat} {ls : List Value} (h : lvr P als nL ls) : lv_has als nL (lvl P ls) := by
  obtain ⟨h1, h2, h3, h4⟩ := h
  refine ⟨h2, h3, fun q hq => ?_⟩
  obtain ⟨j, w⟩ := q
  obtain ⟨v, g1, g2, rfl⟩ := lvl_mem hq
  exact h4 j v g1 g2
theorem lvr.get {P : PR} {als : Array Slot} {nL : Nat} {ls : List Value} (h : lvr P als nL ls) {k : Nat} {v : Value} (hg : lget ls k = v) (hv : v ≠ .null) : als[k]? = some (.val (tr P v)) := h.2.2.2 k v (lget_some hg hv) hv
theorem lvr.set {P : PR} {als als' : Array Slot} {nL : Nat} {ls : List Value} (h : lvr P als nL ls) {k : Nat} {v : Value} (ho : stok ls k) (h' : lv_has als' nL ((k, tr P v) :: (lvl P ls).filter (fun q => !(q.1 == k) && !(q.1 + 1 == k && q.2.category == 2)))) : lvr P als' nL (lset ls k v) := by
  obtain ⟨g1, g2, g3⟩ := h'
  refine ⟨by unfold lset; rw [List.length_set]; exact h.1, g1, g2, fun j w hj hw => ?_⟩
  unfold lset at hj
  by_cases e : j = k
  · subst e
    rw [List.getElem?_set_self ho.1] at hj
    cases hj
    exact g3 (j, tr P v) List.mem_cons_self
  · rw [List.getElem?_set_ne (Ne.symm e)] at hj
    refine g3 (j, tr P w) (List.mem_cons_of_mem _ (List.mem_filter.mpr ⟨lvl_of hj hw, ?_⟩))
    have hc : j + 1 = k → w.category = 1 := fun q => by
      have h1 := ho.2 j q
      unfold lget at h1
      rw [List.getD_eq_getElem?_getD, hj] at h1
      exact h1
    simp only [tr_cat]
    by_cases q : j + 1 = k
    · simp [e, q, hc q]
    · simp [e, q]
theorem lvr.set2 {P : PR} {als als' : Array Slot} {nL : Nat} {ls : List Value} (h : lvr P als nL ls) {k : Nat} {v : Value} (ho : stok ls k) (h' : lv_has als' nL ((k, tr P v) :: (lvl P ls).filter (fun q => !(q.1 == k) && (!(q.1 == k + 1) && !(q.1 + 1 == k && q.2.category == 2))))) : lvr P als' nL (lset (lset ls k v) (k + 1) .null) := by
  obtain ⟨g1, g2, g3⟩ := h'
  refine ⟨by unfold lset; rw [List.length_set, List.length_set]; exact h.1, g1, g2, fun j w hj hw => ?_⟩
  unfold lset at hj
  by_cases e1 : j = k + 1
  · subst e1
    have hlen : k + 1 < (ls.set k v).length := by
      have := (List.getElem?_eq_some_iff.mp hj).1
      rw [List.length_set] at this
      exact this
    rw [List.getElem?_set_self hlen] at hj
    cases hj
    exact absurd rfl hw
  rw [List.getElem?_set_ne (Ne.symm e1)] at hj
  by_cases e : j = k
  · subst e
    rw [List.getElem?_set_self ho.1] at hj
    cases hj
    exact g3 (j, tr P v) List.mem_cons_self
  · rw [List.getElem?_set_ne (Ne.symm e)] at hj
    refine g3 (j, tr P w) (List.mem_cons_of_mem _ (List.mem_filter.mpr ⟨lvl_of hj hw, ?_⟩))
    have hc : j + 1 = k → w.category = 1 := fun q => by
      have h1 := ho.2 j q
      unfold lget at h1
      rw [List.getD_eq_getElem?_getD, hj] at h1
      exact h1
    simp only [tr_cat]
    by_cases q : j + 1 = k
    · simp [e, e1, q, hc q]
    · simp [e, e1, q]
-- the world's list
theorem wl_get (P : PR) (S : MS) {a : Nat} (h : a < S.1) : (wl P S)[a]? = some (pB P + a, ent P S a) := by
  unfold wl
  simp [h]
theorem wl_D (P : PR) (S : MS) : va_D (AP P) (wl P S) := by
  have key : ∀ (k : Nat) (q : Nat × va_E), (wl P S)[k]? = some q → q.1 = pB P + k := by
    intro k q h
    have hk : k < S.1 := by
      have := (List.getElem?_eq_some_iff.mp h).1
      unfold wl at this
      simpa using this
    rw [wl_get P S hk] at h
    cases h
    rfl
  refine ⟨fun i j p q hi hj e => ?_, fun k q h => ?_⟩
  · have h1 := key i p hi
    have h2 := key j q hj
    omega
  · show pB P ≤ q.1
    rw [key k q h]
    omega
theorem wl_set (P : PR) (S S1 : MS) {a : Nat} (h1 : S1.1 = S.1) (h2 : ∀ b, b ≠ a → b < S.1 → ent P S1 b = ent P S b) : (wl P S).set a (pB P + a, ent P S1 a) = wl P S1 := by
  apply List.ext_getElem?
  intro k
  by_cases hk : k < S.1
  · rw [wl_get P S1 (by omega)]
    by_cases e : k = a
    · subst e
      rw [List.getElem?_set_self (by unfold wl; simpa using hk)]
    · rw [List.getElem?_set_ne (Ne.symm e), wl_get P S hk, h2 k e hk]
  · have g1 : ((wl P S).set a (pB P + a, ent P S1 a))[k]? = none := by
      rw [List.getElem?_eq_none]
      unfold wl
      simp
      omega
    have g2 : (wl P S1)[k]? = none := by
      rw [List.getElem?_eq_none]
      unfold wl
      simp
      omega
    rw [g1, g2]
theorem wl_push (P : PR) (S S1 : MS) (h1 : S1.1 = S.1 + 1) (h2 : ∀ b, b < S.1 → ent P S1 b = ent P S b) : wl P S ++ [(pB P + S.1, ent P S1 S.1)] = wl P S1 := by
  unfold wl
  rw [h1, List.range_succ, List.map_append]
  congr 1
  apply List.map_congr_left
  intro b hb
  rw [h2 b (List.mem_range.mp hb)]
theorem ent_set_ne (P : PR) (S : MS) {a b k : Nat} (v : Value) (h : b ≠ a) : ent P (svSet S a k v) b = ent P S b := by
  have e : ∀ j, (svSet S a k v).2.2.2 b j = S.2.2.2 b j := fun j => by
    show (if b = a ∧ j = k then v else S.2.2.2 b j) = _
    rw [if_neg (fun q => h q.1)]
  unfold ent
  simp only [e]
  rfl
theorem ent_cpy_ne (P : PR) (S : MS) {a sp b dp n c : Nat} (h : c ≠ b) : ent P (svCpy S a sp b dp n) c = ent P S c := by
  have e : ∀ j, (svCpy S a sp b dp n).2.2.2 c j = S.2.2.2 c j := fun j => by
    show (if c = b ∧ dp ≤ j ∧ j < dp + n then _ else S.2.2.2 c j) = _
    rw [if_neg (fun q => h q.1)]
  unfold ent
  simp only [e]
  rfl
theorem ent_new_ne (P : PR) (S : MS) {kd len sz b : Nat} {f : Nat → Value} (h : b < S.1) : ent P (svNew S kd len sz f) b = ent P S b := by
  have e : ∀ j, (svNew S kd len sz f).2.2.2 b j = S.2.2.2 b j := fun j => by
    show (if b = S.1 then f j else S.2.2.2 b j) = _
    rw [if_neg (by omega)]
  have e2 : (svNew S kd len sz f).2.2.1 b = S.2.2.1 b := by
    show (if b = S.1 then (kd, len) else S.2.2.1 b) = _
    rw [if_neg (by omega)]
  unfold ent
  simp only [e, e2]
theorem ent_obj (P : PR) {S : MS} {a c : Nat} (h : obj S a c) : ent P S a = .inr (c, (List.range (nf c)).map fun k => tr P (S.2.2.2 a k)) := by
  obtain ⟨-, -, h1, h2⟩ := h
  unfold ent
  rw [h1, if_pos h2]
theorem ent_i (P : PR) {S : MS} {a : Nat} (h : (S.2.2.1 a).1 = 7) : ent P S a = .inl (pcI P, (S.2.2.1 a).2, .inl (fun j => toI (S.2.2.2 a j))) := by
  unfold ent
  rw [h]
  rfl
theorem ent_c (P : PR) {S : MS} {a : Nat} (h : (S.2.2.1 a).1 = 6) : ent P S a = .inl (pcC P, (S.2.2.1 a).2, .inl (fun j => toI (S.2.2.2 a j))) := by
  unfold ent
  rw [h]
  rfl
theorem ent_q (P : PR) {S : MS} {a : Nat} (h : (S.2.2.1 a).1 = 8) : ent P S a = .inl (pcH P, (S.2.2.1 a).2, .inr (.inr (.inr (.inr (fun j => (toR (S.2.2.2 a j)).map (pad P)))))) := by
  unfold ent
  rw [h]
  rfl
theorem pad_lt (P : PR) {a : Nat} (h : a < 1000) : pad P a = pB P + a := by unfold pad; rw [if_pos h]
end
section
/-! what the tables' words say of the links, looked up by their places -/
def flk (q : Nat × Nat × Nat × Nat × Bool × Nat) : Bool := decide (lw_tbl[q.2.2.2.2.2]? = some (if q.2.2.2.2.1 = true then Jvm.Cond.fieldLinkNest (cn q.1) q.2.1 (cn q.2.2.1) (fT q.2.2.1 q.2.2.2.1).2.1 (fT q.2.2.1 q.2.2.2.1).2.2.1 "KiteHire" else Jvm.Cond.fieldLink (cn q.1) q.2.1 (cn q.2.2.1) (fT q.2.2.1 q.2.2.2.1).2.1 (fT q.2.2.1 q.2.2.2.1).2.2.1)) && decide (q.2.2.1 < 6) && (!q.2.2.2.2.1 || decide (q.1 ≠ q.2.2.1))
theorem flk_all : fltab.all flk = true := by decide +kernel
def slk (q : Nat × Nat × Nat × Bool × Nat) : Bool := decide (lw_tbl[q.2.2.2.2]? = some (if q.2.2.2.1 = true then Jvm.Cond.fieldLinkNest (cn q.1) q.2.1 "KiteHire" (snm q.2.2.1) "[I" "KiteHire" else Jvm.Cond.fieldLink (cn q.1) q.2.1 "KiteHire" (snm q.2.2.1) "[I"))
theorem slk_all : sltab.all slk = true := by decide +kernel
/-- System.arraycopy's and Object's own words -/
theorem acp_ok : Jvm.Cond.native arraycopyName ∈ lwg ∧ Jvm.Cond.static arraycopyName ∈ lwg ∧ Jvm.Cond.initialized "java/lang/System" ∈ lwg := by decide +kernel
theorem obi_ok : Jvm.Cond.instanceMethod Lib.objectInit ∈ lwg ∧ Jvm.Cond.code Lib.objectInit ⟨#[0xb1]⟩ 1 none ∈ lwg := by decide +kernel
theorem arc_ok : Jvm.Cond.arrayClass .int ∈ lwg ∧ Jvm.Cond.arrayClass .char ∈ lwg := by decide +kernel
def mwd (z : Nat) : Nat × Nat × Nat × Nat := mwds.getD z (0, 0, 0, 0)
def mlk (q : Nat × Nat × Nat × Bool × Nat) : Bool := (!q.2.2.2.1 || decide (2 ≤ q.2.2.1 ∧ q.2.2.1 < 173)) && decide (lw_tbl[q.2.2.2.2]? = some (if q.2.2.2.1 = true then Jvm.Cond.methodLinkNest (cn q.1) q.2.1 (mtN q.2.2.1) "KiteHire" else Jvm.Cond.methodLink (cn q.1) q.2.1 (if q.2.2.1 = 900 then arraycopyName else if q.2.2.1 = 901 then Lib.objectInit else mtN q.2.2.1)))
theorem mlk_all : mltab.all mlk = true := by decide +kernel
def clk (q : Nat × Nat × Int32 × Nat) : Bool := decide (lw_tbl[q.2.2.2]? = some (Jvm.Cond.constant (cn q.1) q.2.1 q.2.2.1))
theorem clk_all : cltab.all clk = true := by decide +kernel
def nlk (q : Nat × Nat × Nat × Nat × Nat × Nat) : Bool := decide (lw_tbl[q.2.2.2.1]? = some (Jvm.Cond.classLink (cn q.1) q.2.1 (cn q.2.2.1))) && decide (lw_tbl[q.2.2.2.2.1]? = some (Jvm.Cond.instantiable (cn q.2.2.1) (nf q.2.2.1))) && decide (lw_tbl[q.2.2.2.2.2]? = some (Jvm.Cond.initialized (cn q.2.2.1)))
theorem nlk_all : nltab.all nlk = true := by decide +kernel
/-- what holds of a method but the law: its words -/
def mcb (z : Nat) : Bool := decide (z < 2 ∨ lw_tbl[(mwd z).1]? = some (Jvm.Cond.code (mtN z) (mtC z) (mtL z) (mtR z)))
theorem mcb_0 : (List.range 10).all (fun d => mcb (0 + d)) = true := by decide +kernel
theorem mcb_1 : (List.range 10).all (fun d => mcb (10 + d)) = true := by decide +kernel
theorem mcb_2 : (List.range 10).all (fun d => mcb (20 + d)) = true := by decide +kernel
theorem mcb_3 : (List.range 10).all (fun d => mcb (30 + d)) = true := by decide +kernel
theorem mcb_4 : (List.range 10).all (fun d => mcb (40 + d)) = true := by decide +kernel
theorem mcb_5 : (List.range 10).all (fun d => mcb (50 + d)) = true := by decide +kernel
theorem mcb_6 : (List.range 10).all (fun d => mcb (60 + d)) = true := by decide +kernel
theorem mcb_7 : (List.range 10).all (fun d => mcb (70 + d)) = true := by decide +kernel
theorem mcb_8 : (List.range 10).all (fun d => mcb (80 + d)) = true := by decide +kernel
theorem mcb_9 : (List.range 10).all (fun d => mcb (90 + d)) = true := by decide +kernel
theorem mcb_10 : (List.range 10).all (fun d => mcb (100 + d)) = true := by decide +kernel
theorem mcb_11 : (List.range 10).all (fun d => mcb (110 + d)) = true := by decide +kernel
theorem mcb_12 : (List.range 10).all (fun d => mcb (120 + d)) = true := by decide +kernel
theorem mcb_13 : (List.range 10).all (fun d => mcb (130 + d)) = true := by decide +kernel
theorem mcb_14 : (List.range 10).all (fun d => mcb (140 + d)) = true := by decide +kernel
theorem mcb_15 : (List.range 10).all (fun d => mcb (150 + d)) = true := by decide +kernel
theorem mcb_16 : (List.range 10).all (fun d => mcb (160 + d)) = true := by decide +kernel
theorem mcb_17 : (List.range 3).all (fun d => mcb (170 + d)) = true := by decide +kernel
theorem mcb_all (z : Nat) (hz : z < 173) : mcb z = true := by
  have key : ∀ (n k : Nat), (List.range n).all (fun d => mcb (k + d)) = true → k ≤ z → z < k + n → mcb z = true := by
    intro n k h h1 h2
    have h3 := List.all_eq_true.mp h (z - k) (List.mem_range.mpr (by omega))
    rw [show k + (z - k) = z by omega] at h3
    exact h3
  rcases Nat.lt_or_ge z 10 with q | q0
  · exact key 10 0 mcb_0 (by omega) q
  rcases Nat.lt_or_ge z 20 with q | q1
  · exact key 10 10 mcb_1 (by omega) q
  rcases Nat.lt_or_ge z 30 with q | q2
  · exact key 10 20 mcb_2 (by omega) q
  rcases Nat.lt_or_ge z 40 with q | q3
  · exact key 10 30 mcb_3 (by omega) q
  rcases Nat.lt_or_ge z 50 with q | q4
  · exact key 10 40 mcb_4 (by omega) q
  rcases Nat.lt_or_ge z 60 with q | q5
  · exact key 10 50 mcb_5 (by omega) q
  rcases Nat.lt_or_ge z 70 with q | q6
  · exact key 10 60 mcb_6 (by omega) q
  rcases Nat.lt_or_ge z 80 with q | q7
  · exact key 10 70 mcb_7 (by omega) q
  rcases Nat.lt_or_ge z 90 with q | q8
  · exact key 10 80 mcb_8 (by omega) q
  rcases Nat.lt_or_ge z 100 with q | q9
  · exact key 10 90 mcb_9 (by omega) q
  rcases Nat.lt_or_ge z 110 with q | q10
  · exact key 10 100 mcb_10 (by omega) q
  rcases Nat.lt_or_ge z 120 with q | q11
  · exact key 10 110 mcb_11 (by omega) q
  rcases Nat.lt_or_ge z 130 with q | q12
  · exact key 10 120 mcb_12 (by omega) q
  rcases Nat.lt_or_ge z 140 with q | q13
  · exact key 10 130 mcb_13 (by omega) q
  rcases Nat.lt_or_ge z 150 with q | q14
  · exact key 10 140 mcb_14 (by omega) q
  rcases Nat.lt_or_ge z 160 with q | q15
  · exact key 10 150 mcb_15 (by omega) q
  rcases Nat.lt_or_ge z 170 with q | q16
  · exact key 10 160 mcb_16 (by omega) q
  rcases Nat.lt_or_ge z 173 with q | q17
  · exact key 3 170 mcb_17 (by omega) q
  omega
def mokb (z : Nat) : Bool := decide (lw_tbl[(mwd z).2.1]? = some (if mtS z = true then Jvm.Cond.static (mtN z) else Jvm.Cond.instanceMethod (mtN z))) && decide (mtS z = true ∨ (mtN z).name = "<init>" ∨ lw_tbl[(mwd z).2.2.1]? = some (Jvm.Cond.selects (cn (mtO z)) (mtN z) (mtN z))) && decide (lw_tbl[(mwd z).2.2.2]? = some (Jvm.Cond.initialized (mtN z).cls)) && decide ((mtN z).cls = cn (mtO z)) && decide ((mtN z).cls ≠ "java/lang/invoke/MethodHandle" ∧ (mtN z).cls ≠ "java/lang/invoke/VarHandle" ∧ (parseMethodDescriptor (mtN z).desc).map (fun d => d.parameters.length) = some (mtA z)) && decide (mtL z ≤ 17) && (decide (z < 2) || plainName (mtN z).cls)
theorem mokb_all : (List.range 173).all mokb = true := by decide +kernel
def mok (z : Nat) : Prop := lw_tbl[(mwd z).1]? = some (Jvm.Cond.code (mtN z) (mtC z) (mtL z) (mtR z)) ∧ lw_tbl[(mwd z).2.1]? = some (if mtS z = true then Jvm.Cond.static (mtN z) else Jvm.Cond.instanceMethod (mtN z)) ∧ (mtS z = true ∨ (mtN z).name = "<init>" ∨ lw_tbl[(mwd z).2.2.1]? = some (Jvm.Cond.selects (cn (mtO z)) (mtN z) (mtN z))) ∧ lw_tbl[(mwd z).2.2.2]? = some (Jvm.Cond.initialized (mtN z).cls) ∧ (mtN z).cls = cn (mtO z) ∧ ((mtN z).cls ≠ "java/lang/invoke/MethodHandle" ∧ (mtN z).cls ≠ "java/lang/invoke/VarHandle" ∧ (parseMethodDescriptor (mtN z).desc).map (fun d => d.parameters.length) = some (mtA z)) ∧ mtL z ≤ 17 ∧ plainName (mtN z).cls = true
theorem mok_all (z : Nat) (hz : z < 173) (hz2 : 2 ≤ z) : mok z := by
  have h := List.all_eq_true.mp mokb_all z (List.mem_range.mpr hz)
  have h0 := mcb_all z hz
  unfold mokb at h
  unfold mcb at h0
  simp only [Bool.and_eq_true, decide_eq_true_eq, Bool.or_eq_true] at h h0
  obtain ⟨⟨⟨⟨⟨⟨h2, h3⟩, h4⟩, h5⟩, h6⟩, h7⟩, h8⟩ := h
  exact ⟨h0.resolve_left (by omega), h2, h3, h4, h5, h6, h7, h8.resolve_left (by omega)⟩
theorem mmx_ok : lw_tbl[(mwd 0).1]? = some (Jvm.Cond.code Lib.Math.max.name Lib.Math.max.code 2 (some .int)) ∧ lw_tbl[(mwd 0).2.1]? = some (Jvm.Cond.static Lib.Math.max.name) ∧ lw_tbl[(mwd 0).2.2.2]? = some (Jvm.Cond.initialized "java/lang/Math") ∧ mtN 0 = Lib.Math.max.name := by decide +kernel
theorem mmn_ok : lw_tbl[(mwd 1).1]? = some (Jvm.Cond.code Lib.Math.min.name Lib.Math.min.code 2 (some .int)) ∧ lw_tbl[(mwd 1).2.1]? = some (Jvm.Cond.static Lib.Math.min.name) ∧ lw_tbl[(mwd 1).2.2.2]? = some (Jvm.Cond.initialized "java/lang/Math") ∧ mtN 1 = Lib.Math.min.name := by decide +kernel
theorem mtab_len : mtab.length = 174 := by decide +kernel
/-- the classes -/
def cok (c : Nat) : Prop := vwCl[c]? = some (cn c, fT c, nf c) ∧ (∀ k, k < nf c → parseFieldDescriptor (fT c k).2.2.1 = some (fty c k)) ∧ (∀ a, a < nf c → ∀ b, b < nf c → a ≠ b → (fT c a).2.1 ≠ (fT c b).2.1) ∧ (∀ k, k < nf c → (fT c k).1 = cn c)
theorem cok_all : ∀ c, c < 6 → cok c := fun c h => match c, h with
  | 0, _ => ⟨rfl, tyX0_ok, nmX0, by decide +kernel⟩
  | 1, _ => ⟨rfl, tyX1_ok, nmX1, by decide +kernel⟩
  | 2, _ => ⟨rfl, tyX2_ok, nmX2, by decide +kernel⟩
  | 3, _ => ⟨rfl, tyX3_ok, nmX3, by decide +kernel⟩
  | 4, _ => ⟨rfl, tyX4_ok, nmX4, by decide +kernel⟩
  | 5, _ => ⟨rfl, tyX5_ok, nmX5, by decide +kernel⟩
  | n + 6, h => absurd h (by omega)
theorem cws_all : ∀ c, c < 6 → ∀ w ∈ u_ws (cn c) (fT c) (nf c), w ∈ lwg := by decide +kernel
theorem lw_in {w : Jvm.Cond} {i : Nat} (h : lw_tbl[i]? = some w) : w ∈ lw_tbl := List.mem_of_getElem? h
theorem lwg_in {w : Jvm.Cond} {i : Nat} (h : lw_tbl[i]? = some w) (hg : goodWord w = true) : w ∈ lwg := List.mem_filter.mpr ⟨lw_in h, hg⟩
theorem lwn_in {w : Jvm.Cond} {i : Nat} (h : lw_tbl[i]? = some w) (hg : nstWord w = true) : w ∈ lwn := List.mem_filter.mpr ⟨lw_in h, hg⟩
theorem good_all : GoodIn lwg lwg := fun w h => ⟨h, good_of_word (List.mem_filter.mp h).2⟩
theorem wsm_good (z : Nat) (h : z < 173) (h2 : 2 ≤ z) : GoodIn lwg (wsm z) := by
  intro w hw
  rcases List.mem_cons.mp hw with rfl | hw
  · exact good_all _ (lwg_in (mok_all z h h2).1 rfl)
  · exact good_all w hw
theorem FL_spec {o i c k : Nat} (h : FL o i = some (c, k)) : c < 6 ∧ ((o ≠ c ∧ Jvm.Cond.fieldLinkNest (cn o) i (cn c) (fT c k).2.1 (fT c k).2.2.1 "KiteHire" ∈ lwn) ∨ Jvm.Cond.fieldLink (cn o) i (cn c) (fT c k).2.1 (fT c k).2.2.1 ∈ lwg) := by
  unfold FL at h
  obtain ⟨q, h1, h2⟩ := Option.map_eq_some_iff.mp h
  have h3 := List.mem_of_find?_eq_some h1
  have h4 := List.find?_some h1
  simp only [Bool.and_eq_true, beq_iff_eq] at h4
  have h5 := List.all_eq_true.mp flk_all q h3
  unfold flk at h5
  simp only [Bool.and_eq_true, decide_eq_true_eq] at h5
  cases h2
  rw [← h4.1, ← h4.2]
  refine ⟨h5.1.2, ?_⟩
  have h6 := h5.1.1
  have h7 := h5.2
  split at h6
  · rename_i hn
    rw [hn] at h7
    exact Or.inl ⟨by simpa using h7, lwn_in h6 rfl⟩
  · exact Or.inr (lwg_in h6 rfl)
theorem SL_spec {o i t : Nat} (h : SL o i = some t) : Jvm.Cond.fieldLinkNest (cn o) i "KiteHire" (snm t) "[I" "KiteHire" ∈ lwn ∨ Jvm.Cond.fieldLink (cn o) i "KiteHire" (snm t) "[I" ∈ lwg := by
  unfold SL at h
  obtain ⟨q, h1, h2⟩ := Option.map_eq_some_iff.mp h
  have h3 := List.mem_of_find?_eq_some h1
  have h4 := List.find?_some h1
  simp only [Bool.and_eq_true, beq_iff_eq] at h4
  have h5 := List.all_eq_true.mp slk_all q h3
  unfold slk at h5
  simp only [decide_eq_true_eq] at h5
  cases h2
  rw [← h4.1, ← h4.2]
  have h6 := h5
  split at h6
  · exact Or.inl (lwn_in h6 rfl)
  · exact Or.inr (lwg_in h6 rfl)
theorem ML_spec {o i z : Nat} (h : ML o i = some z) : ((2 ≤ z ∧ z < 173) ∧ Jvm.Cond.methodLinkNest (cn o) i (mtN z) "KiteHire" ∈ lwn) ∨ Jvm.Cond.methodLink (cn o) i (if z = 900 then arraycopyName else if z = 901 then Lib.objectInit else mtN z) ∈ lwg := by
  unfold ML at h
  obtain ⟨q, h1, h2⟩ := Option.map_eq_some_iff.mp h
  have h3 := List.mem_of_find?_eq_some h1
  have h4 := List.find?_some h1
  simp only [Bool.and_eq_true, beq_iff_eq] at h4
  have h5 := List.all_eq_true.mp mlk_all q h3
  unfold mlk at h5
  simp only [Bool.and_eq_true, decide_eq_true_eq] at h5
  cases h2
  rw [← h4.1, ← h4.2]
  have h6 := h5.2
  have h7 := h5.1
  by_cases hn : q.2.2.2.1 = true
  · rw [if_pos hn] at h6
    rw [hn] at h7
    exact Or.inl ⟨by simpa using h7, lwn_in h6 rfl⟩
  · rw [if_neg hn] at h6
    exact Or.inr (lwg_in h6 rfl)
theorem CL_spec {o i : Nat} {v : Int32} (h : CL o i = some v) : Jvm.Cond.constant (cn o) i v ∈ lwg := by
  unfold CL at h
  obtain ⟨q, h1, h2⟩ := Option.map_eq_some_iff.mp h
  have h3 := List.mem_of_find?_eq_some h1
  have h4 := List.find?_some h1
  simp only [Bool.and_eq_true, beq_iff_eq] at h4
  have h5 := List.all_eq_true.mp clk_all q h3
  unfold clk at h5
  simp only [decide_eq_true_eq] at h5
  cases h2
  rw [← h4.1, ← h4.2]
  exact lwg_in h5 rfl
theorem NL_spec {o i c : Nat} (h : NL o i = some c) : Jvm.Cond.classLink (cn o) i (cn c) ∈ lwg ∧ Jvm.Cond.instantiable (cn c) (nf c) ∈ lwg ∧ Jvm.Cond.initialized (cn c) ∈ lwg := by
  unfold NL at h
  obtain ⟨q, h1, h2⟩ := Option.map_eq_some_iff.mp h
  have h3 := List.mem_of_find?_eq_some h1
  have h4 := List.find?_some h1
  simp only [Bool.and_eq_true, beq_iff_eq] at h4
  have h5 := List.all_eq_true.mp nlk_all q h3
  unfold nlk at h5
  simp only [Bool.and_eq_true, decide_eq_true_eq] at h5
  cases h2
  rw [← h4.1, ← h4.2]
  exact ⟨lwg_in h5.1.1 rfl, lwg_in h5.1.2 rfl, lwg_in h5.2 rfl⟩
end
section
/-! each instruction of the small machine, by the kit's row for it -/
def Cx (p : Program) (R : Room) (s : State) (m : MethodId) (args : Array Value) (meth : Method) (c : Code) (P : PR) (y n0 s0 : Nat) (en : En) : Prop :=
  p.tables.exec = Jvm.exec ∧ c.code = mtC y ∧ c.maxLocals = mtL y ∧ s.vm.findClass (cn (mtO y)) = some m.cls ∧ (∀ w ∈ lwg, w.before args s = true) ∧ va_K (pD P) vwCl (ptys P) s ∧ StOK P en.2 s ∧ meth.name = (mtN y).name ∧ mtD y ≤ R.frames ∧ 36 * mtD y ≤ R.locals ∧ s.heap.size = pB P + n0 ∧ en.1.1 ≤ n0 + R.cells ∧ en.1.2 ≤ s0 + R.slots
/-- the machine comes to Q from where the small machine stands -/
def Vw (p : Program) (l : Launch) (e : Env) (R : Room) (s : State) (m : MethodId) (args : Array Value) (below : List Frame) (meth : Method) (c : Code) (Q : State → Prop) (P : PR) (y n0 s0 : Nat) (pc : Nat) (ls st : List Value) (S : MS) : Prop := ∀ (H : Heap) (locs : List Loc) (als : Array Slot), va_P (pD P) vwCl (wl P S) H → va_S (AP P) s.heap H locs → lvr P als (mtL y) ls → W p l e R s m args below meth c H locs (S.1 - n0) (S.2.1 - s0) Q (F0 m pc als (st.map (tr P)))
def RI (y : Nat) (i : Instr) (r : Option Value) : Prop := match r with
  | none => i = .return_ ∧ mtR y = none
  | some (.int v) => i = .ireturn ∧ ∃ ty, mtR y = some ty ∧ narrow ty (.int v) = .int v
  | some (.double _) => i = .dreturn ∧ mtR y = some .double
  | some (.ref _) => i = .areturn ∧ ∃ n, mtR y = some (.object n)
  | some .null => i = .areturn ∧ ∃ n, mtR y = some (.object n)
  | _ => False
/-- what an end asks -/
def RW (p : Program) (l : Launch) (e : Env) (R : Room) (s : State) (m : MethodId) (args : Array Value) (below : List Frame) (meth : Method) (c : Code) (Q : State → Prop) (P : PR) (y n0 s0 : Nat) (r : Option Value) (S : MS) : Prop := ∀ (pc : Nat) (i : Instr) (H : Heap) (locs : List Loc) (als : Array Slot), decode (mtC y) pc = .ok (i, 1) → RI y i r → va_P (pD P) vwCl (wl P S) H → va_S (AP P) s.heap H locs → W p l e R s m args below meth c H locs (S.1 - n0) (S.2.1 - s0) Q (F0 m pc als (r.toList.map (tr P)))
def SND (p : Program) (l : Launch) (e : Env) (R : Room) (s : State) (m : MethodId) (args : Array Value) (below : List Frame) (meth : Method) (c : Code) (Q : State → Prop) (P : PR) (y n0 s0 : Nat) (pc : Nat) (ls st : List Value) (S : MS) (o : Rs) : Prop := o.1 → n0 ≤ S.1 → s0 ≤ S.2.1 → match o.2 with
  | .inl k => n0 ≤ k.2.2.2.1 ∧ s0 ≤ k.2.2.2.2.1 ∧ (Vw p l e R s m args below meth c Q P y n0 s0 k.1 k.2.1 k.2.2.1 k.2.2.2 → Vw p l e R s m args below meth c Q P y n0 s0 pc ls st S)
  | .inr r => RW p l e R s m args below meth c Q P y n0 s0 r.1 r.2 → Vw p l e R s m args below meth c Q P y n0 s0 pc ls st S
section STEPS
variable {p : Program} {l : Launch} {e : Env} {R : Room} {s : State} {m : MethodId} {args : Array Value} {below : List Frame} {meth : Method} {c : Code} {Q : State → Prop} {P : PR} {y n0 s0 : Nat} {en : En} {pc : Nat} {ls st : List Value} {S : MS}
theorem SND.no : SND p l e R s m args below meth c Q P y n0 s0 pc ls st S bad := fun h => absurd h (by intro z; exact z)
theorem SND.same {q : Prop} {pc1 : Nat} {ls1 st1 : List Value} (h : q → Vw p l e R s m args below meth c Q P y n0 s0 pc1 ls1 st1 S → Vw p l e R s m args below meth c Q P y n0 s0 pc ls st S) : SND p l e R s m args below meth c Q P y n0 s0 pc ls st S (nx q pc1 ls1 st1 S) := fun hq h1 h2 => ⟨h1, h2, h hq⟩
theorem SND.nx {q : Prop} {pc1 : Nat} {ls1 st1 : List Value} {S1 : MS} (h : q → n0 ≤ S.1 → s0 ≤ S.2.1 → n0 ≤ S1.1 ∧ s0 ≤ S1.2.1 ∧ (Vw p l e R s m args below meth c Q P y n0 s0 pc1 ls1 st1 S1 → Vw p l e R s m args below meth c Q P y n0 s0 pc ls st S)) : SND p l e R s m args below meth c Q P y n0 s0 pc ls st S (nx q pc1 ls1 st1 S1) := fun hq h1 h2 => h hq h1 h2
theorem SND.rt {q : Prop} {r : Option Value} {S1 : MS} (h : q → RW p l e R s m args below meth c Q P y n0 s0 r S1 → Vw p l e R s m args below meth c Q P y n0 s0 pc ls st S) : SND p l e R s m args below meth c Q P y n0 s0 pc ls st S (q, .inr (r, S1)) := fun hq _ _ => h hq
theorem sd_psh {q : Prop} {pc1 : Nat} {v : Value} (hv : tr P v = v) (row : ∀ {H : Heap} {locs : List Loc} {cells slots : Nat} {als : Array Slot} {r : List Value}, q → W p l e R s m args below meth c H locs cells slots Q (F0 m pc1 als (v :: r)) → W p l e R s m args below meth c H locs cells slots Q (F0 m pc als r)) : SND p l e R s m args below meth c Q P y n0 s0 pc ls st S (nx q pc1 ls (v :: st) S) :=
  SND.same fun hq hk H locs als hP hS hl => row hq (by have h := hk H locs als hP hS hl; rw [List.map_cons, hv] at h; exact h)
theorem sd_bin {f : Int32 → Int32 → Value} {okp : Int32 → Int32 → Prop} {q : Prop} {pc1 : Nat} (hf : ∀ a b, tr P (f a b) = f a b) (row : ∀ {H : Heap} {locs : List Loc} {cells slots : Nat} {als : Array Slot} {r : List Value} (a b : Int32), okp a b → q → W p l e R s m args below meth c H locs cells slots Q (F0 m pc1 als (f a b :: r)) → W p l e R s m args below meth c H locs cells slots Q (F0 m pc als (.int b :: .int a :: r))) : SND p l e R s m args below meth c Q P y n0 s0 pc ls st S (i_bin f okp q pc1 ls st S) := by
  unfold i_bin
  split
  · exact SND.same fun hq hk H locs als hP hS hl => row _ _ hq.2 hq.1 (by have h := hk H locs als hP hS hl; rw [List.map_cons, hf] at h; exact h)
  · exact SND.no
theorem sd_un {f : Int32 → Value} {q : Prop} {pc1 : Nat} (hf : ∀ a, tr P (f a) = f a) (row : ∀ {H : Heap} {locs : List Loc} {cells slots : Nat} {als : Array Slot} {r : List Value} (a : Int32), q → W p l e R s m args below meth c H locs cells slots Q (F0 m pc1 als (f a :: r)) → W p l e R s m args below meth c H locs cells slots Q (F0 m pc als (.int a :: r))) : SND p l e R s m args below meth c Q P y n0 s0 pc ls st S (i_un f q pc1 ls st S) := by
  unfold i_un
  split
  · exact SND.same fun hq hk H locs als hP hS hl => row _ hq (by have h := hk H locs als hP hS hl; rw [List.map_cons, hf] at h; exact h)
  · exact SND.no
theorem sd_ild {q : Prop} {pc1 k : Nat} (row : ∀ {H : Heap} {locs : List Loc} {cells slots : Nat} {als : Array Slot} {r : List Value} (x : Int32), q → als[k]? = some (.val (.int x)) → W p l e R s m args below meth c H locs cells slots Q (F0 m pc1 als (.int x :: r)) → W p l e R s m args below meth c H locs cells slots Q (F0 m pc als r)) : SND p l e R s m args below meth c Q P y n0 s0 pc ls st S (i_ild q pc1 k ls st S) := by
  unfold i_ild
  split
  · rename_i x hx
    exact SND.same fun hq hk H locs als hP hS hl => row x hq (hl.get hx (by intro z; cases z)) (hk H locs als hP hS hl)
  · exact SND.no
theorem sd_ald {q : Prop} {pc1 k : Nat} (row : ∀ {H : Heap} {locs : List Loc} {cells slots : Nat} {als : Array Slot} {r : List Value} (x : Nat), q → als[k]? = some (.val (.ref x)) → W p l e R s m args below meth c H locs cells slots Q (F0 m pc1 als (.ref x :: r)) → W p l e R s m args below meth c H locs cells slots Q (F0 m pc als r)) : SND p l e R s m args below meth c Q P y n0 s0 pc ls st S (i_ald q pc1 k ls st S) := by
  unfold i_ald
  split
  · rename_i x hx
    exact SND.same fun hq hk H locs als hP hS hl => row (pad P x) hq (hl.get hx (by intro z; cases z)) (hk H locs als hP hS hl)
  · exact SND.no
theorem sd_dld {q : Prop} {pc1 k : Nat} (row : ∀ {H : Heap} {locs : List Loc} {cells slots : Nat} {als : Array Slot} {r : List Value} (x : UInt64), q → als[k]? = some (.val (.double x)) → W p l e R s m args below meth c H locs cells slots Q (F0 m pc1 als (.double x :: r)) → W p l e R s m args below meth c H locs cells slots Q (F0 m pc als r)) : SND p l e R s m args below meth c Q P y n0 s0 pc ls st S (i_dld q pc1 k ls st S) := by
  unfold i_dld
  split
  · rename_i x hx
    exact SND.same fun hq hk H locs als hP hS hl => row x hq (hl.get hx (by intro z; cases z)) (hk H locs als hP hS hl)
  · exact SND.no
theorem sd_ist {q : Prop} {pc1 k : Nat} (row : ∀ {H : Heap} {locs : List Loc} {cells slots : Nat} {als : Array Slot} {r : List Value} (x : Int32) (lv : List (Nat × Value)), q → lv_has als (mtL y) lv → k < mtL y → (∀ als', lv_has als' (mtL y) ((k, Value.int x) :: lv.filter (fun q => !(q.1 == k) && !(q.1 + 1 == k && q.2.category == 2))) → W p l e R s m args below meth c H locs cells slots Q (F0 m pc1 als' r)) → W p l e R s m args below meth c H locs cells slots Q (F0 m pc als (.int x :: r))) : SND p l e R s m args below meth c Q P y n0 s0 pc ls st S (i_ist q pc1 k ls st S) := by
  unfold i_ist
  split
  · exact SND.same fun hq hk H locs als hP hS hl => row _ _ hq.1 hl.has (by rw [← hl.1]; exact hq.2.1) (fun als' h' => hk H locs als' hP hS (hl.set (v := .int _) hq.2 h'))
  · exact SND.no
theorem sd_ast {q : Prop} {pc1 k : Nat} (row : ∀ {H : Heap} {locs : List Loc} {cells slots : Nat} {als : Array Slot} {r : List Value} (x : Nat) (lv : List (Nat × Value)), q → lv_has als (mtL y) lv → k < mtL y → (∀ als', lv_has als' (mtL y) ((k, Value.ref x) :: lv.filter (fun q => !(q.1 == k) && !(q.1 + 1 == k && q.2.category == 2))) → W p l e R s m args below meth c H locs cells slots Q (F0 m pc1 als' r)) → W p l e R s m args below meth c H locs cells slots Q (F0 m pc als (.ref x :: r))) : SND p l e R s m args below meth c Q P y n0 s0 pc ls st S (i_ast q pc1 k ls st S) := by
  unfold i_ast
  split
  · exact SND.same fun hq hk H locs als hP hS hl => row _ _ hq.1 hl.has (by rw [← hl.1]; exact hq.2.1) (fun als' h' => hk H locs als' hP hS (hl.set (v := .ref _) hq.2 h'))
  · exact SND.no
theorem sd_dst {q : Prop} {pc1 k : Nat} (row : ∀ {H : Heap} {locs : List Loc} {cells slots : Nat} {als : Array Slot} {r : List Value} (x : UInt64) (lv : List (Nat × Value)), q → lv_has als (mtL y) lv → k + 1 < mtL y → (∀ als', lv_has als' (mtL y) ((k, Value.double x) :: lv.filter (fun q => !(q.1 == k) && (!(q.1 == k + 1) && !(q.1 + 1 == k && q.2.category == 2)))) → W p l e R s m args below meth c H locs cells slots Q (F0 m pc1 als' r)) → W p l e R s m args below meth c H locs cells slots Q (F0 m pc als (.double x :: r))) : SND p l e R s m args below meth c Q P y n0 s0 pc ls st S (i_dst q pc1 k ls st S) := by
  unfold i_dst
  split
  · exact SND.same fun hq hk H locs als hP hS hl => row _ _ hq.1 hl.has (by rw [← hl.1]; exact hq.2.2) (fun als' h' => hk H locs als' hP hS (hl.set2 (v := .double _) hq.2.1 h'))
  · exact SND.no
theorem sd_inc {q : Prop} {pc1 k : Nat} {n : Int} (row : ∀ {H : Heap} {locs : List Loc} {cells slots : Nat} {als : Array Slot} {r : List Value} (x : Int32) (lv : List (Nat × Value)) (i : Nat), q → lv_has als (mtL y) lv → lv[i]? = some (k, .int x) → k < mtL y → (∀ als', lv_has als' (mtL y) ((k, Value.int (x + Int32.ofInt n)) :: lv.filter (fun q => !(q.1 == k) && !(q.1 + 1 == k && q.2.category == 2))) → W p l e R s m args below meth c H locs cells slots Q (F0 m pc1 als' r)) → W p l e R s m args below meth c H locs cells slots Q (F0 m pc als r)) : SND p l e R s m args below meth c Q P y n0 s0 pc ls st S (i_inc q pc1 k n ls st S) := by
  unfold i_inc
  split
  · rename_i x hx
    refine SND.same fun hq hk H locs als hP hS hl => ?_
    obtain ⟨i, hi⟩ := List.getElem?_of_mem (lvl_of (P := P) (lget_some hx (by intro z; cases z)) (by intro z; cases z))
    exact row x _ i hq.1 hl.has hi (by rw [← hl.1]; exact hq.2.1) (fun als' h' => hk H locs als' hP hS (hl.set (v := .int _) hq.2 h'))
  · exact SND.no
theorem tg_eq {off : Int} (h : tgo pc off) : (pc : Int) + off = (tg pc off : Int) := by
  unfold tg tgo at *
  omega
theorem sd_if1 {cd : Jvm.ClassFile.Cond} {off : Int} {q : Prop} (row : ∀ {H : Heap} {locs : List Loc} {cells slots : Nat} {als : Array Slot} {r : List Value} (a : Int32), q → (pc : Int) + off = (tg pc off : Int) → (cnd cd a 0 = true → W p l e R s m args below meth c H locs cells slots Q (F0 m (tg pc off) als r)) → (¬ cnd cd a 0 = true → W p l e R s m args below meth c H locs cells slots Q (F0 m (pc + 3) als r)) → W p l e R s m args below meth c H locs cells slots Q (F0 m pc als (.int a :: r))) : SND p l e R s m args below meth c Q P y n0 s0 pc ls st S (i_if1 cd off q pc ls st S) := by
  unfold i_if1
  split
  · refine SND.same fun hq hk H locs als hP hS hl => row _ hq.1 (tg_eq hq.2) (fun h => ?_) (fun h => ?_)
    · rw [if_pos h] at hk
      exact hk H locs als hP hS hl
    · rw [if_neg h] at hk
      exact hk H locs als hP hS hl
  · exact SND.no
theorem sd_if2 {cd : Jvm.ClassFile.Cond} {off : Int} {q : Prop} (row : ∀ {H : Heap} {locs : List Loc} {cells slots : Nat} {als : Array Slot} {r : List Value} (a b : Int32), q → (pc : Int) + off = (tg pc off : Int) → (cnd cd a b = true → W p l e R s m args below meth c H locs cells slots Q (F0 m (tg pc off) als r)) → (¬ cnd cd a b = true → W p l e R s m args below meth c H locs cells slots Q (F0 m (pc + 3) als r)) → W p l e R s m args below meth c H locs cells slots Q (F0 m pc als (.int b :: .int a :: r))) : SND p l e R s m args below meth c Q P y n0 s0 pc ls st S (i_if2 cd off q pc ls st S) := by
  unfold i_if2
  split
  · refine SND.same fun hq hk H locs als hP hS hl => row _ _ hq.1 (tg_eq hq.2) (fun h => ?_) (fun h => ?_)
    · rw [if_pos h] at hk
      exact hk H locs als hP hS hl
    · rw [if_neg h] at hk
      exact hk H locs als hP hS hl
  · exact SND.no
theorem cnd_eq (a b : Int32) : cnd .eq a b = true ↔ a = b := by simp [cnd]
theorem cnd_ne (a b : Int32) : cnd .ne a b = true ↔ ¬ a = b := by simp [cnd]
theorem cnd_lt (a b : Int32) : cnd .lt a b = true ↔ a < b := by simp [cnd]
theorem cnd_ge (a b : Int32) : cnd .ge a b = true ↔ b ≤ a := by simp [cnd]
theorem cnd_gt (a b : Int32) : cnd .gt a b = true ↔ b < a := by simp [cnd]
theorem cnd_le (a b : Int32) : cnd .le a b = true ↔ a ≤ b := by simp [cnd]
end STEPS
end
section
/-! the instructions that touch cells -/
section CELLS
variable {p : Program} {l : Launch} {e : Env} {R : Room} {s : State} {m : MethodId} {args : Array Value} {below : List Frame} {meth : Method} {c : Code} {Q : State → Prop} {P : PR} {y n0 s0 : Nat} {en : En} {pc : Nat} {ls st : List Value} {S : MS}
theorem narrow_ref (ty : FieldType) (a : Nat) : narrow ty (.ref a) = .ref a := by cases ty <;> rfl
theorem fits_ref (ty : FieldType) (a b : Nat) : fits ty (.ref a) = fits ty (.ref b) := by cases ty <;> rfl
theorem fok_tr {ty : FieldType} {v : Value} (h : fok ty v) : narrow ty (tr P v) = tr P v ∧ fits ty (tr P v) = true := by
  obtain ⟨h1, h2⟩ := h
  cases v with
  | ref a => exact ⟨narrow_ref ty _, (fits_ref ty _ a).trans h2⟩
  | _ => exact ⟨h1, h2⟩
theorem StOK.nst {sc : Nat × (Nat → Int32)} {U : State} (h : StOK P sc U) {w : Jvm.Cond} (hw : w ∈ lwn) : va_Nw w U := h.2.2.2.2.2 w hw
theorem StOK.go {sc : Nat × (Nat → Int32)} {H : Heap} {locs : List Loc} {U : State} (h : StOK P sc s) (hS : va_S (AP P) s.heap H locs) (hU : U.heap = H) (hW : s.WarmedH U.vm) : StOK P sc U := by
  obtain ⟨h1, h2, h3, h4, h5, h6⟩ := h
  subst hU
  refine ⟨fun t ht => ⟨((h1 t ht).1.moved hW.alike).kept hS.2.1, ((h1 t ht).2.moved hW.alike).kept hS.2.1⟩, (h2.moved hW.alike).kept (hS.2.1 _ h3 h4), Nat.lt_of_lt_of_le h3 hS.1, h4, h5.moved hW.alike, fun w hw => nst_warm hw hW (h6 w hw)⟩
theorem nst_tab {w : Jvm.Cond} (h : w ∈ lwn) : w.onTables = true := by
  have h1 := (List.mem_filter.mp h).2
  unfold nstWord at h1
  split at h1
  · rfl
  · rfl
  · cases h1
theorem StOK.same {sc : Nat × (Nat → Int32)} {u U : State} (h : StOK P sc u) (hh : U.heap = u.heap) (hv : U.vm = u.vm) : StOK P sc U := by
  obtain ⟨h1, h2, h3, h4, h5, h6⟩ := h
  have hal : u.vm.Alike U.vm := by rw [hv]; exact Vm.Alike.refl u.vm
  have hk : ∀ a : Nat, U.heap[a]? = u.heap[a]? := fun a => by rw [hh]
  refine ⟨fun t ht => ⟨((h1 t ht).1.moved hal).kept (fun a _ _ => hk a), ((h1 t ht).2.moved hal).kept (fun a _ _ => hk a)⟩, (h2.moved hal).kept (hk _), by rw [hh]; exact h3, h4, h5.moved hal, fun w hw => va_Nw.same (nst_tab hw) hv.symm (h6 w hw)⟩
theorem sd_get {ix : Nat} {q : Prop} (C : Cx p R s m args meth c P y n0 s0 en) (hd : q → decode (mtC y) pc = .ok (.getfield ix, 3)) : SND p l e R s m args below meth c Q P y n0 s0 pc ls st S (i_get y ix q (pc + 3) ls st S) := by
  unfold i_get
  split
  · rename_i c1 k a r hfl
    refine SND.same fun hq hk H locs als hP hS hl => ?_
    obtain ⟨hq0, ho, hkn⟩ := hq
    obtain ⟨hx, hb, hml, hown, hts, hK, hSt, -⟩ := C
    obtain ⟨hc6, hlink⟩ := FL_spec hfl
    obtain ⟨hcl, hty, hnm, hcn⟩ := cok_all c1 hc6
    have he := wl_get P S ho.2.1
    rw [ent_obj P ho] at he
    have hv : ((List.range (nf c1)).map fun k => tr P (S.2.2.2 a k))[k]? = some (tr P (S.2.2.2 a k)) := by simp [hkn]
    have hk' := hk H locs als hP hS hl
    show W p l e R s m args below meth c H locs _ _ Q (F0 m pc als (.ref (pad P a) :: r.map (tr P)))
    rw [pad_lt P ho.1]
    have hsame : ∀ x, s.fieldFound? (fT c1 k).1 (fT c1 k).2.1 (fT c1 k).2.2.1 = some x → s.fieldFound? (cn c1) (fT c1 k).2.1 (fT c1 k).2.2.1 = some x := fun x h => by rw [hcn k hkn] at h; exact h
    rcases hlink with hlink | hlink
    · exact va_getN hx hb hts (cws_all c1 hc6) hown hK hP a he hcl k hkn (va_Nw.use rfl (hSt.nst hlink.2)) hsame hv (hd hq0) hk'
    · exact va_get hx hb hts (cws_all c1 hc6) hown hK hP a he hcl k hkn (hts _ hlink) hsame hv (hd hq0) hk'
  · exact SND.no
theorem ent_seto {a c1 k : Nat} {v : Value} (ho : obj S a c1) : ent P (svSet S a k v) a = .inr (c1, ((List.range (nf c1)).map fun k => tr P (S.2.2.2 a k)).set k (tr P v)) := by
  have ho' : obj (svSet S a k v) a c1 := ho
  rw [ent_obj P ho']
  congr 2
  apply List.ext_getElem?
  intro j
  by_cases hj : j < nf c1
  · by_cases e : j = k
    · subst e
      rw [List.getElem?_set_self (by simpa using hj)]
      simp [hj, svSet]
    · rw [List.getElem?_set_ne (Ne.symm e)]
      simp [hj, svSet, e]
  · rw [List.getElem?_eq_none (by simp; omega), List.getElem?_eq_none (by simp; omega)]
theorem sd_put {ix : Nat} {q : Prop} (C : Cx p R s m args meth c P y n0 s0 en) (hd : q → decode (mtC y) pc = .ok (.putfield ix, 3)) : SND p l e R s m args below meth c Q P y n0 s0 pc ls st S (i_put y ix q (pc + 3) ls st S) := by
  unfold i_put
  split
  · rename_i c1 k v a r hfl
    refine SND.nx fun hq hn hs => ⟨hn, hs, fun hk H locs als hP hS hl => ?_⟩
    obtain ⟨hq0, ho, hkn, hfin, hfo⟩ := hq
    obtain ⟨hx, hb, hml, hown, hts, hK, hSt, hname, -⟩ := C
    obtain ⟨hc6, hlink⟩ := FL_spec hfl
    obtain ⟨hcl, hty, hnm, hcn⟩ := cok_all c1 hc6
    have he := wl_get P S ho.2.1
    rw [ent_obj P ho] at he
    obtain ⟨hf1, hf2⟩ := fok_tr (P := P) hfo
    show W p l e R s m args below meth c H locs _ _ Q (F0 m pc als (tr P v :: .ref (pad P a) :: r.map (tr P)))
    rw [pad_lt P ho.1]
    have hsame : ∀ x, s.fieldFound? (fT c1 k).1 (fT c1 k).2.1 (fT c1 k).2.2.1 = some x → s.fieldFound? (cn c1) (fT c1 k).2.1 (fT c1 k).2.2.1 = some x := fun x h => by rw [hcn k hkn] at h; exact h
    have hset : (wl P S).set a (pB P + a, .inr (c1, ((List.range (nf c1)).map fun k => tr P (S.2.2.2 a k)).set k (tr P v))) = wl P (svSet S a k v) := by
      rw [← ent_seto (P := P) ho]
      exact wl_set P S (svSet S a k v) rfl (fun b hb _ => ent_set_ne P S v hb)
    have kk : ∀ (H1 : Heap) (locs1 : List Loc), va_P (pD P) vwCl ((wl P S).set a (pB P + a, .inr (c1, ((List.range (nf c1)).map fun k => tr P (S.2.2.2 a k)).set k (tr P v)))) H1 → va_D (AP P) ((wl P S).set a (pB P + a, .inr (c1, ((List.range (nf c1)).map fun k => tr P (S.2.2.2 a k)).set k (tr P v)))) → va_S (AP P) s.heap H1 locs1 → W p l e R s m args below meth c H1 locs1 (S.1 - n0) (S.2.1 - s0) Q (F0 m (pc + 3) als (r.map (tr P))) := fun H1 locs1 hP1 _ hS1 => hk H1 locs1 als (hset ▸ hP1) hS1 hl
    by_cases hfi : (fT c1 k).2.2.2 = true
    · obtain ⟨ho1, hi1⟩ := hfin hfi
      rcases hlink with hlink | hlink
      · exact absurd ho1 hlink.1
      · exact va_putF hx hb hts (cws_all c1 hc6) (fty c1) hty hnm hown hK hP (wl_D P S) hS a he hcl k hkn (hts _ hlink) hsame hfi (hname.trans hi1) (by rw [hcn k hkn, ho1]) (hty k hkn) hf1 hf2 (by simpa using hkn) (hd hq0) kk
    · have hfi : (fT c1 k).2.2.2 = false := by simpa using hfi
      rcases hlink with hlink | hlink
      · exact va_putN hx hb hts (cws_all c1 hc6) (fty c1) hty hnm hown hK hP (wl_D P S) hS a he hcl k hkn (va_Nw.use rfl (hSt.nst hlink.2)) hsame hfi (hty k hkn) hf1 hf2 (by simpa using hkn) (hd hq0) kk
      · exact va_put hx hb hts (cws_all c1 hc6) (fty c1) hty hnm hown hK hP (wl_D P S) hS a he hcl k hkn (hts _ hlink) hsame hfi (hty k hkn) hf1 hf2 (by simpa using hkn) (hd hq0) kk
  · exact SND.no
theorem sd_gst {ix : Nat} {q : Prop} (C : Cx p R s m args meth c P y n0 s0 en) (hd : q → decode (mtC y) pc = .ok (.getstatic ix, 3)) : SND p l e R s m args below meth c Q P y n0 s0 pc ls st S (i_gst y ix q (pc + 3) ls st S) := by
  unfold i_gst
  split
  · rename_i t hsl
    refine SND.same fun hq hk H locs als hP hS hl => ?_
    obtain ⟨hq0, ht⟩ := hq
    obtain ⟨hx, hb, hml, hown, hts, hK, hSt, -⟩ := C
    have hk' := hk H locs als hP hS hl
    rw [List.map_cons, show tr P (.ref (1000 + t)) = .ref (pRo P t) by
      show Value.ref (pad P (1000 + t)) = _
      unfold pad
      rw [if_neg (by omega), if_pos (by omega), show 1000 + t - 1000 = t by omega]] at hk'
    rcases SL_spec hsl with hlink | hlink
    · exact va_getsN hx hb (hSt.1 t ht).1 hS hown (va_Nw.use rfl (hSt.nst hlink)) (fun _ h => h) (hd hq0) hk'
    · exact va_gets hx hb (hSt.1 t ht).1 hS hown (hts _ hlink) (fun _ h => h) (hd hq0) hk'
  · exact SND.no
theorem aok_lt {a kd : Nat} (h : aok S a kd) (ha : a < 1000) : a < S.1 ∧ (S.2.2.1 a).1 = kd := by unfold aok at h; rw [if_pos ha] at h; exact h
theorem aok_ge {a kd : Nat} (h : aok S a kd) (ha : ¬ a < 1000) : (a < 1003 ∨ a = 2000) ∧ kd = 7 := by
  unfold aok at h
  rw [if_neg ha] at h
  refine ⟨?_, h.2⟩
  have h1 := h.1
  split at h1
  · exact Or.inl h1
  · exact Or.inr h1
theorem pad_st {a : Nat} (h1 : ¬ a < 1000) (h2 : a < 1003) : pad P a = pRo P (a - 1000) := by unfold pad; rw [if_neg h1, if_pos (by omega)]
theorem pad_sc : pad P 2000 = pSc P := rfl
theorem sd_len {q : Prop} (C : Cx p R s m args meth c P y n0 s0 en) (hd : q → decode (mtC y) pc = .ok (.arraylength, 1)) : SND p l e R s m args below meth c Q P y n0 s0 pc ls st S (i_len en q (pc + 1) ls st S) := by
  unfold i_len
  split
  · rename_i a r
    refine SND.same fun hq hk H locs als hP hS hl => ?_
    obtain ⟨hq0, ha⟩ := hq
    obtain ⟨hx, hb, hml, hown, hts, hK, hSt, -⟩ := C
    have hk' := hk H locs als hP hS hl
    show W p l e R s m args below meth c H locs _ _ Q (F0 m pc als (.ref (pad P a) :: r.map (tr P)))
    by_cases h1 : a < 1000
    · rw [pad_lt P h1]
      have hal : aln en S a = (S.2.2.1 a).2 := by unfold aln; rw [if_pos h1]
      rcases ha with ha | ha | ha
      · obtain ⟨g1, g2⟩ := aok_lt ha h1
        have he := wl_get P S g1
        rw [ent_i P g2] at he
        exact va_alen hx hb hK hP a 1 he rfl (by rw [← hal]) (hd hq0) hk'
      · obtain ⟨g1, g2⟩ := aok_lt ha h1
        have he := wl_get P S g1
        rw [ent_c P g2] at he
        exact va_alen hx hb hK hP a 0 he rfl (by rw [← hal]) (hd hq0) hk'
      · obtain ⟨g1, g2⟩ := aok_lt ha h1
        have he := wl_get P S g1
        rw [ent_q P g2] at he
        exact va_alen hx hb hK hP a 2 he rfl (by rw [← hal]) (hd hq0) hk'
    · have h8 : ∃ kd, aok S a kd := by
        rcases ha with ha | ha | ha
        · exact ⟨_, ha⟩
        · exact ⟨_, ha⟩
        · exact ⟨_, ha⟩
      obtain ⟨kd, ha⟩ := h8
      rcases (aok_ge ha h1).1 with h7 | h7
      · rw [pad_st h1 h7]
        have hal : aln en S a = 5 := by unfold aln; rw [if_neg h1, if_pos (by omega)]
        exact va_tlen hx hb (hSt.1 (a - 1000) (by omega)).2 hS (by rw [hal]) (hd hq0) hk'
      · subst h7
        have hal : aln en S 2000 = en.2.1 := rfl
        exact va_slen hx hb hSt.2.1 hSt.2.2.1 hSt.2.2.2.1 hS (hd hq0) hk'
  · exact SND.no
theorem sd_iald {q : Prop} (C : Cx p R s m args meth c P y n0 s0 en) (hd : q → decode (mtC y) pc = .ok (.iaload, 1)) : SND p l e R s m args below meth c Q P y n0 s0 pc ls st S (i_ard en 7 q (pc + 1) ls st S) := by
  unfold i_ard
  split
  · rename_i i a r
    refine SND.same fun hq hk H locs als hP hS hl => ?_
    obtain ⟨hq0, ha, hi⟩ := hq
    obtain ⟨hx, hb, hml, hown, hts, hK, hSt, -⟩ := C
    have hk' := hk H locs als hP hS hl
    show W p l e R s m args below meth c H locs _ _ Q (F0 m pc als (.int i :: .ref (pad P a) :: r.map (tr P)))
    by_cases h1 : a < 1000
    · rw [pad_lt P h1]
      obtain ⟨g1, g2⟩ := aok_lt ha h1
      have he := wl_get P S g1
      rw [ent_i P g2] at he
      have hal : aln en S a = (S.2.2.1 a).2 := by unfold aln; rw [if_pos h1]
      have har : ard en S a i.toNatClampNeg = toI (S.2.2.2 a i.toNatClampNeg) := by unfold ard; rw [if_pos h1]
      rw [har] at hk'
      rw [hal] at hi
      exact va_iald hx hb hK hP a 1 he rfl hi (hd hq0) hk'
    · rcases (aok_ge ha h1).1 with h7 | h7
      · rw [pad_st h1 h7]
        have hal : aln en S a = 5 := by unfold aln; rw [if_neg h1, if_pos (by omega)]
        have har : ard en S a i.toNatClampNeg = (stv (a - 1000)).getD i.toNatClampNeg 0 := by unfold ard; rw [if_neg h1, if_pos (by omega)]
        rw [har] at hk'
        rw [hal] at hi
        exact va_ti hx hb (hSt.1 (a - 1000) (by omega)).2 hS hi rfl (hd hq0) hk'
      · subst h7
        exact va_sld hx hb hSt.2.1 hSt.2.2.1 hSt.2.2.2.1 hS hi (hd hq0) hk'
  · exact SND.no
theorem sd_cald {q : Prop} (C : Cx p R s m args meth c P y n0 s0 en) (hd : q → decode (mtC y) pc = .ok (.caload, 1)) : SND p l e R s m args below meth c Q P y n0 s0 pc ls st S (i_ard en 6 q (pc + 1) ls st S) := by
  unfold i_ard
  split
  · rename_i i a r
    refine SND.same fun hq hk H locs als hP hS hl => ?_
    obtain ⟨hq0, ha, hi⟩ := hq
    obtain ⟨hx, hb, hml, hown, hts, hK, hSt, -⟩ := C
    have hk' := hk H locs als hP hS hl
    show W p l e R s m args below meth c H locs _ _ Q (F0 m pc als (.int i :: .ref (pad P a) :: r.map (tr P)))
    by_cases h1 : a < 1000
    · rw [pad_lt P h1]
      obtain ⟨g1, g2⟩ := aok_lt ha h1
      have he := wl_get P S g1
      rw [ent_c P g2] at he
      have hal : aln en S a = (S.2.2.1 a).2 := by unfold aln; rw [if_pos h1]
      have har : ard en S a i.toNatClampNeg = toI (S.2.2.2 a i.toNatClampNeg) := by unfold ard; rw [if_pos h1]
      rw [har] at hk'
      rw [hal] at hi
      exact va_cald hx hb hK hP a 0 he rfl hi (hd hq0) hk'
    · exact absurd (aok_ge ha h1).2 (by decide)
  · exact SND.no
theorem sd_aqd {q : Prop} (C : Cx p R s m args meth c P y n0 s0 en) (hd : q → decode (mtC y) pc = .ok (.aaload, 1)) : SND p l e R s m args below meth c Q P y n0 s0 pc ls st S (i_aqd q (pc + 1) ls st S) := by
  unfold i_aqd
  split
  · rename_i i a r
    refine SND.same fun hq hk H locs als hP hS hl => ?_
    obtain ⟨hq0, ha, hi, -⟩ := hq
    obtain ⟨hx, hb, hml, hown, hts, hK, hSt, -⟩ := C
    have hk' := hk H locs als hP hS hl
    show W p l e R s m args below meth c H locs _ _ Q (F0 m pc als (.int i :: .ref (pad P a) :: r.map (tr P)))
    rw [pad_lt P ha.1]
    have he := wl_get P S ha.2.1
    rw [ent_q P ha.2.2] at he
    refine va_aldq hx hb hK hP a 2 he rfl hi (hd hq0) ?_
    rw [List.map_cons] at hk'
    cases ht : toR (S.2.2.2 a i.toNatClampNeg) with
    | none => rw [ht] at hk'; exact hk'
    | some x => rw [ht] at hk'; exact hk'
  · exact SND.no
theorem ent_seti {a k : Nat} {x : Int32} (h : (S.2.2.1 a).1 = 7) : ent P (svSet S a k (.int x)) a = .inl (pcI P, (S.2.2.1 a).2, .inl (upd (fun j => toI (S.2.2.2 a j)) k x)) := by
  have h' : ((svSet S a k (.int x)).2.2.1 a).1 = 7 := h
  rw [ent_i P h']
  have e : (fun j => toI ((svSet S a k (.int x)).2.2.2 a j)) = upd (fun j => toI (S.2.2.2 a j)) k x := by
    funext j
    by_cases q : j = k
    · simp [svSet, upd, q, toI]
    · simp [svSet, upd, q]
  rw [e]
  rfl
theorem ent_setc {a k : Nat} {x : Int32} (h : (S.2.2.1 a).1 = 6) : ent P (svSet S a k (.int x)) a = .inl (pcC P, (S.2.2.1 a).2, .inl (upd (fun j => toI (S.2.2.2 a j)) k x)) := by
  have h' : ((svSet S a k (.int x)).2.2.1 a).1 = 6 := h
  rw [ent_c P h']
  have e : (fun j => toI ((svSet S a k (.int x)).2.2.2 a j)) = upd (fun j => toI (S.2.2.2 a j)) k x := by
    funext j
    by_cases q : j = k
    · simp [svSet, upd, q, toI]
    · simp [svSet, upd, q]
  rw [e]
  rfl
theorem ent_setq {a k x : Nat} (h : (S.2.2.1 a).1 = 8) : ent P (svSet S a k (.ref x)) a = .inl (pcH P, (S.2.2.1 a).2, .inr (.inr (.inr (.inr (va_up (fun j => (toR (S.2.2.2 a j)).map (pad P)) k (some (pad P x))))))) := by
  have h' : ((svSet S a k (.ref x)).2.2.1 a).1 = 8 := h
  rw [ent_q P h']
  have e : (fun j => (toR ((svSet S a k (.ref x)).2.2.2 a j)).map (pad P)) = va_up (fun j => (toR (S.2.2.2 a j)).map (pad P)) k (some (pad P x)) := by
    funext j
    by_cases q : j = k
    · simp [svSet, va_up, q, toR]
    · simp [svSet, va_up, q]
  rw [e]
  rfl
theorem sd_iast {q : Prop} (C : Cx p R s m args meth c P y n0 s0 en) (hd : q → decode (mtC y) pc = .ok (.iastore, 1)) : SND p l e R s m args below meth c Q P y n0 s0 pc ls st S (i_ast7 q (pc + 1) ls st S) := by
  unfold i_ast7
  split
  · rename_i x i a r
    refine SND.nx fun hq hn hs => ⟨hn, hs, fun hk H locs als hP hS hl => ?_⟩
    obtain ⟨hq0, ha, hi⟩ := hq
    obtain ⟨hx, hb, hml, hown, hts, hK, hSt, -⟩ := C
    show W p l e R s m args below meth c H locs _ _ Q (F0 m pc als (.int x :: .int i :: .ref (pad P a) :: r.map (tr P)))
    rw [pad_lt P ha.1]
    have he := wl_get P S ha.2.1
    rw [ent_i P ha.2.2] at he
    refine va_iast hx hb hK hP (wl_D P S) hS a 1 he rfl hi (hd hq0) fun H1 locs1 hP1 _ hS1 => ?_
    rw [← ent_seti (P := P) ha.2.2, wl_set P S (svSet S a i.toNatClampNeg (.int x)) rfl (fun b hb _ => ent_set_ne P S _ hb)] at hP1
    exact hk H1 locs1 als hP1 hS1 hl
  · exact SND.no
theorem sd_cast {q : Prop} (C : Cx p R s m args meth c P y n0 s0 en) (hd : q → decode (mtC y) pc = .ok (.castore, 1)) : SND p l e R s m args below meth c Q P y n0 s0 pc ls st S (i_ast6 q (pc + 1) ls st S) := by
  unfold i_ast6
  split
  · rename_i x i a r
    refine SND.nx fun hq hn hs => ⟨hn, hs, fun hk H locs als hP hS hl => ?_⟩
    obtain ⟨hq0, ha, hi⟩ := hq
    obtain ⟨hx, hb, hml, hown, hts, hK, hSt, -⟩ := C
    show W p l e R s m args below meth c H locs _ _ Q (F0 m pc als (.int x :: .int i :: .ref (pad P a) :: r.map (tr P)))
    rw [pad_lt P ha.1]
    have he := wl_get P S ha.2.1
    rw [ent_c P ha.2.2] at he
    refine va_cast hx hb hK hP (wl_D P S) hS a 0 he rfl hi (hd hq0) fun H1 locs1 hP1 _ hS1 => ?_
    rw [← ent_setc (P := P) ha.2.2, wl_set P S (svSet S a i.toNatClampNeg (.int (vp_nar .char x))) rfl (fun b hb _ => ent_set_ne P S _ hb)] at hP1
    exact hk H1 locs1 als hP1 hS1 hl
  · exact SND.no
theorem sd_aast {q : Prop} (C : Cx p R s m args meth c P y n0 s0 en) (hd : q → decode (mtC y) pc = .ok (.aastore, 1)) : SND p l e R s m args below meth c Q P y n0 s0 pc ls st S (i_ast8 q (pc + 1) ls st S) := by
  unfold i_ast8
  split
  · rename_i x i a r
    refine SND.nx fun hq hn hs => ⟨hn, hs, fun hk H locs als hP hS hl => ?_⟩
    obtain ⟨hq0, ha, hi, ho⟩ := hq
    obtain ⟨hx, hb, hml, hown, hts, hK, hSt, -⟩ := C
    show W p l e R s m args below meth c H locs _ _ Q (F0 m pc als (.ref (pad P x) :: .int i :: .ref (pad P a) :: r.map (tr P)))
    rw [pad_lt P ha.1]
    have he := wl_get P S ha.2.1
    rw [ent_q P ha.2.2] at he
    have hv := wl_get P S ho.2.1
    rw [ent_obj P ho, ← pad_lt P ho.1] at hv
    refine va_astq hx hb hK hP (wl_D P S) hS a 2 x 0 he rfl hv rfl hi (hd hq0) fun H1 locs1 hP1 _ hS1 => ?_
    rw [← ent_setq (P := P) ha.2.2, wl_set P S (svSet S a i.toNatClampNeg (.ref x)) rfl (fun b hb _ => ent_set_ne P S _ hb)] at hP1
    exact hk H1 locs1 als hP1 hS1 hl
  · exact SND.no
end CELLS
end
section
/-! new cells, the copy of rows, calls; the small machine is sound -/
section MORE
variable {p : Program} {l : Launch} {e : Env} {R : Room} {s : State} {m : MethodId} {args : Array Value} {below : List Frame} {meth : Method} {c : Code} {Q : State → Prop} {P : PR} {y n0 s0 : Nat} {en : En} {pc : Nat} {ls st : List Value} {S : MS}
theorem W.szd {H : Heap} {locs : List Loc} {cells slots : Nat} {g : JFrame} (k : H.size ≤ s.heap.size + cells → W p l e R s m args below meth c H locs cells slots Q g) : W p l e R s m args below meth c H locs cells slots Q g := fun T hT X => k (by have := X.heapSize; rw [hT] at this; exact this) T hT X
theorem wl_low {H : Heap} {locs : List Loc} (hP : va_P (pD P) vwCl (wl P S) H) (hS : va_S (AP P) s.heap H locs) (hz : s.heap.size = pB P + n0) (hn : n0 ≤ S.1) : pB P + S.1 ≤ H.size := by
  rcases Nat.lt_or_ge n0 S.1 with h | h
  · have h1 := (hP _ _ (wl_get P S (show S.1 - 1 < S.1 by omega))).lt
    simp only at h1
    omega
  · have := hS.1
    omega
theorem newq {q : Nat} {en1 : va_E} {H1 : Heap} (hP : va_P (pD P) vwCl (wl P S ++ [(q, en1)]) H1) (hD : va_D (AP P) (wl P S ++ [(q, en1)])) (hz : H1.size ≤ pB P + S.1 + 1) : q = pB P + S.1 := by
  have hlen : (wl P S).length = S.1 := by unfold wl; simp
  have hq : (wl P S ++ [(q, en1)])[S.1]? = some (q, en1) := by
    rw [List.getElem?_append_right (by omega), hlen, Nat.sub_self]
    rfl
  have h1 : q < H1.size := (hP _ _ hq).lt
  have h2 : pB P ≤ q := hD.2 _ _ hq
  rcases Nat.lt_or_ge q (pB P + S.1) with h | h
  · exfalso
    have h3 : (wl P S ++ [(q, en1)])[q - pB P]? = some (pB P + (q - pB P), ent P S (q - pB P)) := by
      rw [List.getElem?_append_left (by omega)]
      exact wl_get P S (by omega)
    have h4 := hD.1 _ _ _ _ hq h3 (by simp only; omega)
    omega
  · omega
theorem tr_def (ty : FieldType) : tr P (defaultValue ty) = defaultValue ty := by cases ty <;> rfl
theorem sd_new {ix : Nat} {q : Prop} (C : Cx p R s m args meth c P y n0 s0 en) (hd : q → decode (mtC y) pc = .ok (.new ix, 3)) : SND p l e R s m args below meth c Q P y n0 s0 pc ls st S (i_new y ix en q (pc + 3) ls st S) := by
  unfold i_new
  split
  · rename_i c1 hnl
    refine SND.nx fun hq hn hs => ⟨Nat.le_succ_of_le hn, Nat.le_trans hs (Nat.le_add_right _ _), fun hk H locs als hP hS hl => ?_⟩
    obtain ⟨hq0, h1000, hc6, hr1, hr2⟩ := hq
    obtain ⟨hx, hb, hml, hown, hts, hK, hSt, hname, hf, hlo, hz, hrc, hrs⟩ := C
    obtain ⟨hcl, hty, hnm, hcn⟩ := cok_all c1 hc6
    obtain ⟨w1, w2, w3⟩ := NL_spec hnl
    have hfs : ∀ j, j < nf c1 → defaultValue (fty c1 j) = vp_V ((List.range (nf c1)).map fun k => tr P (defaultValue (fty c1 k))) j := fun j hj => by
      unfold vp_V
      rw [List.getD_eq_getElem?_getD]
      simp [hj, tr_def]
    refine va_new (ci := c1) hx hb hts (cws_all c1 hc6) (fty c1) hty hown (hts _ w1) (hts _ w2) (hts _ w3) hK hP (wl_D P S) hS (fun q hq => by show pB P ≤ q; omega) hcl hfs (by omega) (by omega) (hd hq0) fun q H1 hP1 hD1 hS1 => ?_
    refine W.szd fun hsz => ?_
    have hqe := newq hP1 hD1 (by omega)
    subst hqe
    have ho : obj (svNew S c1 0 (nf c1) (fun k => defaultValue (fty c1 k))) S.1 c1 := ⟨h1000, Nat.lt_succ_self _, by simp [svNew], hc6⟩
    have he : ent P (svNew S c1 0 (nf c1) (fun k => defaultValue (fty c1 k))) S.1 = .inr (c1, (List.range (nf c1)).map fun k => tr P (defaultValue (fty c1 k))) := by
      rw [ent_obj P ho]
      simp [svNew]
    rw [← he, wl_push P S (svNew S c1 0 (nf c1) (fun k => defaultValue (fty c1 k))) rfl (fun b hb => ent_new_ne P S hb)] at hP1
    have h9 := hk H1 locs als hP1 hS1 hl
    rw [List.map_cons, show tr P (.ref S.1) = .ref (pB P + S.1) by show Value.ref (pad P S.1) = _; rw [pad_lt P h1000]] at h9
    have e1 : S.1 - n0 + 1 = (svNew S c1 0 (nf c1) (fun k => defaultValue (fty c1 k))).1 - n0 := by show _ = S.1 + 1 - n0; omega
    have e2 : S.2.1 - s0 + nf c1 = (svNew S c1 0 (nf c1) (fun k => defaultValue (fty c1 k))).2.1 - s0 := by show _ = S.2.1 + nf c1 - s0; omega
    rw [e1, e2]
    exact h9
  · exact SND.no
theorem cls_i {cA : ClassId} (hK : va_K (pD P) vwCl (ptys P) s) (hK1 : va_K (pD P) vwCl (ptys P ++ [(cA, .int)]) s) : cA = pcI P := by
  have h1 : s.vm.findClass ("[" ++ FieldType.int.toString) = some (pcI P) := (hK.2 1 _ rfl).2
  have h2 : s.vm.findClass ("[" ++ FieldType.int.toString) = some cA := (hK1.2 3 _ rfl).2
  exact Option.some.inj (h2.symm.trans h1)
theorem cls_c {cA : ClassId} (hK : va_K (pD P) vwCl (ptys P) s) (hK1 : va_K (pD P) vwCl (ptys P ++ [(cA, .char)]) s) : cA = pcC P := by
  have h1 : s.vm.findClass ("[" ++ FieldType.char.toString) = some (pcC P) := (hK.2 0 _ rfl).2
  have h2 : s.vm.findClass ("[" ++ FieldType.char.toString) = some cA := (hK1.2 3 _ rfl).2
  exact Option.some.inj (h2.symm.trans h1)
theorem cls_h {cA : ClassId} (hK : va_K (pD P) vwCl (ptys P) s) (hK1 : va_K (pD P) vwCl (ptys P ++ [(cA, .object "KiteHire$Hut")]) s) : cA = pcH P := by
  obtain ⟨kA, comp, -, -, -, h1⟩ := (hK.2 2 _ rfl).2
  obtain ⟨kB, comp2, -, -, -, h2⟩ := (hK1.2 3 _ rfl).2
  exact Option.some.inj (h2.symm.trans h1)
theorem sd_nar {t : ArrayType} {q : Prop} (C : Cx p R s m args meth c P y n0 s0 en) (hd : q → decode (mtC y) pc = .ok (.newarray t, 2)) : SND p l e R s m args below meth c Q P y n0 s0 pc ls st S (i_nar t en q (pc + 2) ls st S) := by
  unfold i_nar
  split
  · rename_i n r
    refine SND.nx fun hq hn hs => ⟨Nat.le_succ_of_le hn, Nat.le_trans hs (Nat.le_add_right _ _), fun hk H locs als hP hS hl => ?_⟩
    obtain ⟨hq0, h1000, ht, hneg, hbig, hr1, hr2⟩ := hq
    obtain ⟨hx, hb, hml, hown, hts, hK, hSt, hname, hf, hlo, hz, hrc, hrs⟩ := C
    show W p l e R s m args below meth c H locs _ _ Q (F0 m pc als (.int n :: r.map (tr P)))
    have e1 : S.1 - n0 + 1 = S.1 + 1 - n0 := by omega
    have e2 : S.2.1 - s0 + n.toNatClampNeg = S.2.1 + n.toNatClampNeg - s0 := by omega
    rcases ht with rfl | rfl
    · refine va_newa (a0 := (n.toNatClampNeg, .inl (fun _ => 0))) (atype := .int) (ty := .int) hx hb (hts _ arc_ok.1) rfl hK hP (wl_D P S) hS (fun q hq => by show pB P ≤ q; omega) (fun _ => rfl) hneg rfl (by show n.toNatClampNeg * 4 ≤ _; omega) (by omega) (by omega) (hd hq0) fun q cA H1 hK1 hP1 hD1 hS1 => ?_
      refine W.szd fun hsz => ?_
      have hqe := newq hP1 hD1 (by omega)
      subst hqe
      have hce := cls_i hK hK1
      subst hce
      have he : ent P (svNew S 7 n.toNatClampNeg n.toNatClampNeg (fun _ => .int 0)) S.1 = .inl (pcI P, n.toNatClampNeg, .inl (fun _ => 0)) := by
        rw [ent_i P (by simp [svNew])]
        simp [svNew, toI]
      rw [← he, wl_push P S (svNew S 7 n.toNatClampNeg n.toNatClampNeg (fun _ => .int 0)) rfl (fun b hb => ent_new_ne P S hb)] at hP1
      have h9 := hk H1 locs als hP1 hS1 hl
      rw [List.map_cons, show tr P (.ref S.1) = .ref (pB P + S.1) by show Value.ref (pad P S.1) = _; rw [pad_lt P h1000]] at h9
      rw [e1, e2]
      exact h9
    · refine va_newa (a0 := (n.toNatClampNeg, .inl (fun _ => 0))) (atype := .char) (ty := .char) hx hb (hts _ arc_ok.2) rfl hK hP (wl_D P S) hS (fun q hq => by show pB P ≤ q; omega) (fun _ => rfl) hneg rfl (by show n.toNatClampNeg * 2 ≤ _; omega) (by omega) (by omega) (hd hq0) fun q cA H1 hK1 hP1 hD1 hS1 => ?_
      refine W.szd fun hsz => ?_
      have hqe := newq hP1 hD1 (by omega)
      subst hqe
      have hce := cls_c hK hK1
      subst hce
      have he : ent P (svNew S 6 n.toNatClampNeg n.toNatClampNeg (fun _ => .int 0)) S.1 = .inl (pcC P, n.toNatClampNeg, .inl (fun _ => 0)) := by
        rw [ent_c P (by simp [svNew])]
        simp [svNew, toI]
      rw [← he, wl_push P S (svNew S 6 n.toNatClampNeg n.toNatClampNeg (fun _ => .int 0)) rfl (fun b hb => ent_new_ne P S hb)] at hP1
      have h9 := hk H1 locs als hP1 hS1 hl
      rw [List.map_cons, show tr P (.ref S.1) = .ref (pB P + S.1) by show Value.ref (pad P S.1) = _; rw [pad_lt P h1000]] at h9
      rw [e1, e2]
      exact h9
  · exact SND.no
theorem sd_naq {ix : Nat} {q : Prop} (C : Cx p R s m args meth c P y n0 s0 en) (hd : q → decode (mtC y) pc = .ok (.anewarray ix, 3)) : SND p l e R s m args below meth c Q P y n0 s0 pc ls st S (i_naq y ix en q (pc + 3) ls st S) := by
  unfold i_naq
  split
  · rename_i n r
    refine SND.nx fun hq hn hs => ⟨Nat.le_succ_of_le hn, Nat.le_trans hs (Nat.le_add_right _ _), fun hk H locs als hP hS hl => ?_⟩
    obtain ⟨hq0, hnl, h1000, hneg, hbig, hr1, hr2⟩ := hq
    obtain ⟨hx, hb, hml, hown, hts, hK, hSt, hname, hf, hlo, hz, hrc, hrs⟩ := C
    show W p l e R s m args below meth c H locs _ _ Q (F0 m pc als (.int n :: r.map (tr P)))
    have e1 : S.1 - n0 + 1 = S.1 + 1 - n0 := by omega
    have e2 : S.2.1 - s0 + n.toNatClampNeg = S.2.1 + n.toNatClampNeg - s0 := by omega
    refine va_newq (C := "KiteHire$Hut") hx hb hown (hts _ (NL_spec hnl).1) hSt.2.2.2.2.1 hK hP (wl_D P S) hS (fun q hq => by show pB P ≤ q; omega) hneg rfl (by omega) (by omega) (by omega) (hd hq0) fun q cA H1 hK1 hP1 hD1 hS1 => ?_
    refine W.szd fun hsz => ?_
    have hqe := newq hP1 hD1 (by omega)
    subst hqe
    have hce := cls_h hK hK1
    subst hce
    have he : ent P (svNew S 8 n.toNatClampNeg n.toNatClampNeg (fun _ => .null)) S.1 = .inl (pcH P, n.toNatClampNeg, .inr (.inr (.inr (.inr (fun _ => none))))) := by
      rw [ent_q P (by simp [svNew])]
      simp [svNew, toR]
    rw [← he, wl_push P S (svNew S 8 n.toNatClampNeg n.toNatClampNeg (fun _ => .null)) rfl (fun b hb => ent_new_ne P S hb)] at hP1
    have h9 := hk H1 locs als hP1 hS1 hl
    rw [List.map_cons, show tr P (.ref S.1) = .ref (pB P + S.1) by show Value.ref (pad P S.1) = _; rw [pad_lt P h1000]] at h9
    rw [e1, e2]
    exact h9
  · exact SND.no
theorem ent_cpy {a sp b dp n : Nat} (h : (S.2.2.1 b).1 = 7) : ent P (svCpy S a sp b dp n) b = .inl (pcI P, (S.2.2.1 b).2, .inl (va_cpy (fun j => toI (S.2.2.2 a j)) (fun j => toI (S.2.2.2 b j)) sp dp n)) := by
  have h' : ((svCpy S a sp b dp n).2.2.1 b).1 = 7 := h
  rw [ent_i P h']
  have e : (fun j => toI ((svCpy S a sp b dp n).2.2.2 b j)) = va_cpy (fun j => toI (S.2.2.2 a j)) (fun j => toI (S.2.2.2 b j)) sp dp n := by
    funext j
    by_cases q : dp ≤ j ∧ j < dp + n
    · simp [svCpy, va_cpy, q]
    · simp [svCpy, va_cpy, q]
  rw [e]
  rfl
theorem sd_cpy {ix : Nat} {q : Prop} (C : Cx p R s m args meth c P y n0 s0 en) (hm : ML (mtO y) ix = some 900) (hd : q → decode (mtC y) pc = .ok (.invokestatic ix, 3) ∧ 0 < mtD y) : SND p l e R s m args below meth c Q P y n0 s0 pc ls st S (i_cpy q (pc + 3) ls st S) := by
  unfold i_cpy
  split
  · rename_i n dp b sp a r
    refine SND.nx fun hq hn hs => ⟨hn, hs, fun hk H locs als hP hS hl => ?_⟩
    obtain ⟨hq0, hr, ha, hb', g1, g2, g3, g4, g5⟩ := hq
    obtain ⟨hd1, hd2⟩ := hd hq0
    subst hr
    obtain ⟨hx, hb, hml, hown, hts, hK, hSt, hname, hf, hlo, hz, hrc, hrs⟩ := C
    show W p l e R s m args below meth c H locs _ _ Q (F0 m pc als [.int n, .int dp, .ref (pad P b), .int sp, .ref (pad P a)])
    rw [pad_lt P ha.1, pad_lt P hb'.1]
    have hea := wl_get P S ha.2.1
    rw [ent_i P ha.2.2] at hea
    have heb := wl_get P S hb'.2.1
    rw [ent_i P hb'.2.2] at heb
    have hlk : Jvm.Cond.methodLink (cn (mtO y)) ix arraycopyName ∈ lwg := by
      rcases ML_spec hm with h | h
      · exact absurd h.1 (by decide)
      · exact h
    refine va_copyi hx hb (by rw [hml, hl.2.1]) hown (hts _ hlk) (hts _ acp_ok.1) (hts _ acp_ok.2.1) (hts _ acp_ok.2.2) hK hP (wl_D P S) hS a b 1 1 hea heb rfl rfl rfl g1 g2 g3 g4 g5 (fun _ _ => rfl) (by omega) (by show 0 + (7 + 11) ≤ R.locals; omega) hd1 fun H1 locs1 hP1 _ hS1 => ?_
    rw [← ent_cpy (P := P) hb'.2.2, wl_set P S (svCpy S a sp.toNatClampNeg b dp.toNatClampNeg n.toNatClampNeg) rfl (fun z hz _ => ent_cpy_ne P S hz)] at hP1
    exact hk H1 locs1 als hP1 hS1 hl
  · exact SND.no
end MORE
end
section
/-! calls; the small machine is sound -/
section CALLS
variable {p : Program} {l : Launch} {e : Env} {R : Room} {s : State} {m : MethodId} {args : Array Value} {below : List Frame} {meth : Method} {c : Code} {Q : State → Prop} {P : PR} {y n0 s0 : Nat} {en : En} {pc : Nat} {ls st : List Value} {S : MS}
theorem List.map_toList_opt {α β : Type} (f : α → β) (o : Option α) : o.toList.map f = (o.map f).toList := by cases o <;> rfl
theorem va_callX {mc ms : Nat} {rest : List Value} {st0 : List Value} {als : Array Slot} {r : Option Value} {S1 : MS} {aa : Array Value} {H : Heap} {locs : List Loc} {cells slots : Nat}
    (hr : va_Run p l e R s m args below meth c H locs cells slots mc ms (F0 m pc als st0) rest (QcM P r S1 aa) (AP P)) (hS : va_S (AP P) s.heap H locs)
    (kk : ∀ (H1 : Heap) (locs1 : List Loc), va_P (pD P) vwCl (wl P S1) H1 → va_S (AP P) s.heap H1 locs1 → W p l e R s m args below meth c H1 locs1 (cells + mc) (slots + ms) Q (F0 m (pc + 3) als ((r.map (tr P)).toList ++ rest))) : W p l e R s m args below meth c H locs cells slots Q (F0 m pc als st0) := by
  intro T hT X
  obtain ⟨v, st₀, t, T', L, h0, X', hL, e1, e2, ⟨hv, hp, hz, hk⟩, st⟩ := hr T hT X
  cases hv
  rw [h0] at hz hk
  obtain ⟨t2, a1, b1⟩ := kk T'.heap (locs ++ L) (by rw [e1]; exact hp)
    ⟨Nat.le_trans hS.1 (by rw [e1]; exact hz), fun q h1 h2 => by rw [e1, hk q (Nat.lt_of_lt_of_le h1 hS.1) h2]; exact hS.2.1 q h1 h2, fun q hq => by
      rcases List.mem_append.mp hq with h | h
      · exact hS.2.2 q h
      · exact hL q h⟩ T' rfl X'
  exact ⟨t2, st t2 a1, b1⟩
theorem PcM.blind {sc : Nat × (Nat → Int32)} {av : List Value} : FrameBlind (PcM P sc av S) := fun a U g mk h => by
  obtain ⟨h1, h2, h3, h4, h5⟩ := h
  exact ⟨h1, h2, h3, va_K.moved (u := U) (U := U.calling g mk a) (Vm.Alike.refl U.vm) h4, StOK.same (u := U) h5 rfl rfl⟩
theorem PcM.at {av : List Value} {H : Heap} {locs : List Loc} (C : Cx p R s m args meth c P y n0 s0 en) (hP : va_P (pD P) vwCl (wl P S) H) (hS : va_S (AP P) s.heap H locs) (hz : H.size = pB P + S.1) (U : State) (hU : U.heap = H) (hW : s.WarmedH U.vm) : PcM P en.2 av S ((av.map (tr P)).toArray) U := by
  obtain ⟨hx, hb, hml, hown, hts, hK, hSt, -⟩ := C
  exact ⟨rfl, by rw [hU]; exact hz, by rw [hU]; exact hP, va_K.moved hW.alike hK, hSt.go hS hU hW⟩
theorem cat_map (vs : List Value) : ((vs.map (tr P)).map fun v => v.category).sum = (vs.map Value.category).sum := by
  rw [List.map_map]
  congr 1
  apply List.map_congr_left
  intro v _
  exact tr_cat P v
theorem cat_le : ∀ (vs : List Value), vs.length ≤ 4 → (vs.map Value.category).sum ≤ 8 := by
  have key : ∀ (vs : List Value), (vs.map Value.category).sum ≤ 2 * vs.length := by
    intro vs
    induction vs with
    | nil => simp
    | cons a l ih =>
      have h : a.category ≤ 2 := by cases a <;> simp [Value.category]
      simp only [List.map_cons, List.sum_cons, List.length_cons]
      omega
  intro vs h
  have := key vs
  omega
theorem take_split {A a : Nat} (h : lget st A = .ref a) : st.take (A + 1) = st.take A ++ [.ref a] ∧ st = st.take A ++ .ref a :: st.drop (A + 1) ∧ (st.take A).length = A := by
  have h1 := lget_some h (by intro z; cases z)
  have hlt := (List.getElem?_eq_some_iff.mp h1).1
  have h2 : st[A] = .ref a := (List.getElem?_eq_some_iff.mp h1).2
  refine ⟨?_, ?_, by rw [List.length_take]; omega⟩
  · rw [List.take_succ, h1]
    rfl
  · have h3 := List.drop_eq_getElem_cons hlt
    rw [h2] at h3
    rw [← h3, List.take_append_drop]
/-- the part of a call that all kinds share -/
theorem cal_room {z : Nat} {k ms : Nat} (C : Cx p R s m args meth c P y n0 s0 en) (hz : mtD z < mtD y) (hL : mtL z ≤ 17) : (rmm z k ms).frames + 1 ≤ R.frames ∧ 8 + (mtL z + 11) + (rmm z k ms).locals ≤ R.locals := by
  obtain ⟨hx, hb, hml, hown, hts, hK, hSt, hname, hf, hlo, -⟩ := C
  exact ⟨by show mtD z + 1 ≤ _; omega, by show 8 + (mtL z + 11) + 36 * mtD z ≤ _; omega⟩
theorem sd_inv {ix : Nat} {q : Prop} {sp : Nat → Sp} (C : Cx p R s m args meth c P y n0 s0 en) (hsp : ∀ z, SpecOK z (sp z)) (hd : q → decode (mtC y) pc = .ok (.invokevirtual ix, 3)) : SND p l e R s m args below meth c Q P y n0 s0 pc ls st S (i_inv y ix sp en q (pc + 3) ls st S) := by
  unfold i_inv
  split
  · rename_i z hml0
    unfold i_cal
    refine SND.nx fun hq hn hs => ?_
    obtain ⟨⟨hq0, hst, hni, hO⟩, hz1, hz2, hdp, hlen, hcat, hpre, hg1, hg2, hg3, hg4⟩ := hq
    refine ⟨Nat.le_trans hn hg1, Nat.le_trans hs hg2, fun hk H locs als hP hS hl => ?_⟩
    obtain ⟨m1, m2, m3, m4, m5, m6, m7, m8⟩ := mok_all z hz1 hz2
    rw [if_neg (by rw [hst]; decide)] at m2
    have m3 := (m3.resolve_left (by rw [hst]; decide)).resolve_left hni
    have hO' : ∃ a, lget st (mtA z) = .ref a ∧ obj S a (mtO z) := by
      unfold isO at hO
      split at hO
      · rename_i a ha
        exact ⟨a, ha, hO⟩
      · exact absurd hO id
    obtain ⟨a, ha, ho⟩ := hO'
    obtain ⟨t1, t2, t3⟩ := take_split ha
    have hsz := wl_low hP hS C.2.2.2.2.2.2.2.2.2.2.1 hn
    refine W.szd fun hsz2 => ?_
    have hz : H.size = pB P + S.1 := by have := C.2.2.2.2.2.2.2.2.2.2.1; omega
    have hav : (st.take (mtA z + 1)).reverse = .ref a :: (st.take (mtA z)).reverse := by rw [t1, List.reverse_append]; rfl
    have hM := hsp z l P en.2 _ S hpre
    have hrl := cal_room (k := (sp z (st.take (mtA z + 1)).reverse S).2.2.1 - S.1) (ms := (sp z (st.take (mtA z + 1)).reverse S).2.2.2.1 - S.2.1) C hdp m7
    have he := wl_get P S ho.2.1
    rw [ent_obj P ho] at he
    have hcl := (cok_all (mtO z) ho.2.2.2).1
    have hrecv := va_recv C.2.2.2.2.2.1 hP hcl he
    have hPv : PreV s H (cn (mtO z)) (pB P + a) (PcM P en.2 ((st.take (mtA z + 1)).reverse) S) ((st.take (mtA z)).reverse.map (tr P)) := ⟨PcM.blind, hrecv, fun U hU hW => by
      have h := PcM.at (av := (st.take (mtA z + 1)).reverse) C hP hS hz U hU hW
      rw [hav, List.map_cons, show tr P (.ref a) = .ref (pB P + a) by show Value.ref (pad P a) = _; rw [pad_lt P ho.1]] at h
      rw [hav]
      exact h⟩
    have hstk : st.map (tr P) = ((st.take (mtA z)).reverse.map (tr P)).reverse ++ .ref (pB P + a) :: (st.drop (mtA z + 1)).map (tr P) := by
      conv => lhs; rw [t2]
      rw [List.map_append, List.map_cons, List.map_reverse, List.reverse_reverse, show tr P (.ref a) = .ref (pB P + a) by show Value.ref (pad P a) = _; rw [pad_lt P ho.1]]
    have hfits : (S.1 - n0 + ((sp z (st.take (mtA z + 1)).reverse S).2.2.1 - S.1) ≤ R.cells) ∧ (S.2.1 - s0 + ((sp z (st.take (mtA z + 1)).reverse S).2.2.2.1 - S.2.1) ≤ R.slots) := by
      obtain ⟨hx, hb, hml, hown, hts, hK, hSt, hname, hf, hlo, hzz, hrc, hrs⟩ := C
      omega
    have e1 : S.1 - n0 + ((sp z (st.take (mtA z + 1)).reverse S).2.2.1 - S.1) = (sp z (st.take (mtA z + 1)).reverse S).2.2.1 - n0 := by omega
    have e2 : S.2.1 - s0 + ((sp z (st.take (mtA z + 1)).reverse S).2.2.2.1 - S.2.1) = (sp z (st.take (mtA z + 1)).reverse S).2.2.2.1 - s0 := by omega
    have hkk : ∀ (H1 : Heap) (locs1 : List Loc), va_P (pD P) vwCl (wl P (sp z (st.take (mtA z + 1)).reverse S).2.2) H1 → va_S (AP P) s.heap H1 locs1 → W p l e R s m args below meth c H1 locs1 (S.1 - n0 + ((sp z (st.take (mtA z + 1)).reverse S).2.2.1 - S.1)) (S.2.1 - s0 + ((sp z (st.take (mtA z + 1)).reverse S).2.2.2.1 - S.2.1)) Q (F0 m (pc + 3) als (((sp z (st.take (mtA z + 1)).reverse S).2.1.map (tr P)).toList ++ (st.drop (mtA z + 1)).map (tr P))) := fun H1 locs1 hP1 hS1 => by
      rw [e1, e2]
      have h9 := hk H1 locs1 als hP1 hS1 hl
      rw [List.map_append, List.map_toList_opt] at h9
      exact h9
    rw [hstk]
    have hfix : CallFix p m c (mtC y) (mtL y) s args lwg (cn (mtO y)) := ⟨C.1, C.2.1, C.2.2.1, C.2.2.2.1, C.2.2.2.2.1⟩
    rcases ML_spec hml0 with hlk | hlk
    · exact va_callX (va_runVN hfix hM ⟨va_cnB (mtA z) C.2.2.2.2.1 (wsm_good z hz1 hz2) rfl rfl rfl (C.2.2.2.2.2.2.1.nst hlk.2) (C.2.2.2.2.1 _ (lwg_in m4 rfl)) m6 hrl, C.2.2.2.2.1 _ (lwg_in m2 rfl), C.2.2.2.2.1 _ (lwg_in m3 rfl)⟩ hPv rfl (by simp; omega) hl.2.1 rfl (lv_room (by rw [cat_map]; exact cat_le _ hcat)) (hd hq0) hfits) hS hkk
    · rw [if_neg (by omega), if_neg (by omega)] at hlk
      exact va_callX (va_runV hfix hM ⟨callB_of (mtA z) C.2.2.2.2.1 (wsm_good z hz1 hz2) rfl rfl rfl (C.2.2.2.2.1 _ (lwg_in m4 rfl)) (C.2.2.2.2.1 _ hlk) m6 hrl, C.2.2.2.2.1 _ (lwg_in m2 rfl), C.2.2.2.2.1 _ (lwg_in m3 rfl)⟩ hPv rfl (by simp; omega) hl.2.1 rfl (lv_room (by rw [cat_map]; exact cat_le _ hcat)) (hd hq0) hfits) hS hkk
  · exact SND.no
theorem sd_cals {ix z : Nat} {q : Prop} {sp : Nat → Sp} (C : Cx p R s m args meth c P y n0 s0 en) (hsp : ∀ z, SpecOK z (sp z)) (hml0 : ML (mtO y) ix = some z) (hd : q → decode (mtC y) pc = .ok (.invokestatic ix, 3) ∧ mtS z = true) : SND p l e R s m args below meth c Q P y n0 s0 pc ls st S (i_cal y z sp en (mtA z) q (pc + 3) ls st S) := by
  unfold i_cal
  refine SND.nx fun hq hn hs => ?_
  obtain ⟨hq0, hz1, hz2, hdp, hlen, hcat, hpre, hg1, hg2, hg3, hg4⟩ := hq
  obtain ⟨hd1, hst⟩ := hd hq0
  refine ⟨Nat.le_trans hn hg1, Nat.le_trans hs hg2, fun hk H locs als hP hS hl => ?_⟩
  obtain ⟨m1, m2, m3, m4, m5, m6, m7, m8⟩ := mok_all z hz1 hz2
  rw [if_pos hst] at m2
  have hsz := wl_low hP hS C.2.2.2.2.2.2.2.2.2.2.1 hn
  refine W.szd fun hsz2 => ?_
  have hz : H.size = pB P + S.1 := by have := C.2.2.2.2.2.2.2.2.2.2.1; omega
  have hM := hsp z l P en.2 _ S hpre
  have hrl := cal_room (k := (sp z (st.take (mtA z)).reverse S).2.2.1 - S.1) (ms := (sp z (st.take (mtA z)).reverse S).2.2.2.1 - S.2.1) C hdp m7
  have hPv : PreS s H (PcM P en.2 ((st.take (mtA z)).reverse) S) ((st.take (mtA z)).reverse.map (tr P)) := ⟨PcM.blind, fun U hU hW => PcM.at (av := (st.take (mtA z)).reverse) C hP hS hz U hU hW⟩
  have hstk : st.map (tr P) = ((st.take (mtA z)).reverse.map (tr P)).reverse ++ (st.drop (mtA z)).map (tr P) := by
    rw [List.map_reverse, List.reverse_reverse, ← List.map_append, List.take_append_drop]
  have hfits : (S.1 - n0 + ((sp z (st.take (mtA z)).reverse S).2.2.1 - S.1) ≤ R.cells) ∧ (S.2.1 - s0 + ((sp z (st.take (mtA z)).reverse S).2.2.2.1 - S.2.1) ≤ R.slots) := by
    obtain ⟨hx, hb, hml, hown, hts, hK, hSt, hname, hf, hlo, hzz, hrc, hrs⟩ := C
    omega
  have e1 : S.1 - n0 + ((sp z (st.take (mtA z)).reverse S).2.2.1 - S.1) = (sp z (st.take (mtA z)).reverse S).2.2.1 - n0 := by omega
  have e2 : S.2.1 - s0 + ((sp z (st.take (mtA z)).reverse S).2.2.2.1 - S.2.1) = (sp z (st.take (mtA z)).reverse S).2.2.2.1 - s0 := by omega
  have hkk : ∀ (H1 : Heap) (locs1 : List Loc), va_P (pD P) vwCl (wl P (sp z (st.take (mtA z)).reverse S).2.2) H1 → va_S (AP P) s.heap H1 locs1 → W p l e R s m args below meth c H1 locs1 (S.1 - n0 + ((sp z (st.take (mtA z)).reverse S).2.2.1 - S.1)) (S.2.1 - s0 + ((sp z (st.take (mtA z)).reverse S).2.2.2.1 - S.2.1)) Q (F0 m (pc + 3) als (((sp z (st.take (mtA z)).reverse S).2.1.map (tr P)).toList ++ (st.drop (mtA z)).map (tr P))) := fun H1 locs1 hP1 hS1 => by
    rw [e1, e2]
    have h9 := hk H1 locs1 als hP1 hS1 hl
    rw [List.map_append, List.map_toList_opt] at h9
    exact h9
  rw [hstk]
  have hfix : CallFix p m c (mtC y) (mtL y) s args lwg (cn (mtO y)) := ⟨C.1, C.2.1, C.2.2.1, C.2.2.2.1, C.2.2.2.2.1⟩
  rcases ML_spec hml0 with hlk | hlk
  · exact va_callX (va_runSN hfix hM ⟨va_cnB (mtA z) C.2.2.2.2.1 (wsm_good z hz1 hz2) rfl rfl rfl (C.2.2.2.2.2.2.1.nst hlk.2) (C.2.2.2.2.1 _ (lwg_in m4 rfl)) m6 hrl, C.2.2.2.2.1 _ (lwg_in m2 rfl), trivial⟩ hPv rfl (by simp; omega) hl.2.1 rfl (lv_room (by rw [cat_map]; exact cat_le _ hcat)) hd1 hfits) hS hkk
  · rw [if_neg (by omega), if_neg (by omega)] at hlk
    exact va_callX (va_runS hfix hM ⟨callB_of (mtA z) C.2.2.2.2.1 (wsm_good z hz1 hz2) rfl rfl rfl (C.2.2.2.2.1 _ (lwg_in m4 rfl)) (C.2.2.2.2.1 _ hlk) m6 hrl, C.2.2.2.2.1 _ (lwg_in m2 rfl)⟩ hPv rfl (by simp; omega) hl.2.1 rfl (lv_room (by rw [cat_map]; exact cat_le _ hcat)) hd1 hfits) hS hkk
theorem sd_calp {ix z : Nat} {q : Prop} {sp : Nat → Sp} (C : Cx p R s m args meth c P y n0 s0 en) (hsp : ∀ z, SpecOK z (sp z)) (hml0 : ML (mtO y) ix = some z) (hd : q → decode (mtC y) pc = .ok (.invokespecial ix, 3)) : SND p l e R s m args below meth c Q P y n0 s0 pc ls st S (i_cal y z sp en (mtA z + 1) (q ∧ mtS z = false ∧ (mtN z).name = "<init>" ∧ mtR z = none ∧ isO S (mtO z) (lget st (mtA z))) (pc + 3) ls st S) := by
  unfold i_cal
  refine SND.nx fun hq hn hs => ?_
  obtain ⟨⟨hq0, hst, hni, hrt, hO⟩, hz1, hz2, hdp, hlen, hcat, hpre, hg1, hg2, hg3, hg4⟩ := hq
  refine ⟨Nat.le_trans hn hg1, Nat.le_trans hs hg2, fun hk H locs als hP hS hl => ?_⟩
  obtain ⟨m1, m2, m3, m4, m5, m6, m7, m8⟩ := mok_all z hz1 hz2
  rw [if_neg (by rw [hst]; decide)] at m2
  have hO' : ∃ a, lget st (mtA z) = .ref a ∧ obj S a (mtO z) := by
    unfold isO at hO
    split at hO
    · rename_i a ha
      exact ⟨a, ha, hO⟩
    · exact absurd hO id
  obtain ⟨a, ha, ho⟩ := hO'
  obtain ⟨t1, t2, t3⟩ := take_split ha
  have hsz := wl_low hP hS C.2.2.2.2.2.2.2.2.2.2.1 hn
  refine W.szd fun hsz2 => ?_
  have hz : H.size = pB P + S.1 := by have := C.2.2.2.2.2.2.2.2.2.2.1; omega
  have hav : (st.take (mtA z + 1)).reverse = .ref a :: (st.take (mtA z)).reverse := by rw [t1, List.reverse_append]; rfl
  have hM := hsp z l P en.2 _ S hpre
  have hrl := cal_room (k := (sp z (st.take (mtA z + 1)).reverse S).2.2.1 - S.1) (ms := (sp z (st.take (mtA z + 1)).reverse S).2.2.2.1 - S.2.1) C hdp m7
  have hPv : PreS s H (PcM P en.2 ((st.take (mtA z + 1)).reverse) S) (.ref (pB P + a) :: (st.take (mtA z)).reverse.map (tr P)) := ⟨PcM.blind, fun U hU hW => by
    have h := PcM.at (av := (st.take (mtA z + 1)).reverse) C hP hS hz U hU hW
    rw [hav, List.map_cons, show tr P (.ref a) = .ref (pB P + a) by show Value.ref (pad P a) = _; rw [pad_lt P ho.1]] at h
    rw [hav]
    exact h⟩
  have hstk : st.map (tr P) = ((st.take (mtA z)).reverse.map (tr P)).reverse ++ .ref (pB P + a) :: (st.drop (mtA z + 1)).map (tr P) := by
    conv => lhs; rw [t2]
    rw [List.map_append, List.map_cons, List.map_reverse, List.reverse_reverse, show tr P (.ref a) = .ref (pB P + a) by show Value.ref (pad P a) = _; rw [pad_lt P ho.1]]
  have hfits : (S.1 - n0 + ((sp z (st.take (mtA z + 1)).reverse S).2.2.1 - S.1) ≤ R.cells) ∧ (S.2.1 - s0 + ((sp z (st.take (mtA z + 1)).reverse S).2.2.2.1 - S.2.1) ≤ R.slots) := by
    obtain ⟨hx, hb, hml, hown, hts, hK, hSt, hname, hf, hlo, hzz, hrc, hrs⟩ := C
    omega
  have e1 : S.1 - n0 + ((sp z (st.take (mtA z + 1)).reverse S).2.2.1 - S.1) = (sp z (st.take (mtA z + 1)).reverse S).2.2.1 - n0 := by omega
  have e2 : S.2.1 - s0 + ((sp z (st.take (mtA z + 1)).reverse S).2.2.2.1 - S.2.1) = (sp z (st.take (mtA z + 1)).reverse S).2.2.2.1 - s0 := by omega
  have hkk : ∀ (H1 : Heap) (locs1 : List Loc), va_P (pD P) vwCl (wl P (sp z (st.take (mtA z + 1)).reverse S).2.2) H1 → va_S (AP P) s.heap H1 locs1 → W p l e R s m args below meth c H1 locs1 (S.1 - n0 + ((sp z (st.take (mtA z + 1)).reverse S).2.2.1 - S.1)) (S.2.1 - s0 + ((sp z (st.take (mtA z + 1)).reverse S).2.2.2.1 - S.2.1)) Q (F0 m (pc + 3) als (((sp z (st.take (mtA z + 1)).reverse S).2.1.map (tr P)).toList ++ (st.drop (mtA z + 1)).map (tr P))) := fun H1 locs1 hP1 hS1 => by
    rw [e1, e2]
    have h9 := hk H1 locs1 als hP1 hS1 hl
    rw [List.map_append, List.map_toList_opt] at h9
    exact h9
  rw [hstk]
  have hfix : CallFix p m c (mtC y) (mtL y) s args lwg (cn (mtO y)) := ⟨C.1, C.2.1, C.2.2.1, C.2.2.2.1, C.2.2.2.2.1⟩
  have hwr : wsm z = Jvm.Cond.code (mtN z) (mtC z) (mtL z) none :: lwg := by unfold wsm; rw [hrt]
  rcases ML_spec hml0 with hlk | hlk
  · exact va_callX (va_runIN hfix hM ⟨va_cnB (mtA z) C.2.2.2.2.1 (wsm_good z hz1 hz2) hwr rfl rfl (C.2.2.2.2.2.2.1.nst hlk.2) (C.2.2.2.2.1 _ (lwg_in m4 rfl)) m6 hrl, hni, C.2.2.2.2.1 _ (lwg_in m2 rfl)⟩ hPv rfl (by simp; omega) hl.2.1 rfl (lv_room (by rw [cat_map]; exact cat_le _ hcat)) (hd hq0) hfits) hS hkk
  · rw [if_neg (by omega), if_neg (by omega)] at hlk
    exact va_callX (va_runI hfix hM ⟨callB_of (mtA z) C.2.2.2.2.1 (wsm_good z hz1 hz2) hwr rfl rfl (C.2.2.2.2.1 _ (lwg_in m4 rfl)) (C.2.2.2.2.1 _ hlk) m6 hrl, hni, C.2.2.2.2.1 _ (lwg_in m2 rfl)⟩ hPv rfl (by simp; omega) hl.2.1 rfl (lv_room (by rw [cat_map]; exact cat_le _ hcat)) (hd hq0) hfits) hS hkk
end CALLS
end
section
/-! every instruction; whole runs; a method's contract out of its run -/
section WHOLE
variable {p : Program} {l : Launch} {e : Env} {R : Room} {s : State} {m : MethodId} {args : Array Value} {below : List Frame} {meth : Method} {c : Code} {Q : State → Prop} {P : PR} {y n0 s0 : Nat} {en : En} {pc : Nat} {ls st : List Value} {S : MS}
theorem sd_ret {q : Prop} (hd : q → decode (mtC y) pc = .ok (.ireturn, 1)) : SND p l e R s m args below meth c Q P y n0 s0 pc ls st S (i_ret y q st S) := by
  unfold i_ret
  split
  · exact SND.rt fun hq hk H locs als hP hS hl => hk pc .ireturn H locs als (hd hq.1) ⟨rfl, hq.2⟩ hP hS
  · exact SND.no
theorem sd_drt {q : Prop} (hd : q → decode (mtC y) pc = .ok (.dreturn, 1)) : SND p l e R s m args below meth c Q P y n0 s0 pc ls st S (i_drt y q st S) := by
  unfold i_drt
  split
  · exact SND.rt fun hq hk H locs als hP hS hl => hk pc .dreturn H locs als (hd hq.1) ⟨rfl, hq.2⟩ hP hS
  · exact SND.no
theorem sd_art {q : Prop} (hd : q → decode (mtC y) pc = .ok (.areturn, 1)) : SND p l e R s m args below meth c Q P y n0 s0 pc ls st S (i_art y q st S) := by
  unfold i_art
  split
  · exact SND.rt fun hq hk H locs als hP hS hl => hk pc .areturn H locs als (hd hq.1) ⟨rfl, hq.2⟩ hP hS
  · exact SND.rt fun hq hk H locs als hP hS hl => hk pc .areturn H locs als (hd hq.1) ⟨rfl, hq.2⟩ hP hS
  · exact SND.no
theorem sd_vrt {q : Prop} (hd : q → decode (mtC y) pc = .ok (.return_, 1)) : SND p l e R s m args below meth c Q P y n0 s0 pc ls st S (i_vrt y q st S) := by
  unfold i_vrt
  split
  · exact SND.rt fun hq hk H locs als hP hS hl => hk pc .return_ H locs als (hd hq.1) ⟨rfl, hq.2⟩ hP hS
  · exact SND.no
theorem sd_dup {q : Prop} (C : Cx p R s m args meth c P y n0 s0 en) (hd : q → decode (mtC y) pc = .ok (.dup, 1)) : SND p l e R s m args below meth c Q P y n0 s0 pc ls st S (i_dup q (pc + 1) ls st S) := by
  unfold i_dup
  split
  · exact SND.same fun hq hk H locs als hP hS hl => lv_dup C.1 C.2.1 (hd hq.1) ((tr_cat P _).trans hq.2) (hk H locs als hP hS hl)
  · exact SND.no
theorem sd_dup2 {q : Prop} (C : Cx p R s m args meth c P y n0 s0 en) (hd : q → decode (mtC y) pc = .ok (.dup2, 1)) : SND p l e R s m args below meth c Q P y n0 s0 pc ls st S (i_dup2 q (pc + 1) ls st S) := by
  unfold i_dup2
  split
  · exact SND.same fun hq hk H locs als hP hS hl => lv_dup2_11 C.1 C.2.1 (hd hq.1) ((tr_cat P _).trans hq.2.1) ((tr_cat P _).trans hq.2.2) (hk H locs als hP hS hl)
  · exact SND.no
theorem sd_pop {q : Prop} (C : Cx p R s m args meth c P y n0 s0 en) (hd : q → decode (mtC y) pc = .ok (.pop, 1)) : SND p l e R s m args below meth c Q P y n0 s0 pc ls st S (i_pop q (pc + 1) ls st S) := by
  unfold i_pop
  split
  · exact SND.same fun hq hk H locs als hP hS hl => lv_pop C.1 C.2.1 (hd hq.1) ((tr_cat P _).trans hq.2) (hk H locs als hP hS hl)
  · exact SND.no
theorem sd_ddv {q : Prop} (C : Cx p R s m args meth c P y n0 s0 en) (hd : q → decode (mtC y) pc = .ok (.ddiv, 1)) : SND p l e R s m args below meth c Q P y n0 s0 pc ls st S (i_ddv q (pc + 1) ls st S) := by
  unfold i_ddv
  split
  · exact SND.same fun hq hk H locs als hP hS hl => lv_ddiv C.1 C.2.1 (hd hq.1) hq.2 (hk H locs als hP hS hl)
  · exact SND.no
theorem sd_dcm {op : CmpOp} {q : Prop} (C : Cx p R s m args meth c P y n0 s0 en) (hd : q → decode (mtC y) pc = .ok (.dcmp op, 1)) : SND p l e R s m args below meth c Q P y n0 s0 pc ls st S (i_dcm op q (pc + 1) ls st S) := by
  unfold i_dcm
  split
  · exact SND.same fun hq hk H locs als hP hS hl => lv_dcmp C.1 C.2.1 (hd hq) (hk H locs als hP hS hl)
  · exact SND.no
theorem sd_ldc {ix : Nat} {q : Prop} {pc1 : Nat} (C : Cx p R s m args meth c P y n0 s0 en) (row : ∀ {H : Heap} {locs : List Loc} {cells slots : Nat} {als : Array Slot} {r : List Value} {v : Int32}, q → (Jvm.Cond.constant (cn (mtO y)) ix v).before args s = true → W p l e R s m args below meth c H locs cells slots Q (F0 m pc1 als (.int v :: r)) → W p l e R s m args below meth c H locs cells slots Q (F0 m pc als r)) : SND p l e R s m args below meth c Q P y n0 s0 pc ls st S (i_ldc y ix q pc1 ls st S) := by
  unfold i_ldc
  split
  · rename_i v hv
    exact SND.same fun hq hk H locs als hP hS hl => row hq (C.2.2.2.2.1 _ (CL_spec hv)) (hk H locs als hP hS hl)
  · exact SND.no
theorem sd_nul {off : Int} {q : Prop} (C : Cx p R s m args meth c P y n0 s0 en) (hd : q → decode (mtC y) pc = .ok (.ifnull off, 3)) : SND p l e R s m args below meth c Q P y n0 s0 pc ls st S (i_nul off q pc ls st S) := by
  unfold i_nul
  split
  · exact SND.same fun hq hk H locs als hP hS hl => lv_ifnull C.1 C.2.1 (hd hq) (hk H locs als hP hS hl)
  · exact SND.same fun hq hk H locs als hP hS hl => lv_ifnullN C.1 C.2.1 (hd hq.1) (tg_eq hq.2) (hk H locs als hP hS hl)
  · exact SND.no
theorem sd_nnl {off : Int} {q : Prop} (C : Cx p R s m args meth c P y n0 s0 en) (hd : q → decode (mtC y) pc = .ok (.ifnonnull off, 3)) : SND p l e R s m args below meth c Q P y n0 s0 pc ls st S (i_nnl off q pc ls st S) := by
  unfold i_nnl
  split
  · exact SND.same fun hq hk H locs als hP hS hl => lv_ifnonnullN C.1 C.2.1 (hd hq) (hk H locs als hP hS hl)
  · exact SND.same fun hq hk H locs als hP hS hl => lv_ifnonnull C.1 C.2.1 (hd hq.1) (tg_eq hq.2) (hk H locs als hP hS hl)
  · exact SND.no
theorem sd_tsw {d lo hi : Int} {offs : Array Int} {len : Nat} (C : Cx p R s m args meth c P y n0 s0 en) (hd : decode (mtC y) pc = .ok (.tableswitch d lo hi offs, len)) : SND p l e R s m args below meth c Q P y n0 s0 pc ls st S (i_tsw d lo hi offs pc ls st S) := by
  unfold i_tsw
  split
  · rename_i x r
    refine SND.same fun hq hk H locs als hP hS hl => ?_
    have hk' := hk H locs als hP hS hl
    have ht := tg_eq hq.1
    by_cases h : x.toInt < lo ∨ hi < x.toInt
    · have e : tsw pc x d lo hi offs = d := by unfold tsw; rw [if_pos h]
      rw [e] at ht hk'
      exact lv_tableOut C.1 C.2.1 hd h ht hk'
    · have e : tsw pc x d lo hi offs = offs.getD (x.toInt - lo).toNat 0 := by unfold tsw; rw [if_neg h]
      have hlt := hq.2 h
      have e2 : offs[(x.toInt - lo).toNat]? = some (tsw pc x d lo hi offs) := by
        rw [e, Array.getD_eq_getD_getElem?]
        simp [hlt]
      exact lv_tableIn C.1 C.2.1 hd (fun z => h (Or.inl z)) (fun z => h (Or.inr z)) e2 ht hk'
  · exact SND.no
theorem sd_lsw {d : Int} {ps : Array (Int × Int)} {len : Nat} (C : Cx p R s m args meth c P y n0 s0 en) (hd : decode (mtC y) pc = .ok (.lookupswitch d ps, len)) : SND p l e R s m args below meth c Q P y n0 s0 pc ls st S (i_lsw d ps pc ls st S) := by
  unfold i_lsw
  split
  · exact SND.same fun hq hk H locs als hP hS hl => lv_lookup C.1 C.2.1 hd hq.2 rfl (tg_eq hq.1) (hk H locs als hP hS hl)
  · exact SND.no
theorem sd_mmx {ix : Nat} {q : Prop} (C : Cx p R s m args meth c P y n0 s0 en) (hml0 : ML (mtO y) ix = some 0) (hd : q → decode (mtC y) pc = .ok (.invokestatic ix, 3)) : SND p l e R s m args below meth c Q P y n0 s0 pc ls st S (i_bin (fun a b => .int (if a < b then b else a)) (fun _ _ => True) (q ∧ 0 < mtD y ∧ (st.drop 2).length ≤ 4 ∧ S.1 ≤ en.1.1 ∧ S.2.1 ≤ en.1.2) (pc + 3) ls st S) := by
  unfold i_bin
  split
  · rename_i b a r
    refine SND.nx fun hq hn hs => ⟨hn, hs, fun hk H locs als hP hS hl => ?_⟩
    obtain ⟨⟨hq1, hq2, hq3, hq4, hq5⟩, -⟩ := hq
    obtain ⟨g1, g2, g3, g4⟩ := mmx_ok
    rcases ML_spec hml0 with hlk | hlk
    · exact absurd hlk.1 (by decide)
    · rw [if_neg (by decide), if_neg (by decide), g4] at hlk
      obtain ⟨hx, hb, hml, hown, hts, hK, hSt, hname, hf, hlo, hz, hrc, hrs⟩ := C
      exact va_mmax hx hb (by rw [hml, hl.2.1]) hown (hts _ hlk) (hts _ (lwg_in g2 rfl)) (hts _ (lwg_in g3 rfl)) (hts _ (lwg_in g1 rfl)) (by omega) (by rw [cat_map]; have h8 : (r.map Value.category).sum ≤ 8 := cat_le _ hq3; omega) (by omega) (by omega) (hd hq1) (hk H locs als hP hS hl)
  · exact SND.no
theorem sd_mmn {ix : Nat} {q : Prop} (C : Cx p R s m args meth c P y n0 s0 en) (hml0 : ML (mtO y) ix = some 1) (hd : q → decode (mtC y) pc = .ok (.invokestatic ix, 3)) : SND p l e R s m args below meth c Q P y n0 s0 pc ls st S (i_bin (fun a b => .int (if b < a then b else a)) (fun _ _ => True) (q ∧ 0 < mtD y ∧ (st.drop 2).length ≤ 4 ∧ S.1 ≤ en.1.1 ∧ S.2.1 ≤ en.1.2) (pc + 3) ls st S) := by
  unfold i_bin
  split
  · rename_i b a r
    refine SND.nx fun hq hn hs => ⟨hn, hs, fun hk H locs als hP hS hl => ?_⟩
    obtain ⟨⟨hq1, hq2, hq3, hq4, hq5⟩, -⟩ := hq
    obtain ⟨g1, g2, g3, g4⟩ := mmn_ok
    rcases ML_spec hml0 with hlk | hlk
    · exact absurd hlk.1 (by decide)
    · rw [if_neg (by decide), if_neg (by decide), g4] at hlk
      obtain ⟨hx, hb, hml, hown, hts, hK, hSt, hname, hf, hlo, hz, hrc, hrs⟩ := C
      exact va_mmin hx hb (by rw [hml, hl.2.1]) hown (hts _ hlk) (hts _ (lwg_in g2 rfl)) (hts _ (lwg_in g3 rfl)) (hts _ (lwg_in g1 rfl)) (by omega) (by rw [cat_map]; have h8 : (r.map Value.category).sum ≤ 8 := cat_le _ hq3; omega) (by omega) (by omega) (hd hq1) (hk H locs als hP hS hl)
  · exact SND.no
theorem sd_ivs {ix : Nat} {q : Prop} {sp : Nat → Sp} (C : Cx p R s m args meth c P y n0 s0 en) (hsp : ∀ z, SpecOK z (sp z)) (hd : q → decode (mtC y) pc = .ok (.invokestatic ix, 3)) : SND p l e R s m args below meth c Q P y n0 s0 pc ls st S (i_ivs y ix sp en q (pc + 3) ls st S) := by
  unfold i_ivs
  split
  · rename_i z hml0
    split
    · rename_i h
      subst h
      exact sd_cpy C hml0 (fun hq => ⟨hd hq.1, hq.2⟩)
    · split
      · rename_i h
        subst h
        exact sd_mmx C hml0 hd
      · split
        · rename_i h
          subst h
          exact sd_mmn C hml0 hd
        · exact sd_cals C hsp hml0 (fun hq => ⟨hd hq.1, hq.2⟩)
  · exact SND.no
theorem sd_ivp {ix : Nat} {q : Prop} {sp : Nat → Sp} (C : Cx p R s m args meth c P y n0 s0 en) (hsp : ∀ z, SpecOK z (sp z)) (hd : q → decode (mtC y) pc = .ok (.invokespecial ix, 3)) : SND p l e R s m args below meth c Q P y n0 s0 pc ls st S (i_ivp y ix sp en q (pc + 3) ls st S) := by
  unfold i_ivp
  split
  · rename_i z hml0
    split
    · rename_i h
      subst h
      split
      · rename_i a r
        refine SND.same fun hq hk H locs als hP hS hl => ?_
        obtain ⟨hq0, hr, hq2⟩ := hq
        subst hr
        rcases ML_spec hml0 with hlk | hlk
        · exact absurd hlk.1 (by decide)
        · rw [if_neg (by decide), if_pos rfl] at hlk
          obtain ⟨hx, hb, hml, hown, hts, hK, hSt, hname, hf, hlo, hz, hrc, hrs⟩ := C
          exact W.objInit hx hb hown (hts _ hlk) (hts _ obi_ok.1) (hts _ obi_ok.2) rfl (by rw [hml]; exact hl.2.1) rfl (hd hq0) (by omega) (by show 2 * 0 + 0 + 12 ≤ R.locals; omega) (hk H locs als hP hS hl)
      · exact SND.no
    · exact sd_calp C hsp hml0 hd
  · exact SND.no
theorem sd_ins {sp : Nat → Sp} {i : Instr} {len : Nat} (C : Cx p R s m args meth c P y n0 s0 en) (hsp : ∀ z, SpecOK z (sp z)) (hd : decode (mtC y) pc = .ok (i, len)) : SND p l e R s m args below meth c Q P y n0 s0 pc ls st S (ins y sp en i len pc ls st S) := by
  cases i with
  | iconst n => exact sd_psh rfl (fun hq k => lv_iconst C.1 C.2.1 (hq ▸ hd) rfl k)
  | bipush n => exact sd_psh rfl (fun hq k => lv_bipush C.1 C.2.1 (hq ▸ hd) rfl k)
  | sipush n => exact sd_psh rfl (fun hq k => lv_sipush C.1 C.2.1 (hq ▸ hd) rfl k)
  | ldc ix => exact sd_ldc C (fun hq hc k => lv_ldc C.1 C.2.1 C.2.2.2.1 hc (hq ▸ hd) k)
  | ldc_w ix => exact sd_ldc C (fun hq hc k => lv_ldcw C.1 C.2.1 C.2.2.2.1 hc (hq ▸ hd) k)
  | aconst_null => exact sd_psh rfl (fun hq k => lv_null C.1 C.2.1 (hq ▸ hd) k)
  | dconst n => exact sd_psh rfl (fun hq k => by obtain ⟨h1, h2⟩ := hq; subst h1; subst h2; exact lv_dconst0 C.1 C.2.1 hd k)
  | iload_n k => exact sd_ild (fun x hq h kk => lv_iload_n C.1 C.2.1 (hq ▸ hd) rfl h kk)
  | iload k => exact sd_ild (fun x hq h kk => lv_iload C.1 C.2.1 (hq ▸ hd) h kk)
  | aload_n k => exact sd_ald (fun x hq h kk => lv_aload_n C.1 C.2.1 (hq ▸ hd) rfl h kk)
  | dload k => exact sd_dld (fun x hq h kk => lv_dload C.1 C.2.1 (hq ▸ hd) h kk)
  | istore_n k => exact sd_ist (fun x lv hq hv hk kk => lv_istore_n C.1 C.2.1 (hq ▸ hd) rfl hv hk rfl kk)
  | istore k => exact sd_ist (fun x lv hq hv hk kk => lv_istore C.1 C.2.1 (hq ▸ hd) hv hk rfl kk)
  | astore_n k => exact sd_ast (fun x lv hq hv hk kk => lv_astore_n C.1 C.2.1 (hq ▸ hd) rfl hv hk rfl kk)
  | dstore k => exact sd_dst (fun x lv hq hv hk kk => lv_dstore C.1 C.2.1 (hq ▸ hd) hv hk rfl kk)
  | iinc k n => exact sd_inc (fun x lv i hq hv hi hk kk => lv_iinc C.1 C.2.1 (hq ▸ hd) hv hi rfl hk rfl kk)
  | iadd => exact sd_bin (fun _ _ => rfl) (fun a b hp hq k => lv_iadd C.1 C.2.1 (hq ▸ hd) k)
  | isub => exact sd_bin (fun _ _ => rfl) (fun a b hp hq k => lv_isub C.1 C.2.1 (hq ▸ hd) k)
  | imul => exact sd_bin (fun _ _ => rfl) (fun a b hp hq k => lv_imul C.1 C.2.1 (hq ▸ hd) k)
  | iand => exact sd_bin (fun _ _ => rfl) (fun a b hp hq k => lv_iand C.1 C.2.1 (hq ▸ hd) k)
  | ior => exact sd_bin (fun _ _ => rfl) (fun a b hp hq k => lv_ior C.1 C.2.1 (hq ▸ hd) k)
  | ixor => exact sd_bin (fun _ _ => rfl) (fun a b hp hq k => lv_ixor C.1 C.2.1 (hq ▸ hd) k)
  | ishl => exact sd_bin (fun _ _ => rfl) (fun a b hp hq k => lv_ishl C.1 C.2.1 (hq ▸ hd) k)
  | ishr => exact sd_bin (fun _ _ => rfl) (fun a b hp hq k => lv_ishr C.1 C.2.1 (hq ▸ hd) k)
  | iushr => exact sd_bin (fun _ _ => rfl) (fun a b hp hq k => lv_iushr C.1 C.2.1 (hq ▸ hd) rfl k)
  | idiv => exact sd_bin (fun _ _ => rfl) (fun a b hp hq k => lv_idiv C.1 C.2.1 (hq ▸ hd) hp k)
  | irem => exact sd_bin (fun _ _ => rfl) (fun a b hp hq k => lv_irem C.1 C.2.1 (hq ▸ hd) hp k)
  | ineg => exact sd_un (fun _ => rfl) (fun a hq k => lv_ineg C.1 C.2.1 (hq ▸ hd) k)
  | i2c => exact sd_un (fun _ => rfl) (fun a hq k => lv_i2c C.1 C.2.1 (hq ▸ hd) rfl k)
  | i2d => exact sd_un (fun _ => rfl) (fun a hq k => lv_i2d C.1 C.2.1 (hq ▸ hd) k)
  | ddiv => exact sd_ddv C (fun hq => hq ▸ hd)
  | dcmp op => exact sd_dcm C (fun hq => hq ▸ hd)
  | dup => exact sd_dup C (fun hq => hq ▸ hd)
  | dup2 => exact sd_dup2 C (fun hq => hq ▸ hd)
  | pop => exact sd_pop C (fun hq => hq ▸ hd)
  | ifCond cd off =>
    cases cd with
    | eq => exact sd_if1 (fun a hq ht kt kf => lv_if_eq C.1 C.2.1 (hq ▸ hd) ht (fun h => kt ((cnd_eq _ _).mpr h)) (fun h => kf (fun z => h ((cnd_eq _ _).mp z))))
    | ne => exact sd_if1 (fun a hq ht kt kf => lv_if_ne C.1 C.2.1 (hq ▸ hd) ht (fun h => kt ((cnd_ne _ _).mpr h)) (fun h => kf (fun z => (cnd_ne _ _).mp z h)))
    | lt => exact sd_if1 (fun a hq ht kt kf => lv_if_lt C.1 C.2.1 (hq ▸ hd) ht (fun h => kt ((cnd_lt _ _).mpr h)) (fun h => kf (fun z => h ((cnd_lt _ _).mp z))))
    | ge => exact sd_if1 (fun a hq ht kt kf => lv_if_ge C.1 C.2.1 (hq ▸ hd) ht (fun h => kt ((cnd_ge _ _).mpr h)) (fun h => kf (fun z => h ((cnd_ge _ _).mp z))))
    | gt => exact sd_if1 (fun a hq ht kt kf => lv_if_gt C.1 C.2.1 (hq ▸ hd) ht (fun h => kt ((cnd_gt _ _).mpr h)) (fun h => kf (fun z => h ((cnd_gt _ _).mp z))))
    | le => exact sd_if1 (fun a hq ht kt kf => lv_if_le C.1 C.2.1 (hq ▸ hd) ht (fun h => kt ((cnd_le _ _).mpr h)) (fun h => kf (fun z => h ((cnd_le _ _).mp z))))
  | if_icmp cd off =>
    cases cd with
    | eq => exact sd_if2 (fun a b hq ht kt kf => lv_icmp_eq C.1 C.2.1 (hq ▸ hd) ht (fun h => kt ((cnd_eq _ _).mpr h)) (fun h => kf (fun z => h ((cnd_eq _ _).mp z))))
    | ne => exact sd_if2 (fun a b hq ht kt kf => lv_icmp_ne C.1 C.2.1 (hq ▸ hd) ht (fun h => kt ((cnd_ne _ _).mpr h)) (fun h => kf (fun z => (cnd_ne _ _).mp z h)))
    | lt => exact sd_if2 (fun a b hq ht kt kf => lv_icmp_lt C.1 C.2.1 (hq ▸ hd) ht (fun h => kt ((cnd_lt _ _).mpr h)) (fun h => kf (fun z => h ((cnd_lt _ _).mp z))))
    | ge => exact sd_if2 (fun a b hq ht kt kf => lv_icmp_ge C.1 C.2.1 (hq ▸ hd) ht (fun h => kt ((cnd_ge _ _).mpr h)) (fun h => kf (fun z => h ((cnd_ge _ _).mp z))))
    | gt => exact sd_if2 (fun a b hq ht kt kf => lv_icmp_gt C.1 C.2.1 (hq ▸ hd) ht (fun h => kt ((cnd_gt _ _).mpr h)) (fun h => kf (fun z => h ((cnd_gt _ _).mp z))))
    | le => exact sd_if2 (fun a b hq ht kt kf => lv_icmp_le C.1 C.2.1 (hq ▸ hd) ht (fun h => kt ((cnd_le _ _).mpr h)) (fun h => kf (fun z => h ((cnd_le _ _).mp z))))
  | ifnull off => exact sd_nul C (fun hq => hq ▸ hd)
  | ifnonnull off => exact sd_nnl C (fun hq => hq ▸ hd)
  | goto off => exact SND.same fun hq hk H locs als hP hS hl => lv_goto C.1 C.2.1 (hq.1 ▸ hd) (tg_eq hq.2) (hk H locs als hP hS hl)
  | tableswitch d lo hi offs => exact sd_tsw C hd
  | lookupswitch d ps => exact sd_lsw C hd
  | getfield ix => exact sd_get C (fun hq => hq ▸ hd)
  | putfield ix => exact sd_put C (fun hq => hq ▸ hd)
  | getstatic ix => exact sd_gst C (fun hq => hq ▸ hd)
  | arraylength => exact sd_len C (fun hq => hq ▸ hd)
  | iaload => exact sd_iald C (fun hq => hq ▸ hd)
  | caload => exact sd_cald C (fun hq => hq ▸ hd)
  | aaload => exact sd_aqd C (fun hq => hq ▸ hd)
  | iastore => exact sd_iast C (fun hq => hq ▸ hd)
  | castore => exact sd_cast C (fun hq => hq ▸ hd)
  | aastore => exact sd_aast C (fun hq => hq ▸ hd)
  | new ix => exact sd_new C (fun hq => hq ▸ hd)
  | newarray t => exact sd_nar C (fun hq => hq ▸ hd)
  | anewarray ix => exact sd_naq C (fun hq => hq ▸ hd)
  | invokevirtual ix => exact sd_inv C hsp (fun hq => hq ▸ hd)
  | invokestatic ix => exact sd_ivs C hsp (fun hq => hq ▸ hd)
  | invokespecial ix => exact sd_ivp C hsp (fun hq => hq ▸ hd)
  | ireturn => exact sd_ret (fun hq => hq ▸ hd)
  | dreturn => exact sd_drt (fun hq => hq ▸ hd)
  | areturn => exact sd_art (fun hq => hq ▸ hd)
  | return_ => exact sd_vrt (fun hq => hq ▸ hd)
  | _ => exact SND.no
theorem run_sound {sp : Nat → Sp} {RQ : Option Value → MS → Prop} (C : Cx p R s m args meth c P y n0 s0 en) (hsp : ∀ z, SpecOK z (sp z)) (hret : ∀ r S', RQ r S' → RW p l e R s m args below meth c Q P y n0 s0 r S') : ∀ (n pc : Nat) (ls st : List Value) (S : MS), n0 ≤ S.1 → s0 ≤ S.2.1 → run y sp en n pc ls st S RQ → Vw p l e R s m args below meth c Q P y n0 s0 pc ls st S := by
  intro n
  induction n with
  | zero => intro pc ls st S _ _ h; exact absurd h (by simp [run])
  | succ n ih =>
    intro pc ls st S hn hs h
    simp only [run] at h
    obtain ⟨h1, h2⟩ := h
    have hsnd : SND p l e R s m args below meth c Q P y n0 s0 pc ls st S (stp y sp en pc ls st S) := by
      unfold stp
      split
      · rename_i i len hd
        exact sd_ins C hsp hd
      · exact SND.no
    have h3 := hsnd h1 hn hs
    cases hc : (stp y sp en pc ls st S).2 with
    | inl k =>
      rw [hc] at h2 h3
      exact h3.2.2 (ih _ _ _ _ h3.1 h3.2.1 h2)
    | inr r =>
      rw [hc] at h2 h3
      exact h3 (hret _ _ h2)
end WHOLE
end
section
/-! a method's contract out of its run in the small machine -/
theorem lv_args_mem (P : PR) : ∀ (av : List Value) (i k : Nat) (v : Value), (∀ w ∈ av, w.category = 1) → av[k]? = some v → (i + k, tr P v) ∈ lv_args i (av.map (tr P))
  | [], i, k, v, _, h => by simp at h
  | w :: av, i, k, v, hc, h => by
    have hw : (tr P w).category = 1 := (tr_cat P w).trans (hc w List.mem_cons_self)
    rw [List.map_cons]
    unfold lv_args
    rw [if_neg (by omega)]
    cases k with
    | zero =>
      simp only [List.getElem?_cons_zero, Option.some.injEq] at h
      subst h
      exact List.mem_cons_self
    | succ k =>
      rw [List.getElem?_cons_succ] at h
      have h2 := lv_args_mem P av (i + 1) k v (fun z hz => hc z (List.mem_cons_of_mem _ hz)) h
      rw [show i + 1 + k = i + (k + 1) by omega] at h2
      exact List.mem_cons_of_mem _ h2
theorem lg_sl_len (P : PR) : ∀ (av : List Value), (∀ w ∈ av, w.category = 1) → (lg_sl (av.map (tr P))).length = av.length
  | [], _ => rfl
  | w :: av, hc => by
    have hw : (tr P w).category = 1 := (tr_cat P w).trans (hc w List.mem_cons_self)
    rw [List.map_cons]
    have ih := lg_sl_len P av (fun z hz => hc z (List.mem_cons_of_mem _ hz))
    have e : lg_sl (tr P w :: av.map (tr P)) = [Slot.val (tr P w)] ++ lg_sl (av.map (tr P)) := by
      unfold lg_sl
      rw [List.flatMap_cons, if_neg (by omega)]
    rw [e, List.length_append, ih]
    simp only [List.length_cons, List.length_nil]
    omega
theorem lvr_entry (P : PR) {av : List Value} {n : Nat} (hc : ∀ w ∈ av, w.category = 1) (hn : av.length ≤ n) : lvr P ((lg_sl (av.map (tr P)) ++ List.replicate (n - (lg_sl (av.map (tr P))).length) Slot.unset).toArray) n (av ++ List.replicate (n - av.length) .null) := by
  have h := lv_entry (av.map (tr P)) (n := n) (by rw [lg_sl_len P av hc]; exact hn)
  obtain ⟨h1, h2, h3⟩ := h
  refine ⟨by simp; omega, h1, h2, fun k v hk hv => ?_⟩
  by_cases hl : k < av.length
  · rw [List.getElem?_append_left hl] at hk
    have := h3 _ (lv_args_mem P av 0 k v hc hk)
    simpa using this
  · rw [List.getElem?_append_right (by omega)] at hk
    have := List.mem_of_getElem? hk
    exact absurd (List.eq_of_mem_replicate this) hv
def spBad : Sp := fun _ _ => (False, none, svNil)
theorem SpecOK.no (y : Nat) : SpecOK y spBad := fun _ _ _ _ _ h => absurd h id
/-- what a method's run must show -/
def Does (y : Nat) (sp : Nat → Sp) (f : Sp) : Prop := ∀ (sc : Nat × (Nat → Int32)) (av : List Value) (S : MS), (f av S).1 → av.length ≤ mtL y ∧ (∀ w ∈ av, w.category = 1) ∧ S.1 ≤ (f av S).2.2.1 ∧ S.2.1 ≤ (f av S).2.2.2.1 ∧ Vf y sp (((f av S).2.2.1, (f av S).2.2.2.1), sc) 0 (av ++ List.replicate (mtL y - av.length) .null) [] S (fun r S' => r = (f av S).2.1 ∧ S' = (f av S).2.2)
theorem SpecOK.of {y : Nat} {f : Sp} {sp : Nat → Sp} (hy : y < 173) (hy2 : 2 ≤ y) (hsp : ∀ z, SpecOK z (sp z)) (h : Does y sp f) : SpecOK y f := by
  intro l P sc av S hp
  obtain ⟨h1, h2, h3, h4, n, h5⟩ := h sc av S hp
  obtain ⟨m1, m2, m3, m4, m5, m6, m7, m8⟩ := mok_all y hy hy2
  refine Met.ofW (cc := mtC y) (maxL := mtL y) (ret := mtR y) m8 rfl ?_
  intro p e s m args below meth c s₁ B hml hv
  obtain ⟨rfl, hsz, hP, hK, hSt⟩ := hv
  have hts := atoms_spec (ws := wsm y) B.pre
  have hown : s.vm.findClass (mtN y).cls = some m.cls := findClass_of_methodNamed B.named
  rw [m5] at hown
  have hlocks := B.notSynchronized
  have hr := B.returns
  have C : Cx p (headSpec (wsm y) (rmm y ((f av S).2.2.1 - S.1) ((f av S).2.2.2.1 - S.2.1))).room s m (av.map (tr P)).toArray meth c P y S.1 S.2.1 (((f av S).2.2.1, (f av S).2.2.2.1), sc) := ⟨B.exec, B.bytes, hml, hown, fun w hw => hts w (List.mem_cons_of_mem _ hw), hK, hSt, (name_of_methodNamed B.named B.method).1, Nat.le_refl _, Nat.le_refl _, hsz, by show (f av S).2.2.1 ≤ S.1 + ((f av S).2.2.1 - S.1); omega, by show (f av S).2.2.2.1 ≤ S.2.1 + ((f av S).2.2.2.1 - S.2.1); omega⟩
  have hrun := run_sound (Q := MQ below (QcM P (f av S).2.1 (f av S).2.2) (av.map (tr P)).toArray s ((f av S).2.2.1 - S.1) ((f av S).2.2.2.1 - S.2.1) (AP P)) (l := l) (e := e) (below := below) C hsp ?_ n 0 _ [] S (Nat.le_refl _) (Nat.le_refl _) h5
  · have hl := lvr_entry P (n := mtL y) h2 h1
    have h9 := hrun s.heap [] _ hP va_S.rf hl
    rw [Nat.sub_self, Nat.sub_self] at h9
    rw [lg_entry_eq]
    exact h9
  · intro r S' ⟨hr1, hr2⟩ pc i H locs als hd hRI hP1 hS1
    subst hr1
    subst hr2
    revert hRI
    generalize hg : (f av S).2.1 = r
    have hx := B.exec
    have hb := B.bytes
    intro hRI
    unfold RI at hRI
    split at hRI
    · obtain ⟨rfl, hrt⟩ := hRI
      rw [hrt] at hr
      exact W.vret hx hb hr (fun t ht hW => ⟨rfl, by rw [ht]; exact hP1, hS1.F ht⟩) hS1.2.2 hd
    · obtain ⟨rfl, ty, hrt, hn⟩ := hRI
      rw [hrt] at hr
      exact W.zret hx hb hr hn (fun t ht hW => ⟨rfl, by rw [ht]; exact hP1, hS1.F ht⟩) hS1.2.2 hd
    · obtain ⟨rfl, hrt⟩ := hRI
      rw [hrt] at hr
      exact W.dret hx hb hr (fun t ht hW => ⟨rfl, by rw [ht]; exact hP1, hS1.F ht⟩) hS1.2.2 hd
    · obtain ⟨rfl, n, hrt⟩ := hRI
      rw [hrt] at hr
      exact W.aret hx hb hr (Or.inl ⟨_, rfl⟩) (Or.inr ⟨_, rfl⟩) (fun t ht hW => ⟨rfl, by rw [ht]; exact hP1, hS1.F ht⟩) hS1.2.2 hd
    · obtain ⟨rfl, n, hrt⟩ := hRI
      rw [hrt] at hr
      exact W.aret hx hb hr (Or.inl ⟨_, rfl⟩) (Or.inl rfl) (fun t ht hW => ⟨rfl, by rw [ht]; exact hP1, hS1.F ht⟩) hS1.2.2 hd
    · exact absurd hRI id
end
section
/-! one instruction in the small machine, as an equation of what is to be shown -/
section OPS
variable {y : Nat} {sp : Nat → Sp} {e : En} {pc : Nat} {ls st : List Value} {S : MS} {Q : Option Value → MS → Prop}
theorem o_nx {p : Prop} {pc1 : Nat} {ls1 st1 : List Value} {S1 : MS} {i : Instr} {len : Nat} (hd : decode (mtC y) pc = .ok (i, len)) (h : ins y sp e i len pc ls st S = nx p pc1 ls1 st1 S1) : Vf y sp e pc ls st S Q = (p ∧ Vf y sp e pc1 ls1 st1 S1 Q) := Vf.nx ((stp_of hd).trans h)
theorem o_t {p A B : Prop} (hp : p) (h : A = (p ∧ B)) : A = B := by rw [h]; exact propext ⟨fun x => x.2, fun x => ⟨hp, x⟩⟩
theorem o_iconst {n : Int} {v : Int32} (hd : decode (mtC y) pc = .ok (.iconst n, 1)) (hv : Int32.ofInt n = v) : Vf y sp e pc ls st S Q = Vf y sp e (pc + 1) ls (.int v :: st) S Q := by
  subst hv
  exact o_t rfl (o_nx hd rfl)
theorem o_bipush {n : Int} {v : Int32} (hd : decode (mtC y) pc = .ok (.bipush n, 2)) (hv : (Int8.ofInt n).toInt32 = v) : Vf y sp e pc ls st S Q = Vf y sp e (pc + 2) ls (.int v :: st) S Q := by
  subst hv
  exact o_t rfl (o_nx hd rfl)
theorem o_sipush {n : Int} {v : Int32} (hd : decode (mtC y) pc = .ok (.sipush n, 3)) (hv : (Int16.ofInt n).toInt32 = v) : Vf y sp e pc ls st S Q = Vf y sp e (pc + 3) ls (.int v :: st) S Q := by
  subst hv
  exact o_t rfl (o_nx hd rfl)
theorem o_ldc {ix : Nat} {v : Int32} (hd : decode (mtC y) pc = .ok (.ldc ix, 2)) (hv : CL (mtO y) ix = some v) : Vf y sp e pc ls st S Q = Vf y sp e (pc + 2) ls (.int v :: st) S Q := by
  refine o_t (p := (2 = 2)) rfl (o_nx hd ?_)
  show i_ldc y ix _ _ ls st S = _
  unfold i_ldc
  rw [hv]
theorem o_ldcw {ix : Nat} {v : Int32} (hd : decode (mtC y) pc = .ok (.ldc_w ix, 3)) (hv : CL (mtO y) ix = some v) : Vf y sp e pc ls st S Q = Vf y sp e (pc + 3) ls (.int v :: st) S Q := by
  refine o_t (p := (3 = 3)) rfl (o_nx hd ?_)
  show i_ldc y ix _ _ ls st S = _
  unfold i_ldc
  rw [hv]
theorem o_null (hd : decode (mtC y) pc = .ok (.aconst_null, 1)) : Vf y sp e pc ls st S Q = Vf y sp e (pc + 1) ls (.null :: st) S Q := o_t rfl (o_nx hd rfl)
theorem o_dconst (hd : decode (mtC y) pc = .ok (.dconst 0, 1)) : Vf y sp e pc ls st S Q = Vf y sp e (pc + 1) ls (.double FP.dconst0 :: st) S Q := o_t ⟨rfl, rfl⟩ (o_nx hd rfl)
theorem o_iloadn {k : Fin 4} {x : Int32} (hd : decode (mtC y) pc = .ok (.iload_n k, 1)) (h : lget ls k.val = .int x) : Vf y sp e pc ls st S Q = Vf y sp e (pc + 1) ls (.int x :: st) S Q := by
  refine o_t (p := (1 = 1)) rfl (o_nx hd ?_)
  show i_ild _ _ _ ls st S = _
  unfold i_ild
  rw [h]
theorem o_iload {k : Nat} {x : Int32} (hd : decode (mtC y) pc = .ok (.iload k, 2)) (h : lget ls k = .int x) : Vf y sp e pc ls st S Q = Vf y sp e (pc + 2) ls (.int x :: st) S Q := by
  refine o_t (p := (2 = 2)) rfl (o_nx hd ?_)
  show i_ild _ _ _ ls st S = _
  unfold i_ild
  rw [h]
theorem o_aloadn {k : Fin 4} {x : Nat} (hd : decode (mtC y) pc = .ok (.aload_n k, 1)) (h : lget ls k.val = .ref x) : Vf y sp e pc ls st S Q = Vf y sp e (pc + 1) ls (.ref x :: st) S Q := by
  refine o_t (p := (1 = 1)) rfl (o_nx hd ?_)
  show i_ald _ _ _ ls st S = _
  unfold i_ald
  rw [h]
theorem o_dload {k : Nat} {x : UInt64} (hd : decode (mtC y) pc = .ok (.dload k, 2)) (h : lget ls k = .double x) : Vf y sp e pc ls st S Q = Vf y sp e (pc + 2) ls (.double x :: st) S Q := by
  refine o_t (p := (2 = 2)) rfl (o_nx hd ?_)
  show i_dld _ _ _ ls st S = _
  unfold i_dld
  rw [h]
theorem stok0 {a : Value} {l : List Value} : stok (a :: l) 0 := ⟨by simp, fun j h => by omega⟩
theorem stokS {k : Nat} {w : Value} (h : k + 1 < ls.length) (hg : lget ls k = w) (hc : ct1 w) : stok ls (k + 1) := ⟨h, fun j hj => by
  have : j = k := by omega
  rw [this, hg]
  exact hc⟩
theorem stok_iff {k : Nat} {w : Value} (h : k + 1 < ls.length) (hg : lget ls k = w) : stok ls (k + 1) = ct1 w := propext ⟨fun q => by have := q.2 k rfl; rw [hg] at this; exact this, fun q => stokS h hg q⟩
theorem o_istoren {k : Fin 4} {x : Int32} {ls' : List Value} {p : Prop} (hd : decode (mtC y) pc = .ok (.istore_n k, 1)) (hl : lset ls k.val (.int x) = ls') (hp : stok ls k.val = p) : Vf y sp e pc ls (.int x :: st) S Q = (p ∧ Vf y sp e (pc + 1) ls' st S Q) := by
  subst hl; subst hp
  rw [o_nx hd (pc1 := pc + 1) (ls1 := lset ls k.val (.int x)) (st1 := st) (S1 := S) (p := (1 = 1 ∧ stok ls k.val)) rfl]
  simp
theorem o_istore {k : Nat} {x : Int32} {ls' : List Value} {p : Prop} (hd : decode (mtC y) pc = .ok (.istore k, 2)) (hl : lset ls k (.int x) = ls') (hp : stok ls k = p) : Vf y sp e pc ls (.int x :: st) S Q = (p ∧ Vf y sp e (pc + 2) ls' st S Q) := by
  subst hl; subst hp
  rw [o_nx hd (pc1 := pc + 2) (ls1 := lset ls k (.int x)) (st1 := st) (S1 := S) (p := (2 = 2 ∧ stok ls k)) rfl]
  simp
theorem o_astoren {k : Fin 4} {x : Nat} {ls' : List Value} {p : Prop} (hd : decode (mtC y) pc = .ok (.astore_n k, 1)) (hl : lset ls k.val (.ref x) = ls') (hp : stok ls k.val = p) : Vf y sp e pc ls (.ref x :: st) S Q = (p ∧ Vf y sp e (pc + 1) ls' st S Q) := by
  subst hl; subst hp
  rw [o_nx hd (pc1 := pc + 1) (ls1 := lset ls k.val (.ref x)) (st1 := st) (S1 := S) (p := (1 = 1 ∧ stok ls k.val)) rfl]
  simp
theorem o_dstore {k : Nat} {x : UInt64} {ls' : List Value} {p : Prop} (hd : decode (mtC y) pc = .ok (.dstore k, 2)) (hl : lset (lset ls k (.double x)) (k + 1) .null = ls') (hp : stok ls k = p) (hk : k + 1 < ls.length) : Vf y sp e pc ls (.double x :: st) S Q = (p ∧ Vf y sp e (pc + 2) ls' st S Q) := by
  subst hl; subst hp
  rw [o_nx hd (pc1 := pc + 2) (ls1 := lset (lset ls k (.double x)) (k + 1) .null) (st1 := st) (S1 := S) (p := (2 = 2 ∧ stok ls k ∧ k + 1 < ls.length)) rfl]
  simp [hk]
theorem o_iinc {k : Nat} {n : Int} {x v : Int32} {ls' : List Value} {p : Prop} (hd : decode (mtC y) pc = .ok (.iinc k n, 3)) (h : lget ls k = .int x) (hv : Int32.ofInt n = v) (hl : lset ls k (.int (x + v)) = ls') (hp : stok ls k = p) : Vf y sp e pc ls st S Q = (p ∧ Vf y sp e (pc + 3) ls' st S Q) := by
  subst hl; subst hp; subst hv
  have e1 : ins y sp e (.iinc k n) 3 pc ls st S = nx (3 = 3 ∧ stok ls k) (pc + 3) (lset ls k (.int (x + Int32.ofInt n))) st S := by
    show i_inc _ _ _ _ ls st S = _
    unfold i_inc
    rw [h]
  rw [o_nx hd e1]
  simp
theorem o_bin {f : Int32 → Int32 → Value} {a b : Int32} {i : Instr} (hd : decode (mtC y) pc = .ok (i, 1)) (h : ins y sp e i 1 pc ls (.int b :: .int a :: st) S = i_bin f (fun _ _ => True) (1 = 1) (pc + 1) ls (.int b :: .int a :: st) S) : Vf y sp e pc ls (.int b :: .int a :: st) S Q = Vf y sp e (pc + 1) ls (f a b :: st) S Q := o_t ⟨rfl, trivial⟩ (o_nx hd h)
theorem o_idiv {a b : Int32} (hd : decode (mtC y) pc = .ok (.idiv, 1)) : Vf y sp e pc ls (.int b :: .int a :: st) S Q = (¬ b = 0 ∧ Vf y sp e (pc + 1) ls (.int (a / b) :: st) S Q) := by
  rw [o_nx hd (pc1 := pc + 1) (ls1 := ls) (st1 := .int (a / b) :: st) (S1 := S) (p := (1 = 1 ∧ ¬ b = 0)) rfl]
  simp
theorem o_irem {a b : Int32} (hd : decode (mtC y) pc = .ok (.irem, 1)) : Vf y sp e pc ls (.int b :: .int a :: st) S Q = (¬ b = 0 ∧ Vf y sp e (pc + 1) ls (.int (a - a / b * b) :: st) S Q) := by
  rw [o_nx hd (pc1 := pc + 1) (ls1 := ls) (st1 := .int (a - a / b * b) :: st) (S1 := S) (p := (1 = 1 ∧ ¬ b = 0)) rfl]
  simp
theorem o_un {f : Int32 → Value} {a : Int32} {i : Instr} (hd : decode (mtC y) pc = .ok (i, 1)) (h : ins y sp e i 1 pc ls (.int a :: st) S = i_un f (1 = 1) (pc + 1) ls (.int a :: st) S) : Vf y sp e pc ls (.int a :: st) S Q = Vf y sp e (pc + 1) ls (f a :: st) S Q := o_t rfl (o_nx hd h)
theorem o_ddiv {a b : UInt64} (hd : decode (mtC y) pc = .ok (.ddiv, 1)) : Vf y sp e pc ls (.double b :: .double a :: st) S Q = (vf_n64 (FP.ddiv a b) ∧ Vf y sp e (pc + 1) ls (.double (FP.ddiv a b) :: st) S Q) := by
  rw [o_nx hd (pc1 := pc + 1) (ls1 := ls) (st1 := .double (FP.ddiv a b) :: st) (S1 := S) (p := (1 = 1 ∧ vf_n64 (FP.ddiv a b))) rfl]
  simp
theorem o_dcmp {a b : UInt64} {op : CmpOp} (hd : decode (mtC y) pc = .ok (.dcmp op, 1)) : Vf y sp e pc ls (.double b :: .double a :: st) S Q = Vf y sp e (pc + 1) ls (.int (Op.cmpValue (FP.dcmp a b) op) :: st) S Q := o_t rfl (o_nx hd rfl)
theorem o_dup {v : Value} (hd : decode (mtC y) pc = .ok (.dup, 1)) : Vf y sp e pc ls (v :: st) S Q = (ct1 v ∧ Vf y sp e (pc + 1) ls (v :: v :: st) S Q) := by
  rw [o_nx hd (pc1 := pc + 1) (ls1 := ls) (st1 := v :: v :: st) (S1 := S) (p := (1 = 1 ∧ ct1 v)) rfl]
  simp
theorem o_dup2 {v w : Value} (hd : decode (mtC y) pc = .ok (.dup2, 1)) : Vf y sp e pc ls (v :: w :: st) S Q = ((ct1 v ∧ ct1 w) ∧ Vf y sp e (pc + 1) ls (v :: w :: v :: w :: st) S Q) := by
  rw [o_nx hd (pc1 := pc + 1) (ls1 := ls) (st1 := v :: w :: v :: w :: st) (S1 := S) (p := (1 = 1 ∧ ct1 v ∧ ct1 w)) rfl]
  simp
theorem o_pop {v : Value} (hd : decode (mtC y) pc = .ok (.pop, 1)) : Vf y sp e pc ls (v :: st) S Q = (ct1 v ∧ Vf y sp e (pc + 1) ls st S Q) := by
  rw [o_nx hd (pc1 := pc + 1) (ls1 := ls) (st1 := st) (S1 := S) (p := (1 = 1 ∧ ct1 v)) rfl]
  simp
theorem o_goto {off : Int} {t : Nat} (hd : decode (mtC y) pc = .ok (.goto off, 3)) (h0 : tgo pc off) (ht : tg pc off = t) : Vf y sp e pc ls st S Q = Vf y sp e t ls st S Q := by
  subst ht
  exact o_t ⟨rfl, h0⟩ (o_nx hd rfl)
theorem o_if1 {cd : Jvm.ClassFile.Cond} {off : Int} {t : Nat} {a : Int32} {p : Prop} [Decidable p] (hd : decode (mtC y) pc = .ok (.ifCond cd off, 3)) (h0 : tgo pc off) (ht : tg pc off = t) (hc : cnd cd a 0 = true ↔ p) : Vf y sp e pc ls (.int a :: st) S Q = if p then Vf y sp e t ls st S Q else Vf y sp e (pc + 3) ls st S Q := by
  subst ht
  rw [o_nx hd (pc1 := if cnd cd a 0 = true then tg pc off else pc + 3) (ls1 := ls) (st1 := st) (S1 := S) (p := (3 = 3 ∧ tgo pc off)) rfl]
  by_cases h : p
  · rw [if_pos h, if_pos (hc.mpr h)]; simp [h0]
  · rw [if_neg h, if_neg (fun q => h (hc.mp q))]; simp [h0]
theorem o_if2 {cd : Jvm.ClassFile.Cond} {off : Int} {t : Nat} {a b : Int32} {p : Prop} [Decidable p] (hd : decode (mtC y) pc = .ok (.if_icmp cd off, 3)) (h0 : tgo pc off) (ht : tg pc off = t) (hc : cnd cd a b = true ↔ p) : Vf y sp e pc ls (.int b :: .int a :: st) S Q = if p then Vf y sp e t ls st S Q else Vf y sp e (pc + 3) ls st S Q := by
  subst ht
  rw [o_nx hd (pc1 := if cnd cd a b = true then tg pc off else pc + 3) (ls1 := ls) (st1 := st) (S1 := S) (p := (3 = 3 ∧ tgo pc off)) rfl]
  by_cases h : p
  · rw [if_pos h, if_pos (hc.mpr h)]; simp [h0]
  · rw [if_neg h, if_neg (fun q => h (hc.mp q))]; simp [h0]
theorem o_ifnull {off : Int} {x : Nat} (hd : decode (mtC y) pc = .ok (.ifnull off, 3)) : Vf y sp e pc ls (.ref x :: st) S Q = Vf y sp e (pc + 3) ls st S Q := o_t rfl (o_nx hd rfl)
theorem o_ifnonnull {off : Int} {x t : Nat} (hd : decode (mtC y) pc = .ok (.ifnonnull off, 3)) (h0 : tgo pc off) (ht : tg pc off = t) : Vf y sp e pc ls (.ref x :: st) S Q = Vf y sp e t ls st S Q := by
  subst ht
  exact o_t ⟨rfl, h0⟩ (o_nx hd rfl)
theorem o_tsw {d lo hi : Int} {offs : Array Int} {len : Nat} {x : Int32} {t : Nat} (hd : decode (mtC y) pc = .ok (.tableswitch d lo hi offs, len)) (h0 : tgo pc (tsw pc x d lo hi offs)) (ht : tg pc (tsw pc x d lo hi offs) = t) (h1 : ¬ (x.toInt < lo ∨ hi < x.toInt) → (x.toInt - lo).toNat < offs.size) : Vf y sp e pc ls (.int x :: st) S Q = Vf y sp e t ls st S Q := by
  subst ht
  exact o_t ⟨h0, h1⟩ (o_nx hd rfl)
theorem o_lsw {d : Int} {ps : Array (Int × Int)} {len : Nat} {x : Int32} {t : Nat} (hd : decode (mtC y) pc = .ok (.lookupswitch d ps, len)) (h0 : tgo pc (Op.lookupswitch.offset ps.toList d x.toInt)) (ht : tg pc (Op.lookupswitch.offset ps.toList d x.toInt) = t) (h1 : (ps.toList.zip (ps.toList.drop 1)).all (fun (a, next) => a.1 < next.1) = true) : Vf y sp e pc ls (.int x :: st) S Q = Vf y sp e t ls st S Q := by
  subst ht
  exact o_t ⟨h0, h1⟩ (o_nx hd rfl)
theorem o_get {ix a c k : Nat} (hd : decode (mtC y) pc = .ok (.getfield ix, 3)) (hf : FL (mtO y) ix = some (c, k)) (hk : k < nf c) : Vf y sp e pc ls (.ref a :: st) S Q = (obj S a c ∧ Vf y sp e (pc + 3) ls (S.2.2.2 a k :: st) S Q) := by
  have e1 : ins y sp e (.getfield ix) 3 pc ls (.ref a :: st) S = nx (3 = 3 ∧ obj S a c ∧ k < nf c) (pc + 3) ls (S.2.2.2 a k :: st) S := by
    show i_get y ix _ _ ls _ S = _
    unfold i_get
    rw [hf]
  rw [o_nx hd e1]
  simp [hk]
theorem o_put {ix a c k : Nat} {v : Value} {ty : FieldType} (hd : decode (mtC y) pc = .ok (.putfield ix, 3)) (hf : FL (mtO y) ix = some (c, k)) (hk : k < nf c ∧ ((fT c k).2.2.2 = true → mtO y = c ∧ (mtN y).name = "<init>")) (ht : fty c k = ty) : Vf y sp e pc ls (v :: .ref a :: st) S Q = (obj S a c ∧ fok ty v ∧ Vf y sp e (pc + 3) ls st (svSet S a k v) Q) := by
  subst ht
  have e1 : ins y sp e (.putfield ix) 3 pc ls (v :: .ref a :: st) S = nx (3 = 3 ∧ obj S a c ∧ k < nf c ∧ ((fT c k).2.2.2 = true → mtO y = c ∧ (mtN y).name = "<init>") ∧ fok (fty c k) v) (pc + 3) ls st (svSet S a k v) := by
    show i_put y ix _ _ ls _ S = _
    unfold i_put
    rw [hf]
  rw [o_nx hd e1]
  apply propext
  constructor
  · rintro ⟨⟨-, h1, -, -, h2⟩, h3⟩
    exact ⟨h1, h2, h3⟩
  · rintro ⟨h1, h2, h3⟩
    exact ⟨⟨rfl, h1, hk.1, hk.2, h2⟩, h3⟩
theorem o_gst {ix t : Nat} (hd : decode (mtC y) pc = .ok (.getstatic ix, 3)) (hf : SL (mtO y) ix = some t) (hk : t < 3) : Vf y sp e pc ls st S Q = Vf y sp e (pc + 3) ls (.ref (1000 + t) :: st) S Q := by
  refine o_t (p := (3 = 3 ∧ t < 3)) ⟨rfl, hk⟩ (o_nx hd ?_)
  show i_gst y ix _ _ ls st S = _
  unfold i_gst
  rw [hf]
theorem o_len {a : Nat} (hd : decode (mtC y) pc = .ok (.arraylength, 1)) : Vf y sp e pc ls (.ref a :: st) S Q = ((aok S a 7 ∨ aok S a 6 ∨ aok S a 8) ∧ Vf y sp e (pc + 1) ls (.int (Int32.ofNat (aln e S a)) :: st) S Q) := by
  rw [o_nx hd (pc1 := pc + 1) (ls1 := ls) (st1 := .int (Int32.ofNat (aln e S a)) :: st) (S1 := S) (p := (1 = 1 ∧ (aok S a 7 ∨ aok S a 6 ∨ aok S a 8))) rfl]
  simp
theorem o_iald {a : Nat} {i : Int32} (hd : decode (mtC y) pc = .ok (.iaload, 1)) : Vf y sp e pc ls (.int i :: .ref a :: st) S Q = ((aok S a 7 ∧ iin i (aln e S a)) ∧ Vf y sp e (pc + 1) ls (.int (ard e S a i.toNatClampNeg) :: st) S Q) := by
  rw [o_nx hd (pc1 := pc + 1) (ls1 := ls) (st1 := .int (ard e S a i.toNatClampNeg) :: st) (S1 := S) (p := (1 = 1 ∧ aok S a 7 ∧ iin i (aln e S a))) rfl]
  simp
theorem o_cald {a : Nat} {i : Int32} (hd : decode (mtC y) pc = .ok (.caload, 1)) : Vf y sp e pc ls (.int i :: .ref a :: st) S Q = ((aok S a 6 ∧ iin i (aln e S a)) ∧ Vf y sp e (pc + 1) ls (.int (ard e S a i.toNatClampNeg) :: st) S Q) := by
  rw [o_nx hd (pc1 := pc + 1) (ls1 := ls) (st1 := .int (ard e S a i.toNatClampNeg) :: st) (S1 := S) (p := (1 = 1 ∧ aok S a 6 ∧ iin i (aln e S a))) rfl]
  simp
theorem o_aald {a : Nat} {i : Int32} (hd : decode (mtC y) pc = .ok (.aaload, 1)) : Vf y sp e pc ls (.int i :: .ref a :: st) S Q = ((ari S a 8 ∧ iin i (S.2.2.1 a).2 ∧ (∀ x, toR (S.2.2.2 a i.toNatClampNeg) = some x → x < 1000)) ∧ Vf y sp e (pc + 1) ls ((match toR (S.2.2.2 a i.toNatClampNeg) with
    | some x => .ref x
    | none => .null) :: st) S Q) := by
  rw [o_nx hd (pc1 := pc + 1) (ls1 := ls) (st1 := (match toR (S.2.2.2 a i.toNatClampNeg) with
    | some x => .ref x
    | none => .null) :: st) (S1 := S) (p := (1 = 1 ∧ ari S a 8 ∧ iin i (S.2.2.1 a).2 ∧ (∀ x, toR (S.2.2.2 a i.toNatClampNeg) = some x → x < 1000))) rfl]
  simp
theorem o_iast {a : Nat} {i x : Int32} (hd : decode (mtC y) pc = .ok (.iastore, 1)) : Vf y sp e pc ls (.int x :: .int i :: .ref a :: st) S Q = ((ari S a 7 ∧ iin i (S.2.2.1 a).2) ∧ Vf y sp e (pc + 1) ls st (svSet S a i.toNatClampNeg (.int x)) Q) := by
  rw [o_nx hd (pc1 := pc + 1) (ls1 := ls) (st1 := st) (S1 := svSet S a i.toNatClampNeg (.int x)) (p := (1 = 1 ∧ ari S a 7 ∧ iin i (S.2.2.1 a).2)) rfl]
  simp
theorem o_cast {a : Nat} {i x : Int32} (hd : decode (mtC y) pc = .ok (.castore, 1)) : Vf y sp e pc ls (.int x :: .int i :: .ref a :: st) S Q = ((ari S a 6 ∧ iin i (S.2.2.1 a).2) ∧ Vf y sp e (pc + 1) ls st (svSet S a i.toNatClampNeg (.int (vp_nar .char x))) Q) := by
  rw [o_nx hd (pc1 := pc + 1) (ls1 := ls) (st1 := st) (S1 := svSet S a i.toNatClampNeg (.int (vp_nar .char x))) (p := (1 = 1 ∧ ari S a 6 ∧ iin i (S.2.2.1 a).2)) rfl]
  simp
theorem o_aast {a x : Nat} {i : Int32} (hd : decode (mtC y) pc = .ok (.aastore, 1)) : Vf y sp e pc ls (.ref x :: .int i :: .ref a :: st) S Q = ((ari S a 8 ∧ iin i (S.2.2.1 a).2 ∧ obj S x 0) ∧ Vf y sp e (pc + 1) ls st (svSet S a i.toNatClampNeg (.ref x)) Q) := by
  rw [o_nx hd (pc1 := pc + 1) (ls1 := ls) (st1 := st) (S1 := svSet S a i.toNatClampNeg (.ref x)) (p := (1 = 1 ∧ ari S a 8 ∧ iin i (S.2.2.1 a).2 ∧ obj S x 0)) rfl]
  simp
theorem o_new {ix c : Nat} (hd : decode (mtC y) pc = .ok (.new ix, 3)) (hn : NL (mtO y) ix = some c) (hc : c < 6) : Vf y sp e pc ls st S Q = ((S.1 < 1000 ∧ S.1 + 1 ≤ e.1.1 ∧ S.2.1 + nf c ≤ e.1.2) ∧ Vf y sp e (pc + 3) ls (.ref S.1 :: st) (svNew S c 0 (nf c) (fun k => defaultValue (fty c k))) Q) := by
  have e1 : ins y sp e (.new ix) 3 pc ls st S = nx (3 = 3 ∧ S.1 < 1000 ∧ c < 6 ∧ S.1 + 1 ≤ e.1.1 ∧ S.2.1 + nf c ≤ e.1.2) (pc + 3) ls (.ref S.1 :: st) (svNew S c 0 (nf c) (fun k => defaultValue (fty c k))) := by
    show i_new y ix e _ _ ls _ S = _
    unfold i_new
    rw [hn]
  rw [o_nx hd e1]
  simp [hc]
theorem o_nar {t : ArrayType} {n : Int32} {kd : Nat} (hd : decode (mtC y) pc = .ok (.newarray t, 2)) (ht : (t = .int ∨ t = .char) ∧ (if t = .char then 6 else 7) = kd) : Vf y sp e pc ls (.int n :: st) S Q = ((S.1 < 1000 ∧ ¬ n < 0 ∧ n.toNatClampNeg ≤ 100000 ∧ S.1 + 1 ≤ e.1.1 ∧ S.2.1 + n.toNatClampNeg ≤ e.1.2) ∧ Vf y sp e (pc + 2) ls (.ref S.1 :: st) (svNew S kd n.toNatClampNeg n.toNatClampNeg (fun _ => .int 0)) Q) := by
  obtain ⟨h1, h2⟩ := ht
  subst h2
  rw [o_nx hd (pc1 := pc + 2) (ls1 := ls) (st1 := .ref S.1 :: st) (S1 := svNew S (if t = .char then 6 else 7) n.toNatClampNeg n.toNatClampNeg (fun _ => .int 0)) (p := (2 = 2 ∧ S.1 < 1000 ∧ (t = .int ∨ t = .char) ∧ ¬ n < 0 ∧ n.toNatClampNeg ≤ 100000 ∧ S.1 + 1 ≤ e.1.1 ∧ S.2.1 + n.toNatClampNeg ≤ e.1.2)) rfl]
  apply propext
  constructor
  · rintro ⟨⟨-, g1, -, g2⟩, g3⟩
    exact ⟨⟨g1, g2⟩, g3⟩
  · rintro ⟨⟨g1, g2⟩, g3⟩
    exact ⟨⟨rfl, g1, h1, g2⟩, g3⟩
theorem o_naq {ix : Nat} {n : Int32} (hd : decode (mtC y) pc = .ok (.anewarray ix, 3)) (ht : NL (mtO y) ix = some 0) : Vf y sp e pc ls (.int n :: st) S Q = ((S.1 < 1000 ∧ ¬ n < 0 ∧ n.toNatClampNeg ≤ 100000 ∧ S.1 + 1 ≤ e.1.1 ∧ S.2.1 + n.toNatClampNeg ≤ e.1.2) ∧ Vf y sp e (pc + 3) ls (.ref S.1 :: st) (svNew S 8 n.toNatClampNeg n.toNatClampNeg (fun _ => .null)) Q) := by
  rw [o_nx hd (pc1 := pc + 3) (ls1 := ls) (st1 := .ref S.1 :: st) (S1 := svNew S 8 n.toNatClampNeg n.toNatClampNeg (fun _ => .null)) (p := (3 = 3 ∧ NL (mtO y) ix = some 0 ∧ S.1 < 1000 ∧ ¬ n < 0 ∧ n.toNatClampNeg ≤ 100000 ∧ S.1 + 1 ≤ e.1.1 ∧ S.2.1 + n.toNatClampNeg ≤ e.1.2)) rfl]
  simp [ht]
theorem o_iret {v : Int32} (hd : decode (mtC y) pc = .ok (.ireturn, 1)) (hr : mtR y = some .int) : Vf y sp e pc ls [.int v] S Q = Q (some (.int v)) S := o_t ⟨rfl, _, hr, rfl⟩ (Vf.rt ((stp_of hd).trans rfl))
def rb (v : Int32) : Prop := narrow .boolean (.int v) = .int v
theorem o_zret {v : Int32} (hd : decode (mtC y) pc = .ok (.ireturn, 1)) (hr : mtR y = some .boolean) : Vf y sp e pc ls [.int v] S Q = (rb v ∧ Q (some (.int v)) S) := by
  rw [Vf.rt ((stp_of hd).trans (rfl : ins y sp e .ireturn 1 pc ls [.int v] S = (1 = 1 ∧ (∃ ty, mtR y = some ty ∧ narrow ty (.int v) = .int v), .inr (some (.int v), S))))]
  rw [hr]
  simp [rb]
theorem o_dret {v : UInt64} (hd : decode (mtC y) pc = .ok (.dreturn, 1)) (hr : mtR y = some .double) : Vf y sp e pc ls [.double v] S Q = Q (some (.double v)) S := o_t ⟨rfl, hr⟩ (Vf.rt ((stp_of hd).trans rfl))
theorem o_aret {a : Nat} {n : String} (hd : decode (mtC y) pc = .ok (.areturn, 1)) (hr : mtR y = some (.object n)) : Vf y sp e pc ls [.ref a] S Q = Q (some (.ref a)) S := o_t ⟨rfl, n, hr⟩ (Vf.rt ((stp_of hd).trans rfl))
theorem o_aretn {n : String} (hd : decode (mtC y) pc = .ok (.areturn, 1)) (hr : mtR y = some (.object n)) : Vf y sp e pc ls [.null] S Q = Q (some .null) S := o_t ⟨rfl, n, hr⟩ (Vf.rt ((stp_of hd).trans rfl))
theorem o_vret (hd : decode (mtC y) pc = .ok (.return_, 1)) (hr : mtR y = none) : Vf y sp e pc ls [] S Q = Q none S := o_t ⟨rfl, hr⟩ (Vf.rt ((stp_of hd).trans rfl))
/-- what a call asks, and goes on with -/
def cl_ (sp : Nat → Sp) (e : En) (z : Nat) (av : List Value) (S : MS) : Prop := (sp z av S).1 ∧ S.1 ≤ (sp z av S).2.2.1 ∧ S.2.1 ≤ (sp z av S).2.2.2.1 ∧ (sp z av S).2.2.1 ≤ e.1.1 ∧ (sp z av S).2.2.2.1 ≤ e.1.2
theorem o_call {z n : Nat} {q : Prop} {av : List Value} {st0 : List Value} {i : Instr} (hd : decode (mtC y) pc = .ok (i, 3)) (h : ins y sp e i 3 pc ls st S = i_cal y z sp e n q (pc + 3) ls st S) (hz : z < 173 ∧ 2 ≤ z ∧ mtD z < mtD y) (hn : n ≤ st.length) (ha : (st.take n).reverse = av) (hs : st.drop n = st0) : Vf y sp e pc ls st S Q = ((q ∧ st0.length ≤ 4 ∧ cl_ sp e z av S) ∧ Vf y sp e (pc + 3) ls ((sp z av S).2.1.toList ++ st0) (sp z av S).2.2 Q) := by
  subst ha; subst hs
  rw [o_nx hd (h.trans rfl)]
  apply propext
  constructor
  · rintro ⟨⟨g1, -, -, -, -, g2, g3⟩, g4⟩
    exact ⟨⟨g1, g2, g3⟩, g4⟩
  · rintro ⟨⟨g1, g2, g3⟩, g4⟩
    exact ⟨⟨g1, hz.1, hz.2.1, hz.2.2, hn, g2, g3⟩, g4⟩
theorem o_inv {ix z n : Nat} {av st0 : List Value} (hd : decode (mtC y) pc = .ok (.invokevirtual ix, 3)) (hm : ML (mtO y) ix = some z) (hz : (z < 173 ∧ 2 ≤ z ∧ mtD z < mtD y) ∧ mtS z = false ∧ (mtN z).name ≠ "<init>" ∧ mtA z + 1 = n) (hn : n ≤ st.length) (ha : (st.take n).reverse = av) (hs : st.drop n = st0) : Vf y sp e pc ls st S Q = ((isO S (mtO z) (lget st (mtA z)) ∧ st0.length ≤ 4 ∧ cl_ sp e z av S) ∧ Vf y sp e (pc + 3) ls ((sp z av S).2.1.toList ++ st0) (sp z av S).2.2 Q) := by
  obtain ⟨hz, g1, g2, g3⟩ := hz
  subst g3
  rw [o_call (q := 3 = 3 ∧ mtS z = false ∧ (mtN z).name ≠ "<init>" ∧ isO S (mtO z) (lget st (mtA z))) (z := z) (n := mtA z + 1) hd ?_ hz hn ha hs]
  · simp [g1, g2]
  · show i_inv y ix sp e _ _ ls st S = _
    unfold i_inv
    rw [hm]
theorem o_ivs {ix z n : Nat} {av st0 : List Value} (hd : decode (mtC y) pc = .ok (.invokestatic ix, 3)) (hm : ML (mtO y) ix = some z) (hz : (z < 173 ∧ 2 ≤ z ∧ mtD z < mtD y) ∧ mtS z = true ∧ mtA z = n) (hn : n ≤ st.length) (ha : (st.take n).reverse = av) (hs : st.drop n = st0) : Vf y sp e pc ls st S Q = ((st0.length ≤ 4 ∧ cl_ sp e z av S) ∧ Vf y sp e (pc + 3) ls ((sp z av S).2.1.toList ++ st0) (sp z av S).2.2 Q) := by
  obtain ⟨hz, g1, g3⟩ := hz
  subst g3
  rw [o_call (q := 3 = 3 ∧ mtS z = true) (z := z) (n := mtA z) hd ?_ hz hn ha hs]
  · simp [g1]
  · show i_ivs y ix sp e _ _ ls st S = _
    unfold i_ivs
    rw [hm]
    simp only
    rw [if_neg (by omega), if_neg (by omega), if_neg (by omega)]
theorem o_ivp {ix z n : Nat} {av st0 : List Value} (hd : decode (mtC y) pc = .ok (.invokespecial ix, 3)) (hm : ML (mtO y) ix = some z) (hz : (z < 173 ∧ 2 ≤ z ∧ mtD z < mtD y) ∧ mtS z = false ∧ (mtN z).name = "<init>" ∧ mtR z = none ∧ mtA z + 1 = n) (hn : n ≤ st.length) (ha : (st.take n).reverse = av) (hs : st.drop n = st0) : Vf y sp e pc ls st S Q = ((isO S (mtO z) (lget st (mtA z)) ∧ st0.length ≤ 4 ∧ cl_ sp e z av S) ∧ Vf y sp e (pc + 3) ls ((sp z av S).2.1.toList ++ st0) (sp z av S).2.2 Q) := by
  obtain ⟨hz, g1, g2, g3, g4⟩ := hz
  subst g4
  rw [o_call (q := 3 = 3 ∧ mtS z = false ∧ (mtN z).name = "<init>" ∧ mtR z = none ∧ isO S (mtO z) (lget st (mtA z))) (z := z) (n := mtA z + 1) hd ?_ hz hn ha hs]
  · simp [g1, g2, g3]
  · show i_ivp y ix sp e _ _ ls st S = _
    unfold i_ivp
    rw [hm]
    simp only
    rw [if_neg (by omega)]
theorem o_objinit {ix a : Nat} (hd : decode (mtC y) pc = .ok (.invokespecial ix, 3)) (hm : ML (mtO y) ix = some 901) (hz : 0 < mtD y) : Vf y sp e pc ls [.ref a] S Q = Vf y sp e (pc + 3) ls [] S Q := by
  refine o_t (p := (3 = 3 ∧ ([] : List Value) = [] ∧ 0 < mtD y)) ⟨rfl, rfl, hz⟩ (o_nx hd ?_)
  show i_ivp y ix sp e _ _ ls _ S = _
  unfold i_ivp
  rw [hm]
  rfl
theorem o_max {ix : Nat} {a b : Int32} (hd : decode (mtC y) pc = .ok (.invokestatic ix, 3)) (hm : ML (mtO y) ix = some 0) (hz : 0 < mtD y) : Vf y sp e pc ls (.int b :: .int a :: st) S Q = ((st.length ≤ 4 ∧ S.1 ≤ e.1.1 ∧ S.2.1 ≤ e.1.2) ∧ Vf y sp e (pc + 3) ls (.int (if a < b then b else a) :: st) S Q) := by
  have e1 : ins y sp e (.invokestatic ix) 3 pc ls (.int b :: .int a :: st) S = nx ((3 = 3 ∧ 0 < mtD y ∧ st.length ≤ 4 ∧ S.1 ≤ e.1.1 ∧ S.2.1 ≤ e.1.2) ∧ True) (pc + 3) ls (.int (if a < b then b else a) :: st) S := by
    show i_ivs y ix sp e _ _ ls _ S = _
    unfold i_ivs
    rw [hm]
    rfl
  rw [o_nx hd e1]
  simp [hz]
theorem o_min {ix : Nat} {a b : Int32} (hd : decode (mtC y) pc = .ok (.invokestatic ix, 3)) (hm : ML (mtO y) ix = some 1) (hz : 0 < mtD y) : Vf y sp e pc ls (.int b :: .int a :: st) S Q = ((st.length ≤ 4 ∧ S.1 ≤ e.1.1 ∧ S.2.1 ≤ e.1.2) ∧ Vf y sp e (pc + 3) ls (.int (if b < a then b else a) :: st) S Q) := by
  have e1 : ins y sp e (.invokestatic ix) 3 pc ls (.int b :: .int a :: st) S = nx ((3 = 3 ∧ 0 < mtD y ∧ st.length ≤ 4 ∧ S.1 ≤ e.1.1 ∧ S.2.1 ≤ e.1.2) ∧ True) (pc + 3) ls (.int (if b < a then b else a) :: st) S := by
    show i_ivs y ix sp e _ _ ls _ S = _
    unfold i_ivs
    rw [hm]
    rfl
  rw [o_nx hd e1]
  simp [hz]
theorem o_cpy {ix a b : Nat} {n dp sq : Int32} (hd : decode (mtC y) pc = .ok (.invokestatic ix, 3)) (hm : ML (mtO y) ix = some 900) (hz : 0 < mtD y) : Vf y sp e pc ls [.int n, .int dp, .ref b, .int sq, .ref a] S Q = ((ari S a 7 ∧ ari S b 7 ∧ ¬ sq < 0 ∧ ¬ dp < 0 ∧ ¬ n < 0 ∧ sq.toNatClampNeg + n.toNatClampNeg ≤ (S.2.2.1 a).2 ∧ dp.toNatClampNeg + n.toNatClampNeg ≤ (S.2.2.1 b).2) ∧ Vf y sp e (pc + 3) ls [] (svCpy S a sq.toNatClampNeg b dp.toNatClampNeg n.toNatClampNeg) Q) := by
  have e1 : ins y sp e (.invokestatic ix) 3 pc ls [.int n, .int dp, .ref b, .int sq, .ref a] S = nx ((3 = 3 ∧ 0 < mtD y) ∧ ([] : List Value) = [] ∧ ari S a 7 ∧ ari S b 7 ∧ ¬ sq < 0 ∧ ¬ dp < 0 ∧ ¬ n < 0 ∧ sq.toNatClampNeg + n.toNatClampNeg ≤ (S.2.2.1 a).2 ∧ dp.toNatClampNeg + n.toNatClampNeg ≤ (S.2.2.1 b).2) (pc + 3) ls [] (svCpy S a sq.toNatClampNeg b dp.toNatClampNeg n.toNatClampNeg) := by
    show i_ivs y ix sp e _ _ ls _ S = _
    unfold i_ivs
    rw [hm]
    rfl
  rw [o_nx hd e1]
  simp [hz]
end OPS
end
