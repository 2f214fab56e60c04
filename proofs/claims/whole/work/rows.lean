section
-- ===== PART A: goes FIRST, ahead of the names: the tables' words, and 'selects' of the private methods out of them =====
/-- a private method of a class that the tables say can be made, by its rows of tables_1 -/
def lw_okq (q : MethodName × Nat) : Prop := (q.1.cls ≠ "java/lang/invoke/MethodHandle" ∧ q.1.cls ≠ "java/lang/invoke/VarHandle") ∧ Cond.instantiable q.1.cls q.2 ∈ tables_1 ∧ Cond.privateMethod q.1 ∈ tables_1 ∧ Cond.instanceMethod q.1 ∈ tables_1
theorem lw_p0 : lw_okq (⟨"TwoTowns", "refusalOfCells", "(IIII)I"⟩, 11) := ⟨⟨by decide +kernel, by decide +kernel⟩, List.mem_of_getElem? (i := 12) (by decide +kernel), List.mem_of_getElem? (i := 212) (by decide +kernel), List.mem_of_getElem? (i := 213) (by decide +kernel)⟩
theorem lw_p1 : lw_okq (⟨"TwoTowns", "refusalOfLane", "(II)I"⟩, 11) := ⟨⟨by decide +kernel, by decide +kernel⟩, List.mem_of_getElem? (i := 12) (by decide +kernel), List.mem_of_getElem? (i := 216) (by decide +kernel), List.mem_of_getElem? (i := 217) (by decide +kernel)⟩
theorem lw_p2 : lw_okq (⟨"TwoTowns", "faultBy", "(I)I"⟩, 11) := ⟨⟨by decide +kernel, by decide +kernel⟩, List.mem_of_getElem? (i := 12) (by decide +kernel), List.mem_of_getElem? (i := 230) (by decide +kernel), List.mem_of_getElem? (i := 231) (by decide +kernel)⟩
theorem lw_p3 : lw_okq (⟨"TwoTowns", "firstFault", "(LTwoTowns$Sheet;II)I"⟩, 11) := ⟨⟨by decide +kernel, by decide +kernel⟩, List.mem_of_getElem? (i := 12) (by decide +kernel), List.mem_of_getElem? (i := 238) (by decide +kernel), List.mem_of_getElem? (i := 239) (by decide +kernel)⟩
theorem lw_p4 : lw_okq (⟨"TwoTowns$Told", "headGoesOn", "(I)Z"⟩, 12) := ⟨⟨by decide +kernel, by decide +kernel⟩, List.mem_of_getElem? (i := 49) (by decide +kernel), List.mem_of_getElem? (i := 258) (by decide +kernel), List.mem_of_getElem? (i := 259) (by decide +kernel)⟩
theorem lw_p5 : lw_okq (⟨"TwoTowns$Told", "houseGoesOn", "(II)Z"⟩, 12) := ⟨⟨by decide +kernel, by decide +kernel⟩, List.mem_of_getElem? (i := 49) (by decide +kernel), List.mem_of_getElem? (i := 268) (by decide +kernel), List.mem_of_getElem? (i := 269) (by decide +kernel)⟩
theorem lw_p6 : lw_okq (⟨"TwoTowns$Told", "personGoesOn", "(II)Z"⟩, 12) := ⟨⟨by decide +kernel, by decide +kernel⟩, List.mem_of_getElem? (i := 49) (by decide +kernel), List.mem_of_getElem? (i := 272) (by decide +kernel), List.mem_of_getElem? (i := 273) (by decide +kernel)⟩
theorem lw_p7 : lw_okq (⟨"TwoTowns$Told", "opens", "(I)Z"⟩, 12) := ⟨⟨by decide +kernel, by decide +kernel⟩, List.mem_of_getElem? (i := 49) (by decide +kernel), List.mem_of_getElem? (i := 279) (by decide +kernel), List.mem_of_getElem? (i := 280) (by decide +kernel)⟩
theorem lw_p8 : lw_okq (⟨"TwoTowns", "isHouse", "(I)Z"⟩, 11) := ⟨⟨by decide +kernel, by decide +kernel⟩, List.mem_of_getElem? (i := 12) (by decide +kernel), List.mem_of_getElem? (i := 291) (by decide +kernel), List.mem_of_getElem? (i := 292) (by decide +kernel)⟩
theorem lw_p9 : lw_okq (⟨"TwoTowns", "isPerson", "(I)Z"⟩, 11) := ⟨⟨by decide +kernel, by decide +kernel⟩, List.mem_of_getElem? (i := 12) (by decide +kernel), List.mem_of_getElem? (i := 299) (by decide +kernel), List.mem_of_getElem? (i := 300) (by decide +kernel)⟩
theorem lw_p10 : lw_okq (⟨"TwoTowns", "isAway", "(I)Z"⟩, 11) := ⟨⟨by decide +kernel, by decide +kernel⟩, List.mem_of_getElem? (i := 12) (by decide +kernel), List.mem_of_getElem? (i := 306) (by decide +kernel), List.mem_of_getElem? (i := 307) (by decide +kernel)⟩
theorem lw_p11 : lw_okq (⟨"TwoTowns", "freshWeeks", "()LTwoTowns$Weeks;"⟩, 11) := ⟨⟨by decide +kernel, by decide +kernel⟩, List.mem_of_getElem? (i := 12) (by decide +kernel), List.mem_of_getElem? (i := 344) (by decide +kernel), List.mem_of_getElem? (i := 345) (by decide +kernel)⟩
theorem lw_p12 : lw_okq (⟨"TwoTowns$Weeks", "bringWood", "(I)V"⟩, 12) := ⟨⟨by decide +kernel, by decide +kernel⟩, List.mem_of_getElem? (i := 110) (by decide +kernel), List.mem_of_getElem? (i := 364) (by decide +kernel), List.mem_of_getElem? (i := 365) (by decide +kernel)⟩
theorem lw_p13 : lw_okq (⟨"TwoTowns$Weeks", "takeWood", "(I)I"⟩, 12) := ⟨⟨by decide +kernel, by decide +kernel⟩, List.mem_of_getElem? (i := 110) (by decide +kernel), List.mem_of_getElem? (i := 375) (by decide +kernel), List.mem_of_getElem? (i := 376) (by decide +kernel)⟩
theorem lw_p14 : lw_okq (⟨"TwoTowns$Weeks", "mend", "(I)V"⟩, 12) := ⟨⟨by decide +kernel, by decide +kernel⟩, List.mem_of_getElem? (i := 110) (by decide +kernel), List.mem_of_getElem? (i := 383) (by decide +kernel), List.mem_of_getElem? (i := 384) (by decide +kernel)⟩
theorem lw_p15 : lw_okq (⟨"TwoTowns$Weeks", "note", "(II)V"⟩, 12) := ⟨⟨by decide +kernel, by decide +kernel⟩, List.mem_of_getElem? (i := 110) (by decide +kernel), List.mem_of_getElem? (i := 388) (by decide +kernel), List.mem_of_getElem? (i := 389) (by decide +kernel)⟩
def lw_privs_1 : List (MethodName × Nat) := [(⟨"TwoTowns", "refusalOfCells", "(IIII)I"⟩, 11), (⟨"TwoTowns", "refusalOfLane", "(II)I"⟩, 11), (⟨"TwoTowns", "faultBy", "(I)I"⟩, 11), (⟨"TwoTowns", "firstFault", "(LTwoTowns$Sheet;II)I"⟩, 11), (⟨"TwoTowns$Told", "headGoesOn", "(I)Z"⟩, 12), (⟨"TwoTowns$Told", "houseGoesOn", "(II)Z"⟩, 12), (⟨"TwoTowns$Told", "personGoesOn", "(II)Z"⟩, 12), (⟨"TwoTowns$Told", "opens", "(I)Z"⟩, 12), (⟨"TwoTowns", "isHouse", "(I)Z"⟩, 11), (⟨"TwoTowns", "isPerson", "(I)Z"⟩, 11), (⟨"TwoTowns", "isAway", "(I)Z"⟩, 11), (⟨"TwoTowns", "freshWeeks", "()LTwoTowns$Weeks;"⟩, 11), (⟨"TwoTowns$Weeks", "bringWood", "(I)V"⟩, 12), (⟨"TwoTowns$Weeks", "takeWood", "(I)I"⟩, 12), (⟨"TwoTowns$Weeks", "mend", "(I)V"⟩, 12), (⟨"TwoTowns$Weeks", "note", "(II)V"⟩, 12)]
theorem lw_r1 : ∀ q ∈ lw_privs_1, lw_okq q := List.forall_mem_cons.mpr ⟨lw_p0, List.forall_mem_cons.mpr ⟨lw_p1, List.forall_mem_cons.mpr ⟨lw_p2, List.forall_mem_cons.mpr ⟨lw_p3, List.forall_mem_cons.mpr ⟨lw_p4, List.forall_mem_cons.mpr ⟨lw_p5, List.forall_mem_cons.mpr ⟨lw_p6, List.forall_mem_cons.mpr ⟨lw_p7, List.forall_mem_cons.mpr ⟨lw_p8, List.forall_mem_cons.mpr ⟨lw_p9, List.forall_mem_cons.mpr ⟨lw_p10, List.forall_mem_cons.mpr ⟨lw_p11, List.forall_mem_cons.mpr ⟨lw_p12, List.forall_mem_cons.mpr ⟨lw_p13, List.forall_mem_cons.mpr ⟨lw_p14, List.forall_mem_cons.mpr ⟨lw_p15, fun _ h => absurd h List.not_mem_nil⟩⟩⟩⟩⟩⟩⟩⟩⟩⟩⟩⟩⟩⟩⟩⟩
theorem lw_p16 : lw_okq (⟨"TwoTowns", "everybody", "()I"⟩, 11) := ⟨⟨by decide +kernel, by decide +kernel⟩, List.mem_of_getElem? (i := 12) (by decide +kernel), List.mem_of_getElem? (i := 433) (by decide +kernel), List.mem_of_getElem? (i := 434) (by decide +kernel)⟩
theorem lw_p17 : lw_okq (⟨"TwoTowns", "lessWearWithout", "(II)I"⟩, 11) := ⟨⟨by decide +kernel, by decide +kernel⟩, List.mem_of_getElem? (i := 12) (by decide +kernel), List.mem_of_getElem? (i := 471) (by decide +kernel), List.mem_of_getElem? (i := 472) (by decide +kernel)⟩
theorem lw_p18 : lw_okq (⟨"TwoTowns", "whoIsIn", "(I)I"⟩, 11) := ⟨⟨by decide +kernel, by decide +kernel⟩, List.mem_of_getElem? (i := 12) (by decide +kernel), List.mem_of_getElem? (i := 496) (by decide +kernel), List.mem_of_getElem? (i := 497) (by decide +kernel)⟩
theorem lw_p19 : lw_okq (⟨"TwoTowns", "readingsAreSoInTrial", "()Z"⟩, 11) := ⟨⟨by decide +kernel, by decide +kernel⟩, List.mem_of_getElem? (i := 12) (by decide +kernel), List.mem_of_getElem? (i := 517) (by decide +kernel), List.mem_of_getElem? (i := 518) (by decide +kernel)⟩
theorem lw_p20 : lw_okq (⟨"TwoTowns$Sheet", "cutToLane", "(I)I"⟩, 3) := ⟨⟨by decide +kernel, by decide +kernel⟩, List.mem_of_getElem? (i := 156) (by decide +kernel), List.mem_of_getElem? (i := 560) (by decide +kernel), List.mem_of_getElem? (i := 561) (by decide +kernel)⟩
theorem lw_p21 : lw_okq (⟨"TwoTowns", "tellDweller", "(I)I"⟩, 11) := ⟨⟨by decide +kernel, by decide +kernel⟩, List.mem_of_getElem? (i := 12) (by decide +kernel), List.mem_of_getElem? (i := 579) (by decide +kernel), List.mem_of_getElem? (i := 580) (by decide +kernel)⟩
theorem lw_p22 : lw_okq (⟨"TwoTowns", "leaveInTrace", "(I)V"⟩, 11) := ⟨⟨by decide +kernel, by decide +kernel⟩, List.mem_of_getElem? (i := 12) (by decide +kernel), List.mem_of_getElem? (i := 583) (by decide +kernel), List.mem_of_getElem? (i := 584) (by decide +kernel)⟩
theorem lw_p23 : lw_okq (⟨"TwoTowns", "tellHearty", "(I)I"⟩, 11) := ⟨⟨by decide +kernel, by decide +kernel⟩, List.mem_of_getElem? (i := 12) (by decide +kernel), List.mem_of_getElem? (i := 587) (by decide +kernel), List.mem_of_getElem? (i := 588) (by decide +kernel)⟩
theorem lw_p24 : lw_okq (⟨"TwoTowns", "tellFroward", "(I)I"⟩, 11) := ⟨⟨by decide +kernel, by decide +kernel⟩, List.mem_of_getElem? (i := 12) (by decide +kernel), List.mem_of_getElem? (i := 591) (by decide +kernel), List.mem_of_getElem? (i := 592) (by decide +kernel)⟩
theorem lw_p25 : lw_okq (⟨"TwoTownsModel", "against", "(IIII)I"⟩, 36) := ⟨⟨by decide +kernel, by decide +kernel⟩, List.mem_of_getElem? (i := 615) (by decide +kernel), List.mem_of_getElem? (i := 744) (by decide +kernel), List.mem_of_getElem? (i := 745) (by decide +kernel)⟩
theorem lw_p26 : lw_okq (⟨"TwoTownsModel", "fails", "(I)I"⟩, 36) := ⟨⟨by decide +kernel, by decide +kernel⟩, List.mem_of_getElem? (i := 615) (by decide +kernel), List.mem_of_getElem? (i := 748) (by decide +kernel), List.mem_of_getElem? (i := 749) (by decide +kernel)⟩
theorem lw_p27 : lw_okq (⟨"TwoTownsModel", "readAll", "(I)Z"⟩, 36) := ⟨⟨by decide +kernel, by decide +kernel⟩, List.mem_of_getElem? (i := 615) (by decide +kernel), List.mem_of_getElem? (i := 752) (by decide +kernel), List.mem_of_getElem? (i := 753) (by decide +kernel)⟩
theorem lw_p28 : lw_okq (⟨"TwoTownsModel", "isSign", "(II)Z"⟩, 36) := ⟨⟨by decide +kernel, by decide +kernel⟩, List.mem_of_getElem? (i := 615) (by decide +kernel), List.mem_of_getElem? (i := 756) (by decide +kernel), List.mem_of_getElem? (i := 757) (by decide +kernel)⟩
theorem lw_p29 : lw_okq (⟨"TwoTownsModel", "readTheSeam", "(I)Z"⟩, 36) := ⟨⟨by decide +kernel, by decide +kernel⟩, List.mem_of_getElem? (i := 615) (by decide +kernel), List.mem_of_getElem? (i := 760) (by decide +kernel), List.mem_of_getElem? (i := 761) (by decide +kernel)⟩
theorem lw_p30 : lw_okq (⟨"TwoTownsModel", "digit", "(III)I"⟩, 36) := ⟨⟨by decide +kernel, by decide +kernel⟩, List.mem_of_getElem? (i := 615) (by decide +kernel), List.mem_of_getElem? (i := 764) (by decide +kernel), List.mem_of_getElem? (i := 765) (by decide +kernel)⟩
theorem lw_p31 : lw_okq (⟨"TwoTownsModel", "readOneHouse", "(I)Z"⟩, 36) := ⟨⟨by decide +kernel, by decide +kernel⟩, List.mem_of_getElem? (i := 615) (by decide +kernel), List.mem_of_getElem? (i := 768) (by decide +kernel), List.mem_of_getElem? (i := 769) (by decide +kernel)⟩
def lw_privs_2 : List (MethodName × Nat) := [(⟨"TwoTowns", "everybody", "()I"⟩, 11), (⟨"TwoTowns", "lessWearWithout", "(II)I"⟩, 11), (⟨"TwoTowns", "whoIsIn", "(I)I"⟩, 11), (⟨"TwoTowns", "readingsAreSoInTrial", "()Z"⟩, 11), (⟨"TwoTowns$Sheet", "cutToLane", "(I)I"⟩, 3), (⟨"TwoTowns", "tellDweller", "(I)I"⟩, 11), (⟨"TwoTowns", "leaveInTrace", "(I)V"⟩, 11), (⟨"TwoTowns", "tellHearty", "(I)I"⟩, 11), (⟨"TwoTowns", "tellFroward", "(I)I"⟩, 11), (⟨"TwoTownsModel", "against", "(IIII)I"⟩, 36), (⟨"TwoTownsModel", "fails", "(I)I"⟩, 36), (⟨"TwoTownsModel", "readAll", "(I)Z"⟩, 36), (⟨"TwoTownsModel", "isSign", "(II)Z"⟩, 36), (⟨"TwoTownsModel", "readTheSeam", "(I)Z"⟩, 36), (⟨"TwoTownsModel", "digit", "(III)I"⟩, 36), (⟨"TwoTownsModel", "readOneHouse", "(I)Z"⟩, 36)]
theorem lw_r2 : ∀ q ∈ lw_privs_2, lw_okq q := List.forall_mem_cons.mpr ⟨lw_p16, List.forall_mem_cons.mpr ⟨lw_p17, List.forall_mem_cons.mpr ⟨lw_p18, List.forall_mem_cons.mpr ⟨lw_p19, List.forall_mem_cons.mpr ⟨lw_p20, List.forall_mem_cons.mpr ⟨lw_p21, List.forall_mem_cons.mpr ⟨lw_p22, List.forall_mem_cons.mpr ⟨lw_p23, List.forall_mem_cons.mpr ⟨lw_p24, List.forall_mem_cons.mpr ⟨lw_p25, List.forall_mem_cons.mpr ⟨lw_p26, List.forall_mem_cons.mpr ⟨lw_p27, List.forall_mem_cons.mpr ⟨lw_p28, List.forall_mem_cons.mpr ⟨lw_p29, List.forall_mem_cons.mpr ⟨lw_p30, List.forall_mem_cons.mpr ⟨lw_p31, fun _ h => absurd h List.not_mem_nil⟩⟩⟩⟩⟩⟩⟩⟩⟩⟩⟩⟩⟩⟩⟩⟩
theorem lw_p32 : lw_okq (⟨"TwoTownsModel", "readPerson", "(I)Z"⟩, 36) := ⟨⟨by decide +kernel, by decide +kernel⟩, List.mem_of_getElem? (i := 615) (by decide +kernel), List.mem_of_getElem? (i := 772) (by decide +kernel), List.mem_of_getElem? (i := 773) (by decide +kernel)⟩
theorem lw_p33 : lw_okq (⟨"TwoTownsModel", "isHouse", "(I)Z"⟩, 36) := ⟨⟨by decide +kernel, by decide +kernel⟩, List.mem_of_getElem? (i := 615) (by decide +kernel), List.mem_of_getElem? (i := 780) (by decide +kernel), List.mem_of_getElem? (i := 781) (by decide +kernel)⟩
theorem lw_p34 : lw_okq (⟨"TwoTownsModel", "isPerson", "(I)Z"⟩, 36) := ⟨⟨by decide +kernel, by decide +kernel⟩, List.mem_of_getElem? (i := 615) (by decide +kernel), List.mem_of_getElem? (i := 788) (by decide +kernel), List.mem_of_getElem? (i := 789) (by decide +kernel)⟩
theorem lw_p35 : lw_okq (⟨"TwoTownsModel", "wants", "(I)I"⟩, 36) := ⟨⟨by decide +kernel, by decide +kernel⟩, List.mem_of_getElem? (i := 615) (by decide +kernel), List.mem_of_getElem? (i := 792) (by decide +kernel), List.mem_of_getElem? (i := 793) (by decide +kernel)⟩
theorem lw_p36 : lw_okq (⟨"TwoTownsModel", "layGift", "(IIII)V"⟩, 36) := ⟨⟨by decide +kernel, by decide +kernel⟩, List.mem_of_getElem? (i := 615) (by decide +kernel), List.mem_of_getElem? (i := 811) (by decide +kernel), List.mem_of_getElem? (i := 812) (by decide +kernel)⟩
theorem lw_p37 : lw_okq (⟨"TwoTownsModel", "goTo", "(II)V"⟩, 36) := ⟨⟨by decide +kernel, by decide +kernel⟩, List.mem_of_getElem? (i := 615) (by decide +kernel), List.mem_of_getElem? (i := 826) (by decide +kernel), List.mem_of_getElem? (i := 827) (by decide +kernel)⟩
theorem lw_p38 : lw_okq (⟨"TwoTownsModel", "beginWeek", "(I)V"⟩, 36) := ⟨⟨by decide +kernel, by decide +kernel⟩, List.mem_of_getElem? (i := 615) (by decide +kernel), List.mem_of_getElem? (i := 830) (by decide +kernel), List.mem_of_getElem? (i := 831) (by decide +kernel)⟩
theorem lw_p39 : lw_okq (⟨"TwoTownsModel", "goHalf", "(II)V"⟩, 36) := ⟨⟨by decide +kernel, by decide +kernel⟩, List.mem_of_getElem? (i := 615) (by decide +kernel), List.mem_of_getElem? (i := 834) (by decide +kernel), List.mem_of_getElem? (i := 835) (by decide +kernel)⟩
theorem lw_p40 : lw_okq (⟨"TwoTownsModel", "townIn", "(I)I"⟩, 36) := ⟨⟨by decide +kernel, by decide +kernel⟩, List.mem_of_getElem? (i := 615) (by decide +kernel), List.mem_of_getElem? (i := 838) (by decide +kernel), List.mem_of_getElem? (i := 839) (by decide +kernel)⟩
theorem lw_p41 : lw_okq (⟨"TwoTownsModel", "turn", "(I)V"⟩, 36) := ⟨⟨by decide +kernel, by decide +kernel⟩, List.mem_of_getElem? (i := 615) (by decide +kernel), List.mem_of_getElem? (i := 842) (by decide +kernel), List.mem_of_getElem? (i := 843) (by decide +kernel)⟩
theorem lw_p42 : lw_okq (⟨"TwoTownsModel", "isBroken", "(I)Z"⟩, 36) := ⟨⟨by decide +kernel, by decide +kernel⟩, List.mem_of_getElem? (i := 615) (by decide +kernel), List.mem_of_getElem? (i := 846) (by decide +kernel), List.mem_of_getElem? (i := 847) (by decide +kernel)⟩
theorem lw_p43 : lw_okq (⟨"TwoTownsModel", "mend", "(I)V"⟩, 36) := ⟨⟨by decide +kernel, by decide +kernel⟩, List.mem_of_getElem? (i := 615) (by decide +kernel), List.mem_of_getElem? (i := 850) (by decide +kernel), List.mem_of_getElem? (i := 851) (by decide +kernel)⟩
theorem lw_p44 : lw_okq (⟨"TwoTownsModel", "goWeeks", "(I)V"⟩, 36) := ⟨⟨by decide +kernel, by decide +kernel⟩, List.mem_of_getElem? (i := 615) (by decide +kernel), List.mem_of_getElem? (i := 866) (by decide +kernel), List.mem_of_getElem? (i := 867) (by decide +kernel)⟩
theorem lw_p45 : lw_okq (⟨"TwoTownsModel", "allNow", "()I"⟩, 36) := ⟨⟨by decide +kernel, by decide +kernel⟩, List.mem_of_getElem? (i := 615) (by decide +kernel), List.mem_of_getElem? (i := 874) (by decide +kernel), List.mem_of_getElem? (i := 875) (by decide +kernel)⟩
theorem lw_p46 : lw_okq (⟨"TwoTownsModel", "allChills", "()I"⟩, 36) := ⟨⟨by decide +kernel, by decide +kernel⟩, List.mem_of_getElem? (i := 615) (by decide +kernel), List.mem_of_getElem? (i := 878) (by decide +kernel), List.mem_of_getElem? (i := 879) (by decide +kernel)⟩
theorem lw_p47 : lw_okq (⟨"TwoTownsModel", "awayNow", "()I"⟩, 36) := ⟨⟨by decide +kernel, by decide +kernel⟩, List.mem_of_getElem? (i := 615) (by decide +kernel), List.mem_of_getElem? (i := 898) (by decide +kernel), List.mem_of_getElem? (i := 899) (by decide +kernel)⟩
def lw_privs_3 : List (MethodName × Nat) := [(⟨"TwoTownsModel", "readPerson", "(I)Z"⟩, 36), (⟨"TwoTownsModel", "isHouse", "(I)Z"⟩, 36), (⟨"TwoTownsModel", "isPerson", "(I)Z"⟩, 36), (⟨"TwoTownsModel", "wants", "(I)I"⟩, 36), (⟨"TwoTownsModel", "layGift", "(IIII)V"⟩, 36), (⟨"TwoTownsModel", "goTo", "(II)V"⟩, 36), (⟨"TwoTownsModel", "beginWeek", "(I)V"⟩, 36), (⟨"TwoTownsModel", "goHalf", "(II)V"⟩, 36), (⟨"TwoTownsModel", "townIn", "(I)I"⟩, 36), (⟨"TwoTownsModel", "turn", "(I)V"⟩, 36), (⟨"TwoTownsModel", "isBroken", "(I)Z"⟩, 36), (⟨"TwoTownsModel", "mend", "(I)V"⟩, 36), (⟨"TwoTownsModel", "goWeeks", "(I)V"⟩, 36), (⟨"TwoTownsModel", "allNow", "()I"⟩, 36), (⟨"TwoTownsModel", "allChills", "()I"⟩, 36), (⟨"TwoTownsModel", "awayNow", "()I"⟩, 36)]
theorem lw_r3 : ∀ q ∈ lw_privs_3, lw_okq q := List.forall_mem_cons.mpr ⟨lw_p32, List.forall_mem_cons.mpr ⟨lw_p33, List.forall_mem_cons.mpr ⟨lw_p34, List.forall_mem_cons.mpr ⟨lw_p35, List.forall_mem_cons.mpr ⟨lw_p36, List.forall_mem_cons.mpr ⟨lw_p37, List.forall_mem_cons.mpr ⟨lw_p38, List.forall_mem_cons.mpr ⟨lw_p39, List.forall_mem_cons.mpr ⟨lw_p40, List.forall_mem_cons.mpr ⟨lw_p41, List.forall_mem_cons.mpr ⟨lw_p42, List.forall_mem_cons.mpr ⟨lw_p43, List.forall_mem_cons.mpr ⟨lw_p44, List.forall_mem_cons.mpr ⟨lw_p45, List.forall_mem_cons.mpr ⟨lw_p46, List.forall_mem_cons.mpr ⟨lw_p47, fun _ h => absurd h List.not_mem_nil⟩⟩⟩⟩⟩⟩⟩⟩⟩⟩⟩⟩⟩⟩⟩⟩
theorem lw_p48 : lw_okq (⟨"TwoTownsModel", "layAway", "(I)V"⟩, 36) := ⟨⟨by decide +kernel, by decide +kernel⟩, List.mem_of_getElem? (i := 615) (by decide +kernel), List.mem_of_getElem? (i := 905) (by decide +kernel), List.mem_of_getElem? (i := 906) (by decide +kernel)⟩
theorem lw_p49 : lw_okq (⟨"TwoTownsModel", "isWarmIn", "(I)Z"⟩, 36) := ⟨⟨by decide +kernel, by decide +kernel⟩, List.mem_of_getElem? (i := 615) (by decide +kernel), List.mem_of_getElem? (i := 913) (by decide +kernel), List.mem_of_getElem? (i := 914) (by decide +kernel)⟩
theorem lw_p50 : lw_okq (⟨"TwoTownsModel", "lessWear", "(II)I"⟩, 36) := ⟨⟨by decide +kernel, by decide +kernel⟩, List.mem_of_getElem? (i := 615) (by decide +kernel), List.mem_of_getElem? (i := 922) (by decide +kernel), List.mem_of_getElem? (i := 923) (by decide +kernel)⟩
theorem lw_p51 : lw_okq (⟨"TwoTownsModel", "allWear", "(I)I"⟩, 36) := ⟨⟨by decide +kernel, by decide +kernel⟩, List.mem_of_getElem? (i := 615) (by decide +kernel), List.mem_of_getElem? (i := 926) (by decide +kernel), List.mem_of_getElem? (i := 927) (by decide +kernel)⟩
theorem lw_p52 : lw_okq (⟨"TwoTownsModel", "halvesOf", "(II)I"⟩, 36) := ⟨⟨by decide +kernel, by decide +kernel⟩, List.mem_of_getElem? (i := 615) (by decide +kernel), List.mem_of_getElem? (i := 937) (by decide +kernel), List.mem_of_getElem? (i := 938) (by decide +kernel)⟩
theorem lw_p53 : lw_okq (⟨"TwoTownsModel", "timeOf", "(I)I"⟩, 36) := ⟨⟨by decide +kernel, by decide +kernel⟩, List.mem_of_getElem? (i := 615) (by decide +kernel), List.mem_of_getElem? (i := 941) (by decide +kernel), List.mem_of_getElem? (i := 942) (by decide +kernel)⟩
theorem lw_p54 : lw_okq (⟨"TwoTownsModel", "areSo", "()Z"⟩, 36) := ⟨⟨by decide +kernel, by decide +kernel⟩, List.mem_of_getElem? (i := 615) (by decide +kernel), List.mem_of_getElem? (i := 965) (by decide +kernel), List.mem_of_getElem? (i := 966) (by decide +kernel)⟩
theorem lw_p55 : lw_okq (⟨"TwoTownsModel", "lost", "(I)J"⟩, 36) := ⟨⟨by decide +kernel, by decide +kernel⟩, List.mem_of_getElem? (i := 615) (by decide +kernel), List.mem_of_getElem? (i := 997) (by decide +kernel), List.mem_of_getElem? (i := 998) (by decide +kernel)⟩
theorem lw_p56 : lw_okq (⟨"TwoTownsModel", "begins", "(I)V"⟩, 36) := ⟨⟨by decide +kernel, by decide +kernel⟩, List.mem_of_getElem? (i := 615) (by decide +kernel), List.mem_of_getElem? (i := 1009) (by decide +kernel), List.mem_of_getElem? (i := 1010) (by decide +kernel)⟩
def lw_privs_4 : List (MethodName × Nat) := [(⟨"TwoTownsModel", "layAway", "(I)V"⟩, 36), (⟨"TwoTownsModel", "isWarmIn", "(I)Z"⟩, 36), (⟨"TwoTownsModel", "lessWear", "(II)I"⟩, 36), (⟨"TwoTownsModel", "allWear", "(I)I"⟩, 36), (⟨"TwoTownsModel", "halvesOf", "(II)I"⟩, 36), (⟨"TwoTownsModel", "timeOf", "(I)I"⟩, 36), (⟨"TwoTownsModel", "areSo", "()Z"⟩, 36), (⟨"TwoTownsModel", "lost", "(I)J"⟩, 36), (⟨"TwoTownsModel", "begins", "(I)V"⟩, 36)]
theorem lw_r4 : ∀ q ∈ lw_privs_4, lw_okq q := List.forall_mem_cons.mpr ⟨lw_p48, List.forall_mem_cons.mpr ⟨lw_p49, List.forall_mem_cons.mpr ⟨lw_p50, List.forall_mem_cons.mpr ⟨lw_p51, List.forall_mem_cons.mpr ⟨lw_p52, List.forall_mem_cons.mpr ⟨lw_p53, List.forall_mem_cons.mpr ⟨lw_p54, List.forall_mem_cons.mpr ⟨lw_p55, List.forall_mem_cons.mpr ⟨lw_p56, fun _ h => absurd h List.not_mem_nil⟩⟩⟩⟩⟩⟩⟩⟩⟩
def lw_privs : List (MethodName × Nat) := lw_privs_1 ++ (lw_privs_2 ++ (lw_privs_3 ++ (lw_privs_4)))
def lw_tbl : List Cond := k2_sels lw_privs ++ tables_1
theorem lw_privs_ok : ∀ q ∈ lw_privs, lw_okq q := by
  show ∀ q ∈ lw_privs_1 ++ (lw_privs_2 ++ (lw_privs_3 ++ (lw_privs_4))), lw_okq q
  exact List.forall_mem_append.mpr ⟨lw_r1, List.forall_mem_append.mpr ⟨lw_r2, List.forall_mem_append.mpr ⟨lw_r3, lw_r4⟩⟩⟩
end
section
/-! ===== BEGIN words of one list among another's, by their places ===== -/
theorem goodIn_r {big : List Cond} (ws : List Cond) (ps : List Nat) (hp : ws = ps.filterMap (fun i => big[i]?)) (h : ws.all goodWord = true) : GoodIn big ws := by
  intro w hw
  have h1 := List.all_eq_true.mp h w hw
  rw [hp] at hw
  obtain ⟨i, -, hi⟩ := List.mem_filterMap.mp hw
  have hm : w ∈ big := by first | exact List.mem_of_getElem? hi | exact List.getElem?_mem hi
  exact ⟨hm, good_of_word h1⟩
theorem goodIn_app {big a b : List Cond} (ha : GoodIn big a) (hb : GoodIn big b) : GoodIn big (a ++ b) := fun w h => (List.mem_append.mp h).elim (ha w) (hb w)
theorem goodIn_ca {big a b : List Cond} {c : Cond} (ha : GoodIn big (c :: a)) (hb : GoodIn big b) : GoodIn big (c :: (a ++ b)) := fun w h => (List.mem_cons.mp h).elim (fun e => ha w (List.mem_cons.mpr (Or.inl e))) (fun h => (List.mem_append.mp h).elim (fun h => ha w (List.mem_cons.mpr (Or.inr h))) (hb w))
theorem goodIn_sub {big ws : List Cond} (hm : ∀ w ∈ ws, w ∈ big) (h : ws.all goodWord = true) : GoodIn big ws := fun w hw => ⟨hm w hw, good_of_word (List.all_eq_true.mp h w hw)⟩
/-! ===== END ===== -/
/-! ===== BEGIN printed: names, fields, word lists, decode rows ===== -/
def RX0 : String := "TwoTowns$Kept"
def TX0 : u_T := fun k => match k with
  | 0 => ("TwoTowns$Kept", "most", "I", true)
  | 1 => ("TwoTowns$Kept", "house", "[I", true)
  | 2 => ("TwoTowns$Kept", "when", "[I", true)
  | 3 => ("TwoTowns$Kept", "amount", "[I", true)
  | _ => ("TwoTowns$Kept", "count", "I", false)
def tyX0 : Nat → FieldType := fun k => match k with
  | 0 => .int
  | 1 => .array .int
  | 2 => .array .int
  | 3 => .array .int
  | _ => .int
abbrev wsX00 : List Cond := u_ws RX0 TX0 5
theorem nmX0 : ∀ a, a < 5 → ∀ b, b < 5 → a ≠ b → (TX0 a).2.1 ≠ (TX0 b).2.1 := by decide +kernel
theorem tyX0_ok : ∀ k, k < 5 → parseFieldDescriptor (TX0 k).2.2.1 = some (tyX0 k) := by decide +kernel
abbrev cX0_init : ByteArray := prog_2_method_1_code
def yX0_init : MethodName := ⟨RX0, "<init>", "(I)V"⟩
abbrev cX0_keep : ByteArray := prog_2_method_2_code
def yX0_keep : MethodName := ⟨RX0, "keep", "(III)I"⟩
abbrev cX0_takeBack : ByteArray := prog_2_method_3_code
def yX0_takeBack : MethodName := ⟨RX0, "takeBack", "(I)I"⟩
abbrev cX0_sumOf : ByteArray := prog_2_method_4_code
def yX0_sumOf : MethodName := ⟨RX0, "sumOf", "(II)I"⟩
abbrev cX0_areWearOf : ByteArray := prog_2_method_5_code
def yX0_areWearOf : MethodName := ⟨RX0, "areWearOf", "(LTwoTowns$Weeks;)Z"⟩
def RX1 : String := "TwoTowns$Sheet"
def TX1 : u_T := fun k => match k with
  | 0 => ("TwoTowns$Sheet", "cells", "[I", true)
  | 1 => ("TwoTowns$Sheet", "lane", "I", false)
  | _ => ("TwoTowns$Sheet", "length", "I", false)
def tyX1 : Nat → FieldType := fun k => match k with
  | 0 => .array .int
  | 1 => .int
  | _ => .int
abbrev wsX10 : List Cond := u_ws RX1 TX1 3
theorem nmX1 : ∀ a, a < 3 → ∀ b, b < 3 → a ≠ b → (TX1 a).2.1 ≠ (TX1 b).2.1 := by decide +kernel
theorem tyX1_ok : ∀ k, k < 3 → parseFieldDescriptor (TX1 k).2.2.1 = some (tyX1 k) := by decide +kernel
abbrev cX1_init : ByteArray := prog_3_method_1_code
def yX1_init : MethodName := ⟨RX1, "<init>", "()V"⟩
abbrev cX1_renew : ByteArray := prog_3_method_2_code
def yX1_renew : MethodName := ⟨RX1, "renew", "(II)V"⟩
abbrev cX1_hasNothing : ByteArray := prog_3_method_3_code
def yX1_hasNothing : MethodName := ⟨RX1, "hasNothing", "()Z"⟩
abbrev cX1_hasCell : ByteArray := prog_3_method_4_code
def yX1_hasCell : MethodName := ⟨RX1, "hasCell", "(I)Z"⟩
abbrev cX1_hasCells : ByteArray := prog_3_method_5_code
def yX1_hasCells : MethodName := ⟨RX1, "hasCells", "(II)Z"⟩
abbrev cX1_read : ByteArray := prog_3_method_6_code
def yX1_read : MethodName := ⟨RX1, "read", "(I)I"⟩
abbrev cX1_write : ByteArray := prog_3_method_7_code
def yX1_write : MethodName := ⟨RX1, "write", "(II)V"⟩
abbrev cX1_cutToLane : ByteArray := prog_3_method_8_code
def yX1_cutToLane : MethodName := ⟨RX1, "cutToLane", "(I)I"⟩
def RX2 : String := "TwoTowns$Told"
def TX2 : u_T := fun k => match k with
  | 0 => ("TwoTowns$Told", "comes", "[I", true)
  | 1 => ("TwoTowns$Told", "bears", "[I", true)
  | 2 => ("TwoTowns$Told", "kind", "[I", true)
  | 3 => ("TwoTowns$Told", "town", "[I", true)
  | 4 => ("TwoTowns$Told", "house", "[I", true)
  | 5 => ("TwoTowns$Told", "burns", "[I", true)
  | 6 => ("TwoTowns$Told", "mends", "[I", true)
  | 7 => ("TwoTowns$Told", "seam", "I", false)
  | 8 => ("TwoTowns$Told", "houses", "I", false)
  | 9 => ("TwoTowns$Told", "persons", "I", false)
  | 10 => ("TwoTowns$Told", "part", "I", false)
  | _ => ("TwoTowns$Told", "place", "I", false)
def tyX2 : Nat → FieldType := fun k => match k with
  | 0 => .array .int
  | 1 => .array .int
  | 2 => .array .int
  | 3 => .array .int
  | 4 => .array .int
  | 5 => .array .int
  | 6 => .array .int
  | 7 => .int
  | 8 => .int
  | 9 => .int
  | 10 => .int
  | _ => .int
abbrev wsX20 : List Cond := u_ws RX2 TX2 12
theorem nmX2 : ∀ a, a < 12 → ∀ b, b < 12 → a ≠ b → (TX2 a).2.1 ≠ (TX2 b).2.1 := by decide +kernel
theorem tyX2_ok : ∀ k, k < 12 → parseFieldDescriptor (TX2 k).2.2.1 = some (tyX2 k) := by decide +kernel
abbrev cX2_init : ByteArray := prog_4_method_1_code
def yX2_init : MethodName := ⟨RX2, "<init>", "()V"⟩
abbrev cX2_begin : ByteArray := prog_4_method_2_code
def yX2_begin : MethodName := ⟨RX2, "begin", "()V"⟩
abbrev cX2_isWhole : ByteArray := prog_4_method_3_code
def yX2_isWhole : MethodName := ⟨RX2, "isWhole", "()Z"⟩
abbrev cX2_goesOn : ByteArray := prog_4_method_4_code
def yX2_goesOn : MethodName := ⟨RX2, "goesOn", "(I)Z"⟩
abbrev cX2_headGoesOn : ByteArray := prog_4_method_5_code
def yX2_headGoesOn : MethodName := ⟨RX2, "headGoesOn", "(I)Z"⟩
abbrev cX2_opens : ByteArray := prog_4_method_6_code
def yX2_opens : MethodName := ⟨RX2, "opens", "(I)Z"⟩
abbrev cX2_houseGoesOn : ByteArray := prog_4_method_7_code
def yX2_houseGoesOn : MethodName := ⟨RX2, "houseGoesOn", "(II)Z"⟩
abbrev cX2_personGoesOn : ByteArray := prog_4_method_8_code
def yX2_personGoesOn : MethodName := ⟨RX2, "personGoesOn", "(II)Z"⟩
abbrev cX2_isIn : ByteArray := prog_4_method_9_code
def yX2_isIn : MethodName := ⟨RX2, "isIn", "(III)Z"⟩
abbrev cX2_digitOf : ByteArray := prog_4_method_10_code
def yX2_digitOf : MethodName := ⟨RX2, "digitOf", "(I)I"⟩
abbrev cX2_kindOf : ByteArray := prog_4_method_11_code
def yX2_kindOf : MethodName := ⟨RX2, "kindOf", "(I)I"⟩
abbrev cX2_breaksBy : ByteArray := prog_4_method_12_code
def yX2_breaksBy : MethodName := ⟨RX2, "breaksBy", "(II)Z"⟩
abbrev cX2_dwellersOf : ByteArray := prog_4_method_13_code
def yX2_dwellersOf : MethodName := ⟨RX2, "dwellersOf", "(I)I"⟩
abbrev cX2_townIn : ByteArray := prog_4_method_14_code
def yX2_townIn : MethodName := ⟨RX2, "townIn", "(II)I"⟩
def RX3 : String := "TwoTowns$Weeks"
def TX3 : u_T := fun k => match k with
  | 0 => ("TwoTowns$Weeks", "woods", "[I", true)
  | 1 => ("TwoTowns$Weeks", "wears", "[I", true)
  | 2 => ("TwoTowns$Weeks", "colds", "[I", true)
  | 3 => ("TwoTowns$Weeks", "woodNow", "[I", true)
  | 4 => ("TwoTowns$Weeks", "wearNow", "[I", true)
  | 5 => ("TwoTowns$Weeks", "wants", "[I", true)
  | 6 => ("TwoTowns$Weeks", "gifts", "LTwoTowns$Kept;", true)
  | 7 => ("TwoTowns$Weeks", "told", "LTwoTowns$Told;", false)
  | 8 => ("TwoTowns$Weeks", "away", "I", false)
  | 9 => ("TwoTowns$Weeks", "seam", "I", false)
  | 10 => ("TwoTowns$Weeks", "moreHouse", "I", false)
  | _ => ("TwoTowns$Weeks", "moreWood", "I", false)
def tyX3 : Nat → FieldType := fun k => match k with
  | 0 => .array .int
  | 1 => .array .int
  | 2 => .array .int
  | 3 => .array .int
  | 4 => .array .int
  | 5 => .array .int
  | 6 => .object "TwoTowns$Kept"
  | 7 => .object "TwoTowns$Told"
  | 8 => .int
  | 9 => .int
  | 10 => .int
  | _ => .int
abbrev wsX30 : List Cond := u_ws RX3 TX3 12
theorem nmX3 : ∀ a, a < 12 → ∀ b, b < 12 → a ≠ b → (TX3 a).2.1 ≠ (TX3 b).2.1 := by decide +kernel
theorem tyX3_ok : ∀ k, k < 12 → parseFieldDescriptor (TX3 k).2.2.1 = some (tyX3 k) := by decide +kernel
abbrev cX3_init : ByteArray := prog_5_method_1_code
def yX3_init : MethodName := ⟨RX3, "<init>", "(LTwoTowns$Told;LTwoTowns$Kept;)V"⟩
abbrev cX3_prepare : ByteArray := prog_5_method_2_code
def yX3_prepare : MethodName := ⟨RX3, "prepare", "(LTwoTowns$Told;I)V"⟩
abbrev cX3_live : ByteArray := prog_5_method_3_code
def yX3_live : MethodName := ⟨RX3, "live", "(II)Z"⟩
abbrev cX3_bringWood : ByteArray := prog_5_method_4_code
def yX3_bringWood : MethodName := ⟨RX3, "bringWood", "(I)V"⟩
abbrev cX3_takeWood : ByteArray := prog_5_method_5_code
def yX3_takeWood : MethodName := ⟨RX3, "takeWood", "(I)I"⟩
abbrev cX3_mend : ByteArray := prog_5_method_6_code
def yX3_mend : MethodName := ⟨RX3, "mend", "(I)V"⟩
abbrev cX3_note : ByteArray := prog_5_method_7_code
def yX3_note : MethodName := ⟨RX3, "note", "(II)V"⟩
abbrev cX3_woodAt : ByteArray := prog_5_method_8_code
def yX3_woodAt : MethodName := ⟨RX3, "woodAt", "(II)I"⟩
abbrev cX3_wearAt : ByteArray := prog_5_method_9_code
def yX3_wearAt : MethodName := ⟨RX3, "wearAt", "(II)I"⟩
abbrev cX3_coldAt : ByteArray := prog_5_method_10_code
def yX3_coldAt : MethodName := ⟨RX3, "coldAt", "(I)I"⟩
abbrev cX3_wearTogether : ByteArray := prog_5_method_11_code
def yX3_wearTogether : MethodName := ⟨RX3, "wearTogether", "(I)I"⟩
abbrev cX3_chillsOf : ByteArray := prog_5_method_12_code
def yX3_chillsOf : MethodName := ⟨RX3, "chillsOf", "(II)I"⟩
def RX4 : String := "TwoTowns"
def TX4 : u_T := fun k => match k with
  | 0 => ("TwoTowns", "sheets", "[LTwoTowns$Sheet;", true)
  | 1 => ("TwoTowns", "gifts", "LTwoTowns$Kept;", true)
  | 2 => ("TwoTowns", "readings", "LTwoTowns$Kept;", true)
  | 3 => ("TwoTowns", "told", "LTwoTowns$Told;", false)
  | 4 => ("TwoTowns", "draft", "LTwoTowns$Told;", false)
  | 5 => ("TwoTowns", "real", "LTwoTowns$Weeks;", true)
  | 6 => ("TwoTowns", "trial", "LTwoTowns$Weeks;", true)
  | 7 => ("TwoTowns", "away", "I", false)
  | 8 => ("TwoTowns", "realIsFresh", "Z", false)
  | 9 => ("TwoTowns", "trace", "I", false)
  | _ => ("TwoTowns", "fault", "I", false)
def tyX4 : Nat → FieldType := fun k => match k with
  | 0 => .array (.object "TwoTowns$Sheet")
  | 1 => .object "TwoTowns$Kept"
  | 2 => .object "TwoTowns$Kept"
  | 3 => .object "TwoTowns$Told"
  | 4 => .object "TwoTowns$Told"
  | 5 => .object "TwoTowns$Weeks"
  | 6 => .object "TwoTowns$Weeks"
  | 7 => .int
  | 8 => .boolean
  | 9 => .int
  | _ => .int
abbrev wsX40 : List Cond := u_ws RX4 TX4 11
theorem nmX4 : ∀ a, a < 11 → ∀ b, b < 11 → a ≠ b → (TX4 a).2.1 ≠ (TX4 b).2.1 := by decide +kernel
theorem tyX4_ok : ∀ k, k < 11 → parseFieldDescriptor (TX4 k).2.2.1 = some (tyX4 k) := by decide +kernel
abbrev cX4_init : ByteArray := prog_1_method_1_code
def yX4_init : MethodName := ⟨RX4, "<init>", "()V"⟩
abbrev cX4_houses : ByteArray := prog_1_method_2_code
def yX4_houses : MethodName := ⟨RX4, "houses", "(IIII)I"⟩
abbrev cX4_ofHouse : ByteArray := prog_1_method_3_code
def yX4_ofHouse : MethodName := ⟨RX4, "ofHouse", "(II)I"⟩
abbrev cX4_ofPerson : ByteArray := prog_1_method_4_code
def yX4_ofPerson : MethodName := ⟨RX4, "ofPerson", "(II)I"⟩
abbrev cX4_seam : ByteArray := prog_1_method_5_code
def yX4_seam : MethodName := ⟨RX4, "seam", "(I)I"⟩
abbrev cX4_away : ByteArray := prog_1_method_6_code
def yX4_away : MethodName := ⟨RX4, "away", "(IZ)I"⟩
abbrev cX4_gift : ByteArray := prog_1_method_7_code
def yX4_gift : MethodName := ⟨RX4, "gift", "(III)I"⟩
abbrev cX4_undo : ByteArray := prog_1_method_8_code
def yX4_undo : MethodName := ⟨RX4, "undo", "(I)I"⟩
abbrev cX4_wood : ByteArray := prog_1_method_9_code
def yX4_wood : MethodName := ⟨RX4, "wood", "(III)I"⟩
abbrev cX4_wear : ByteArray := prog_1_method_10_code
def yX4_wear : MethodName := ⟨RX4, "wear", "(III)I"⟩
abbrev cX4_cold : ByteArray := prog_1_method_11_code
def yX4_cold : MethodName := ⟨RX4, "cold", "(II)I"⟩
abbrev cX4_chills : ByteArray := prog_1_method_12_code
def yX4_chills : MethodName := ⟨RX4, "chills", "(II)I"⟩
abbrev cX4_all : ByteArray := prog_1_method_13_code
def yX4_all : MethodName := ⟨RX4, "all", "()I"⟩
abbrev cX4_breaks : ByteArray := prog_1_method_14_code
def yX4_breaks : MethodName := ⟨RX4, "breaks", "(I)I"⟩
abbrev cX4_best : ByteArray := prog_1_method_15_code
def yX4_best : MethodName := ⟨RX4, "best", "(I)I"⟩
abbrev cX4_blame : ByteArray := prog_1_method_16_code
def yX4_blame : MethodName := ⟨RX4, "blame", "(I)I"⟩
abbrev cX4_warm : ByteArray := prog_1_method_17_code
def yX4_warm : MethodName := ⟨RX4, "warm", "(I)I"⟩
abbrev cX4_logs : ByteArray := prog_1_method_18_code
def yX4_logs : MethodName := ⟨RX4, "logs", "(I)I"⟩
abbrev cX4_pays : ByteArray := prog_1_method_19_code
def yX4_pays : MethodName := ⟨RX4, "pays", "(III)J"⟩
abbrev cX4_together : ByteArray := prog_1_method_20_code
def yX4_together : MethodName := ⟨RX4, "together", "(III)I"⟩
abbrev cX4_third : ByteArray := prog_1_method_21_code
def yX4_third : MethodName := ⟨RX4, "third", "(I)I"⟩
abbrev cX4_row : ByteArray := prog_1_method_22_code
def yX4_row : MethodName := ⟨RX4, "row", "(IIII)I"⟩
abbrev cX4_reading : ByteArray := prog_1_method_23_code
def yX4_reading : MethodName := ⟨RX4, "reading", "(IIII)I"⟩
abbrev cX4_back : ByteArray := prog_1_method_24_code
def yX4_back : MethodName := ⟨RX4, "back", "(I)I"⟩
abbrev cX4_gone : ByteArray := prog_1_method_25_code
def yX4_gone : MethodName := ⟨RX4, "gone", "()I"⟩
abbrev cX4_seams : ByteArray := prog_1_method_26_code
def yX4_seams : MethodName := ⟨RX4, "seams", "()I"⟩
abbrev cX4_kinds : ByteArray := prog_1_method_27_code
def yX4_kinds : MethodName := ⟨RX4, "kinds", "(I)I"⟩
abbrev cX4_odds : ByteArray := prog_1_method_28_code
def yX4_odds : MethodName := ⟨RX4, "odds", "(II)J"⟩
abbrev cX4_sheet : ByteArray := prog_1_method_29_code
def yX4_sheet : MethodName := ⟨RX4, "sheet", "(III)I"⟩
abbrev cX4_lose : ByteArray := prog_1_method_30_code
def yX4_lose : MethodName := ⟨RX4, "lose", "(I)I"⟩
abbrev cX4_put : ByteArray := prog_1_method_31_code
def yX4_put : MethodName := ⟨RX4, "put", "(III)I"⟩
abbrev cX4_cell : ByteArray := prog_1_method_32_code
def yX4_cell : MethodName := ⟨RX4, "cell", "(III)J"⟩
abbrev cX4_copy : ByteArray := prog_1_method_33_code
def yX4_copy : MethodName := ⟨RX4, "copy", "(IIIII)I"⟩
abbrev cX4_tell : ByteArray := prog_1_method_34_code
def yX4_tell : MethodName := ⟨RX4, "tell", "(I)I"⟩
abbrev cX4_knock : ByteArray := prog_1_method_35_code
def yX4_knock : MethodName := ⟨RX4, "knock", "(I)I"⟩
abbrev cX4_as : ByteArray := prog_1_method_36_code
def yX4_as : MethodName := ⟨RX4, "as", "(II)I"⟩
abbrev cX4_trace : ByteArray := prog_1_method_37_code
def yX4_trace : MethodName := ⟨RX4, "trace", "()I"⟩
abbrev cX4_fault : ByteArray := prog_1_method_38_code
def yX4_fault : MethodName := ⟨RX4, "fault", "()I"⟩
abbrev cX4_many : ByteArray := prog_1_method_39_code
def yX4_many : MethodName := ⟨RX4, "many", "(I)I"⟩
abbrev cX4_isHouse : ByteArray := prog_1_method_40_code
def yX4_isHouse : MethodName := ⟨RX4, "isHouse", "(I)Z"⟩
abbrev cX4_isPerson : ByteArray := prog_1_method_41_code
def yX4_isPerson : MethodName := ⟨RX4, "isPerson", "(I)Z"⟩
abbrev cX4_isAway : ByteArray := prog_1_method_42_code
def yX4_isAway : MethodName := ⟨RX4, "isAway", "(I)Z"⟩
abbrev cX4_isSheet : ByteArray := prog_1_method_43_code
def yX4_isSheet : MethodName := ⟨RX4, "isSheet", "(I)Z"⟩
abbrev cX4_isLane : ByteArray := prog_1_method_44_code
def yX4_isLane : MethodName := ⟨RX4, "isLane", "(I)Z"⟩
abbrev cX4_isWeek : ByteArray := prog_1_method_45_code
def yX4_isWeek : MethodName := ⟨RX4, "isWeek", "(I)Z"⟩
abbrev cX4_isTime : ByteArray := prog_1_method_46_code
def yX4_isTime : MethodName := ⟨RX4, "isTime", "(II)Z"⟩
abbrev cX4_isWhich : ByteArray := prog_1_method_47_code
def yX4_isWhich : MethodName := ⟨RX4, "isWhich", "(I)Z"⟩
abbrev cX4_timeOf : ByteArray := prog_1_method_48_code
def yX4_timeOf : MethodName := ⟨RX4, "timeOf", "(II)I"⟩
abbrev cX4_everybody : ByteArray := prog_1_method_49_code
def yX4_everybody : MethodName := ⟨RX4, "everybody", "()I"⟩
abbrev cX4_whoIsIn : ByteArray := prog_1_method_50_code
def yX4_whoIsIn : MethodName := ⟨RX4, "whoIsIn", "(I)I"⟩
abbrev cX4_faultBy : ByteArray := prog_1_method_51_code
def yX4_faultBy : MethodName := ⟨RX4, "faultBy", "(I)I"⟩
abbrev cX4_refusalOfLane : ByteArray := prog_1_method_52_code
def yX4_refusalOfLane : MethodName := ⟨RX4, "refusalOfLane", "(II)I"⟩
abbrev cX4_refusalOfCells : ByteArray := prog_1_method_53_code
def yX4_refusalOfCells : MethodName := ⟨RX4, "refusalOfCells", "(IIII)I"⟩
abbrev cX4_firstFault : ByteArray := prog_1_method_54_code
def yX4_firstFault : MethodName := ⟨RX4, "firstFault", "(LTwoTowns$Sheet;II)I"⟩
abbrev cX4_freshWeeks : ByteArray := prog_1_method_55_code
def yX4_freshWeeks : MethodName := ⟨RX4, "freshWeeks", "()LTwoTowns$Weeks;"⟩
abbrev cX4_lessWearWithout : ByteArray := prog_1_method_56_code
def yX4_lessWearWithout : MethodName := ⟨RX4, "lessWearWithout", "(II)I"⟩
abbrev cX4_readingsAreSoInTrial : ByteArray := prog_1_method_57_code
def yX4_readingsAreSoInTrial : MethodName := ⟨RX4, "readingsAreSoInTrial", "()Z"⟩
abbrev cX4_ofShare : ByteArray := prog_1_method_58_code
def yX4_ofShare : MethodName := ⟨RX4, "ofShare", "(III)J"⟩
abbrev cX4_commonDivisor : ByteArray := prog_1_method_59_code
def yX4_commonDivisor : MethodName := ⟨RX4, "commonDivisor", "(II)I"⟩
abbrev cX4_wantsOf : ByteArray := prog_1_method_60_code
def yX4_wantsOf : MethodName := ⟨RX4, "wantsOf", "(II)I"⟩
abbrev cX4_leaveInTrace : ByteArray := prog_1_method_61_code
def yX4_leaveInTrace : MethodName := ⟨RX4, "leaveInTrace", "(I)V"⟩
abbrev cX4_tellDweller : ByteArray := prog_1_method_62_code
def yX4_tellDweller : MethodName := ⟨RX4, "tellDweller", "(I)I"⟩
abbrev cX4_tellHearty : ByteArray := prog_1_method_63_code
def yX4_tellHearty : MethodName := ⟨RX4, "tellHearty", "(I)I"⟩
abbrev cX4_tellFroward : ByteArray := prog_1_method_64_code
def yX4_tellFroward : MethodName := ⟨RX4, "tellFroward", "(I)I"⟩
def RX5 : String := "TwoTownsModel"
def TX5 : u_T := fun k => match k with
  | 0 => ("TwoTownsModel", "fault", "I", false)
  | 1 => ("TwoTownsModel", "trace", "I", false)
  | 2 => ("TwoTownsModel", "sorts", "[I", true)
  | 3 => ("TwoTownsModel", "sheetLong", "[I", true)
  | 4 => ("TwoTownsModel", "cells", "[I", true)
  | 5 => ("TwoTownsModel", "seam", "I", false)
  | 6 => ("TwoTownsModel", "houses", "I", false)
  | 7 => ("TwoTownsModel", "persons", "I", false)
  | 8 => ("TwoTownsModel", "comes", "[I", true)
  | 9 => ("TwoTownsModel", "bears", "[I", true)
  | 10 => ("TwoTownsModel", "kind", "[I", true)
  | 11 => ("TwoTownsModel", "town", "[I", true)
  | 12 => ("TwoTownsModel", "house", "[I", true)
  | 13 => ("TwoTownsModel", "burns", "[I", true)
  | 14 => ("TwoTownsModel", "mends", "[I", true)
  | 15 => ("TwoTownsModel", "isAway", "[Z", true)
  | 16 => ("TwoTownsModel", "at", "I", false)
  | 17 => ("TwoTownsModel", "readSeam", "I", false)
  | 18 => ("TwoTownsModel", "readHouses", "I", false)
  | 19 => ("TwoTownsModel", "readMany", "I", false)
  | 20 => ("TwoTownsModel", "readHouse", "[I", true)
  | 21 => ("TwoTownsModel", "read", "[I", true)
  | 22 => ("TwoTownsModel", "gifts", "I", false)
  | 23 => ("TwoTownsModel", "giftTo", "[I", true)
  | 24 => ("TwoTownsModel", "giftIn", "[I", true)
  | 25 => ("TwoTownsModel", "giftMuch", "[I", true)
  | 26 => ("TwoTownsModel", "woodOf", "[I", true)
  | 27 => ("TwoTownsModel", "wearOf", "[I", true)
  | 28 => ("TwoTownsModel", "chillsOf", "[I", true)
  | 29 => ("TwoTownsModel", "brokeIn", "[I", true)
  | 30 => ("TwoTownsModel", "coldNow", "I", false)
  | 31 => ("TwoTownsModel", "readings", "I", false)
  | 32 => ("TwoTownsModel", "readOf", "[I", true)
  | 33 => ("TwoTownsModel", "readWeek", "[I", true)
  | 34 => ("TwoTownsModel", "readHalf", "[I", true)
  | _ => ("TwoTownsModel", "readWear", "[I", true)
def tyX5 : Nat → FieldType := fun k => match k with
  | 0 => .int
  | 1 => .int
  | 2 => .array .int
  | 3 => .array .int
  | 4 => .array .int
  | 5 => .int
  | 6 => .int
  | 7 => .int
  | 8 => .array .int
  | 9 => .array .int
  | 10 => .array .int
  | 11 => .array .int
  | 12 => .array .int
  | 13 => .array .int
  | 14 => .array .int
  | 15 => .array .boolean
  | 16 => .int
  | 17 => .int
  | 18 => .int
  | 19 => .int
  | 20 => .array .int
  | 21 => .array .int
  | 22 => .int
  | 23 => .array .int
  | 24 => .array .int
  | 25 => .array .int
  | 26 => .array .int
  | 27 => .array .int
  | 28 => .array .int
  | 29 => .array .int
  | 30 => .int
  | 31 => .int
  | 32 => .array .int
  | 33 => .array .int
  | 34 => .array .int
  | _ => .array .int
abbrev wsX50 : List Cond := u_ws RX5 TX5 36
theorem nmX5 : ∀ a, a < 36 → ∀ b, b < 36 → a ≠ b → (TX5 a).2.1 ≠ (TX5 b).2.1 := by decide +kernel
theorem tyX5_ok : ∀ k, k < 36 → parseFieldDescriptor (TX5 k).2.2.1 = some (tyX5 k) := by decide +kernel
abbrev cX5_init : ByteArray := prog_7_method_1_code
def yX5_init : MethodName := ⟨RX5, "<init>", "()V"⟩
abbrev cX5_fails : ByteArray := prog_7_method_3_code
def yX5_fails : MethodName := ⟨RX5, "fails", "(I)I"⟩
abbrev cX5_lost : ByteArray := prog_7_method_4_code
def yX5_lost : MethodName := ⟨RX5, "lost", "(I)J"⟩
abbrev cX5_within : ByteArray := prog_7_method_5_code
def yX5_within : MethodName := ⟨RX5, "within", "(III)Z"⟩
abbrev cX5_isSheet : ByteArray := prog_7_method_6_code
def yX5_isSheet : MethodName := ⟨RX5, "isSheet", "(I)Z"⟩
abbrev cX5_isSort : ByteArray := prog_7_method_7_code
def yX5_isSort : MethodName := ⟨RX5, "isSort", "(I)Z"⟩
abbrev cX5_against : ByteArray := prog_7_method_8_code
def yX5_against : MethodName := ⟨RX5, "against", "(IIII)I"⟩
abbrev cX5_isHouse : ByteArray := prog_7_method_9_code
def yX5_isHouse : MethodName := ⟨RX5, "isHouse", "(I)Z"⟩
abbrev cX5_isPerson : ByteArray := prog_7_method_10_code
def yX5_isPerson : MethodName := ⟨RX5, "isPerson", "(I)Z"⟩
abbrev cX5_isWeek : ByteArray := prog_7_method_11_code
def yX5_isWeek : MethodName := ⟨RX5, "isWeek", "(I)Z"⟩
abbrev cX5_isHalf : ByteArray := prog_7_method_12_code
def yX5_isHalf : MethodName := ⟨RX5, "isHalf", "(I)Z"⟩
abbrev cX5_digit : ByteArray := prog_7_method_13_code
def yX5_digit : MethodName := ⟨RX5, "digit", "(III)I"⟩
abbrev cX5_isSign : ByteArray := prog_7_method_14_code
def yX5_isSign : MethodName := ⟨RX5, "isSign", "(II)Z"⟩
abbrev cX5_houses : ByteArray := prog_7_method_15_code
def yX5_houses : MethodName := ⟨RX5, "houses", "(IIII)I"⟩
abbrev cX5_readAll : ByteArray := prog_7_method_16_code
def yX5_readAll : MethodName := ⟨RX5, "readAll", "(I)Z"⟩
abbrev cX5_readTheSeam : ByteArray := prog_7_method_17_code
def yX5_readTheSeam : MethodName := ⟨RX5, "readTheSeam", "(I)Z"⟩
abbrev cX5_readOneHouse : ByteArray := prog_7_method_18_code
def yX5_readOneHouse : MethodName := ⟨RX5, "readOneHouse", "(I)Z"⟩
abbrev cX5_readPerson : ByteArray := prog_7_method_19_code
def yX5_readPerson : MethodName := ⟨RX5, "readPerson", "(I)Z"⟩
abbrev cX5_ofHouse : ByteArray := prog_7_method_20_code
def yX5_ofHouse : MethodName := ⟨RX5, "ofHouse", "(II)I"⟩
abbrev cX5_wants : ByteArray := prog_7_method_21_code
def yX5_wants : MethodName := ⟨RX5, "wants", "(I)I"⟩
abbrev cX5_ofPerson : ByteArray := prog_7_method_22_code
def yX5_ofPerson : MethodName := ⟨RX5, "ofPerson", "(II)I"⟩
abbrev cX5_seam : ByteArray := prog_7_method_23_code
def yX5_seam : MethodName := ⟨RX5, "seam", "(I)I"⟩
abbrev cX5_away : ByteArray := prog_7_method_24_code
def yX5_away : MethodName := ⟨RX5, "away", "(IZ)I"⟩
abbrev cX5_layGift : ByteArray := prog_7_method_25_code
def yX5_layGift : MethodName := ⟨RX5, "layGift", "(IIII)V"⟩
abbrev cX5_gift : ByteArray := prog_7_method_26_code
def yX5_gift : MethodName := ⟨RX5, "gift", "(III)I"⟩
abbrev cX5_undo : ByteArray := prog_7_method_27_code
def yX5_undo : MethodName := ⟨RX5, "undo", "(I)I"⟩
abbrev cX5_isBroken : ByteArray := prog_7_method_28_code
def yX5_isBroken : MethodName := ⟨RX5, "isBroken", "(I)Z"⟩
abbrev cX5_townIn : ByteArray := prog_7_method_29_code
def yX5_townIn : MethodName := ⟨RX5, "townIn", "(I)I"⟩
abbrev cX5_beginWeek : ByteArray := prog_7_method_30_code
def yX5_beginWeek : MethodName := ⟨RX5, "beginWeek", "(I)V"⟩
abbrev cX5_turn : ByteArray := prog_7_method_31_code
def yX5_turn : MethodName := ⟨RX5, "turn", "(I)V"⟩
abbrev cX5_mend : ByteArray := prog_7_method_32_code
def yX5_mend : MethodName := ⟨RX5, "mend", "(I)V"⟩
abbrev cX5_goHalf : ByteArray := prog_7_method_33_code
def yX5_goHalf : MethodName := ⟨RX5, "goHalf", "(II)V"⟩
abbrev cX5_goTo : ByteArray := prog_7_method_34_code
def yX5_goTo : MethodName := ⟨RX5, "goTo", "(II)V"⟩
abbrev cX5_goWeeks : ByteArray := prog_7_method_35_code
def yX5_goWeeks : MethodName := ⟨RX5, "goWeeks", "(I)V"⟩
abbrev cX5_allChills : ByteArray := prog_7_method_36_code
def yX5_allChills : MethodName := ⟨RX5, "allChills", "()I"⟩
abbrev cX5_wood : ByteArray := prog_7_method_37_code
def yX5_wood : MethodName := ⟨RX5, "wood", "(III)I"⟩
abbrev cX5_wear : ByteArray := prog_7_method_38_code
def yX5_wear : MethodName := ⟨RX5, "wear", "(III)I"⟩
abbrev cX5_cold : ByteArray := prog_7_method_39_code
def yX5_cold : MethodName := ⟨RX5, "cold", "(II)I"⟩
abbrev cX5_chills : ByteArray := prog_7_method_40_code
def yX5_chills : MethodName := ⟨RX5, "chills", "(II)I"⟩
abbrev cX5_allNow : ByteArray := prog_7_method_41_code
def yX5_allNow : MethodName := ⟨RX5, "allNow", "()I"⟩
abbrev cX5_all : ByteArray := prog_7_method_42_code
def yX5_all : MethodName := ⟨RX5, "all", "()I"⟩
abbrev cX5_breaks : ByteArray := prog_7_method_43_code
def yX5_breaks : MethodName := ⟨RX5, "breaks", "(I)I"⟩
abbrev cX5_best : ByteArray := prog_7_method_44_code
def yX5_best : MethodName := ⟨RX5, "best", "(I)I"⟩
abbrev cX5_blame : ByteArray := prog_7_method_45_code
def yX5_blame : MethodName := ⟨RX5, "blame", "(I)I"⟩
abbrev cX5_size : ByteArray := prog_7_method_46_code
def yX5_size : MethodName := ⟨RX5, "size", "(I)I"⟩
abbrev cX5_awayNow : ByteArray := prog_7_method_47_code
def yX5_awayNow : MethodName := ⟨RX5, "awayNow", "()I"⟩
abbrev cX5_layAway : ByteArray := prog_7_method_48_code
def yX5_layAway : MethodName := ⟨RX5, "layAway", "(I)V"⟩
abbrev cX5_warm : ByteArray := prog_7_method_49_code
def yX5_warm : MethodName := ⟨RX5, "warm", "(I)I"⟩
abbrev cX5_isWarmIn : ByteArray := prog_7_method_50_code
def yX5_isWarmIn : MethodName := ⟨RX5, "isWarmIn", "(I)Z"⟩
abbrev cX5_logs : ByteArray := prog_7_method_51_code
def yX5_logs : MethodName := ⟨RX5, "logs", "(I)I"⟩
abbrev cX5_allWear : ByteArray := prog_7_method_52_code
def yX5_allWear : MethodName := ⟨RX5, "allWear", "(I)I"⟩
abbrev cX5_lessWear : ByteArray := prog_7_method_53_code
def yX5_lessWear : MethodName := ⟨RX5, "lessWear", "(II)I"⟩
abbrev cX5_inLeastTerms : ByteArray := prog_7_method_54_code
def yX5_inLeastTerms : MethodName := ⟨RX5, "inLeastTerms", "(JJI)J"⟩
abbrev cX5_pays : ByteArray := prog_7_method_55_code
def yX5_pays : MethodName := ⟨RX5, "pays", "(III)J"⟩
abbrev cX5_timeOf : ByteArray := prog_7_method_56_code
def yX5_timeOf : MethodName := ⟨RX5, "timeOf", "(I)I"⟩
abbrev cX5_halvesOf : ByteArray := prog_7_method_57_code
def yX5_halvesOf : MethodName := ⟨RX5, "halvesOf", "(II)I"⟩
abbrev cX5_together : ByteArray := prog_7_method_58_code
def yX5_together : MethodName := ⟨RX5, "together", "(III)I"⟩
abbrev cX5_third : ByteArray := prog_7_method_59_code
def yX5_third : MethodName := ⟨RX5, "third", "(I)I"⟩
abbrev cX5_row : ByteArray := prog_7_method_60_code
def yX5_row : MethodName := ⟨RX5, "row", "(IIII)I"⟩
abbrev cX5_reading : ByteArray := prog_7_method_61_code
def yX5_reading : MethodName := ⟨RX5, "reading", "(IIII)I"⟩
abbrev cX5_back : ByteArray := prog_7_method_62_code
def yX5_back : MethodName := ⟨RX5, "back", "(I)I"⟩
abbrev cX5_areSo : ByteArray := prog_7_method_63_code
def yX5_areSo : MethodName := ⟨RX5, "areSo", "()Z"⟩
abbrev cX5_gone : ByteArray := prog_7_method_64_code
def yX5_gone : MethodName := ⟨RX5, "gone", "()I"⟩
abbrev cX5_seams : ByteArray := prog_7_method_65_code
def yX5_seams : MethodName := ⟨RX5, "seams", "()I"⟩
abbrev cX5_kinds : ByteArray := prog_7_method_66_code
def yX5_kinds : MethodName := ⟨RX5, "kinds", "(I)I"⟩
abbrev cX5_odds : ByteArray := prog_7_method_67_code
def yX5_odds : MethodName := ⟨RX5, "odds", "(II)J"⟩
abbrev cX5_sheet : ByteArray := prog_7_method_68_code
def yX5_sheet : MethodName := ⟨RX5, "sheet", "(III)I"⟩
abbrev cX5_lose : ByteArray := prog_7_method_69_code
def yX5_lose : MethodName := ⟨RX5, "lose", "(I)I"⟩
abbrev cX5_put : ByteArray := prog_7_method_70_code
def yX5_put : MethodName := ⟨RX5, "put", "(III)I"⟩
abbrev cX5_cell : ByteArray := prog_7_method_71_code
def yX5_cell : MethodName := ⟨RX5, "cell", "(III)J"⟩
abbrev cX5_copy : ByteArray := prog_7_method_72_code
def yX5_copy : MethodName := ⟨RX5, "copy", "(IIIII)I"⟩
abbrev cX5_begins : ByteArray := prog_7_method_73_code
def yX5_begins : MethodName := ⟨RX5, "begins", "(I)V"⟩
abbrev cX5_tell : ByteArray := prog_7_method_74_code
def yX5_tell : MethodName := ⟨RX5, "tell", "(I)I"⟩
abbrev cX5_knock : ByteArray := prog_7_method_75_code
def yX5_knock : MethodName := ⟨RX5, "knock", "(I)I"⟩
abbrev cX5_as : ByteArray := prog_7_method_76_code
def yX5_as : MethodName := ⟨RX5, "as", "(II)I"⟩
abbrev cX5_trace : ByteArray := prog_7_method_77_code
def yX5_trace : MethodName := ⟨RX5, "trace", "()I"⟩
abbrev cX5_fault : ByteArray := prog_7_method_78_code
def yX5_fault : MethodName := ⟨RX5, "fault", "()I"⟩
abbrev cX5_many : ByteArray := prog_7_method_79_code
def yX5_many : MethodName := ⟨RX5, "many", "(I)I"⟩
def RJ6 : String := "java/lang/Integer"
def TJ6 : u_T := fun k => match k with
  | _ => ("", "", "", false)
def tyJ6 : Nat → FieldType := fun k => match k with
  | _ => .int
abbrev wsJ60 : List Cond := u_ws RJ6 TJ6 0
theorem nmJ6 : ∀ a, a < 0 → ∀ b, b < 0 → a ≠ b → (TJ6 a).2.1 ≠ (TJ6 b).2.1 := by decide +kernel
theorem tyJ6_ok : ∀ k, k < 0 → parseFieldDescriptor (TJ6 k).2.2.1 = some (tyJ6 k) := by decide +kernel
abbrev cJ6_bitCount_0f7a4 : ByteArray := prog_8_method_49_code
def yJ6_bitCount_0f7a4 : MethodName := ⟨RJ6, "bitCount", "(I)I"⟩
def RJ9 : String := "java/lang/Math"
def TJ9 : u_T := fun k => match k with
  | _ => ("", "", "", false)
def tyJ9 : Nat → FieldType := fun k => match k with
  | _ => .int
abbrev wsJ90 : List Cond := u_ws RJ9 TJ9 0
theorem nmJ9 : ∀ a, a < 0 → ∀ b, b < 0 → a ≠ b → (TJ9 a).2.1 ≠ (TJ9 b).2.1 := by decide +kernel
theorem tyJ9_ok : ∀ k, k < 0 → parseFieldDescriptor (TJ9 k).2.2.1 = some (tyJ9 k) := by decide +kernel
abbrev cJ9_max_7cf53 : ByteArray := prog_9_method_65_code
def yJ9_max_7cf53 : MethodName := ⟨RJ9, "max", "(II)I"⟩
abbrev cJ9_min_7cf53 : ByteArray := prog_9_method_69_code
def yJ9_min_7cf53 : MethodName := ⟨RJ9, "min", "(II)I"⟩
def RJ10 : String := "java/lang/System"
def TJ10 : u_T := fun k => match k with
  | _ => ("", "", "", false)
def tyJ10 : Nat → FieldType := fun k => match k with
  | _ => .int
abbrev wsJ100 : List Cond := u_ws RJ10 TJ10 0
theorem nmJ10 : ∀ a, a < 0 → ∀ b, b < 0 → a ≠ b → (TJ10 a).2.1 ≠ (TJ10 b).2.1 := by decide +kernel
theorem tyJ10_ok : ∀ k, k < 0 → parseFieldDescriptor (TJ10 k).2.2.1 = some (tyJ10 k) := by decide +kernel
def RJ7 : String := "java/util/Arrays"
def TJ7 : u_T := fun k => match k with
  | _ => ("", "", "", false)
def tyJ7 : Nat → FieldType := fun k => match k with
  | _ => .int
abbrev wsJ70 : List Cond := u_ws RJ7 TJ7 0
theorem nmJ7 : ∀ a, a < 0 → ∀ b, b < 0 → a ≠ b → (TJ7 a).2.1 ≠ (TJ7 b).2.1 := by decide +kernel
theorem tyJ7_ok : ∀ k, k < 0 → parseFieldDescriptor (TJ7 k).2.2.1 = some (tyJ7 k) := by decide +kernel
abbrev cJ7_fill_53178 : ByteArray := prog_11_method_103_code
def yJ7_fill_53178 : MethodName := ⟨RJ7, "fill", "([II)V"⟩
def RL : String := "TwoTownsLaw"
abbrev cL_law : ByteArray := code
def yL_law : MethodName := ⟨RL, "law", "([I)Z"⟩
abbrev vwCl : List vw_C := [(RX0, TX0, 5), (RX1, TX1, 3), (RX2, TX2, 12), (RX3, TX3, 12), (RX4, TX4, 11), (RX5, TX5, 36)]
end
section
/-! THE GROUND: one world for all methods. Cell 0 is the script; the cells 1 .. are those that the run makes, in the order in which they are made. mu: whole numbers of a cell; pi: its references. -/
def kTS : List Cond := lw_tbl.filter goodWord
abbrev kWd : Type := Nat × (Nat → Nat → Int32) × (Nat → Nat → Option Nat)
abbrev kGm : Type := Launch × va_G × (Nat → ClassId) × Nat × Nat × Nat × (Nat → Int32)
abbrev kMI : Type := String × ByteArray × Nat × Option FieldType × String
abbrev kZ : Type := List Frame → Array Value → State → State → Prop
abbrev kb (Γ : kGm) : Nat := Γ.2.2.2.1
abbrev kbs (Γ : kGm) : Nat := Γ.2.2.2.2.1
abbrev kLn (Γ : kGm) : Nat := Γ.2.2.2.2.2.1
abbrev kxs (Γ : kGm) : Nat → Int32 := Γ.2.2.2.2.2.2
def kad (Γ : kGm) (k : Nat) : Nat := if k = 0 then kb Γ else kbs Γ + k
def kcv (Γ : kGm) : Value → Value
  | .ref k => .ref (kad Γ k)
  | v => v
def kA (Γ : kGm) : Nat → Prop := fun q => kbs Γ < q
/-- the kind of each cell (0 .. 5 a class, 10 ints, 11 booleans, 12 references) and its length -/
def kSH : List (Nat × Nat) := [(10, 0),
  (4, 11), (12, 4), (0, 5), (10, 6), (10, 6), (10, 6), (0, 5), (10, 8), (10, 8), (10, 8),
  (2, 12), (10, 4), (10, 4), (10, 6), (10, 6), (10, 6), (10, 6), (10, 6), (2, 12), (10, 4), (10, 4), (10, 6), (10, 6), (10, 6), (10, 6), (10, 6),
  (3, 12), (10, 560), (10, 560), (10, 140), (10, 4), (10, 4), (10, 6), (3, 12), (10, 560), (10, 560), (10, 140), (10, 4), (10, 4), (10, 6),
  (1, 3), (10, 60), (1, 3), (10, 60), (1, 3), (10, 60), (1, 3), (10, 60),
  (5, 36), (10, 4), (10, 4), (10, 240), (10, 4), (10, 4), (10, 6), (10, 6), (10, 6), (10, 6), (10, 6), (11, 6), (10, 8), (10, 30), (10, 7), (10, 7), (10, 7), (10, 4), (10, 4), (10, 6), (10, 4), (10, 8), (10, 8), (10, 8), (10, 8)]
def ksh (k : Nat) : Nat × Nat := kSH.getD k (99, 0)
/-- which fields of a class are whole numbers -/
def kint (c j : Nat) : Bool := match c with
  | 0 => j == 0 || j == 4
  | 1 => j == 1 || j == 2
  | 2 => decide (7 ≤ j)
  | 3 => decide (8 ≤ j)
  | 4 => decide (7 ≤ j)
  | _ => j == 0 || j == 1 || j == 5 || j == 6 || j == 7 || j == 16 || j == 17 || j == 18 || j == 19 || j == 22 || j == 30 || j == 31
def kN (c : Nat) : Nat := match c with
  | 0 => 5
  | 1 => 3
  | 2 => 12
  | 3 => 12
  | 4 => 11
  | _ => 36
def kT (c : Nat) : u_T := match c with
  | 0 => TX0
  | 1 => TX1
  | 2 => TX2
  | 3 => TX3
  | 4 => TX4
  | _ => TX5
def kR (c : Nat) : String := match c with
  | 0 => RX0
  | 1 => RX1
  | 2 => RX2
  | 3 => RX3
  | 4 => RX4
  | _ => RX5
def kTy (c : Nat) : Nat → FieldType := match c with
  | 0 => tyX0
  | 1 => tyX1
  | 2 => tyX2
  | 3 => tyX3
  | 4 => tyX4
  | _ => tyX5
def kFE (own : String) (i ci j : Nat) : Prop := ci < 6 ∧ j < kN ci ∧ Cond.fieldLink own i (kT ci j).1 (kT ci j).2.1 (kT ci j).2.2.1 ∈ kTS
def kfv (Γ : kGm) (ω : kWd) (c k j : Nat) : Value := if kint c j = true then .int (ω.2.1 k j) else va_rf ((ω.2.2 k j).map (kad Γ))
def kfs (Γ : kGm) (ω : kWd) (c k : Nat) : List Value := (List.range (kN c)).map (kfv Γ ω c k)
def kent (Γ : kGm) (ω : kWd) (k : Nat) : va_E :=
  if (ksh k).1 = 10 then .inl (Γ.2.2.1 0, (ksh k).2, .inl (ω.2.1 k)) else
  if (ksh k).1 = 11 then .inl (Γ.2.2.1 1, (ksh k).2, .inl (ω.2.1 k)) else
  if (ksh k).1 = 12 then .inl (Γ.2.2.1 2, (ksh k).2, .inr (.inr (.inr (.inr (fun j => (ω.2.2 k j).map (kad Γ)))))) else
  .inr ((ksh k).1, kfs Γ ω (ksh k).1 k)
def kws (Γ : kGm) (ω : kWd) : va_W := (List.range (ω.1 - 1)).map (fun k => (kbs Γ + (k + 1), kent Γ ω (k + 1)))
def kRep (Γ : kGm) (ω : kWd) (H : Heap) : Prop := 0 < ω.1 ∧ (ω.1 < 74 → H.size = kbs Γ + ω.1) ∧ va_P Γ.2.1 vwCl (kws Γ ω) H
def sA (ω : kWd) (k : Nat) (f : Nat → Int32) : kWd := (ω.1, fun a => if a = k then f else ω.2.1 a, ω.2.2)
def sI (ω : kWd) (k j : Nat) (v : Int32) : kWd := sA ω k (upd (ω.2.1 k) j v)
def sP (ω : kWd) (k j : Nat) (p : Option Nat) : kWd := (ω.1, ω.2.1, fun a => if a = k then va_up (ω.2.2 k) j p else ω.2.2 a)
abbrev kN1 : Cond := .methodLinkNest RX4 31 yX2_init RX4
abbrev kN2 : Cond := .methodLinkNest RX4 65 yX1_init RX4
abbrev kN3 : Cond := .methodLinkNest RX3 63 yX4_wantsOf RX4
def kty (Γ : kGm) : List (ClassId × FieldType) := [(Γ.2.2.1 0, .int), (Γ.2.2.1 1, .boolean), (Γ.2.2.1 2, .object RX1)]
def kKS (Γ : kGm) (U : State) : Prop := va_K Γ.2.1 vwCl (kty Γ) U ∧ va_Nw kN1 U ∧ va_Nw kN2 U ∧ va_Nw kN3 U ∧ va_AO RX1 U
def kCx (Γ : kGm) (mi : kMI) (p : Program) (s : State) (m : MethodId) (args : Array Value) (meth : Method) (c : Code) : Prop :=
  p.tables.exec = Jvm.exec ∧ c.code = mi.2.1 ∧ meth.sig.returnType = mi.2.2.2.1 ∧ c.maxLocals = mi.2.2.1 ∧ s.vm.findClass mi.1 = some m.cls ∧ (∀ w ∈ kTS, w.before args s = true) ∧ meth.locks = false ∧ (mi.2.2.2.2 = "<init>" → meth.name = "<init>") ∧ kKS Γ s ∧ kbs Γ < s.heap.size ∧ (mi.1 = RL → va_X (kb Γ) (kLn Γ) (kxs Γ) s s.heap ∧ kb Γ < s.heap.size ∧ kb Γ ≤ kbs Γ)
def kLv (Γ : kGm) (nL : Nat) (L : List (Option Value)) (ls : Array Slot) : Prop := ls.size = nL ∧ lv_wf ls ∧ ∀ (k : Nat) (v : Value), L[k]? = some (some v) → ls[k]? = some (Slot.val (kcv Γ v))
def kG (Γ : kGm) (mi : kMI) (R : Room) (cs : Nat × Nat) (pc : Nat) (L : List (Option Value)) (st : List Value) (ω : kWd) (Z : kZ) : Prop :=
  ∀ (p : Program) (e : Env) (s : State) (m : MethodId) (args : Array Value) (below : List Frame) (meth : Method) (c : Code) (H : Heap) (locs : List Loc) (ls : Array Slot),
    kCx Γ mi p s m args meth c → kRep Γ ω H → va_S (kA Γ) s.heap H locs → kLv Γ mi.2.2.1 L ls → W p Γ.1 e R s m args below meth c H locs cs.1 cs.2 (Z below args s) (F0 m pc ls (st.map (kcv Γ)))
def kQc (Γ : kGm) (Q : Option Value → kWd → Prop) : Array Value → State → Outcome → State → Prop := fun _ st oc t => (∃ (r : Option Value) (ω : kWd), oc = .returned (r.map (kcv Γ)) ∧ Q r ω ∧ kRep Γ ω t.heap) ∧ va_F (kA Γ) st t
def kMZ (Γ : kGm) (R : Room) (Q : Option Value → kWd → Prop) : kZ := fun below args s => MQ below (kQc Γ Q) args s R.cells R.slots (kA Γ)
abbrev kWs (y : MethodName) (mi : kMI) : List Cond := Cond.code y mi.2.1 mi.2.2.1 mi.2.2.2.1 :: kTS
def kC (Γ : kGm) (y : MethodName) (mi : kMI) (R : Room) (as : List Value) (ω : kWd) (Q : Option Value → kWd → Prop) : Prop :=
  Met Γ.1 y (kWs y mi) R (va_Pc (as.map (kcv Γ)) (fun U => kRep Γ ω U.heap ∧ kKS Γ U)) (kQc Γ Q) R.cells R.slots (kA Γ)
abbrev kRm (d mc ms : Nat) : Room := { frames := d, cells := mc, slots := ms, locals := 40 * d }
/-! what the world's list is -/
theorem kws_len (Γ : kGm) (ω : kWd) : (kws Γ ω).length = ω.1 - 1 := by simp [kws]
theorem kws_at {Γ : kGm} {ω : kWd} {k : Nat} (h : 0 < k) (h2 : k < ω.1) : (kws Γ ω)[k - 1]? = some (kad Γ k, kent Γ ω k) := by
  have e : k - 1 + 1 = k := by omega
  have h3 : k - 1 < ω.1 - 1 := by omega
  simp [kws, List.getElem?_map, List.getElem?_range h3, e, kad, Nat.ne_of_gt h]
theorem kws_get {Γ : kGm} {ω : kWd} {i : Nat} {q : Nat × va_E} (h : (kws Γ ω)[i]? = some q) : i < ω.1 - 1 ∧ q = (kbs Γ + (i + 1), kent Γ ω (i + 1)) := by
  have hl : i < (kws Γ ω).length := (List.getElem?_eq_some_iff.mp h).1
  rw [kws_len] at hl
  refine ⟨hl, ?_⟩
  rw [kws, List.getElem?_map, List.getElem?_range hl] at h
  exact (Option.some.inj h).symm
theorem kws_D (Γ : kGm) (ω : kWd) : va_D (kA Γ) (kws Γ ω) := by
  refine ⟨fun i j p q hi hj hpq => ?_, fun k q hk => ?_⟩
  · obtain ⟨-, rfl⟩ := kws_get hi
    obtain ⟨-, rfl⟩ := kws_get hj
    simp only at hpq
    omega
  · obtain ⟨-, rfl⟩ := kws_get hk
    show kbs Γ < kbs Γ + (k + 1)
    omega
theorem kws_set {Γ : kGm} {ω ω' : kWd} {k : Nat} (h : 0 < k) (h2 : k < ω.1) (e1 : ω'.1 = ω.1) (e2 : ∀ a, a ≠ k → kent Γ ω' a = kent Γ ω a) : (kws Γ ω).set (k - 1) (kad Γ k, kent Γ ω' k) = kws Γ ω' := by
  apply List.ext_getElem?
  intro i
  by_cases hi : i = k - 1
  · subst hi
    rw [List.getElem?_set_self (by rw [kws_len]; omega), kws_at h (by rw [e1]; exact h2)]
  · rw [List.getElem?_set_ne (Ne.symm hi)]
    simp only [kws, List.getElem?_map, e1]
    by_cases hl : i < ω.1 - 1
    · rw [List.getElem?_range hl]
      simp only [Option.map_some]
      rw [e2 (i + 1) (by omega)]
    · rw [List.getElem?_eq_none (by simpa using hl)]
      rfl
theorem kent_off_sA {Γ : kGm} {ω : kWd} {k a : Nat} {f : Nat → Int32} (h : a ≠ k) : kent Γ (sA ω k f) a = kent Γ ω a := by
  have e : ∀ c, kfs Γ (sA ω k f) c a = kfs Γ ω c a := fun c => by
    unfold kfs
    congr 1
    funext j
    simp [kfv, sA, h]
  simp only [kent, e]
  simp [sA, h]
theorem kent_off_sP {Γ : kGm} {ω : kWd} {k a j : Nat} {p : Option Nat} (h : a ≠ k) : kent Γ (sP ω k j p) a = kent Γ ω a := by
  have e : ∀ c, kfs Γ (sP ω k j p) c a = kfs Γ ω c a := fun c => by
    unfold kfs
    congr 1
    funext i
    simp [kfv, sP, h]
  simp only [kent, e]
  simp [sP, h]
theorem kws_sA {Γ : kGm} {ω : kWd} {k : Nat} {f : Nat → Int32} (h : 0 < k) (h2 : k < ω.1) : (kws Γ ω).set (k - 1) (kad Γ k, kent Γ (sA ω k f) k) = kws Γ (sA ω k f) := kws_set h h2 rfl (fun _ ha => kent_off_sA ha)
theorem kws_sP {Γ : kGm} {ω : kWd} {k j : Nat} {p : Option Nat} (h : 0 < k) (h2 : k < ω.1) : (kws Γ ω).set (k - 1) (kad Γ k, kent Γ (sP ω k j p) k) = kws Γ (sP ω k j p) := kws_set h h2 rfl (fun _ ha => kent_off_sP ha)
theorem kent_obj {Γ : kGm} {ω : kWd} {k c : Nat} (h : (ksh k).1 = c) (hc : c < 6) : kent Γ ω k = .inr (c, kfs Γ ω c k) := by
  unfold kent
  rw [h, if_neg (by omega), if_neg (by omega), if_neg (by omega)]
theorem kent_i {Γ : kGm} {ω : kWd} {k n : Nat} (h : ksh k = (10, n)) : kent Γ ω k = .inl (Γ.2.2.1 0, n, .inl (ω.2.1 k)) := by
  unfold kent
  rw [h]; rfl
theorem kent_z {Γ : kGm} {ω : kWd} {k n : Nat} (h : ksh k = (11, n)) : kent Γ ω k = .inl (Γ.2.2.1 1, n, .inl (ω.2.1 k)) := by
  unfold kent
  rw [h]; rfl
theorem kent_q {Γ : kGm} {ω : kWd} {k n : Nat} (h : ksh k = (12, n)) : kent Γ ω k = .inl (Γ.2.2.1 2, n, .inr (.inr (.inr (.inr (fun j => (ω.2.2 k j).map (kad Γ)))))) := by
  unfold kent
  rw [h]; rfl
theorem kfs_get {Γ : kGm} {ω : kWd} {c k j : Nat} (h : j < kN c) : (kfs Γ ω c k)[j]? = some (kfv Γ ω c k j) := by
  simp [kfs, List.getElem?_map, List.getElem?_range h]
theorem kfs_len (Γ : kGm) (ω : kWd) (c k : Nat) : (kfs Γ ω c k).length = kN c := by simp [kfs]
theorem kfs_set {Γ : kGm} {ω ω' : kWd} {c k j : Nat} {v : Value} (h : j < kN c) (e : kfv Γ ω' c k j = v) (e2 : ∀ i, i ≠ j → kfv Γ ω' c k i = kfv Γ ω c k i) : (kfs Γ ω c k).set j v = kfs Γ ω' c k := by
  apply List.ext_getElem?
  intro i
  by_cases hi : i = j
  · subst hi
    rw [List.getElem?_set_self (by rw [kfs_len]; exact h), kfs_get h, e]
  · rw [List.getElem?_set_ne (Ne.symm hi)]
    simp only [kfs, List.getElem?_map]
    by_cases hl : i < kN c
    · rw [List.getElem?_range hl]
      simp only [Option.map_some]
      rw [e2 i hi]
    · rw [List.getElem?_eq_none (by simpa using hl)]
      rfl
theorem kfv_int {Γ : kGm} {ω : kWd} {c k j : Nat} (h : kint c j = true) : kfv Γ ω c k j = .int (ω.2.1 k j) := by simp [kfv, h]
theorem kfv_ref {Γ : kGm} {ω : kWd} {c k j : Nat} (h : kint c j = false) : kfv Γ ω c k j = va_rf ((ω.2.2 k j).map (kad Γ)) := by simp [kfv, h]
theorem kfs_sI {Γ : kGm} {ω : kWd} {c k j : Nat} {x : Int32} (h : j < kN c) (hi : kint c j = true) : (kfs Γ ω c k).set j (.int x) = kfs Γ (sI ω k j x) c k := by
  refine kfs_set h ?_ (fun i hij => ?_)
  · rw [kfv_int hi]; simp [sI, sA, upd]
  · simp [kfv, sI, sA, upd, hij]
theorem kfs_sP {Γ : kGm} {ω : kWd} {c k j i : Nat} (h : j < kN c) (hi : kint c j = false) : (kfs Γ ω c k).set j (.ref (kad Γ i)) = kfs Γ (sP ω k j (some i)) c k := by
  refine kfs_set h ?_ (fun a haj => ?_)
  · rw [kfv_ref hi]; simp [sP, va_up, va_rf]
  · simp [kfv, sP, va_up, haj]
/-! words -/
theorem kTS_good : ∀ w ∈ kTS, (w.onTables && w.keeps) = true ∨ ∃ ty, w = .arrayClass ty := fun w h => good_of_word (List.mem_filter.mp h).2
theorem kTS_i {w : Cond} (i : Nat) (h : lw_tbl[i]? = some w) (hg : goodWord w = true) : w ∈ kTS := List.mem_filter.mpr ⟨List.mem_of_getElem? h, hg⟩
theorem kGood_sub {ws : List Cond} (h : ∀ w ∈ ws, w ∈ kTS) : GoodIn kTS ws := fun w hw => ⟨h w hw, kTS_good w (h w hw)⟩
theorem kKS.warm {Γ : kGm} {s U : State} (h : kKS Γ s) (hW : s.WarmedH U.vm) : kKS Γ U := ⟨va_K.moved hW.alike h.1, va_Nw.warmM hW h.2.1, va_Nw.warmM hW h.2.2.1, va_Nw.warmM hW h.2.2.2.1, va_AO.moved hW.alike h.2.2.2.2⟩
theorem kKS.call {Γ : kGm} {U : State} {g : JFrame} {mk : MethodId} {a : Array Value} (h : kKS Γ U) : kKS Γ (U.calling g mk a) := ⟨va_K.moved (u := U) (U := U.calling g mk a) (Vm.Alike.refl U.vm) h.1, va_Nw.same rfl rfl h.2.1, va_Nw.same rfl rfl h.2.2.1, va_Nw.same rfl rfl h.2.2.2.1, va_AO.moved (u := U) (U := U.calling g mk a) (Vm.Alike.refl U.vm) h.2.2.2.2⟩
theorem kTS_l {ws : List Cond} (ps : List Nat) (h : ws = ps.filterMap (fun i => lw_tbl[i]?)) (hg : ws.all goodWord = true) : ∀ w ∈ ws, w ∈ kTS := fun w hw => by
  refine List.mem_filter.mpr ⟨?_, List.all_eq_true.mp hg w hw⟩
  rw [h] at hw
  obtain ⟨i, -, hi⟩ := List.mem_filterMap.mp hw
  exact List.mem_of_getElem? hi
theorem kin0 : ∀ w ∈ u_ws RX0 TX0 5, w ∈ kTS := kTS_l [93, 95, 97, 99, 101] (by decide +kernel) (by decide +kernel)
theorem kin1 : ∀ w ∈ u_ws RX1 TX1 3, w ∈ kTS := kTS_l [223, 225, 227] (by decide +kernel) (by decide +kernel)
theorem kin2 : ∀ w ∈ u_ws RX2 TX2 12, w ∈ kTS := kTS_l [141, 143, 145, 147, 149, 151, 153, 155, 157, 159, 161, 163] (by decide +kernel) (by decide +kernel)
theorem kin3 : ∀ w ∈ u_ws RX3 TX3 12, w ∈ kTS := kTS_l [188, 190, 192, 194, 196, 198, 200, 202, 204, 206, 208, 210] (by decide +kernel) (by decide +kernel)
theorem kin4 : ∀ w ∈ u_ws RX4 TX4 11, w ∈ kTS := kTS_l [241, 243, 245, 247, 249, 251, 253, 255, 257, 259, 261] (by decide +kernel) (by decide +kernel)
theorem kin5 : ∀ w ∈ u_ws RX5 TX5 36, w ∈ kTS := kTS_l [713, 715, 717, 719, 721, 723, 725, 727, 729, 731, 733, 735, 737, 739, 741, 743, 745, 747, 749, 751, 753, 755, 757, 759, 761, 763, 765, 767, 769, 771, 773, 775, 777, 779, 781, 783] (by decide +kernel) (by decide +kernel)
theorem kcl {ci : Nat} (h : ci < 6) : vwCl[ci]? = some (kR ci, kT ci, kN ci) ∧ (∀ w ∈ u_ws (kR ci) (kT ci) (kN ci), w ∈ kTS) ∧ (∀ k, k < kN ci → parseFieldDescriptor (kT ci k).2.2.1 = some (kTy ci k)) ∧ (∀ a, a < kN ci → ∀ b, b < kN ci → a ≠ b → (kT ci a).2.1 ≠ (kT ci b).2.1) := by
  match ci, h with
  | 0, _ => exact ⟨rfl, kin0, tyX0_ok, nmX0⟩
  | 1, _ => exact ⟨rfl, kin1, tyX1_ok, nmX1⟩
  | 2, _ => exact ⟨rfl, kin2, tyX2_ok, nmX2⟩
  | 3, _ => exact ⟨rfl, kin3, tyX3_ok, nmX3⟩
  | 4, _ => exact ⟨rfl, kin4, tyX4_ok, nmX4⟩
  | 5, _ => exact ⟨rfl, kin5, tyX5_ok, nmX5⟩
theorem kmax_s : Cond.static Lib.Math.max.name ∈ kTS := kTS_i 85 (by decide +kernel) (by decide +kernel)
theorem kmin_s : Cond.static Lib.Math.min.name ∈ kTS := kTS_i 429 (by decide +kernel) (by decide +kernel)
theorem kmath_i : Cond.initialized "java/lang/Math" ∈ kTS := kTS_i 60 (by decide +kernel) (by decide +kernel)
theorem kmax_c : Cond.code Lib.Math.max.name Lib.Math.max.code 2 (some .int) ∈ kTS := kTS_i 86 (by decide +kernel) (by decide +kernel)
theorem kmin_c : Cond.code Lib.Math.min.name Lib.Math.min.code 2 (some .int) ∈ kTS := kTS_i 430 (by decide +kernel) (by decide +kernel)
theorem kobj_i : Cond.instanceMethod objectInit ∈ kTS := kTS_i 74 (by decide +kernel) (by decide +kernel)
theorem kobj_c : Cond.code objectInit ⟨#[0xb1]⟩ 1 none ∈ kTS := kTS_i 75 (by decide +kernel) (by decide +kernel)
theorem karr_i : Cond.arrayClass .int ∈ kTS := kTS_i 104 (by decide +kernel) (by decide +kernel)
theorem karr_z : Cond.arrayClass .boolean ∈ kTS := kTS_i 786 (by decide +kernel) (by decide +kernel)
theorem kcopy_n : Cond.native arraycopyName ∈ kTS := kTS_i 630 (by decide +kernel) (by decide +kernel)
theorem kcopy_s : Cond.static arraycopyName ∈ kTS := kTS_i 629 (by decide +kernel) (by decide +kernel)
theorem kcopy_i : Cond.initialized "java/lang/System" ∈ kTS := kTS_i 67 (by decide +kernel) (by decide +kernel)
/-! locals by their places -/
theorem kcv_cat (Γ : kGm) (v : Value) : (kcv Γ v).category = v.category := by cases v <;> rfl
def kok (L : List (Option Value)) (i : Nat) : Bool := match i with
  | 0 => true
  | i + 1 => match L[i]? with
    | some (some v) => v.category == 1
    | _ => true
def kLl (Γ : kGm) (L : List (Option Value)) : List (Nat × Value) := (List.range L.length).filterMap (fun k => (L[k]?.join).map (fun v => (k, kcv Γ v)))
theorem kLl_mem {Γ : kGm} {L : List (Option Value)} {q : Nat × Value} : q ∈ kLl Γ L ↔ ∃ v, L[q.1]? = some (some v) ∧ q.2 = kcv Γ v := by
  constructor
  · intro h
    obtain ⟨k, hk, e⟩ := List.mem_filterMap.mp h
    cases hL : L[k]? with
    | none => rw [hL] at e; cases e
    | some o =>
      cases o with
      | none => rw [hL] at e; cases e
      | some v =>
        rw [hL] at e
        obtain rfl := Option.some.inj e
        exact ⟨v, hL, rfl⟩
  · rintro ⟨v, h1, h2⟩
    refine List.mem_filterMap.mpr ⟨q.1, List.mem_range.mpr (List.getElem?_eq_some_iff.mp h1).1, ?_⟩
    rw [h1]
    show some (q.1, kcv Γ v) = some q
    rw [← h2]
theorem kLl_get {Γ : kGm} {L : List (Option Value)} {i : Nat} {x : Int32} (h : L[i]? = some (some (.int x))) : ∃ j : Nat, (kLl Γ L)[j]? = some (i, Value.int x) := List.getElem?_of_mem (kLl_mem.mpr ⟨_, h, rfl⟩)
theorem kLv_has {Γ : kGm} {nL : Nat} {L : List (Option Value)} {ls : Array Slot} (V : kLv Γ nL L ls) : lv_has ls nL (kLl Γ L) := ⟨V.1, V.2.1, fun q hq => by
  obtain ⟨v, h1, h2⟩ := kLl_mem.mp hq
  rw [h2]
  exact V.2.2 _ _ h1⟩
theorem kok_use {L : List (Option Value)} {i k : Nat} {v : Value} (h : kok L i = true) (hk : k + 1 = i) (hv : L[k]? = some (some v)) : v.category = 1 := by
  subst hk
  simp only [kok, hv] at h
  simpa using h
theorem kLv_set1 {Γ : kGm} {nL i : Nat} {L : List (Option Value)} {ls ls' : Array Slot} {x : Value} {y : Value} (V : kLv Γ nL L ls) (hxy : kcv Γ x = y) (ho : kok L i = true) (h : lv_has ls' nL ((i, y) :: (kLl Γ L).filter (fun q => !(q.1 == i) && !(q.1 + 1 == i && q.2.category == 2)))) : kLv Γ nL (L.set i (some x)) ls' := by
  refine ⟨h.1, h.2.1, fun k v hk => ?_⟩
  by_cases hki : k = i
  · subst hki
    have hl : k < (L.set k (some x)).length := (List.getElem?_eq_some_iff.mp hk).1
    rw [List.length_set] at hl
    rw [List.getElem?_set_self hl] at hk
    cases hk
    rw [hxy]
    exact h.2.2 (k, y) List.mem_cons_self
  · rw [List.getElem?_set_ne (Ne.symm hki)] at hk
    refine h.2.2 (k, kcv Γ v) (List.mem_cons_of_mem _ (List.mem_filter.mpr ⟨kLl_mem.mpr ⟨v, hk, rfl⟩, ?_⟩))
    have h2 : ¬ (k + 1 = i ∧ (kcv Γ v).category = 2) := by
      rintro ⟨a, b⟩
      rw [kcv_cat, kok_use ho a hk] at b
      cases b
    simp only [Bool.and_eq_true, Bool.not_eq_true', beq_eq_false_iff_ne, ne_eq]
    refine ⟨hki, ?_⟩
    rw [Bool.and_eq_false_iff]
    by_cases ha : k + 1 = i
    · exact Or.inr (by simp only [beq_eq_false_iff_ne, ne_eq]; exact fun b => h2 ⟨ha, b⟩)
    · exact Or.inl (by simp only [beq_eq_false_iff_ne, ne_eq]; exact ha)
theorem kLv_set2 {Γ : kGm} {nL i : Nat} {L : List (Option Value)} {ls ls' : Array Slot} {x : Int64} (V : kLv Γ nL L ls) (ho : kok L i = true) (h : lv_has ls' nL ((i, .long x) :: (kLl Γ L).filter (fun q => !(q.1 == i) && (!(q.1 == i + 1) && !(q.1 + 1 == i && q.2.category == 2))))) : kLv Γ nL ((L.set i (some (.long x))).set (i + 1) none) ls' := by
  refine ⟨h.1, h.2.1, fun k v hk => ?_⟩
  by_cases hk1 : k = i + 1
  · subst hk1
    have hl : i + 1 < ((L.set i (some (.long x))).set (i + 1) none).length := (List.getElem?_eq_some_iff.mp hk).1
    rw [List.length_set] at hl
    rw [List.getElem?_set_self hl] at hk
    cases hk
  · rw [List.getElem?_set_ne (Ne.symm hk1)] at hk
    by_cases hki : k = i
    · subst hki
      have hl : k < (L.set k (some (Value.long x))).length := (List.getElem?_eq_some_iff.mp hk).1
      rw [List.length_set] at hl
      rw [List.getElem?_set_self hl] at hk
      cases hk
      exact h.2.2 (k, .long x) List.mem_cons_self
    · rw [List.getElem?_set_ne (Ne.symm hki)] at hk
      refine h.2.2 (k, kcv Γ v) (List.mem_cons_of_mem _ (List.mem_filter.mpr ⟨kLl_mem.mpr ⟨v, hk, rfl⟩, ?_⟩))
      have h2 : ¬ (k + 1 = i ∧ (kcv Γ v).category = 2) := by
        rintro ⟨a, b⟩
        rw [kcv_cat, kok_use ho a hk] at b
        cases b
      simp only [Bool.and_eq_true, Bool.not_eq_true', beq_eq_false_iff_ne, ne_eq]
      refine ⟨hki, hk1, ?_⟩
      rw [Bool.and_eq_false_iff]
      by_cases ha : k + 1 = i
      · exact Or.inr (by simp only [beq_eq_false_iff_ne, ne_eq]; exact fun b => h2 ⟨ha, b⟩)
      · exact Or.inl (by simp only [beq_eq_false_iff_ne, ne_eq]; exact ha)
/-- L' knows no more than L -/
def kLe : List (Option Value) → List (Option Value) → Prop
  | [], _ => True
  | none :: a, _ :: b => kLe a b
  | some v :: a, x :: b => x = some v ∧ kLe a b
  | none :: a, [] => kLe a []
  | some _ :: _, [] => False
theorem kLe_get : ∀ {L' L : List (Option Value)} (_ : kLe L' L) {k : Nat} {v : Value}, L'[k]? = some (some v) → L[k]? = some (some v)
  | [], _, _, k, v, hk => by simp at hk
  | none :: a, x :: b, h, 0, v, hk => by simp at hk
  | none :: a, x :: b, h, k + 1, v, hk => by
    rw [List.getElem?_cons_succ] at hk ⊢
    exact kLe_get (L' := a) (L := b) h hk
  | some w :: a, x :: b, h, 0, v, hk => by
    rw [List.getElem?_cons_zero] at hk ⊢
    cases hk
    rw [h.1]
  | some w :: a, x :: b, h, k + 1, v, hk => by
    rw [List.getElem?_cons_succ] at hk ⊢
    exact kLe_get (L' := a) (L := b) h.2 hk
  | none :: a, [], h, 0, v, hk => by simp at hk
  | none :: a, [], h, k + 1, v, hk => by
    rw [List.getElem?_cons_succ] at hk
    have := kLe_get (L' := a) (L := []) h hk
    simp at this
/-- the locals with which a method begins -/
def kEnA : List Value → List (Option Value)
  | [] => []
  | v :: vs => if v.category = 2 then some v :: none :: kEnA vs else some v :: kEnA vs
def kEn (n : Nat) (vs : List Value) : List (Option Value) := kEnA vs ++ List.replicate (n - (kEnA vs).length) none
theorem kEnA_args (Γ : kGm) : ∀ (vs : List Value) (i k : Nat) (v : Value), (kEnA vs)[k]? = some (some v) → (i + k, kcv Γ v) ∈ lv_args i (vs.map (kcv Γ))
  | [], i, k, v, h => by simp [kEnA] at h
  | w :: vs, i, k, v, h => by
    simp only [kEnA] at h
    simp only [List.map_cons, lv_args, kcv_cat]
    by_cases hc : w.category = 2
    · rw [if_pos hc] at h ⊢
      match k, h with
      | 0, h =>
        rw [List.getElem?_cons_zero] at h
        cases h
        exact List.mem_cons_self
      | 1, h =>
        rw [List.getElem?_cons_succ, List.getElem?_cons_zero] at h
        cases h
      | k + 2, h =>
        rw [List.getElem?_cons_succ, List.getElem?_cons_succ] at h
        have := kEnA_args Γ vs (i + 2) k v h
        rw [show i + (k + 2) = i + 2 + k by omega]
        exact List.mem_cons_of_mem _ this
    · rw [if_neg hc] at h ⊢
      match k, h with
      | 0, h =>
        rw [List.getElem?_cons_zero] at h
        cases h
        exact List.mem_cons_self
      | k + 1, h =>
        rw [List.getElem?_cons_succ] at h
        have := kEnA_args Γ vs (i + 1) k v h
        rw [show i + (k + 1) = i + 1 + k by omega]
        exact List.mem_cons_of_mem _ this
theorem kEnA_len (Γ : kGm) : ∀ (vs : List Value), (lg_sl (vs.map (kcv Γ))).length = (kEnA vs).length
  | [] => rfl
  | w :: vs => by
    have ih := kEnA_len Γ vs
    simp only [lg_sl, List.map_cons, List.flatMap_cons, List.length_append, kcv_cat, kEnA] at ih ⊢
    by_cases hc : w.category = 2
    · rw [if_pos hc, if_pos hc]
      simp only [List.length_cons, List.length_nil]
      omega
    · rw [if_neg hc, if_neg hc]
      simp only [List.length_cons, List.length_nil]
      omega
theorem kEn_get {n : Nat} {vs : List Value} {k : Nat} {v : Value} (h : (kEn n vs)[k]? = some (some v)) : (kEnA vs)[k]? = some (some v) := by
  unfold kEn at h
  by_cases hl : k < (kEnA vs).length
  · rwa [List.getElem?_append_left hl] at h
  · rw [List.getElem?_append_right (by omega)] at h
    have := List.eq_of_mem_replicate (List.mem_of_getElem? h)
    cases this
section KR
variable {Γ : kGm} {mi : kMI} {R : Room} {cs : Nat × Nat} {pc : Nat} {L : List (Option Value)} {st : List Value} {ω : kWd} {Z : kZ}
theorem kG.iconst {n : Int} {v : Int32} (pc' : Nat) (hd : decode mi.2.1 pc = .ok (.iconst n, 1)) (hv : Int32.ofInt n = v) (hp : pc + 1 = pc') (kk : kG Γ mi R cs pc' L (.int v :: st) ω Z) : kG Γ mi R cs pc L st ω Z := by
  intro p e s m args below meth c H locs ls C P S V
  exact lv_iconst C.1 C.2.1 hd hv (by subst hp; exact kk p e s m args below meth c H locs ls C P S V)
theorem kG.bipush {n : Int} {v : Int32} (pc' : Nat) (hd : decode mi.2.1 pc = .ok (.bipush n, 2)) (hv : (Int8.ofInt n).toInt32 = v) (hp : pc + 2 = pc') (kk : kG Γ mi R cs pc' L (.int v :: st) ω Z) : kG Γ mi R cs pc L st ω Z := by
  intro p e s m args below meth c H locs ls C P S V
  exact lv_bipush C.1 C.2.1 hd hv (by subst hp; exact kk p e s m args below meth c H locs ls C P S V)
theorem kG.sipush {n : Int} {v : Int32} (pc' : Nat) (hd : decode mi.2.1 pc = .ok (.sipush n, 3)) (hv : (Int16.ofInt n).toInt32 = v) (hp : pc + 3 = pc') (kk : kG Γ mi R cs pc' L (.int v :: st) ω Z) : kG Γ mi R cs pc L st ω Z := by
  intro p e s m args below meth c H locs ls C P S V
  exact lv_sipush C.1 C.2.1 hd hv (by subst hp; exact kk p e s m args below meth c H locs ls C P S V)
theorem kG.lconst {n : Fin 2} {v : Int64} (pc' : Nat) (hd : decode mi.2.1 pc = .ok (.lconst n, 1)) (hv : Int64.ofNat (n : Nat) = v) (hp : pc + 1 = pc') (kk : kG Γ mi R cs pc' L (.long v :: st) ω Z) : kG Γ mi R cs pc L st ω Z := by
  intro p e s m args below meth c H locs ls C P S V
  exact lv_lconst C.1 C.2.1 hd hv (by subst hp; exact kk p e s m args below meth c H locs ls C P S V)
theorem kG.ldc2 {i : Nat} {v : Int64} (pc' : Nat) (hd : decode mi.2.1 pc = .ok (.ldc2_w i, 3)) (hc : Cond.constantLong mi.1 i v ∈ kTS) (hp : pc + 3 = pc') (kk : kG Γ mi R cs pc' L (.long v :: st) ω Z) : kG Γ mi R cs pc L st ω Z := by
  intro p e s m args below meth c H locs ls C P S V
  exact lv_ldc2 C.1 C.2.1 C.2.2.2.2.1 (C.2.2.2.2.2.1 _ hc) hd (by subst hp; exact kk p e s m args below meth c H locs ls C P S V)
theorem kG.ldcw {i : Nat} {v : Int32} (pc' : Nat) (hd : decode mi.2.1 pc = .ok (.ldc_w i, 3)) (hc : Cond.constant mi.1 i v ∈ kTS) (hp : pc + 3 = pc') (kk : kG Γ mi R cs pc' L (.int v :: st) ω Z) : kG Γ mi R cs pc L st ω Z := by
  intro p e s m args below meth c H locs ls C P S V
  exact lv_ldcw C.1 C.2.1 C.2.2.2.2.1 (C.2.2.2.2.2.1 _ hc) hd (by subst hp; exact kk p e s m args below meth c H locs ls C P S V)
theorem kG.iload_n {k : Fin 4} {x : Int32} (pc' : Nat) (hd : decode mi.2.1 pc = .ok (.iload_n k, 1)) (hl : L[(k : Nat)]? = some (some (.int x))) (hp : pc + 1 = pc') (kk : kG Γ mi R cs pc' L (.int x :: st) ω Z) : kG Γ mi R cs pc L st ω Z := by
  intro p e s m args below meth c H locs ls C P S V
  exact lv_iload_n C.1 C.2.1 hd rfl (V.2.2 _ _ hl) (by subst hp; exact kk p e s m args below meth c H locs ls C P S V)
theorem kG.iload {i : Nat} {x : Int32} (pc' : Nat) (hd : decode mi.2.1 pc = .ok (.iload i, 2)) (hl : L[i]? = some (some (.int x))) (hp : pc + 2 = pc') (kk : kG Γ mi R cs pc' L (.int x :: st) ω Z) : kG Γ mi R cs pc L st ω Z := by
  intro p e s m args below meth c H locs ls C P S V
  exact lv_iload C.1 C.2.1 hd (V.2.2 _ _ hl) (by subst hp; exact kk p e s m args below meth c H locs ls C P S V)
theorem kG.lload_n {k : Fin 4} {x : Int64} (pc' : Nat) (hd : decode mi.2.1 pc = .ok (.lload_n k, 1)) (hl : L[(k : Nat)]? = some (some (.long x))) (hp : pc + 1 = pc') (kk : kG Γ mi R cs pc' L (.long x :: st) ω Z) : kG Γ mi R cs pc L st ω Z := by
  intro p e s m args below meth c H locs ls C P S V
  exact lv_lload_n C.1 C.2.1 hd rfl (V.2.2 _ _ hl) (by subst hp; exact kk p e s m args below meth c H locs ls C P S V)
theorem kG.lload {i : Nat} {x : Int64} (pc' : Nat) (hd : decode mi.2.1 pc = .ok (.lload i, 2)) (hl : L[i]? = some (some (.long x))) (hp : pc + 2 = pc') (kk : kG Γ mi R cs pc' L (.long x :: st) ω Z) : kG Γ mi R cs pc L st ω Z := by
  intro p e s m args below meth c H locs ls C P S V
  exact lv_lload C.1 C.2.1 hd (V.2.2 _ _ hl) (by subst hp; exact kk p e s m args below meth c H locs ls C P S V)
theorem kG.aload_n {k : Fin 4} {x : Nat} (pc' : Nat) (hd : decode mi.2.1 pc = .ok (.aload_n k, 1)) (hl : L[(k : Nat)]? = some (some (.ref x))) (hp : pc + 1 = pc') (kk : kG Γ mi R cs pc' L (.ref x :: st) ω Z) : kG Γ mi R cs pc L st ω Z := by
  intro p e s m args below meth c H locs ls C P S V
  exact lv_aload_n C.1 C.2.1 hd rfl (V.2.2 _ _ hl) (by subst hp; exact kk p e s m args below meth c H locs ls C P S V)
theorem kG.aload {i : Nat} {x : Nat} (pc' : Nat) (hd : decode mi.2.1 pc = .ok (.aload i, 2)) (hl : L[i]? = some (some (.ref x))) (hp : pc + 2 = pc') (kk : kG Γ mi R cs pc' L (.ref x :: st) ω Z) : kG Γ mi R cs pc L st ω Z := by
  intro p e s m args below meth c H locs ls C P S V
  exact lv_aload C.1 C.2.1 hd (V.2.2 _ _ hl) (by subst hp; exact kk p e s m args below meth c H locs ls C P S V)
theorem kG.istore_n {k : Fin 4} {x : Int32} (pc' : Nat) (hd : decode mi.2.1 pc = .ok (.istore_n k, 1)) (hn : (k : Nat) < mi.2.2.1) (ho : kok L k = true) (hp : pc + 1 = pc') (kk : kG Γ mi R cs pc' (L.set k (some (.int x))) st ω Z) : kG Γ mi R cs pc L (.int x :: st) ω Z := by
  intro p e s m args below meth c H locs ls C P S V
  refine lv_istore_n (x := x) C.1 C.2.1 hd rfl (kLv_has V) hn rfl (fun ls' hl => ?_)
  subst hp
  exact kk p e s m args below meth c H locs ls' C P S (kLv_set1 V rfl ho hl)
theorem kG.istore {i : Nat} {x : Int32} (pc' : Nat) (hd : decode mi.2.1 pc = .ok (.istore i, 2)) (hn : i < mi.2.2.1) (ho : kok L i = true) (hp : pc + 2 = pc') (kk : kG Γ mi R cs pc' (L.set i (some (.int x))) st ω Z) : kG Γ mi R cs pc L (.int x :: st) ω Z := by
  intro p e s m args below meth c H locs ls C P S V
  refine lv_istore (x := x) C.1 C.2.1 hd (kLv_has V) hn rfl (fun ls' hl => ?_)
  subst hp
  exact kk p e s m args below meth c H locs ls' C P S (kLv_set1 V rfl ho hl)
theorem kG.astore_n {k : Fin 4} {x : Nat} (pc' : Nat) (hd : decode mi.2.1 pc = .ok (.astore_n k, 1)) (hn : (k : Nat) < mi.2.2.1) (ho : kok L k = true) (hp : pc + 1 = pc') (kk : kG Γ mi R cs pc' (L.set k (some (.ref x))) st ω Z) : kG Γ mi R cs pc L (.ref x :: st) ω Z := by
  intro p e s m args below meth c H locs ls C P S V
  refine lv_astore_n (x := (kad Γ x)) C.1 C.2.1 hd rfl (kLv_has V) hn rfl (fun ls' hl => ?_)
  subst hp
  exact kk p e s m args below meth c H locs ls' C P S (kLv_set1 V rfl ho hl)
theorem kG.astore {i : Nat} {x : Nat} (pc' : Nat) (hd : decode mi.2.1 pc = .ok (.astore i, 2)) (hn : i < mi.2.2.1) (ho : kok L i = true) (hp : pc + 2 = pc') (kk : kG Γ mi R cs pc' (L.set i (some (.ref x))) st ω Z) : kG Γ mi R cs pc L (.ref x :: st) ω Z := by
  intro p e s m args below meth c H locs ls C P S V
  refine lv_astore (x := (kad Γ x)) C.1 C.2.1 hd (kLv_has V) hn rfl (fun ls' hl => ?_)
  subst hp
  exact kk p e s m args below meth c H locs ls' C P S (kLv_set1 V rfl ho hl)
theorem kG.lstore_n {k : Fin 4} {x : Int64} (pc' : Nat) (hd : decode mi.2.1 pc = .ok (.lstore_n k, 1)) (hn : (k : Nat) + 1 < mi.2.2.1) (ho : kok L k = true) (hp : pc + 1 = pc') (kk : kG Γ mi R cs pc' ((L.set k (some (.long x))).set (k + 1) none) st ω Z) : kG Γ mi R cs pc L (.long x :: st) ω Z := by
  intro p e s m args below meth c H locs ls C P S V
  refine lv_lstore_n (x := x) C.1 C.2.1 hd rfl (kLv_has V) hn rfl (fun ls' hl => ?_)
  subst hp
  exact kk p e s m args below meth c H locs ls' C P S (kLv_set2 V ho hl)
theorem kG.lstore {i : Nat} {x : Int64} (pc' : Nat) (hd : decode mi.2.1 pc = .ok (.lstore i, 2)) (hn : i + 1 < mi.2.2.1) (ho : kok L i = true) (hp : pc + 2 = pc') (kk : kG Γ mi R cs pc' ((L.set i (some (.long x))).set (i + 1) none) st ω Z) : kG Γ mi R cs pc L (.long x :: st) ω Z := by
  intro p e s m args below meth c H locs ls C P S V
  refine lv_lstore (x := x) C.1 C.2.1 hd (kLv_has V) hn rfl (fun ls' hl => ?_)
  subst hp
  exact kk p e s m args below meth c H locs ls' C P S (kLv_set2 V ho hl)
theorem kG.iinc {i : Nat} {n : Int} {x v : Int32} (pc' : Nat) (hd : decode mi.2.1 pc = .ok (.iinc i n, 3)) (hl : L[i]? = some (some (.int x))) (hv : x + Int32.ofInt n = v) (hn : i < mi.2.2.1) (ho : kok L i = true) (hp : pc + 3 = pc') (kk : kG Γ mi R cs pc' (L.set i (some (.int v))) st ω Z) : kG Γ mi R cs pc L st ω Z := by
  intro p e s m args below meth c H locs ls C P S V
  obtain ⟨j, hj⟩ := kLl_get (Γ := Γ) hl
  refine lv_iinc (x := x) (v := v) C.1 C.2.1 hd (kLv_has V) hj hv hn rfl (fun ls' hl => ?_)
  subst hp
  exact kk p e s m args below meth c H locs ls' C P S (kLv_set1 (x := .int v) V rfl ho hl)
theorem kG.iadd {x y : Int32} (pc' : Nat) (hd : decode mi.2.1 pc = .ok (.iadd, 1)) (hp : pc + 1 = pc') (kk : kG Γ mi R cs pc' L (.int (x + y) :: st) ω Z) : kG Γ mi R cs pc L (.int y :: .int x :: st) ω Z := by
  intro p e s m args below meth c H locs ls C P S V
  exact lv_iadd C.1 C.2.1 hd (by subst hp; exact kk p e s m args below meth c H locs ls C P S V)
theorem kG.isub {x y : Int32} (pc' : Nat) (hd : decode mi.2.1 pc = .ok (.isub, 1)) (hp : pc + 1 = pc') (kk : kG Γ mi R cs pc' L (.int (x - y) :: st) ω Z) : kG Γ mi R cs pc L (.int y :: .int x :: st) ω Z := by
  intro p e s m args below meth c H locs ls C P S V
  exact lv_isub C.1 C.2.1 hd (by subst hp; exact kk p e s m args below meth c H locs ls C P S V)
theorem kG.imul {x y : Int32} (pc' : Nat) (hd : decode mi.2.1 pc = .ok (.imul, 1)) (hp : pc + 1 = pc') (kk : kG Γ mi R cs pc' L (.int (x * y) :: st) ω Z) : kG Γ mi R cs pc L (.int y :: .int x :: st) ω Z := by
  intro p e s m args below meth c H locs ls C P S V
  exact lv_imul C.1 C.2.1 hd (by subst hp; exact kk p e s m args below meth c H locs ls C P S V)
theorem kG.iand {x y : Int32} (pc' : Nat) (hd : decode mi.2.1 pc = .ok (.iand, 1)) (hp : pc + 1 = pc') (kk : kG Γ mi R cs pc' L (.int (x &&& y) :: st) ω Z) : kG Γ mi R cs pc L (.int y :: .int x :: st) ω Z := by
  intro p e s m args below meth c H locs ls C P S V
  exact lv_iand C.1 C.2.1 hd (by subst hp; exact kk p e s m args below meth c H locs ls C P S V)
theorem kG.ior {x y : Int32} (pc' : Nat) (hd : decode mi.2.1 pc = .ok (.ior, 1)) (hp : pc + 1 = pc') (kk : kG Γ mi R cs pc' L (.int (x ||| y) :: st) ω Z) : kG Γ mi R cs pc L (.int y :: .int x :: st) ω Z := by
  intro p e s m args below meth c H locs ls C P S V
  exact lv_ior C.1 C.2.1 hd (by subst hp; exact kk p e s m args below meth c H locs ls C P S V)
theorem kG.ixor {x y : Int32} (pc' : Nat) (hd : decode mi.2.1 pc = .ok (.ixor, 1)) (hp : pc + 1 = pc') (kk : kG Γ mi R cs pc' L (.int (x ^^^ y) :: st) ω Z) : kG Γ mi R cs pc L (.int y :: .int x :: st) ω Z := by
  intro p e s m args below meth c H locs ls C P S V
  exact lv_ixor C.1 C.2.1 hd (by subst hp; exact kk p e s m args below meth c H locs ls C P S V)
theorem kG.ishl {x y : Int32} (pc' : Nat) (hd : decode mi.2.1 pc = .ok (.ishl, 1)) (hp : pc + 1 = pc') (kk : kG Γ mi R cs pc' L (.int (x <<< (y &&& 31)) :: st) ω Z) : kG Γ mi R cs pc L (.int y :: .int x :: st) ω Z := by
  intro p e s m args below meth c H locs ls C P S V
  exact lv_ishl C.1 C.2.1 hd (by subst hp; exact kk p e s m args below meth c H locs ls C P S V)
theorem kG.ishr {x y : Int32} (pc' : Nat) (hd : decode mi.2.1 pc = .ok (.ishr, 1)) (hp : pc + 1 = pc') (kk : kG Γ mi R cs pc' L (.int (x >>> (y &&& 31)) :: st) ω Z) : kG Γ mi R cs pc L (.int y :: .int x :: st) ω Z := by
  intro p e s m args below meth c H locs ls C P S V
  exact lv_ishr C.1 C.2.1 hd (by subst hp; exact kk p e s m args below meth c H locs ls C P S V)
theorem kG.ladd {x y : Int64} (pc' : Nat) (hd : decode mi.2.1 pc = .ok (.ladd, 1)) (hp : pc + 1 = pc') (kk : kG Γ mi R cs pc' L (.long (x + y) :: st) ω Z) : kG Γ mi R cs pc L (.long y :: .long x :: st) ω Z := by
  intro p e s m args below meth c H locs ls C P S V
  exact lv_ladd C.1 C.2.1 hd (by subst hp; exact kk p e s m args below meth c H locs ls C P S V)
theorem kG.idiv {x y : Int32} (pc' : Nat) (hd : decode mi.2.1 pc = .ok (.idiv, 1)) (hp : pc + 1 = pc') (hne : ¬ y = 0) (kk : kG Γ mi R cs pc' L (.int (x / y) :: st) ω Z) : kG Γ mi R cs pc L (.int y :: .int x :: st) ω Z := by
  intro p e s m args below meth c H locs ls C P S V
  exact lv_idiv C.1 C.2.1 hd hne (by subst hp; exact kk p e s m args below meth c H locs ls C P S V)
theorem kG.irem {x y : Int32} (pc' : Nat) (hd : decode mi.2.1 pc = .ok (.irem, 1)) (hp : pc + 1 = pc') (hne : ¬ y = 0) (kk : kG Γ mi R cs pc' L (.int (x - x / y * y) :: st) ω Z) : kG Γ mi R cs pc L (.int y :: .int x :: st) ω Z := by
  intro p e s m args below meth c H locs ls C P S V
  exact lv_irem C.1 C.2.1 hd hne (by subst hp; exact kk p e s m args below meth c H locs ls C P S V)
theorem kG.ldiv {x y : Int64} (pc' : Nat) (hd : decode mi.2.1 pc = .ok (.ldiv, 1)) (hp : pc + 1 = pc') (hne : ¬ y = 0) (kk : kG Γ mi R cs pc' L (.long (x / y) :: st) ω Z) : kG Γ mi R cs pc L (.long y :: .long x :: st) ω Z := by
  intro p e s m args below meth c H locs ls C P S V
  exact lv_ldiv C.1 C.2.1 hd hne (by subst hp; exact kk p e s m args below meth c H locs ls C P S V)
theorem kG.lrem {x y : Int64} (pc' : Nat) (hd : decode mi.2.1 pc = .ok (.lrem, 1)) (hp : pc + 1 = pc') (hne : ¬ y = 0) (kk : kG Γ mi R cs pc' L (.long (x - x / y * y) :: st) ω Z) : kG Γ mi R cs pc L (.long y :: .long x :: st) ω Z := by
  intro p e s m args below meth c H locs ls C P S V
  exact lv_lrem C.1 C.2.1 hd hne (by subst hp; exact kk p e s m args below meth c H locs ls C P S V)
theorem kG.iushr {x y : Int32} (pc' : Nat) (hd : decode mi.2.1 pc = .ok (.iushr, 1)) (hp : pc + 1 = pc') (kk : kG Γ mi R cs pc' L (.int ((x.toUInt32 >>> (y.toUInt32 &&& Int32.toUInt32 31)).toInt32) :: st) ω Z) : kG Γ mi R cs pc L (.int y :: .int x :: st) ω Z := by
  intro p e s m args below meth c H locs ls C P S V
  exact lv_iushr C.1 C.2.1 hd rfl (by subst hp; exact kk p e s m args below meth c H locs ls C P S V)
theorem kG.lshl {x : Int64} {y : Int32} (pc' : Nat) (hd : decode mi.2.1 pc = .ok (.lshl, 1)) (hp : pc + 1 = pc') (kk : kG Γ mi R cs pc' L (.long (x <<< (y.toInt64 &&& 63)) :: st) ω Z) : kG Γ mi R cs pc L (.int y :: .long x :: st) ω Z := by
  intro p e s m args below meth c H locs ls C P S V
  exact lv_lshl C.1 C.2.1 hd rfl (by subst hp; exact kk p e s m args below meth c H locs ls C P S V)
theorem kG.lcmp {x y : Int64} (pc' : Nat) (hd : decode mi.2.1 pc = .ok (.lcmp, 1)) (hp : pc + 1 = pc') (kk : kG Γ mi R cs pc' L (.int (lg_cmp x y) :: st) ω Z) : kG Γ mi R cs pc L (.long y :: .long x :: st) ω Z := by
  intro p e s m args below meth c H locs ls C P S V
  exact W.lcmp C.1 C.2.1 hd (by subst hp; exact kk p e s m args below meth c H locs ls C P S V)
theorem kG.i2l {x : Int32} (pc' : Nat) (hd : decode mi.2.1 pc = .ok (.i2l, 1)) (hp : pc + 1 = pc') (kk : kG Γ mi R cs pc' L (.long x.toInt64 :: st) ω Z) : kG Γ mi R cs pc L (.int x :: st) ω Z := by
  intro p e s m args below meth c H locs ls C P S V
  exact lv_i2l C.1 C.2.1 hd rfl (by subst hp; exact kk p e s m args below meth c H locs ls C P S V)
theorem kG.i2b {x : Int32} (pc' : Nat) (hd : decode mi.2.1 pc = .ok (.i2b, 1)) (hp : pc + 1 = pc') (kk : kG Γ mi R cs pc' L (.int x.toInt8.toInt32 :: st) ω Z) : kG Γ mi R cs pc L (.int x :: st) ω Z := by
  intro p e s m args below meth c H locs ls C P S V
  exact lv_i2b C.1 C.2.1 hd rfl (by subst hp; exact kk p e s m args below meth c H locs ls C P S V)
theorem kG.i2s {x : Int32} (pc' : Nat) (hd : decode mi.2.1 pc = .ok (.i2s, 1)) (hp : pc + 1 = pc') (kk : kG Γ mi R cs pc' L (.int x.toInt16.toInt32 :: st) ω Z) : kG Γ mi R cs pc L (.int x :: st) ω Z := by
  intro p e s m args below meth c H locs ls C P S V
  exact lv_i2s C.1 C.2.1 hd rfl (by subst hp; exact kk p e s m args below meth c H locs ls C P S V)
theorem kG.dup {v : Value} (pc' : Nat) (hd : decode mi.2.1 pc = .ok (.dup, 1)) (hv : v.category = 1) (hp : pc + 1 = pc') (kk : kG Γ mi R cs pc' L (v :: v :: st) ω Z) : kG Γ mi R cs pc L (v :: st) ω Z := by
  intro p e s m args below meth c H locs ls C P S V
  exact lv_dup C.1 C.2.1 hd (by rw [kcv_cat]; exact hv) (by subst hp; exact kk p e s m args below meth c H locs ls C P S V)
theorem kG.dup_x1 {v w : Value} (pc' : Nat) (hd : decode mi.2.1 pc = .ok (.dup_x1, 1)) (hv : v.category = 1) (hw : w.category = 1) (hp : pc + 1 = pc') (kk : kG Γ mi R cs pc' L (v :: w :: v :: st) ω Z) : kG Γ mi R cs pc L (v :: w :: st) ω Z := by
  intro p e s m args below meth c H locs ls C P S V
  exact lv_dup_x1 C.1 C.2.1 hd (by rw [kcv_cat]; exact hv) (by rw [kcv_cat]; exact hw) (by subst hp; exact kk p e s m args below meth c H locs ls C P S V)
theorem kG.dup2 {v w : Value} (pc' : Nat) (hd : decode mi.2.1 pc = .ok (.dup2, 1)) (hv : v.category = 1) (hw : w.category = 1) (hp : pc + 1 = pc') (kk : kG Γ mi R cs pc' L (v :: w :: v :: w :: st) ω Z) : kG Γ mi R cs pc L (v :: w :: st) ω Z := by
  intro p e s m args below meth c H locs ls C P S V
  exact lv_dup2_11 C.1 C.2.1 hd (by rw [kcv_cat]; exact hv) (by rw [kcv_cat]; exact hw) (by subst hp; exact kk p e s m args below meth c H locs ls C P S V)
theorem kG.pop {v : Value} (pc' : Nat) (hd : decode mi.2.1 pc = .ok (.pop, 1)) (hv : v.category = 1) (hp : pc + 1 = pc') (kk : kG Γ mi R cs pc' L st ω Z) : kG Γ mi R cs pc L (v :: st) ω Z := by
  intro p e s m args below meth c H locs ls C P S V
  exact lv_pop C.1 C.2.1 hd (by rw [kcv_cat]; exact hv) (by subst hp; exact kk p e s m args below meth c H locs ls C P S V)
theorem kG.icmp_eq {x y : Int32} {off : Int} (tgt pc' : Nat) (hd : decode mi.2.1 pc = .ok (.if_icmp .eq off, 3)) (ht : (pc : Int) + off = (tgt : Int)) (hp : pc + 3 = pc') (kt : x = y → kG Γ mi R cs tgt L st ω Z) (kf : ¬ x = y → kG Γ mi R cs pc' L st ω Z) : kG Γ mi R cs pc L (.int y :: .int x :: st) ω Z := by
  intro p e s m args below meth c H locs ls C P S V
  subst hp
  exact lv_icmp_eq C.1 C.2.1 hd ht (fun h => kt h p e s m args below meth c H locs ls C P S V) (fun h => kf h p e s m args below meth c H locs ls C P S V)
theorem kG.if_eq {x : Int32} {off : Int} (tgt pc' : Nat) (hd : decode mi.2.1 pc = .ok (.ifCond .eq off, 3)) (ht : (pc : Int) + off = (tgt : Int)) (hp : pc + 3 = pc') (kt : x = 0 → kG Γ mi R cs tgt L st ω Z) (kf : ¬ x = 0 → kG Γ mi R cs pc' L st ω Z) : kG Γ mi R cs pc L (.int x :: st) ω Z := by
  intro p e s m args below meth c H locs ls C P S V
  subst hp
  exact lv_if_eq C.1 C.2.1 hd ht (fun h => kt h p e s m args below meth c H locs ls C P S V) (fun h => kf h p e s m args below meth c H locs ls C P S V)
theorem kG.icmp_ne {x y : Int32} {off : Int} (tgt pc' : Nat) (hd : decode mi.2.1 pc = .ok (.if_icmp .ne off, 3)) (ht : (pc : Int) + off = (tgt : Int)) (hp : pc + 3 = pc') (kt : ¬ x = y → kG Γ mi R cs tgt L st ω Z) (kf : x = y → kG Γ mi R cs pc' L st ω Z) : kG Γ mi R cs pc L (.int y :: .int x :: st) ω Z := by
  intro p e s m args below meth c H locs ls C P S V
  subst hp
  exact lv_icmp_ne C.1 C.2.1 hd ht (fun h => kt h p e s m args below meth c H locs ls C P S V) (fun h => kf h p e s m args below meth c H locs ls C P S V)
theorem kG.if_ne {x : Int32} {off : Int} (tgt pc' : Nat) (hd : decode mi.2.1 pc = .ok (.ifCond .ne off, 3)) (ht : (pc : Int) + off = (tgt : Int)) (hp : pc + 3 = pc') (kt : ¬ x = 0 → kG Γ mi R cs tgt L st ω Z) (kf : x = 0 → kG Γ mi R cs pc' L st ω Z) : kG Γ mi R cs pc L (.int x :: st) ω Z := by
  intro p e s m args below meth c H locs ls C P S V
  subst hp
  exact lv_if_ne C.1 C.2.1 hd ht (fun h => kt h p e s m args below meth c H locs ls C P S V) (fun h => kf h p e s m args below meth c H locs ls C P S V)
theorem kG.icmp_lt {x y : Int32} {off : Int} (tgt pc' : Nat) (hd : decode mi.2.1 pc = .ok (.if_icmp .lt off, 3)) (ht : (pc : Int) + off = (tgt : Int)) (hp : pc + 3 = pc') (kt : x < y → kG Γ mi R cs tgt L st ω Z) (kf : ¬ x < y → kG Γ mi R cs pc' L st ω Z) : kG Γ mi R cs pc L (.int y :: .int x :: st) ω Z := by
  intro p e s m args below meth c H locs ls C P S V
  subst hp
  exact lv_icmp_lt C.1 C.2.1 hd ht (fun h => kt h p e s m args below meth c H locs ls C P S V) (fun h => kf h p e s m args below meth c H locs ls C P S V)
theorem kG.if_lt {x : Int32} {off : Int} (tgt pc' : Nat) (hd : decode mi.2.1 pc = .ok (.ifCond .lt off, 3)) (ht : (pc : Int) + off = (tgt : Int)) (hp : pc + 3 = pc') (kt : x < 0 → kG Γ mi R cs tgt L st ω Z) (kf : ¬ x < 0 → kG Γ mi R cs pc' L st ω Z) : kG Γ mi R cs pc L (.int x :: st) ω Z := by
  intro p e s m args below meth c H locs ls C P S V
  subst hp
  exact lv_if_lt C.1 C.2.1 hd ht (fun h => kt h p e s m args below meth c H locs ls C P S V) (fun h => kf h p e s m args below meth c H locs ls C P S V)
theorem kG.icmp_ge {x y : Int32} {off : Int} (tgt pc' : Nat) (hd : decode mi.2.1 pc = .ok (.if_icmp .ge off, 3)) (ht : (pc : Int) + off = (tgt : Int)) (hp : pc + 3 = pc') (kt : y ≤ x → kG Γ mi R cs tgt L st ω Z) (kf : ¬ y ≤ x → kG Γ mi R cs pc' L st ω Z) : kG Γ mi R cs pc L (.int y :: .int x :: st) ω Z := by
  intro p e s m args below meth c H locs ls C P S V
  subst hp
  exact lv_icmp_ge C.1 C.2.1 hd ht (fun h => kt h p e s m args below meth c H locs ls C P S V) (fun h => kf h p e s m args below meth c H locs ls C P S V)
theorem kG.if_ge {x : Int32} {off : Int} (tgt pc' : Nat) (hd : decode mi.2.1 pc = .ok (.ifCond .ge off, 3)) (ht : (pc : Int) + off = (tgt : Int)) (hp : pc + 3 = pc') (kt : 0 ≤ x → kG Γ mi R cs tgt L st ω Z) (kf : ¬ 0 ≤ x → kG Γ mi R cs pc' L st ω Z) : kG Γ mi R cs pc L (.int x :: st) ω Z := by
  intro p e s m args below meth c H locs ls C P S V
  subst hp
  exact lv_if_ge C.1 C.2.1 hd ht (fun h => kt h p e s m args below meth c H locs ls C P S V) (fun h => kf h p e s m args below meth c H locs ls C P S V)
theorem kG.icmp_gt {x y : Int32} {off : Int} (tgt pc' : Nat) (hd : decode mi.2.1 pc = .ok (.if_icmp .gt off, 3)) (ht : (pc : Int) + off = (tgt : Int)) (hp : pc + 3 = pc') (kt : y < x → kG Γ mi R cs tgt L st ω Z) (kf : ¬ y < x → kG Γ mi R cs pc' L st ω Z) : kG Γ mi R cs pc L (.int y :: .int x :: st) ω Z := by
  intro p e s m args below meth c H locs ls C P S V
  subst hp
  exact lv_icmp_gt C.1 C.2.1 hd ht (fun h => kt h p e s m args below meth c H locs ls C P S V) (fun h => kf h p e s m args below meth c H locs ls C P S V)
theorem kG.if_gt {x : Int32} {off : Int} (tgt pc' : Nat) (hd : decode mi.2.1 pc = .ok (.ifCond .gt off, 3)) (ht : (pc : Int) + off = (tgt : Int)) (hp : pc + 3 = pc') (kt : 0 < x → kG Γ mi R cs tgt L st ω Z) (kf : ¬ 0 < x → kG Γ mi R cs pc' L st ω Z) : kG Γ mi R cs pc L (.int x :: st) ω Z := by
  intro p e s m args below meth c H locs ls C P S V
  subst hp
  exact lv_if_gt C.1 C.2.1 hd ht (fun h => kt h p e s m args below meth c H locs ls C P S V) (fun h => kf h p e s m args below meth c H locs ls C P S V)
theorem kG.icmp_le {x y : Int32} {off : Int} (tgt pc' : Nat) (hd : decode mi.2.1 pc = .ok (.if_icmp .le off, 3)) (ht : (pc : Int) + off = (tgt : Int)) (hp : pc + 3 = pc') (kt : x ≤ y → kG Γ mi R cs tgt L st ω Z) (kf : ¬ x ≤ y → kG Γ mi R cs pc' L st ω Z) : kG Γ mi R cs pc L (.int y :: .int x :: st) ω Z := by
  intro p e s m args below meth c H locs ls C P S V
  subst hp
  exact lv_icmp_le C.1 C.2.1 hd ht (fun h => kt h p e s m args below meth c H locs ls C P S V) (fun h => kf h p e s m args below meth c H locs ls C P S V)
theorem kG.if_le {x : Int32} {off : Int} (tgt pc' : Nat) (hd : decode mi.2.1 pc = .ok (.ifCond .le off, 3)) (ht : (pc : Int) + off = (tgt : Int)) (hp : pc + 3 = pc') (kt : x ≤ 0 → kG Γ mi R cs tgt L st ω Z) (kf : ¬ x ≤ 0 → kG Γ mi R cs pc' L st ω Z) : kG Γ mi R cs pc L (.int x :: st) ω Z := by
  intro p e s m args below meth c H locs ls C P S V
  subst hp
  exact lv_if_le C.1 C.2.1 hd ht (fun h => kt h p e s m args below meth c H locs ls C P S V) (fun h => kf h p e s m args below meth c H locs ls C P S V)
theorem kG.goto {off : Int} (tgt : Nat) (hd : decode mi.2.1 pc = .ok (.goto off, 3)) (ht : (pc : Int) + off = (tgt : Int)) (kk : kG Γ mi R cs tgt L st ω Z) : kG Γ mi R cs pc L st ω Z := by
  intro p e s m args below meth c H locs ls C P S V
  exact lv_goto C.1 C.2.1 hd ht (kk p e s m args below meth c H locs ls C P S V)
theorem kG.tableIn {dflt lo hi : Int} {offs : Array Int} {len : Nat} {x : Int32} {off : Int} (tgt : Nat) (hd : decode mi.2.1 pc = .ok (.tableswitch dflt lo hi offs, len)) (h1 : ¬ x.toInt < lo) (h2 : ¬ hi < x.toInt) (ho : offs[(x.toInt - lo).toNat]? = some off) (ht : (pc : Int) + off = (tgt : Int)) (kk : kG Γ mi R cs tgt L st ω Z) : kG Γ mi R cs pc L (.int x :: st) ω Z := by
  intro p e s m args below meth c H locs ls C P S V
  exact lv_tableIn C.1 C.2.1 hd h1 h2 ho ht (kk p e s m args below meth c H locs ls C P S V)
theorem kG.tableOut {dflt lo hi : Int} {offs : Array Int} {len : Nat} {x : Int32} (tgt : Nat) (hd : decode mi.2.1 pc = .ok (.tableswitch dflt lo hi offs, len)) (h : x.toInt < lo ∨ hi < x.toInt) (ht : (pc : Int) + dflt = (tgt : Int)) (kk : kG Γ mi R cs tgt L st ω Z) : kG Γ mi R cs pc L (.int x :: st) ω Z := by
  intro p e s m args below meth c H locs ls C P S V
  exact lv_tableOut C.1 C.2.1 hd h ht (kk p e s m args below meth c H locs ls C P S V)
theorem kG.lookup {dflt : Int} {ps : Array (Int × Int)} {len : Nat} {x : Int32} {off : Int} (tgt : Nat) (hd : decode mi.2.1 pc = .ok (.lookupswitch dflt ps, len)) (hps : (ps.toList.zip (ps.toList.drop 1)).all (fun (a, next) => a.1 < next.1) = true) (ho : Op.lookupswitch.offset ps.toList dflt x.toInt = off) (ht : (pc : Int) + off = (tgt : Int)) (kk : kG Γ mi R cs tgt L st ω Z) : kG Γ mi R cs pc L (.int x :: st) ω Z := by
  intro p e s m args below meth c H locs ls C P S V
  exact lv_lookup C.1 C.2.1 hd hps ho ht (kk p e s m args below meth c H locs ls C P S V)
theorem kG.sub {L' : List (Option Value)} (h : kLe L' L) (kk : kG Γ mi R cs pc L' st ω Z) : kG Γ mi R cs pc L st ω Z := by
  intro p e s m args below meth c H locs ls C P S V
  exact kk p e s m args below meth c H locs ls C P S ⟨V.1, V.2.1, fun k v hk => V.2.2 k v (kLe_get h hk)⟩
theorem kG.topi {x : Int32} (kk : ∀ y : Int32, y = x → kG Γ mi R cs pc L (.int y :: st) ω Z) : kG Γ mi R cs pc L (.int x :: st) ω Z := kk x rfl
theorem kG.widen {a b : Nat} (h1 : cs.1 ≤ a) (h2 : cs.2 ≤ b) (kk : kG Γ mi R (a, b) pc L st ω Z) : kG Γ mi R cs pc L st ω Z := by
  intro p e s m args below meth c H locs ls C P S V
  exact W.widen h1 h2 (kk p e s m args below meth c H locs ls C P S V)
/-! fields -/
theorem kS_put {A : Nat → Prop} {H0 H H1 : Heap} {locs : List Loc} {a k : Nat} (h : va_S A H0 H locs) (z : H1.size = H.size) (oq : ∀ q : Nat, q ≠ a → H1[q]? = H[q]?) (ha : A a) : va_S A H0 H1 (locs ++ [⟨a, k⟩]) := va_S.put h z oq ha
theorem kad_A {Γ : kGm} {k : Nat} (h : 0 < k) : kA Γ (kad Γ k) := by
  unfold kad kA
  rw [if_neg (by omega)]
  omega
theorem kG.getI {i ci j k : Nat} (pc' : Nat) (hd : decode mi.2.1 pc = .ok (.getfield i, 3)) (hf : kFE mi.1 i ci j) (hk : 0 < k ∧ k < ω.1) (hs : (ksh k).1 = ci) (hi : kint ci j = true) (hp : pc + 3 = pc') (kk : kG Γ mi R cs pc' L (.int (ω.2.1 k j) :: st) ω Z) : kG Γ mi R cs pc L (.ref k :: st) ω Z := by
  intro p e s m args below meth c H locs ls C P S V
  obtain ⟨hc6, hj, hlink⟩ := hf
  obtain ⟨hc, hin, hty, hnm⟩ := kcl hc6
  subst hp
  exact va_get C.1 C.2.1 C.2.2.2.2.2.1 hin C.2.2.2.2.1 C.2.2.2.2.2.2.2.2.1.1 P.2.2 (k - 1) (by rw [kws_at hk.1 hk.2, kent_obj hs hc6]) hc j hj (C.2.2.2.2.2.1 _ hlink) (fun x h => h) (by rw [kfs_get hj, kfv_int hi]; rfl) hd (kk p e s m args below meth c H locs ls C P S V)
theorem kG.getP {i ci j k q : Nat} (pc' : Nat) (hd : decode mi.2.1 pc = .ok (.getfield i, 3)) (hf : kFE mi.1 i ci j) (hk : 0 < k ∧ k < ω.1) (hs : (ksh k).1 = ci) (hi : kint ci j = false) (hq : ω.2.2 k j = some q) (hp : pc + 3 = pc') (kk : kG Γ mi R cs pc' L (.ref q :: st) ω Z) : kG Γ mi R cs pc L (.ref k :: st) ω Z := by
  intro p e s m args below meth c H locs ls C P S V
  obtain ⟨hc6, hj, hlink⟩ := hf
  obtain ⟨hc, hin, hty, hnm⟩ := kcl hc6
  subst hp
  exact va_get C.1 C.2.1 C.2.2.2.2.2.1 hin C.2.2.2.2.1 C.2.2.2.2.2.2.2.2.1.1 P.2.2 (k - 1) (by rw [kws_at hk.1 hk.2, kent_obj hs hc6]) hc j hj (C.2.2.2.2.2.1 _ hlink) (fun x h => h) (v := .ref (kad Γ q)) (by rw [kfs_get hj, kfv_ref hi, hq]; rfl) hd (kk p e s m args below meth c H locs ls C P S V)
/-- a put, with what it leaves of the heap -/
theorem kput {p : Program} {l : Launch} {e : Env} {s : State} {m : MethodId} {args : Array Value} {below : List Frame} {meth : Method} {c : Code} {H : Heap} {locs : List Loc} {cells slots : Nat} {Q : State → Prop} {ls : Array Slot} {rest : List Value} {i ci j k : Nat} {v : Value} {ω' : kWd} (C : kCx Γ mi p s m args meth c) (P : kRep Γ ω H) (S : va_S (kA Γ) s.heap H locs)
    (hd : decode mi.2.1 pc = .ok (.putfield i, 3)) (hf : kFE mi.1 i ci j) (hk : 0 < k ∧ k < ω.1) (hs : (ksh k).1 = ci) (hfin : (kT ci j).2.2.2 = false ∨ (mi.2.2.2.2 = "<init>" ∧ (kT ci j).1 = mi.1)) (hn : narrow (kTy ci j) v = v) (hfit : fits (kTy ci j) v = true)
    (e1 : (kws Γ ω).set (k - 1) (kad Γ k, .inr (ci, (kfs Γ ω ci k).set j v)) = kws Γ ω') (e0 : ω'.1 = ω.1)
    (kk : ∀ (H1 : Heap) (locs1 : List Loc), kRep Γ ω' H1 → va_S (kA Γ) s.heap H1 locs1 → W p l e R s m args below meth c H1 locs1 cells slots Q (F0 m (pc + 3) ls rest)) : W p l e R s m args below meth c H locs cells slots Q (F0 m pc ls (v :: .ref (kad Γ k) :: rest)) := by
  obtain ⟨hc6, hj, hlink⟩ := hf
  obtain ⟨hc, hin, hty, hnm⟩ := kcl hc6
  have hts := C.2.2.2.2.2.1
  have hown := C.2.2.2.2.1
  have hK := C.2.2.2.2.2.2.2.2.1.1
  have he : (kws Γ ω)[k - 1]? = some (kad Γ k, .inr (ci, kfs Γ ω ci k)) := by rw [kws_at hk.1 hk.2, kent_obj hs hc6]
  have hap := va_apart (own := mi.1) hts hin (kTy ci) hty hnm hK hc
  obtain ⟨r, h1, cell, q1, q2, q3, q4⟩ := P.2.2 (k - 1) _ he
  have hr : r = (kR ci, kT ci, kN ci) := Option.some.inj (h1.symm.trans hc)
  subst hr
  obtain ⟨hS, hfc, kC, hkC, hkind⟩ := hK.1 ci _ hc
  obtain ⟨cf, kf, fi, f, hi, hsl⟩ := hS j hj
  have hst := (u_facts hfc hkC (u_lays hts hin hj) hi).1
  have hlt : f.slot < cell.slots.size := by rw [hsl]; exact k2_hasslot (q4 j hj)
  have fin : ∀ H1 : Heap, H1[kad Γ k]? = some (cell.setSlot f.slot v) → H1.size = H.size → (∀ q, q ≠ kad Γ k → H1[q]? = H[q]?) → kRep Γ ω' H1 ∧ va_S (kA Γ) s.heap H1 (locs ++ [⟨kad Γ k, f.slot⟩]) := by
    intro H1 a1 a2 a3
    rw [hsl] at a1 ⊢
    refine ⟨⟨by rw [e0]; exact P.1, fun h => by rw [a2, e0]; exact P.2.1 (by rw [← e0]; exact h), ?_⟩, S.put a2 a3 (kad_A hk.1)⟩
    rw [← e1]
    exact P.2.2.set (kws_D Γ ω) he ⟨_, hc, t_OB.to (V := updV (vp_V (kfs Γ ω ci k)) j v) ⟨_, a1, q2, q3, t_set q4 hap hj v⟩ (fun a _ => vp_updV_set (by rw [kfs_len]; exact hj) v a)⟩ a3
  have hlay := hts _ (hin _ (u_in_lay hj))
  unfold u_lay at hlay
  cases hfb : (kT ci j).2.2.2 with
  | false =>
    rw [hfb, if_neg (by decide)] at hlay
    have h6 := u_store hfc hkC hkind hlay hi (hty j hj) hn hfit
    refine W.putK C.1 C.2.1 (f := f) ⟨hown, hts _ hlink, ⟨_, _, _, hi⟩, hst⟩ (by rw [q2]; exact h6) q1 q3 hlt rfl rfl hd fun H1 a1 a2 a3 => ?_
    exact kk H1 _ (fin H1 a1 a2 a3).1 (fin H1 a1 a2 a3).2
  | true =>
    rw [hfb, if_pos rfl] at hlay
    rcases hfin with h | ⟨hin2, hdecl⟩
    · rw [hfb] at h; cases h
    have hcf : m.cls = cf := by
      obtain ⟨_, _, c', _, _, _, -, -, hf', -, -, -, hown2, -⟩ := Cond.laysFinal_spec hlay
      have e3 : c' = cf := by have := hi.symm.trans hf'; simp at this; exact this.1.symm
      rw [hdecl] at hown2
      rw [← e3]; exact Option.some.inj (hown.symm.trans hown2)
    have h6 := u_fits hfc hkC hkind (Or.inr hlay) hi (hty j hj) hn hfit
    refine W.putFinK C.1 C.2.1 hown (hts _ hlink) hi hst hcf (C.2.2.2.2.2.2.2.1 hin2) (by rw [q2]; exact h6) q1 q3 hlt rfl rfl hd fun H1 a1 a2 a3 => ?_
    exact kk H1 _ (fin H1 a1 a2 a3).1 (fin H1 a1 a2 a3).2
theorem kG.putI {i ci j k : Nat} {x : Int32} (pc' : Nat) (hd : decode mi.2.1 pc = .ok (.putfield i, 3)) (hf : kFE mi.1 i ci j) (hk : 0 < k ∧ k < ω.1) (hs : (ksh k).1 = ci) (hi : kint ci j = true) (hfin : (kT ci j).2.2.2 = false ∨ (mi.2.2.2.2 = "<init>" ∧ (kT ci j).1 = mi.1)) (hn : narrow (kTy ci j) (.int x) = .int x ∧ fits (kTy ci j) (.int x) = true) (hp : pc + 3 = pc') (kk : kG Γ mi R cs pc' L st (sI ω k j x) Z) : kG Γ mi R cs pc L (.int x :: .ref k :: st) ω Z := by
  intro p e s m args below meth c H locs ls C P S V
  subst hp
  refine kput (ω' := sI ω k j x) C P S hd hf hk hs hfin hn.1 hn.2 ?_ rfl (fun H1 locs1 P1 S1 => kk p e s m args below meth c H1 locs1 ls C P1 S1 V)
  show (kws Γ ω).set (k - 1) (kad Γ k, .inr (ci, (kfs Γ ω ci k).set j (.int x))) = _
  rw [kfs_sI hf.2.1 hi, ← kent_obj (ω := sI ω k j x) hs hf.1]
  exact kws_sA hk.1 hk.2
theorem kG.putP {i ci j k q : Nat} (pc' : Nat) (hd : decode mi.2.1 pc = .ok (.putfield i, 3)) (hf : kFE mi.1 i ci j) (hk : 0 < k ∧ k < ω.1) (hs : (ksh k).1 = ci) (hi : kint ci j = false) (hfin : (kT ci j).2.2.2 = false ∨ (mi.2.2.2.2 = "<init>" ∧ (kT ci j).1 = mi.1)) (hn : (∀ x, narrow (kTy ci j) (.ref x) = .ref x) ∧ ∀ x, fits (kTy ci j) (.ref x) = true) (hp : pc + 3 = pc') (kk : kG Γ mi R cs pc' L st (sP ω k j (some q)) Z) : kG Γ mi R cs pc L (.ref q :: .ref k :: st) ω Z := by
  intro p e s m args below meth c H locs ls C P S V
  subst hp
  refine kput (ω' := sP ω k j (some q)) C P S hd hf hk hs hfin (hn.1 _) (hn.2 _) ?_ rfl (fun H1 locs1 P1 S1 => kk p e s m args below meth c H1 locs1 ls C P1 S1 V)
  show (kws Γ ω).set (k - 1) (kad Γ k, .inr (ci, (kfs Γ ω ci k).set j (.ref (kad Γ q)))) = _
  rw [kfs_sP hf.2.1 hi, ← kent_obj (ω := sP ω k j (some q)) hs hf.1]
  exact kws_sP hk.1 hk.2
/-! arrays -/
theorem kG.iald {k n q : Nat} {x : Int32} (pc' : Nat) (hd : decode mi.2.1 pc = .ok (.iaload, 1)) (hk : 0 < k ∧ k < ω.1) (hs : ksh k = (10, n)) (hx : x = nI q) (hq : q < n) (hb : n < 1000) (hp : pc + 1 = pc') (kk : kG Γ mi R cs pc' L (.int (ω.2.1 k q) :: st) ω Z) : kG Γ mi R cs pc L (.int x :: .ref k :: st) ω Z := by
  intro p e s m args below meth c H locs ls C P S V
  subst hp; subst hx
  have h := kk p e s m args below meth c H locs ls C P S V
  refine va_iald C.1 C.2.1 C.2.2.2.2.2.2.2.2.1.1 P.2.2 (k - 1) 0 (by rw [kws_at hk.1 hk.2, kent_i hs]) rfl (vp_in_nI hq (by omega)) hd ?_
  rw [nI_clamp (by omega)]
  exact h
theorem kG.zald {k n q : Nat} {x : Int32} (pc' : Nat) (hd : decode mi.2.1 pc = .ok (.baload, 1)) (hk : 0 < k ∧ k < ω.1) (hs : ksh k = (11, n)) (hx : x = nI q) (hq : q < n) (hb : n < 1000) (hp : pc + 1 = pc') (kk : kG Γ mi R cs pc' L (.int (ω.2.1 k q) :: st) ω Z) : kG Γ mi R cs pc L (.int x :: .ref k :: st) ω Z := by
  intro p e s m args below meth c H locs ls C P S V
  subst hp; subst hx
  have h := kk p e s m args below meth c H locs ls C P S V
  refine va_zald C.1 C.2.1 C.2.2.2.2.2.2.2.2.1.1 P.2.2 (k - 1) 1 (by rw [kws_at hk.1 hk.2, kent_z hs]) rfl (vp_in_nI hq (by omega)) hd ?_
  rw [nI_clamp (by omega)]
  exact h
theorem kG.aald {k n q r : Nat} {x : Int32} (pc' : Nat) (hd : decode mi.2.1 pc = .ok (.aaload, 1)) (hk : 0 < k ∧ k < ω.1) (hs : ksh k = (12, n)) (hx : x = nI q) (hq : q < n) (hb : n < 1000) (hr : ω.2.2 k q = some r) (hp : pc + 1 = pc') (kk : kG Γ mi R cs pc' L (.ref r :: st) ω Z) : kG Γ mi R cs pc L (.int x :: .ref k :: st) ω Z := by
  intro p e s m args below meth c H locs ls C P S V
  subst hp; subst hx
  have h := kk p e s m args below meth c H locs ls C P S V
  refine va_aldq C.1 C.2.1 C.2.2.2.2.2.2.2.2.1.1 P.2.2 (k - 1) 2 (by rw [kws_at hk.1 hk.2, kent_q hs]) rfl (vp_in_nI hq (by omega)) hd ?_
  rw [nI_clamp (by omega)]
  simp only [hr]
  exact h
theorem kast {p : Program} {l : Launch} {e : Env} {s : State} {m : MethodId} {args : Array Value} {below : List Frame} {meth : Method} {c : Code} {H : Heap} {locs : List Loc} {cells slots : Nat} {Q : State → Prop} {g : JFrame} {k q : Nat} {ω' : kWd} (P : kRep Γ ω H) (S : va_S (kA Γ) s.heap H locs) (hk : 0 < k ∧ k < ω.1) (e0 : ω'.1 = ω.1) {x0 : va_E}
    (he : (kws Γ ω)[k - 1]? = some (kad Γ k, x0)) {x1 : va_E} (e1 : (kws Γ ω).set (k - 1) (kad Γ k, x1) = kws Γ ω') {cell' : Cell} (h' : ∀ H1 : Heap, H1[kad Γ k]? = some cell' → va_at Γ.2.1 vwCl (kad Γ k, x1) H1)
    (kk : ∀ (H1 : Heap) (locs1 : List Loc), kRep Γ ω' H1 → va_S (kA Γ) s.heap H1 locs1 → W p l e R s m args below meth c H1 locs1 cells slots Q g) :
    ∀ H1 : Heap, H1[kad Γ k]? = some cell' → H1.size = H.size → (∀ z, z ≠ kad Γ k → H1[z]? = H[z]?) → W p l e R s m args below meth c H1 (locs ++ [⟨kad Γ k, q⟩]) cells slots Q g := by
  intro H1 a1 a2 a3
  refine kk H1 _ ⟨by rw [e0]; exact P.1, fun h => by rw [a2, e0]; exact P.2.1 (by rw [← e0]; exact h), ?_⟩ (S.put a2 a3 (kad_A hk.1))
  rw [← e1]
  exact P.2.2.set (kws_D Γ ω) he (h' H1 a1) a3
theorem kG.iast {k n q : Nat} {i x : Int32} (pc' : Nat) (hd : decode mi.2.1 pc = .ok (.iastore, 1)) (hk : 0 < k ∧ k < ω.1) (hs : ksh k = (10, n)) (hx : i = nI q) (hq : q < n) (hb : n < 1000) (hp : pc + 1 = pc') (kk : kG Γ mi R cs pc' L st (sI ω k q x) Z) : kG Γ mi R cs pc L (.int x :: .int i :: .ref k :: st) ω Z := by
  intro p e s m args below meth c H locs ls C P S V
  subst hp; subst hx
  have he : (kws Γ ω)[k - 1]? = some (kad Γ k, .inl (Γ.2.2.1 0, n, .inl (ω.2.1 k))) := by rw [kws_at hk.1 hk.2, kent_i hs]
  have hin : ¬ (nI q < 0 ∨ n ≤ (nI q).toNatClampNeg) := vp_in_nI hq (by omega)
  refine W.iast (cell := vp_cell (Γ.2.2.1 0) (n, .inl (ω.2.1 k))) C.1 C.2.1 (P.2.2 (k - 1) _ he) ((C.2.2.2.2.2.2.2.2.1.1.2 0 _ rfl).1 n (fun j => .int (ω.2.1 k j))) (fun h => by cases h) (by show ¬ (nI q < 0 ∨ (arrV _ _ _).slots.size ≤ _); rw [arrV_size]; exact hin) rfl rfl hd ?_
  refine kast (ω := ω) (ω' := sI ω k q x) P S hk rfl he (x1 := .inl (Γ.2.2.1 0, n, .inl (upd (ω.2.1 k) q x))) ?_ (fun H1 h => ?_) (fun H1 locs1 P1 S1 => kk p e s m args below meth c H1 locs1 ls C P1 S1 V)
  · have h := kws_sA (Γ := Γ) (ω := ω) (f := upd (ω.2.1 k) q x) hk.1 hk.2
    rw [kent_i hs] at h
    have e2 : (sA ω k (upd (ω.2.1 k) q x)).2.1 k = upd (ω.2.1 k) q x := by simp [sA]
    rw [e2] at h
    exact h
  · show H1[kad Γ k]? = some (vp_cell _ _)
    rw [h, nI_clamp (by omega), vp_cell_i, vp_cell_i, arrV_store]
    congr 2
    funext z
    by_cases hz : z = q
    · subst hz; simp [updV, upd]
    · simp [updV, upd, hz]
theorem kG.zast {k n q : Nat} {i x : Int32} (pc' : Nat) (hd : decode mi.2.1 pc = .ok (.bastore, 1)) (hk : 0 < k ∧ k < ω.1) (hs : ksh k = (11, n)) (hx : i = nI q) (hq : q < n) (hb : n < 1000) (hx1 : x &&& 1 = x) (hp : pc + 1 = pc') (kk : kG Γ mi R cs pc' L st (sI ω k q x) Z) : kG Γ mi R cs pc L (.int x :: .int i :: .ref k :: st) ω Z := by
  intro p e s m args below meth c H locs ls C P S V
  subst hp; subst hx
  have he : (kws Γ ω)[k - 1]? = some (kad Γ k, .inl (Γ.2.2.1 1, n, .inl (ω.2.1 k))) := by rw [kws_at hk.1 hk.2, kent_z hs]
  have hin : ¬ (nI q < 0 ∨ n ≤ (nI q).toNatClampNeg) := vp_in_nI hq (by omega)
  refine W.zast (cell := vp_cell (Γ.2.2.1 1) (n, .inl (ω.2.1 k))) C.1 C.2.1 (P.2.2 (k - 1) _ he) ((C.2.2.2.2.2.2.2.2.1.1.2 1 _ rfl).1 n (fun j => .int (ω.2.1 k j))) (fun h => by cases h) (by show ¬ (nI q < 0 ∨ (arrV _ _ _).slots.size ≤ _); rw [arrV_size]; exact hin) rfl rfl hd ?_
  refine kast (ω := ω) (ω' := sI ω k q x) P S hk rfl he (x1 := .inl (Γ.2.2.1 1, n, .inl (upd (ω.2.1 k) q x))) ?_ (fun H1 h => ?_) (fun H1 locs1 P1 S1 => kk p e s m args below meth c H1 locs1 ls C P1 S1 V)
  · have h := kws_sA (Γ := Γ) (ω := ω) (f := upd (ω.2.1 k) q x) hk.1 hk.2
    rw [kent_z hs] at h
    have e2 : (sA ω k (upd (ω.2.1 k) q x)).2.1 k = upd (ω.2.1 k) q x := by simp [sA]
    rw [e2] at h
    exact h
  · show H1[kad Γ k]? = some (vp_cell _ _)
    rw [h, nI_clamp (by omega), vp_cell_i, vp_cell_i, arrV_store]
    congr 2
    funext z
    by_cases hz : z = q
    · subst hz; simp [updV, upd, narrow, hx1]
    · simp [updV, upd, hz]
theorem kG.aast {k n q v ci : Nat} {i : Int32} (pc' : Nat) (hd : decode mi.2.1 pc = .ok (.aastore, 1)) (hk : 0 < k ∧ k < ω.1) (hs : ksh k = (12, n)) (hx : i = nI q) (hq : q < n) (hb : n < 1000) (hv : 0 < v ∧ v < ω.1) (hsv : (ksh v).1 = 1) (hp : pc + 1 = pc') (kk : kG Γ mi R cs pc' L st (sP ω k q (some v)) Z) : kG Γ mi R cs pc L (.ref v :: .int i :: .ref k :: st) ω Z := by
  intro p e s m args below meth c H locs ls C P S V
  subst hp; subst hx
  have he : (kws Γ ω)[k - 1]? = some (kad Γ k, .inl (Γ.2.2.1 2, n, .inr (.inr (.inr (.inr (fun j => (ω.2.2 k j).map (kad Γ))))))) := by rw [kws_at hk.1 hk.2, kent_q hs]
  have hev : (kws Γ ω)[v - 1]? = some (kad Γ v, .inr (1, kfs Γ ω 1 v)) := by rw [kws_at hv.1 hv.2, kent_obj hsv (by omega)]
  have hK := C.2.2.2.2.2.2.2.2.1.1
  have hin : ¬ (nI q < 0 ∨ n ≤ (nI q).toNatClampNeg) := vp_in_nI hq (by omega)
  have hlt : (nI q).toNatClampNeg < n := Nat.not_le.mp fun z => hin (Or.inr z)
  have h0 : ¬ nI q < 0 := fun z => hin (Or.inl z)
  obtain ⟨r', hr', cellV, g1, g2, g3, -⟩ := P.2.2 (v - 1) _ hev
  have hcls := (hK.1 1 (RX1, TX1, 3) rfl).2
  obtain ⟨kA', comp, k1, k2, k3, -⟩ := (hK.2 2 _ rfl).2
  have hcomp : comp = Γ.2.1.1 1 := Option.some.inj (k3.symm.trans hcls.1)
  subst hcomp
  obtain ⟨kC, hkC, -⟩ := hcls.2
  refine W.aast (cell := vp_cell (Γ.2.2.1 2) (n, .inr (.inr (.inr (.inr (fun j => (ω.2.2 k j).map (kad Γ))))))) C.1 C.2.1 (P.2.2 (k - 1) _ he) (fun q h => by cases h) (fun h => by cases h) k1 k2 rfl hkC ⟨h0, by show _ < (arrV _ _ _).slots.size; rw [arrV_size]; exact hlt⟩ g1 (fun q h => by rw [g3] at h; cases h) (by rw [g2]; exact hkC) (by rw [g2]; exact va_assign hcls) rfl rfl hd ?_
  refine kast (ω := ω) (ω' := sP ω k q (some v)) P S hk rfl he (x1 := .inl (Γ.2.2.1 2, n, .inr (.inr (.inr (.inr (va_up (fun j => (ω.2.2 k j).map (kad Γ)) q (some (kad Γ v)))))))) ?_ (fun H1 h => ?_) (fun H1 locs1 P1 S1 => kk p e s m args below meth c H1 locs1 ls C P1 S1 V)
  · have h := kws_sP (Γ := Γ) (ω := ω) (j := q) (p := some v) hk.1 hk.2
    rw [kent_q hs] at h
    have e2 : (fun j => ((sP ω k q (some v)).2.2 k j).map (kad Γ)) = va_up (fun j => (ω.2.2 k j).map (kad Γ)) q (some (kad Γ v)) := by
      funext j
      by_cases hj : j = q
      · subst hj; simp [sP, va_up]
      · simp [sP, va_up, hj]
    rw [e2] at h
    exact h
  · show H1[kad Γ k]? = some (vp_cell _ _)
    rw [h, nI_clamp (by omega), vp_cell_q, vp_cell_q, arrV_store]
    congr 2
    funext z
    by_cases hz : z = q
    · subst hz; simp [updV, va_up, va_rf]
    · simp [updV, va_up, hz]
theorem kG.alen {k n : Nat} {v : Int32} (pc' : Nat) (hd : decode mi.2.1 pc = .ok (.arraylength, 1)) (hk : 0 < k ∧ k < ω.1) (hs : ksh k = (10, n)) (hv : nI n = v) (hp : pc + 1 = pc') (kk : kG Γ mi R cs pc' L (.int v :: st) ω Z) : kG Γ mi R cs pc L (.ref k :: st) ω Z := by
  intro p e s m args below meth c H locs ls C P S V
  subst hp
  exact va_alen (x := (n, .inl (ω.2.1 k))) C.1 C.2.1 C.2.2.2.2.2.2.2.2.1.1 P.2.2 (k - 1) 0 (by rw [kws_at hk.1 hk.2, kent_i hs]) (ty := .int) rfl hv hd (kk p e s m args below meth c H locs ls C P S V)
/-! the law's script -/
theorem kG.sld {q : Nat} {x : Int32} (pc' : Nat) (hd : decode mi.2.1 pc = .ok (.iaload, 1)) (hm : mi.1 = RL) (hx : x = nI q) (hq : q < kLn Γ) (hb : q < 1000) (hp : pc + 1 = pc') (kk : kG Γ mi R cs pc' L (.int (kxs Γ q) :: st) ω Z) : kG Γ mi R cs pc L (.int x :: .ref 0 :: st) ω Z := by
  intro p e s m args below meth c H locs ls C P S V
  subst hp; subst hx
  obtain ⟨hX, hbl, hbA⟩ := C.2.2.2.2.2.2.2.2.2.2 hm
  have h := kk p e s m args below meth c H locs ls C P S V
  refine va_sld C.1 C.2.1 hX hbl (show ¬ kA Γ (kb Γ) from Nat.not_lt.mpr hbA) S (i := nI q) ?_ hd ?_
  · intro z
    rcases z with z | z
    · exact nI_pos (by omega) z
    · rw [nI_clamp (by omega)] at z; omega
  · rw [nI_clamp (by omega)]
    exact h
theorem kG.slen {v : Int32} (pc' : Nat) (hd : decode mi.2.1 pc = .ok (.arraylength, 1)) (hm : mi.1 = RL) (hv : nI (kLn Γ) = v) (hp : pc + 1 = pc') (kk : kG Γ mi R cs pc' L (.int v :: st) ω Z) : kG Γ mi R cs pc L (.ref 0 :: st) ω Z := by
  intro p e s m args below meth c H locs ls C P S V
  subst hp; subst hv
  obtain ⟨hX, hbl, hbA⟩ := C.2.2.2.2.2.2.2.2.2.2 hm
  exact va_slen C.1 C.2.1 hX hbl (show ¬ kA Γ (kb Γ) from Nat.not_lt.mpr hbA) S hd (kk p e s m args below meth c H locs ls C P S V)
/-! returns -/
theorem kret {s : State} {args : Array Value} {H : Heap} {locs : List Loc} {Q : Option Value → kWd → Prop} {r : Option Value} (P : kRep Γ ω H) (S : va_S (kA Γ) s.heap H locs) (hq : Q r ω) : ∀ t : State, t.heap = H → s.WarmedH t.vm → kQc Γ Q args s (.returned (r.map (kcv Γ))) t :=
  fun t ht _ => ⟨⟨r, ω, rfl, hq, by rw [ht]; exact P⟩, S.F ht⟩
theorem kG.iret {Q : Option Value → kWd → Prop} {x : Int32} (hd : decode mi.2.1 pc = .ok (.ireturn, 1)) (hr : mi.2.2.2.1 = some .int) (hc : cs.1 ≤ R.cells ∧ cs.2 ≤ R.slots) (hq : Q (some (.int x)) ω) : kG Γ mi R cs pc L [.int x] ω (kMZ Γ R Q) := by
  intro p e s m args below meth c H locs ls C P S V
  exact W.widen hc.1 hc.2 (W.iret C.1 C.2.1 (C.2.2.1.trans hr) (kret (r := some (.int x)) P S hq) S.2.2 hd C.2.2.2.2.2.2.1)
theorem kG.zret {Q : Option Value → kWd → Prop} {x : Int32} (hd : decode mi.2.1 pc = .ok (.ireturn, 1)) (hr : mi.2.2.2.1 = some .boolean) (hx : x &&& 1 = x) (hc : cs.1 ≤ R.cells ∧ cs.2 ≤ R.slots) (hq : Q (some (.int x)) ω) : kG Γ mi R cs pc L [.int x] ω (kMZ Γ R Q) := by
  intro p e s m args below meth c H locs ls C P S V
  exact W.widen hc.1 hc.2 (W.zret C.1 C.2.1 (C.2.2.1.trans hr) (by show Value.int (x &&& 1) = _; rw [hx]) (kret (r := some (.int x)) P S hq) S.2.2 hd C.2.2.2.2.2.2.1)
theorem kG.lret {Q : Option Value → kWd → Prop} {x : Int64} (hd : decode mi.2.1 pc = .ok (.lreturn, 1)) (hr : mi.2.2.2.1 = some .long) (hc : cs.1 ≤ R.cells ∧ cs.2 ≤ R.slots) (hq : Q (some (.long x)) ω) : kG Γ mi R cs pc L [.long x] ω (kMZ Γ R Q) := by
  intro p e s m args below meth c H locs ls C P S V
  exact W.widen hc.1 hc.2 (W.lret C.1 C.2.1 (C.2.2.1.trans hr) (kret (r := some (.long x)) P S hq) S.2.2 hd C.2.2.2.2.2.2.1)
theorem kG.aret {Q : Option Value → kWd → Prop} {k : Nat} {n : String} (hd : decode mi.2.1 pc = .ok (.areturn, 1)) (hr : mi.2.2.2.1 = some (.object n)) (hc : cs.1 ≤ R.cells ∧ cs.2 ≤ R.slots) (hq : Q (some (.ref k)) ω) : kG Γ mi R cs pc L [.ref k] ω (kMZ Γ R Q) := by
  intro p e s m args below meth c H locs ls C P S V
  exact W.widen hc.1 hc.2 (W.aret C.1 C.2.1 (C.2.2.1.trans hr) (Or.inl ⟨n, rfl⟩) (Or.inr ⟨_, rfl⟩) (kret (r := some (.ref k)) P S hq) S.2.2 hd C.2.2.2.2.2.2.1)
theorem kG.vret {Q : Option Value → kWd → Prop} (hd : decode mi.2.1 pc = .ok (.return_, 1)) (hr : mi.2.2.2.1 = none) (hc : cs.1 ≤ R.cells ∧ cs.2 ≤ R.slots) (hq : Q none ω) : kG Γ mi R cs pc L [] ω (kMZ Γ R Q) := by
  intro p e s m args below meth c H locs ls C P S V
  exact W.widen hc.1 hc.2 (W.vret C.1 C.2.1 (C.2.2.1.trans hr) (kret (r := none) P S hq) S.2.2 hd C.2.2.2.2.2.2.1)
/-! a method's contract out of its body -/
theorem kC.ofG {y : MethodName} {as : List Value} {Q : Option Value → kWd → Prop} (hy : plainName y.cls = true) (hcl : y.cls = mi.1) (hnm : y.name = mi.2.2.2.2) (hL : mi.1 ≠ RL) (hn : (kEnA as).length ≤ mi.2.2.1) (h : kG Γ mi R (0, 0) 0 (kEn mi.2.2.1 as) [] ω (kMZ Γ R Q)) : kC Γ y mi R as ω Q := by
  refine Met.ofW (cc := mi.2.1) (maxL := mi.2.2.1) (ret := mi.2.2.2.1) hy rfl ?_
  intro p e s m args below meth c s₁ B hml hv
  obtain ⟨rfl, hP, hK⟩ := hv
  have hts := atoms_spec (ws := kWs y mi) B.pre
  have hown : s.vm.findClass y.cls = some m.cls := findClass_of_methodNamed B.named
  have hin : meth.name = y.name := (name_of_methodNamed B.named B.method).1
  have hl := lv_entry (as.map (kcv Γ)) (n := mi.2.2.1) (by rw [kEnA_len]; exact hn)
  rw [lg_entry_eq]
  refine h p e s m _ below meth c s.heap [] _ ⟨B.exec, B.bytes, B.returns, hml, by rw [← hcl]; exact hown, fun w hw => hts w (List.mem_cons_of_mem _ hw), B.notSynchronized, fun e => by rw [hin, hnm]; exact e, hK, ?_, fun e => absurd e hL⟩ hP va_S.rf ⟨hl.1, hl.2.1, fun k v hk => ?_⟩
  · by_cases h74 : ω.1 < 74
    · rw [hP.2.1 h74]; have := hP.1; omega
    · have := (hP.2.2 0 _ (kws_at (k := 1) (by omega) (by omega))).lt
      have h2 : kbs Γ + 1 < s.heap.size := by simpa [kad] using this
      omega
  · have := kEnA_args Γ as 0 k v (kEn_get hk)
    rw [Nat.zero_add] at this
    exact hl.2.2 _ this
theorem kC.weak {y : MethodName} {as : List Value} {Q Q' : Option Value → kWd → Prop} (h : kC Γ y mi R as ω Q) (hq : ∀ r ω', Q r ω' → Q' r ω') : kC Γ y mi R as ω Q' := by
  intro p e ha hc hk s m args below hf hpre hP hK
  obtain ⟨k, o, h1, h2, h3, ⟨⟨r, ω', e1, e2, e3⟩, hF⟩, hE⟩ := h p e ha hc hk s m args below hf hpre hP hK
  exact ⟨k, o, h1, h2, h3, ⟨⟨r, ω', e1, hq r ω' e2, e3⟩, hF⟩, hE⟩
/-! calls -/
theorem kblind (Γ : kGm) (av : List Value) (ω : kWd) : FrameBlind (va_Pc av (fun U => kRep Γ ω U.heap ∧ kKS Γ U)) := fun _ _ _ _ q => ⟨q.1, q.2.1, q.2.2.call⟩
theorem krun {p : Program} {e : Env} {s : State} {m : MethodId} {args : Array Value} {below : List Frame} {meth : Method} {c : Code} {H : Heap} {locs : List Loc} {cells slots mc ms : Nat} {Qw : State → Prop} {ls : Array Slot} {st0 rest : List Value} {Q' : Option Value → kWd → Prop} {a : Array Value}
    (hr : va_Run p Γ.1 e R s m args below meth c H locs cells slots mc ms (F0 m pc ls st0) rest (kQc Γ Q' a) (kA Γ)) (S : va_S (kA Γ) s.heap H locs)
    (kk : ∀ (r : Option Value) (ω' : kWd) (H1 : Heap) (locs1 : List Loc), Q' r ω' → kRep Γ ω' H1 → va_S (kA Γ) s.heap H1 locs1 → W p Γ.1 e R s m args below meth c H1 locs1 (cells + mc) (slots + ms) Qw (F0 m (pc + 3) ls ((r.map (kcv Γ)).toList ++ rest))) : W p Γ.1 e R s m args below meth c H locs cells slots Qw (F0 m pc ls st0) := by
  intro T hT X
  obtain ⟨v, st₀, t, T', L', h0, X', hL, e1, e2, ⟨⟨r, ω', hv, hq, hb⟩, hz, hk⟩, st⟩ := hr T hT X
  cases hv
  rw [h0] at hz hk
  obtain ⟨t2, a1, b1⟩ := kk r ω' T'.heap (locs ++ L') hq (by rw [e1]; exact hb)
    ⟨Nat.le_trans S.1 (by rw [e1]; exact hz), fun q h1 h2 => by rw [e1, hk q (Nat.lt_of_lt_of_le h1 S.1) h2]; exact S.2.1 q h1 h2, fun q hq => by
      rcases List.mem_append.mp hq with h | h
      · exact S.2.2 q h
      · exact hL q h⟩ T' rfl X'
  exact ⟨t2, st t2 a1, b1⟩
theorem kmap_st {stk As st : List Value} {v : List Value} (h : stk = As.reverse ++ (v ++ st)) : stk.map (kcv Γ) = (As.map (kcv Γ)).reverse ++ (v.map (kcv Γ) ++ st.map (kcv Γ)) := by
  rw [h, List.map_append, List.map_reverse, List.map_append]
theorem ksum_st (st : List Value) : ((st.map (kcv Γ)).map fun v => v.category).sum = (st.map fun v => v.category).sum := by
  rw [List.map_map]
  congr 1
  apply List.map_congr_left
  intro v _
  exact kcv_cat Γ v
theorem kret_st {r : Option Value} {st : List Value} : (r.map (kcv Γ)).toList ++ st.map (kcv Γ) = (r.toList ++ st).map (kcv Γ) := by
  cases r <;> rfl
def kDs (y : MethodName) (n : Nat) : Prop := y.cls ≠ "java/lang/invoke/MethodHandle" ∧ y.cls ≠ "java/lang/invoke/VarHandle" ∧ (parseMethodDescriptor y.desc).map (fun d => d.parameters.length) = some n
def kVm (y : MethodName) (mi : kMI) (n : Nat) : Prop := Cond.instanceMethod y ∈ kTS ∧ Cond.selects y.cls y y ∈ kTS ∧ Cond.initialized y.cls ∈ kTS ∧ Cond.code y mi.2.1 mi.2.2.1 mi.2.2.2.1 ∈ kTS ∧ kDs y n
def kSm (y : MethodName) (mi : kMI) (n : Nat) : Prop := Cond.static y ∈ kTS ∧ Cond.initialized y.cls ∈ kTS ∧ Cond.code y mi.2.1 mi.2.2.1 mi.2.2.2.1 ∈ kTS ∧ kDs y n
def kIm (y : MethodName) (mi : kMI) (n : Nat) : Prop := Cond.instanceMethod y ∈ kTS ∧ Cond.initialized y.cls ∈ kTS ∧ Cond.code y mi.2.1 mi.2.2.1 mi.2.2.2.1 ∈ kTS ∧ kDs y n ∧ y.name = "<init>" ∧ mi.2.2.2.1 = none
theorem kWs_in {y : MethodName} {mi' : kMI} (h : Cond.code y mi'.2.1 mi'.2.2.1 mi'.2.2.2.1 ∈ kTS) : GoodIn kTS (kWs y mi') := kGood_sub fun w hw => by
  rcases List.mem_cons.mp hw with rfl | hw
  · exact h
  · exact hw
theorem kG.callV {i n k ci : Nat} {y : MethodName} {mi' : kMI} {R' : Room} {As stk : List Value} {Q' : Option Value → kWd → Prop} (pc' : Nat) (hd : decode mi.2.1 pc = .ok (.invokevirtual i, 3)) (hl : Cond.methodLink mi.1 i y ∈ kTS) (hv : kVm y mi' n) (hM : kC Γ y mi' R' (.ref k :: As) ω Q') (hst : stk = As.reverse ++ ([.ref k] ++ st)) (hn : As.length = n) (hk : 0 < k ∧ k < ω.1) (hs : (ksh k).1 = ci ∧ ci < 6) (hcls : kR ci = y.cls)
    (hR : R'.frames + 1 ≤ R.frames ∧ 8 + (mi'.2.2.1 + 11) + R'.locals ≤ R.locals) (hW : (st.map fun v => v.category).sum ≤ 8) (hcs : cs.1 + R'.cells ≤ R.cells ∧ cs.2 + R'.slots ≤ R.slots) (hp : pc + 3 = pc')
    (kk : ∀ (r : Option Value) (ω' : kWd), Q' r ω' → kG Γ mi R (cs.1 + R'.cells, cs.2 + R'.slots) pc' L (r.toList ++ st) ω' Z) : kG Γ mi R cs pc L stk ω Z := by
  intro p e s m args below meth c H locs ls C P S V
  subst hp
  obtain ⟨hi, hse, hini, hcode, hds⟩ := hv
  have hts := C.2.2.2.2.2.1
  have hKS := C.2.2.2.2.2.2.2.2.1
  obtain ⟨hc, -, -, -⟩ := kcl hs.2
  have he : (kws Γ ω)[k - 1]? = some (kad Γ k, .inr (ci, kfs Γ ω ci k)) := by rw [kws_at hk.1 hk.2, kent_obj hs.1 hs.2]
  have hrecv : ∃ cellB : Cell, H[kad Γ k]? = some cellB ∧ cellB.vm.isStatics = false ∧ s.vm.findClass y.cls = some cellB.cls := by
    have := va_recv hKS.1 P.2.2 hc he
    rw [← hcls]
    exact this
  have run := va_runV (l := Γ.1) (e := e) (R := R) (below := below) (meth := meth) (H := H) (locs := locs) (cells := cs.1) (slots := cs.2) (As := As.map (kcv Γ)) (rest := st.map (kcv Γ)) (n := n) (C := y.cls) (g := F0 m pc ls (stk.map (kcv Γ))) ⟨C.1, C.2.1, C.2.2.2.1, C.2.2.2.2.1, hts⟩ hM
    ⟨callB_of n hts (kWs_in hcode) rfl rfl rfl (hts _ hini) (hts _ hl) hds hR, hts _ hi, hts _ hse⟩
    ⟨kblind Γ _ ω, hrecv, fun U hU hW => ⟨rfl, by rw [hU]; exact P, hKS.warm hW⟩⟩ rfl (by rw [List.length_map]; exact hn) V.1 (kmap_st (v := [.ref k]) hst) (by show 2 * 0 + _ ≤ 8; rw [ksum_st]; omega) hd hcs
  refine krun run S (fun r ω' H1 locs1 hq P1 S1 => ?_)
  rw [kret_st]
  exact kk r ω' hq p e s m args below meth c H1 locs1 ls C P1 S1 V
theorem kG.callS {i n : Nat} {y : MethodName} {mi' : kMI} {R' : Room} {As stk : List Value} {Q' : Option Value → kWd → Prop} (pc' : Nat) (hd : decode mi.2.1 pc = .ok (.invokestatic i, 3)) (hl : Cond.methodLink mi.1 i y ∈ kTS) (hv : kSm y mi' n) (hM : kC Γ y mi' R' As ω Q') (hst : stk = As.reverse ++ ([] ++ st)) (hn : As.length = n)
    (hR : R'.frames + 1 ≤ R.frames ∧ 8 + (mi'.2.2.1 + 11) + R'.locals ≤ R.locals) (hW : (st.map fun v => v.category).sum ≤ 8) (hcs : cs.1 + R'.cells ≤ R.cells ∧ cs.2 + R'.slots ≤ R.slots) (hp : pc + 3 = pc')
    (kk : ∀ (r : Option Value) (ω' : kWd), Q' r ω' → kG Γ mi R (cs.1 + R'.cells, cs.2 + R'.slots) pc' L (r.toList ++ st) ω' Z) : kG Γ mi R cs pc L stk ω Z := by
  intro p e s m args below meth c H locs ls C P S V
  subst hp
  obtain ⟨hi, hini, hcode, hds⟩ := hv
  have hts := C.2.2.2.2.2.1
  have hKS := C.2.2.2.2.2.2.2.2.1
  have run := va_runS (l := Γ.1) (e := e) (R := R) (below := below) (meth := meth) (H := H) (locs := locs) (cells := cs.1) (slots := cs.2) (As := As.map (kcv Γ)) (rest := st.map (kcv Γ)) (n := n) (g := F0 m pc ls (stk.map (kcv Γ))) ⟨C.1, C.2.1, C.2.2.2.1, C.2.2.2.2.1, hts⟩ hM
    ⟨callB_of n hts (kWs_in hcode) rfl rfl rfl (hts _ hini) (hts _ hl) hds hR, hts _ hi⟩
    ⟨kblind Γ _ ω, fun U hU hW => ⟨rfl, by rw [hU]; exact P, hKS.warm hW⟩⟩ rfl (by rw [List.length_map]; exact hn) V.1 (kmap_st (v := []) hst) (by show 2 * 0 + _ ≤ 8; rw [ksum_st]; omega) hd hcs
  refine krun run S (fun r ω' H1 locs1 hq P1 S1 => ?_)
  rw [kret_st]
  exact kk r ω' hq p e s m args below meth c H1 locs1 ls C P1 S1 V
/-- wantsOf, out of Weeks (a nest mate's private method) -/
theorem kG.callSN {i n : Nat} {y : MethodName} {host : String} {mi' : kMI} {R' : Room} {As stk : List Value} {Q' : Option Value → kWd → Prop} (pc' : Nat) (hd : decode mi.2.1 pc = .ok (.invokestatic i, 3)) (hl : ∀ s, kKS Γ s → va_Nw (.methodLinkNest mi.1 i y host) s) (hv : kSm y mi' n) (hM : kC Γ y mi' R' As ω Q') (hst : stk = As.reverse ++ ([] ++ st)) (hn : As.length = n)
    (hR : R'.frames + 1 ≤ R.frames ∧ 8 + (mi'.2.2.1 + 11) + R'.locals ≤ R.locals) (hW : (st.map fun v => v.category).sum ≤ 8) (hcs : cs.1 + R'.cells ≤ R.cells ∧ cs.2 + R'.slots ≤ R.slots) (hp : pc + 3 = pc')
    (kk : ∀ (r : Option Value) (ω' : kWd), Q' r ω' → kG Γ mi R (cs.1 + R'.cells, cs.2 + R'.slots) pc' L (r.toList ++ st) ω' Z) : kG Γ mi R cs pc L stk ω Z := by
  intro p e s m args below meth c H locs ls C P S V
  subst hp
  obtain ⟨hi, hini, hcode, hds⟩ := hv
  have hts := C.2.2.2.2.2.1
  have hKS := C.2.2.2.2.2.2.2.2.1
  have run := va_runSN (l := Γ.1) (e := e) (R := R) (below := below) (meth := meth) (H := H) (locs := locs) (cells := cs.1) (slots := cs.2) (As := As.map (kcv Γ)) (rest := st.map (kcv Γ)) (n := n) (g := F0 m pc ls (stk.map (kcv Γ))) ⟨C.1, C.2.1, C.2.2.2.1, C.2.2.2.2.1, hts⟩ hM
    ⟨va_cnB n hts (kWs_in hcode) rfl rfl rfl (hl s hKS) (hts _ hini) hds hR, hts _ hi, trivial⟩
    ⟨kblind Γ _ ω, fun U hU hW => ⟨rfl, by rw [hU]; exact P, hKS.warm hW⟩⟩ rfl (by rw [List.length_map]; exact hn) V.1 (kmap_st (v := []) hst) (by show 2 * 0 + _ ≤ 8; rw [ksum_st]; omega) hd hcs
  refine krun run S (fun r ω' H1 locs1 hq P1 S1 => ?_)
  rw [kret_st]
  exact kk r ω' hq p e s m args below meth c H1 locs1 ls C P1 S1 V
theorem kG.callI {i n k : Nat} {y : MethodName} {mi' : kMI} {R' : Room} {As stk : List Value} {Q' : Option Value → kWd → Prop} (pc' : Nat) (hd : decode mi.2.1 pc = .ok (.invokespecial i, 3)) (hl : Cond.methodLink mi.1 i y ∈ kTS) (hv : kIm y mi' n) (hM : kC Γ y mi' R' (.ref k :: As) ω Q') (hst : stk = As.reverse ++ ([.ref k] ++ st)) (hn : As.length = n)
    (hR : R'.frames + 1 ≤ R.frames ∧ 8 + (mi'.2.2.1 + 11) + R'.locals ≤ R.locals) (hW : (st.map fun v => v.category).sum ≤ 8) (hcs : cs.1 + R'.cells ≤ R.cells ∧ cs.2 + R'.slots ≤ R.slots) (hp : pc + 3 = pc')
    (kk : ∀ (r : Option Value) (ω' : kWd), Q' r ω' → kG Γ mi R (cs.1 + R'.cells, cs.2 + R'.slots) pc' L (r.toList ++ st) ω' Z) : kG Γ mi R cs pc L stk ω Z := by
  intro p e s m args below meth c H locs ls C P S V
  subst hp
  obtain ⟨hi, hini, hcode, hds, hnm, hno⟩ := hv
  have hts := C.2.2.2.2.2.1
  have hKS := C.2.2.2.2.2.2.2.2.1
  have hcode' : Cond.code y mi'.2.1 mi'.2.2.1 none ∈ kTS := by rw [← hno]; exact hcode
  have run := va_runI (l := Γ.1) (e := e) (R := R) (below := below) (meth := meth) (H := H) (locs := locs) (cells := cs.1) (slots := cs.2) (b := kad Γ k) (As := As.map (kcv Γ)) (rest := st.map (kcv Γ)) (n := n) (maxL := mi'.2.2.1) (bytes := mi'.2.1) (g := F0 m pc ls (stk.map (kcv Γ))) ⟨C.1, C.2.1, C.2.2.2.1, C.2.2.2.2.1, hts⟩ hM
    ⟨callB_of (ws' := kTS) n hts (kWs_in hcode) (by show Cond.code y _ _ mi'.2.2.2.1 :: _ = _; rw [hno]) rfl rfl (hts _ hini) (hts _ hl) hds hR, hnm, hts _ hi⟩
    ⟨kblind Γ _ ω, fun U hU hW => ⟨rfl, by rw [hU]; exact P, hKS.warm hW⟩⟩ rfl (by rw [List.length_map]; exact hn) V.1 (kmap_st (v := [.ref k]) hst) (by show 2 * 0 + _ ≤ 8; rw [ksum_st]; omega) hd hcs
  refine krun run S (fun r ω' H1 locs1 hq P1 S1 => ?_)
  rw [kret_st]
  exact kk r ω' hq p e s m args below meth c H1 locs1 ls C P1 S1 V
theorem kG.callIN {i n k : Nat} {y : MethodName} {host : String} {mi' : kMI} {R' : Room} {As stk : List Value} {Q' : Option Value → kWd → Prop} (pc' : Nat) (hd : decode mi.2.1 pc = .ok (.invokespecial i, 3)) (hl : ∀ s, kKS Γ s → va_Nw (.methodLinkNest mi.1 i y host) s) (hv : kIm y mi' n) (hM : kC Γ y mi' R' (.ref k :: As) ω Q') (hst : stk = As.reverse ++ ([.ref k] ++ st)) (hn : As.length = n)
    (hR : R'.frames + 1 ≤ R.frames ∧ 8 + (mi'.2.2.1 + 11) + R'.locals ≤ R.locals) (hW : (st.map fun v => v.category).sum ≤ 8) (hcs : cs.1 + R'.cells ≤ R.cells ∧ cs.2 + R'.slots ≤ R.slots) (hp : pc + 3 = pc')
    (kk : ∀ (r : Option Value) (ω' : kWd), Q' r ω' → kG Γ mi R (cs.1 + R'.cells, cs.2 + R'.slots) pc' L (r.toList ++ st) ω' Z) : kG Γ mi R cs pc L stk ω Z := by
  intro p e s m args below meth c H locs ls C P S V
  subst hp
  obtain ⟨hi, hini, hcode, hds, hnm, hno⟩ := hv
  have hts := C.2.2.2.2.2.1
  have hKS := C.2.2.2.2.2.2.2.2.1
  have run := va_runIN (l := Γ.1) (e := e) (R := R) (below := below) (meth := meth) (H := H) (locs := locs) (cells := cs.1) (slots := cs.2) (b := kad Γ k) (As := As.map (kcv Γ)) (rest := st.map (kcv Γ)) (n := n) (maxL := mi'.2.2.1) (bytes := mi'.2.1) (g := F0 m pc ls (stk.map (kcv Γ))) ⟨C.1, C.2.1, C.2.2.2.1, C.2.2.2.2.1, hts⟩ hM
    ⟨va_cnB (ws' := kTS) n hts (kWs_in hcode) (by show Cond.code y _ _ mi'.2.2.2.1 :: _ = _; rw [hno]) rfl rfl (hl s hKS) (hts _ hini) hds hR, hnm, hts _ hi⟩
    ⟨kblind Γ _ ω, fun U hU hW => ⟨rfl, by rw [hU]; exact P, hKS.warm hW⟩⟩ rfl (by rw [List.length_map]; exact hn) V.1 (kmap_st (v := [.ref k]) hst) (by show 2 * 0 + _ ≤ 8; rw [ksum_st]; omega) hd hcs
  refine krun run S (fun r ω' H1 locs1 hq P1 S1 => ?_)
  rw [kret_st]
  exact kk r ω' hq p e s m args below meth c H1 locs1 ls C P1 S1 V
/-! the library's own -/
theorem kG.mmax {i : Nat} {x y : Int32} (pc' : Nat) (hd : decode mi.2.1 pc = .ok (.invokestatic i, 3)) (hl : Cond.methodLink mi.1 i Lib.Math.max.name ∈ kTS) (hc : cs.1 ≤ R.cells ∧ cs.2 ≤ R.slots) (hR : 1 ≤ R.frames ∧ (st.map fun v => v.category).sum + 13 ≤ R.locals) (hp : pc + 3 = pc') (kk : kG Γ mi R cs pc' L (.int (if x < y then y else x) :: st) ω Z) : kG Γ mi R cs pc L (.int y :: .int x :: st) ω Z := by
  intro p e s m args below meth c H locs ls C P S V
  subst hp
  have hts := C.2.2.2.2.2.1
  exact va_mmax C.1 C.2.1 (C.2.2.2.1.trans V.1.symm) C.2.2.2.2.1 (hts _ hl) (hts _ kmax_s) (hts _ kmath_i) (hts _ kmax_c) hR.1 (by rw [ksum_st]; exact hR.2) hc.1 hc.2 hd (kk p e s m args below meth c H locs ls C P S V)
theorem kG.mmin {i : Nat} {x y : Int32} (pc' : Nat) (hd : decode mi.2.1 pc = .ok (.invokestatic i, 3)) (hl : Cond.methodLink mi.1 i Lib.Math.min.name ∈ kTS) (hc : cs.1 ≤ R.cells ∧ cs.2 ≤ R.slots) (hR : 1 ≤ R.frames ∧ (st.map fun v => v.category).sum + 13 ≤ R.locals) (hp : pc + 3 = pc') (kk : kG Γ mi R cs pc' L (.int (if y < x then y else x) :: st) ω Z) : kG Γ mi R cs pc L (.int y :: .int x :: st) ω Z := by
  intro p e s m args below meth c H locs ls C P S V
  subst hp
  have hts := C.2.2.2.2.2.1
  exact va_mmin C.1 C.2.1 (C.2.2.2.1.trans V.1.symm) C.2.2.2.2.1 (hts _ hl) (hts _ kmin_s) (hts _ kmath_i) (hts _ kmin_c) hR.1 (by rw [ksum_st]; exact hR.2) hc.1 hc.2 hd (kk p e s m args below meth c H locs ls C P S V)
theorem kG.objInit {i k : Nat} (pc' : Nat) (hd : decode mi.2.1 pc = .ok (.invokespecial i, 3)) (hl : Cond.methodLink mi.1 i objectInit ∈ kTS) (hR : 1 ≤ R.frames ∧ (st.map fun v => v.category).sum + 12 ≤ R.locals) (hp : pc + 3 = pc') (kk : kG Γ mi R cs pc' L st ω Z) : kG Γ mi R cs pc L (.ref k :: st) ω Z := by
  intro p e s m args below meth c H locs ls C P S V
  subst hp
  have hts := C.2.2.2.2.2.1
  exact W.objInit C.1 C.2.1 C.2.2.2.2.1 (hts _ hl) (hts _ kobj_i) (hts _ kobj_c) rfl (V.1.trans C.2.2.2.1.symm) rfl hd hR.1 (by show 2 * 0 + _ + 12 ≤ _; rw [ksum_st]; omega) (kk p e s m args below meth c H locs ls C P S V)
/-! new cells -/
theorem kws_push {Γ : kGm} {ω : kWd} (h : 0 < ω.1) : kws Γ (ω.1 + 1, ω.2) = kws Γ ω ++ [(kad Γ ω.1, kent Γ ω ω.1)] := by
  have e : ω.1 + 1 - 1 = (ω.1 - 1) + 1 := by omega
  have e2 : ω.1 - 1 + 1 = ω.1 := by omega
  unfold kws
  show (List.range (ω.1 + 1 - 1)).map _ = _
  rw [e, List.range_succ, List.map_append]
  have e3 : kad Γ ω.1 = kbs Γ + ω.1 := by unfold kad; rw [if_neg (by omega)]
  simp only [List.map_cons, List.map_nil, e2, e3]
  rfl
theorem knew {p : Program} {e : Env} {s : State} {m : MethodId} {args : Array Value} {below : List Frame} {meth : Method} {c : Code} {H H1 : Heap} {locs : List Loc} {cells slots : Nat} {Qw : State → Prop} {g : JFrame} (P : kRep Γ ω H) (S : va_S (kA Γ) s.heap H locs) (z : H1.size = H.size + 1) (o : ∀ q, q < H.size → H1[q]? = H[q]?) (ha : va_at Γ.2.1 vwCl (kad Γ ω.1, kent Γ ω ω.1) H1)
    (kk : kRep Γ (ω.1 + 1, ω.2) H1 → va_S (kA Γ) s.heap H1 locs → W p Γ.1 e R s m args below meth c H1 locs cells slots Qw g) : W p Γ.1 e R s m args below meth c H1 locs cells slots Qw g := by
  refine kk ⟨Nat.succ_pos _, fun h => by rw [z, P.2.1 (Nat.lt_of_succ_lt h)]; rfl, ?_⟩ ⟨Nat.le_trans S.1 (by omega), fun q h1 h2 => (o q (Nat.lt_of_lt_of_le h1 S.1)).trans (S.2.1 q h1 h2), S.2.2⟩
  rw [kws_push P.1]
  refine va_P.app (P.2.2.kept (fun k q hk => o q.1 ((P.2.2 k q hk).lt))) (fun k q hk => ?_)
  have hz : k < 1 := (List.getElem?_eq_some_iff.mp hk).1
  rw [show k = 0 by omega] at hk
  cases hk
  exact ha
theorem kad_sz {Γ : kGm} {ω : kWd} {H : Heap} (P : kRep Γ ω H) (h74 : ω.1 < 74) : H.size = kad Γ ω.1 := by
  rw [P.2.1 h74]
  unfold kad
  rw [if_neg (by have := P.1; omega)]
theorem kG.new {i ci : Nat} (pc' : Nat) (h74 : ω.1 < 74) (hd : decode mi.2.1 pc = .ok (.new i, 3)) (hc6 : ci < 6) (hl : Cond.classLink mi.1 i (kR ci) ∈ kTS) (hin : Cond.instantiable (kR ci) (kN ci) ∈ kTS) (hini : Cond.initialized (kR ci) ∈ kTS) (hs : (ksh ω.1).1 = ci) (h0 : ∀ j, ω.2.1 ω.1 j = 0) (h1 : ∀ j, ω.2.2 ω.1 j = none) (hdf : ∀ j, j < kN ci → defaultValue (kTy ci j) = if kint ci j = true then .int 0 else .null) (hcs : cs.1 + 1 ≤ R.cells ∧ cs.2 + kN ci ≤ R.slots) (hp : pc + 3 = pc') (kk : kG Γ mi R (cs.1 + 1, cs.2 + kN ci) pc' L (.ref ω.1 :: st) (ω.1 + 1, ω.2) Z) : kG Γ mi R cs pc L st ω Z := by
  intro p e s m args below meth c H locs ls C P S V
  subst hp
  obtain ⟨hc, hw, hty, hnm⟩ := kcl hc6
  have hts := C.2.2.2.2.2.1
  have hKn := C.2.2.2.2.2.2.2.2.1.1.1 ci _ hc
  refine W.newcK C.1 C.2.1 C.2.2.2.2.1 (hts _ hl) (hts _ hin) (hts _ hini) rfl hd hcs.1 hcs.2 hKn.2.1 (kad_sz P h74) fun H1 kC hkC e1 z1 o1 => ?_
  rw [← kad_sz P h74] at z1 o1
  refine knew P S z1 o1 ?_ (fun P1 S1 => kk p e s m args below meth c H1 locs ls C P1 S1 V)
  rw [kent_obj hs hc6]
  refine ⟨_, hc, (u_born (kTy ci) hts hw hKn hkC e1 hty).to (fun j hj => ?_)⟩
  rw [hdf j hj]
  unfold vp_V
  rw [List.getD_eq_getElem?_getD, kfs_get hj]
  simp only [kfv, h0, h1, Option.getD_some]
  rfl
theorem kG.newa {n : Nat} {x : Int32} (pc' : Nat) (h74 : ω.1 < 74) (hd : decode mi.2.1 pc = .ok (.newarray .int, 2)) (hs : ksh ω.1 = (10, n)) (hx : x = nI n) (hb : n < 1000) (h0 : ∀ j, ω.2.1 ω.1 j = 0) (hcs : cs.1 + 1 ≤ R.cells ∧ cs.2 + n ≤ R.slots) (hp : pc + 2 = pc') (kk : kG Γ mi R (cs.1 + 1, cs.2 + n) pc' L (.ref ω.1 :: st) (ω.1 + 1, ω.2) Z) : kG Γ mi R cs pc L (.int x :: st) ω Z := by
  intro p e s m args below meth c H locs ls C P S V
  subst hp; subst hx
  have hts := C.2.2.2.2.2.1
  have hK := C.2.2.2.2.2.2.2.2.1.1
  refine va_newaK (atype := .int) C.1 C.2.1 (hts _ karr_i) rfl hd (n := nI n) (N := n) rfl (nI_pos (by omega)) (nI_clamp (by omega)) (by show n * 4 ≤ _; omega) hcs.1 hcs.2 (kad_sz P h74) fun H1 cA e1 z1 o1 hA hNm => ?_
  rw [← kad_sz P h74] at z1 o1
  refine knew P S z1 o1 ?_ (fun P1 S1 => kk p e s m args below meth c H1 locs ls C P1 S1 V)
  have hcA : Γ.2.2.1 0 = cA := Option.some.inj ((show s.vm.findClass _ = some (Γ.2.2.1 0) from (hK.2 0 _ rfl).2).symm.trans hNm)
  rw [kent_i hs]
  show H1[_]? = some (vp_cell _ _)
  rw [e1, hcA, vp_cell_i]
  congr 2
  funext j
  rw [h0]
  rfl
theorem kG.newz {n : Nat} {x : Int32} (pc' : Nat) (h74 : ω.1 < 74) (hd : decode mi.2.1 pc = .ok (.newarray .boolean, 2)) (hs : ksh ω.1 = (11, n)) (hx : x = nI n) (hb : n < 1000) (h0 : ∀ j, ω.2.1 ω.1 j = 0) (hcs : cs.1 + 1 ≤ R.cells ∧ cs.2 + n ≤ R.slots) (hp : pc + 2 = pc') (kk : kG Γ mi R (cs.1 + 1, cs.2 + n) pc' L (.ref ω.1 :: st) (ω.1 + 1, ω.2) Z) : kG Γ mi R cs pc L (.int x :: st) ω Z := by
  intro p e s m args below meth c H locs ls C P S V
  subst hp; subst hx
  have hts := C.2.2.2.2.2.1
  have hK := C.2.2.2.2.2.2.2.2.1.1
  refine va_newaK (atype := .boolean) C.1 C.2.1 (hts _ karr_z) rfl hd (n := nI n) (N := n) rfl (nI_pos (by omega)) (nI_clamp (by omega)) (by show n * 1 ≤ _; omega) hcs.1 hcs.2 (kad_sz P h74) fun H1 cA e1 z1 o1 hA hNm => ?_
  rw [← kad_sz P h74] at z1 o1
  refine knew P S z1 o1 ?_ (fun P1 S1 => kk p e s m args below meth c H1 locs ls C P1 S1 V)
  have hcA : Γ.2.2.1 1 = cA := Option.some.inj ((show s.vm.findClass _ = some (Γ.2.2.1 1) from (hK.2 1 _ rfl).2).symm.trans hNm)
  rw [kent_z hs]
  show H1[_]? = some (vp_cell _ _)
  rw [e1, hcA, vp_cell_i]
  congr 2
  funext j
  rw [h0]
  rfl
theorem kG.newq {i n : Nat} {x : Int32} (pc' : Nat) (h74 : ω.1 < 74) (hd : decode mi.2.1 pc = .ok (.anewarray i, 3)) (hl : Cond.classLink mi.1 i RX1 ∈ kTS) (hs : ksh ω.1 = (12, n)) (hx : x = nI n) (hb : n < 1000) (h1 : ∀ j, ω.2.2 ω.1 j = none) (hcs : cs.1 + 1 ≤ R.cells ∧ cs.2 + n ≤ R.slots) (hp : pc + 3 = pc') (kk : kG Γ mi R (cs.1 + 1, cs.2 + n) pc' L (.ref ω.1 :: st) (ω.1 + 1, ω.2) Z) : kG Γ mi R cs pc L (.int x :: st) ω Z := by
  intro p e s m args below meth c H locs ls C P S V
  subst hp; subst hx
  have hts := C.2.2.2.2.2.1
  have hKS := C.2.2.2.2.2.2.2.2.1
  have hK := hKS.1
  have hcl : (nI n).toNatClampNeg = n := nI_clamp (by omega)
  refine W.anew C.1 C.2.1 C.2.2.2.2.1 (hts _ hl) (va_AO.use hKS.2.2.2.2) rfl hd rfl (nI_pos (by omega)) (by rw [hcl]; omega) hcs.1 (by rw [hcl]; exact hcs.2) fun cA kA' comp f1 f2 f3 f4 => ?_
  rw [hcl]
  generalize hH1 : H.push ({ cls := cA, slots := Array.replicate n .null, vm := .none } : Cell) = H1
  have z1 : H1.size = H.size + 1 := by rw [← hH1, Array.size_push]
  have e1 : H1[H.size]? = some (arrV cA n (fun _ => .null)) := by rw [← hH1, Array.getElem?_push_size, ← arrV_new]
  have o1 : ∀ q : Nat, q < H.size → H1[q]? = H[q]? := fun q hq => by rw [← hH1, Array.getElem?_push, if_neg (Nat.ne_of_lt hq)]
  have hk2 := kk p e s m args below meth c H1 locs ls C
  rw [kad_sz P h74]
  refine knew P S z1 o1 ?_ (fun P1 S1 => hk2 P1 S1 V)
  obtain ⟨kA2, comp2, k1, k2, k3, k4⟩ := (hK.2 2 _ rfl).2
  have hcA : Γ.2.2.1 2 = cA := Option.some.inj (k4.symm.trans f1)
  rw [kent_q hs]
  show H1[_]? = some (vp_cell _ _)
  rw [← kad_sz P h74, e1, hcA, vp_cell_q]
  congr 2
  funext j
  rw [h1]
  rfl
/-! System.arraycopy of ints -/
theorem kG.copy {i k0 k1 n0 n1 sp dp n : Nat} {xs xd xn : Int32} (pc' : Nat) (h74 : ω.1 = 74) (hd : decode mi.2.1 pc = .ok (.invokestatic i, 3)) (hl : Cond.methodLink mi.1 i arraycopyName ∈ kTS) (hk0 : 0 < k0 ∧ k0 < ω.1) (hk1 : 0 < k1 ∧ k1 < ω.1) (hs0 : ksh k0 = (10, n0)) (hs1 : ksh k1 = (10, n1)) (e0 : xs = nI sp) (e1 : xd = nI dp) (e2 : xn = nI n) (h0 : sp + n ≤ n0) (h1 : dp + n ≤ n1) (hb : n0 < 1000 ∧ n1 < 1000) (hR : 1 ≤ R.frames ∧ (st.map fun v => v.category).sum + (nativeFrameWords "java/lang/System" "arraycopy" 5 + 11) ≤ R.locals) (hp : pc + 3 = pc') (kk : kG Γ mi R cs pc' L st (sA ω k1 (va_cpy (ω.2.1 k0) (ω.2.1 k1) sp dp n)) Z) : kG Γ mi R cs pc L (.int xn :: .int xd :: .ref k1 :: .int xs :: .ref k0 :: st) ω Z := by
  intro p e s m args below meth c H locs ls C P S V
  subst hp; subst e0; subst e1; subst e2
  have hts := C.2.2.2.2.2.1
  have hK := C.2.2.2.2.2.2.2.2.1.1
  have c0 : (nI sp).toNatClampNeg = sp := nI_clamp (by omega)
  have c1 : (nI dp).toNatClampNeg = dp := nI_clamp (by omega)
  have c2 : (nI n).toNatClampNeg = n := nI_clamp (by omega)
  have he0 : (kws Γ ω)[k0 - 1]? = some (kad Γ k0, .inl (Γ.2.2.1 0, n0, .inl (ω.2.1 k0))) := by rw [kws_at hk0.1 hk0.2, kent_i hs0]
  have he1 : (kws Γ ω)[k1 - 1]? = some (kad Γ k1, .inl (Γ.2.2.1 0, n1, .inl (ω.2.1 k1))) := by rw [kws_at hk1.1 hk1.2, kent_i hs1]
  refine va_copyi C.1 C.2.1 (C.2.2.2.1.trans V.1.symm) C.2.2.2.2.1 (hts _ hl) (hts _ kcopy_n) (hts _ kcopy_s) (hts _ kcopy_i) hK P.2.2 (kws_D Γ ω) S (k0 - 1) (k1 - 1) 0 0 he0 he1 (ty := .int) rfl rfl rfl (nI_pos (by omega)) (nI_pos (by omega)) (nI_pos (by omega)) (by rw [c0, c2]; exact h0) (by rw [c1, c2]; exact h1) (fun _ _ => rfl) hR.1 (by rw [ksum_st]; exact hR.2) hd (fun H1 locs1 hP hD hS => ?_)
  rw [c0, c1, c2] at hP
  refine kk p e s m args below meth c H1 locs1 ls C ⟨P.1, fun h => absurd h (by show ¬ ω.1 < 74; omega), ?_⟩ hS V
  have h := kws_sA (Γ := Γ) (ω := ω) (f := va_cpy (ω.2.1 k0) (ω.2.1 k1) sp dp n) hk1.1 hk1.2
  rw [kent_i hs1] at h
  have e2 : (sA ω k1 (va_cpy (ω.2.1 k0) (ω.2.1 k1) sp dp n)).2.1 k1 = va_cpy (ω.2.1 k0) (ω.2.1 k1) sp dp n := by simp [sA]
  rw [e2] at h
  rw [← h]
  exact hP

end KR
end
section
abbrev mX0_init : kMI := (RX0, cX0_init, 2, none, "<init>")
abbrev mX0_keep : kMI := (RX0, cX0_keep, 4, some .int, "keep")
abbrev mX0_takeBack : kMI := (RX0, cX0_takeBack, 2, some .int, "takeBack")
abbrev mX0_sumOf : kMI := (RX0, cX0_sumOf, 5, some .int, "sumOf")
abbrev mX0_areWearOf : kMI := (RX0, cX0_areWearOf, 3, some .boolean, "areWearOf")
abbrev mX1_init : kMI := (RX1, cX1_init, 1, none, "<init>")
abbrev mX1_renew : kMI := (RX1, cX1_renew, 3, none, "renew")
abbrev mX1_hasNothing : kMI := (RX1, cX1_hasNothing, 1, some .boolean, "hasNothing")
abbrev mX1_hasCell : kMI := (RX1, cX1_hasCell, 2, some .boolean, "hasCell")
abbrev mX1_hasCells : kMI := (RX1, cX1_hasCells, 3, some .boolean, "hasCells")
abbrev mX1_read : kMI := (RX1, cX1_read, 2, some .int, "read")
abbrev mX1_write : kMI := (RX1, cX1_write, 3, none, "write")
abbrev mX1_cutToLane : kMI := (RX1, cX1_cutToLane, 2, some .int, "cutToLane")
abbrev mX2_init : kMI := (RX2, cX2_init, 1, none, "<init>")
abbrev mX2_begin : kMI := (RX2, cX2_begin, 1, none, "begin")
abbrev mX2_isWhole : kMI := (RX2, cX2_isWhole, 1, some .boolean, "isWhole")
abbrev mX2_goesOn : kMI := (RX2, cX2_goesOn, 3, some .boolean, "goesOn")
abbrev mX2_headGoesOn : kMI := (RX2, cX2_headGoesOn, 3, some .boolean, "headGoesOn")
abbrev mX2_opens : kMI := (RX2, cX2_opens, 2, some .boolean, "opens")
abbrev mX2_houseGoesOn : kMI := (RX2, cX2_houseGoesOn, 4, some .boolean, "houseGoesOn")
abbrev mX2_personGoesOn : kMI := (RX2, cX2_personGoesOn, 4, some .boolean, "personGoesOn")
abbrev mX2_isIn : kMI := (RX2, cX2_isIn, 3, some .boolean, "isIn")
abbrev mX2_digitOf : kMI := (RX2, cX2_digitOf, 1, some .int, "digitOf")
abbrev mX2_kindOf : kMI := (RX2, cX2_kindOf, 1, some .int, "kindOf")
abbrev mX2_breaksBy : kMI := (RX2, cX2_breaksBy, 3, some .boolean, "breaksBy")
abbrev mX2_dwellersOf : kMI := (RX2, cX2_dwellersOf, 4, some .int, "dwellersOf")
abbrev mX2_townIn : kMI := (RX2, cX2_townIn, 6, some .int, "townIn")
abbrev mX3_init : kMI := (RX3, cX3_init, 3, none, "<init>")
abbrev mX3_prepare : kMI := (RX3, cX3_prepare, 4, none, "prepare")
abbrev mX3_live : kMI := (RX3, cX3_live, 9, some .boolean, "live")
abbrev mX3_bringWood : kMI := (RX3, cX3_bringWood, 5, none, "bringWood")
abbrev mX3_takeWood : kMI := (RX3, cX3_takeWood, 5, some .int, "takeWood")
abbrev mX3_mend : kMI := (RX3, cX3_mend, 4, none, "mend")
abbrev mX3_note : kMI := (RX3, cX3_note, 4, none, "note")
abbrev mX3_woodAt : kMI := (RX3, cX3_woodAt, 3, some .int, "woodAt")
abbrev mX3_wearAt : kMI := (RX3, cX3_wearAt, 3, some .int, "wearAt")
abbrev mX3_coldAt : kMI := (RX3, cX3_coldAt, 2, some .int, "coldAt")
abbrev mX3_wearTogether : kMI := (RX3, cX3_wearTogether, 4, some .int, "wearTogether")
abbrev mX3_chillsOf : kMI := (RX3, cX3_chillsOf, 5, some .int, "chillsOf")
abbrev mX4_init : kMI := (RX4, cX4_init, 2, none, "<init>")
abbrev mX4_houses : kMI := (RX4, cX4_houses, 8, some .int, "houses")
abbrev mX4_ofHouse : kMI := (RX4, cX4_ofHouse, 3, some .int, "ofHouse")
abbrev mX4_ofPerson : kMI := (RX4, cX4_ofPerson, 3, some .int, "ofPerson")
abbrev mX4_seam : kMI := (RX4, cX4_seam, 3, some .int, "seam")
abbrev mX4_away : kMI := (RX4, cX4_away, 3, some .int, "away")
abbrev mX4_gift : kMI := (RX4, cX4_gift, 4, some .int, "gift")
abbrev mX4_undo : kMI := (RX4, cX4_undo, 2, some .int, "undo")
abbrev mX4_wood : kMI := (RX4, cX4_wood, 4, some .int, "wood")
abbrev mX4_wear : kMI := (RX4, cX4_wear, 4, some .int, "wear")
abbrev mX4_cold : kMI := (RX4, cX4_cold, 3, some .int, "cold")
abbrev mX4_chills : kMI := (RX4, cX4_chills, 3, some .int, "chills")
abbrev mX4_all : kMI := (RX4, cX4_all, 1, some .int, "all")
abbrev mX4_breaks : kMI := (RX4, cX4_breaks, 4, some .int, "breaks")
abbrev mX4_best : kMI := (RX4, cX4_best, 6, some .int, "best")
abbrev mX4_blame : kMI := (RX4, cX4_blame, 4, some .int, "blame")
abbrev mX4_warm : kMI := (RX4, cX4_warm, 6, some .int, "warm")
abbrev mX4_logs : kMI := (RX4, cX4_logs, 4, some .int, "logs")
abbrev mX4_pays : kMI := (RX4, cX4_pays, 8, some .long, "pays")
abbrev mX4_together : kMI := (RX4, cX4_together, 5, some .int, "together")
abbrev mX4_third : kMI := (RX4, cX4_third, 4, some .int, "third")
abbrev mX4_row : kMI := (RX4, cX4_row, 8, some .int, "row")
abbrev mX4_reading : kMI := (RX4, cX4_reading, 5, some .int, "reading")
abbrev mX4_back : kMI := (RX4, cX4_back, 2, some .int, "back")
abbrev mX4_gone : kMI := (RX4, cX4_gone, 3, some .int, "gone")
abbrev mX4_seams : kMI := (RX4, cX4_seams, 3, some .int, "seams")
abbrev mX4_kinds : kMI := (RX4, cX4_kinds, 4, some .int, "kinds")
abbrev mX4_odds : kMI := (RX4, cX4_odds, 5, some .long, "odds")
abbrev mX4_sheet : kMI := (RX4, cX4_sheet, 4, some .int, "sheet")
abbrev mX4_lose : kMI := (RX4, cX4_lose, 2, some .int, "lose")
abbrev mX4_put : kMI := (RX4, cX4_put, 4, some .int, "put")
abbrev mX4_cell : kMI := (RX4, cX4_cell, 4, some .long, "cell")
abbrev mX4_copy : kMI := (RX4, cX4_copy, 8, some .int, "copy")
abbrev mX4_tell : kMI := (RX4, cX4_tell, 2, some .int, "tell")
abbrev mX4_knock : kMI := (RX4, cX4_knock, 2, some .int, "knock")
abbrev mX4_as : kMI := (RX4, cX4_as, 3, some .int, "as")
abbrev mX4_trace : kMI := (RX4, cX4_trace, 1, some .int, "trace")
abbrev mX4_fault : kMI := (RX4, cX4_fault, 1, some .int, "fault")
abbrev mX4_many : kMI := (RX4, cX4_many, 2, some .int, "many")
abbrev mX4_isHouse : kMI := (RX4, cX4_isHouse, 2, some .boolean, "isHouse")
abbrev mX4_isPerson : kMI := (RX4, cX4_isPerson, 2, some .boolean, "isPerson")
abbrev mX4_isAway : kMI := (RX4, cX4_isAway, 2, some .boolean, "isAway")
abbrev mX4_isSheet : kMI := (RX4, cX4_isSheet, 1, some .boolean, "isSheet")
abbrev mX4_isLane : kMI := (RX4, cX4_isLane, 1, some .boolean, "isLane")
abbrev mX4_isWeek : kMI := (RX4, cX4_isWeek, 1, some .boolean, "isWeek")
abbrev mX4_isTime : kMI := (RX4, cX4_isTime, 2, some .boolean, "isTime")
abbrev mX4_isWhich : kMI := (RX4, cX4_isWhich, 1, some .boolean, "isWhich")
abbrev mX4_timeOf : kMI := (RX4, cX4_timeOf, 2, some .int, "timeOf")
abbrev mX4_everybody : kMI := (RX4, cX4_everybody, 1, some .int, "everybody")
abbrev mX4_whoIsIn : kMI := (RX4, cX4_whoIsIn, 2, some .int, "whoIsIn")
abbrev mX4_faultBy : kMI := (RX4, cX4_faultBy, 2, some .int, "faultBy")
abbrev mX4_refusalOfLane : kMI := (RX4, cX4_refusalOfLane, 3, some .int, "refusalOfLane")
abbrev mX4_refusalOfCells : kMI := (RX4, cX4_refusalOfCells, 6, some .int, "refusalOfCells")
abbrev mX4_firstFault : kMI := (RX4, cX4_firstFault, 5, some .int, "firstFault")
abbrev mX4_freshWeeks : kMI := (RX4, cX4_freshWeeks, 1, some (.object "TwoTowns$Weeks"), "freshWeeks")
abbrev mX4_lessWearWithout : kMI := (RX4, cX4_lessWearWithout, 4, some .int, "lessWearWithout")
abbrev mX4_readingsAreSoInTrial : kMI := (RX4, cX4_readingsAreSoInTrial, 1, some .boolean, "readingsAreSoInTrial")
abbrev mX4_ofShare : kMI := (RX4, cX4_ofShare, 4, some .long, "ofShare")
abbrev mX4_commonDivisor : kMI := (RX4, cX4_commonDivisor, 6, some .int, "commonDivisor")
abbrev mX4_wantsOf : kMI := (RX4, cX4_wantsOf, 2, some .int, "wantsOf")
abbrev mX4_leaveInTrace : kMI := (RX4, cX4_leaveInTrace, 2, none, "leaveInTrace")
abbrev mX4_tellDweller : kMI := (RX4, cX4_tellDweller, 2, some .int, "tellDweller")
abbrev mX4_tellHearty : kMI := (RX4, cX4_tellHearty, 2, some .int, "tellHearty")
abbrev mX4_tellFroward : kMI := (RX4, cX4_tellFroward, 2, some .int, "tellFroward")
abbrev mX5_init : kMI := (RX5, cX5_init, 1, none, "<init>")
abbrev mX5_fails : kMI := (RX5, cX5_fails, 2, some .int, "fails")
abbrev mX5_lost : kMI := (RX5, cX5_lost, 2, some .long, "lost")
abbrev mX5_within : kMI := (RX5, cX5_within, 3, some .boolean, "within")
abbrev mX5_isSheet : kMI := (RX5, cX5_isSheet, 1, some .boolean, "isSheet")
abbrev mX5_isSort : kMI := (RX5, cX5_isSort, 1, some .boolean, "isSort")
abbrev mX5_against : kMI := (RX5, cX5_against, 5, some .int, "against")
abbrev mX5_isHouse : kMI := (RX5, cX5_isHouse, 2, some .boolean, "isHouse")
abbrev mX5_isPerson : kMI := (RX5, cX5_isPerson, 2, some .boolean, "isPerson")
abbrev mX5_isWeek : kMI := (RX5, cX5_isWeek, 1, some .boolean, "isWeek")
abbrev mX5_isHalf : kMI := (RX5, cX5_isHalf, 1, some .boolean, "isHalf")
abbrev mX5_digit : kMI := (RX5, cX5_digit, 4, some .int, "digit")
abbrev mX5_isSign : kMI := (RX5, cX5_isSign, 3, some .boolean, "isSign")
abbrev mX5_houses : kMI := (RX5, cX5_houses, 8, some .int, "houses")
abbrev mX5_readAll : kMI := (RX5, cX5_readAll, 2, some .boolean, "readAll")
abbrev mX5_readTheSeam : kMI := (RX5, cX5_readTheSeam, 4, some .boolean, "readTheSeam")
abbrev mX5_readOneHouse : kMI := (RX5, cX5_readOneHouse, 5, some .boolean, "readOneHouse")
abbrev mX5_readPerson : kMI := (RX5, cX5_readPerson, 6, some .boolean, "readPerson")
abbrev mX5_ofHouse : kMI := (RX5, cX5_ofHouse, 3, some .int, "ofHouse")
abbrev mX5_wants : kMI := (RX5, cX5_wants, 3, some .int, "wants")
abbrev mX5_ofPerson : kMI := (RX5, cX5_ofPerson, 3, some .int, "ofPerson")
abbrev mX5_seam : kMI := (RX5, cX5_seam, 3, some .int, "seam")
abbrev mX5_away : kMI := (RX5, cX5_away, 4, some .int, "away")
abbrev mX5_layGift : kMI := (RX5, cX5_layGift, 5, none, "layGift")
abbrev mX5_gift : kMI := (RX5, cX5_gift, 4, some .int, "gift")
abbrev mX5_undo : kMI := (RX5, cX5_undo, 2, some .int, "undo")
abbrev mX5_isBroken : kMI := (RX5, cX5_isBroken, 2, some .boolean, "isBroken")
abbrev mX5_townIn : kMI := (RX5, cX5_townIn, 2, some .int, "townIn")
abbrev mX5_beginWeek : kMI := (RX5, cX5_beginWeek, 3, none, "beginWeek")
abbrev mX5_turn : kMI := (RX5, cX5_turn, 4, none, "turn")
abbrev mX5_mend : kMI := (RX5, cX5_mend, 3, none, "mend")
abbrev mX5_goHalf : kMI := (RX5, cX5_goHalf, 6, none, "goHalf")
abbrev mX5_goTo : kMI := (RX5, cX5_goTo, 5, none, "goTo")
abbrev mX5_goWeeks : kMI := (RX5, cX5_goWeeks, 2, none, "goWeeks")
abbrev mX5_allChills : kMI := (RX5, cX5_allChills, 3, some .int, "allChills")
abbrev mX5_wood : kMI := (RX5, cX5_wood, 4, some .int, "wood")
abbrev mX5_wear : kMI := (RX5, cX5_wear, 4, some .int, "wear")
abbrev mX5_cold : kMI := (RX5, cX5_cold, 3, some .int, "cold")
abbrev mX5_chills : kMI := (RX5, cX5_chills, 3, some .int, "chills")
abbrev mX5_allNow : kMI := (RX5, cX5_allNow, 1, some .int, "allNow")
abbrev mX5_all : kMI := (RX5, cX5_all, 1, some .int, "all")
abbrev mX5_breaks : kMI := (RX5, cX5_breaks, 2, some .int, "breaks")
abbrev mX5_best : kMI := (RX5, cX5_best, 7, some .int, "best")
abbrev mX5_blame : kMI := (RX5, cX5_blame, 5, some .int, "blame")
abbrev mX5_size : kMI := (RX5, cX5_size, 3, some .int, "size")
abbrev mX5_awayNow : kMI := (RX5, cX5_awayNow, 3, some .int, "awayNow")
abbrev mX5_layAway : kMI := (RX5, cX5_layAway, 3, none, "layAway")
abbrev mX5_warm : kMI := (RX5, cX5_warm, 5, some .int, "warm")
abbrev mX5_isWarmIn : kMI := (RX5, cX5_isWarmIn, 3, some .boolean, "isWarmIn")
abbrev mX5_logs : kMI := (RX5, cX5_logs, 4, some .int, "logs")
abbrev mX5_allWear : kMI := (RX5, cX5_allWear, 4, some .int, "allWear")
abbrev mX5_lessWear : kMI := (RX5, cX5_lessWear, 6, some .int, "lessWear")
abbrev mX5_inLeastTerms : kMI := (RX5, cX5_inLeastTerms, 11, some .long, "inLeastTerms")
abbrev mX5_pays : kMI := (RX5, cX5_pays, 7, some .long, "pays")
abbrev mX5_timeOf : kMI := (RX5, cX5_timeOf, 2, some .int, "timeOf")
abbrev mX5_halvesOf : kMI := (RX5, cX5_halvesOf, 8, some .int, "halvesOf")
abbrev mX5_together : kMI := (RX5, cX5_together, 4, some .int, "together")
abbrev mX5_third : kMI := (RX5, cX5_third, 4, some .int, "third")
abbrev mX5_row : kMI := (RX5, cX5_row, 8, some .int, "row")
abbrev mX5_reading : kMI := (RX5, cX5_reading, 5, some .int, "reading")
abbrev mX5_back : kMI := (RX5, cX5_back, 2, some .int, "back")
abbrev mX5_areSo : kMI := (RX5, cX5_areSo, 2, some .boolean, "areSo")
abbrev mX5_gone : kMI := (RX5, cX5_gone, 4, some .int, "gone")
abbrev mX5_seams : kMI := (RX5, cX5_seams, 4, some .int, "seams")
abbrev mX5_kinds : kMI := (RX5, cX5_kinds, 5, some .int, "kinds")
abbrev mX5_odds : kMI := (RX5, cX5_odds, 6, some .long, "odds")
abbrev mX5_sheet : kMI := (RX5, cX5_sheet, 5, some .int, "sheet")
abbrev mX5_lose : kMI := (RX5, cX5_lose, 3, some .int, "lose")
abbrev mX5_put : kMI := (RX5, cX5_put, 4, some .int, "put")
abbrev mX5_cell : kMI := (RX5, cX5_cell, 4, some .long, "cell")
abbrev mX5_copy : kMI := (RX5, cX5_copy, 10, some .int, "copy")
abbrev mX5_begins : kMI := (RX5, cX5_begins, 2, none, "begins")
abbrev mX5_tell : kMI := (RX5, cX5_tell, 3, some .int, "tell")
abbrev mX5_knock : kMI := (RX5, cX5_knock, 2, some .int, "knock")
abbrev mX5_as : kMI := (RX5, cX5_as, 3, some .int, "as")
abbrev mX5_trace : kMI := (RX5, cX5_trace, 1, some .int, "trace")
abbrev mX5_fault : kMI := (RX5, cX5_fault, 1, some .int, "fault")
abbrev mX5_many : kMI := (RX5, cX5_many, 2, some .int, "many")
abbrev mJ6_bitCount_0f7a4 : kMI := (RJ6, cJ6_bitCount_0f7a4, 1, some .int, "bitCount")
abbrev mJ9_max_7cf53 : kMI := (RJ9, cJ9_max_7cf53, 2, some .int, "max")
abbrev mJ9_min_7cf53 : kMI := (RJ9, cJ9_min_7cf53, 2, some .int, "min")
abbrev mJ7_fill_53178 : kMI := (RJ7, cJ7_fill_53178, 4, none, "fill")
abbrev mL_law : kMI := (RL, cL_law, 4, some .boolean, "law")
theorem vX0_init : kIm yX0_init mX0_init 1 := ⟨kTS_i 81 (by decide +kernel) (by decide +kernel), kTS_i 59 (by decide +kernel) (by decide +kernel), kTS_i 82 (by decide +kernel) (by decide +kernel), ⟨by decide +kernel, by decide +kernel, by decide +kernel⟩, rfl, rfl⟩
theorem vX0_keep : kVm yX0_keep mX0_keep 3 := ⟨kTS_i 382 (by decide +kernel) (by decide +kernel), kTS_i 383 (by decide +kernel) (by decide +kernel), kTS_i 59 (by decide +kernel) (by decide +kernel), kTS_i 384 (by decide +kernel) (by decide +kernel), ⟨by decide +kernel, by decide +kernel, by decide +kernel⟩⟩
theorem vX0_takeBack : kVm yX0_takeBack mX0_takeBack 1 := ⟨kTS_i 390 (by decide +kernel) (by decide +kernel), kTS_i 391 (by decide +kernel) (by decide +kernel), kTS_i 59 (by decide +kernel) (by decide +kernel), kTS_i 392 (by decide +kernel) (by decide +kernel), ⟨by decide +kernel, by decide +kernel, by decide +kernel⟩⟩
theorem vX0_sumOf : kVm yX0_sumOf mX0_sumOf 2 := ⟨kTS_i 425 (by decide +kernel) (by decide +kernel), kTS_i 426 (by decide +kernel) (by decide +kernel), kTS_i 59 (by decide +kernel) (by decide +kernel), kTS_i 427 (by decide +kernel) (by decide +kernel), ⟨by decide +kernel, by decide +kernel, by decide +kernel⟩⟩
theorem vX0_areWearOf : kVm yX0_areWearOf mX0_areWearOf 1 := ⟨kTS_i 578 (by decide +kernel) (by decide +kernel), kTS_i 579 (by decide +kernel) (by decide +kernel), kTS_i 59 (by decide +kernel) (by decide +kernel), kTS_i 580 (by decide +kernel) (by decide +kernel), ⟨by decide +kernel, by decide +kernel, by decide +kernel⟩⟩
theorem vX1_init : kIm yX1_init mX1_init 0 := ⟨kTS_i 215 (by decide +kernel) (by decide +kernel), kTS_i 63 (by decide +kernel) (by decide +kernel), kTS_i 216 (by decide +kernel) (by decide +kernel), ⟨by decide +kernel, by decide +kernel, by decide +kernel⟩, rfl, rfl⟩
theorem vX1_renew : kVm yX1_renew mX1_renew 2 := ⟨kTS_i 599 (by decide +kernel) (by decide +kernel), kTS_i 600 (by decide +kernel) (by decide +kernel), kTS_i 63 (by decide +kernel) (by decide +kernel), kTS_i 601 (by decide +kernel) (by decide +kernel), ⟨by decide +kernel, by decide +kernel, by decide +kernel⟩⟩
theorem vX1_hasNothing : kVm yX1_hasNothing mX1_hasNothing 0 := ⟨kTS_i 283 (by decide +kernel) (by decide +kernel), kTS_i 284 (by decide +kernel) (by decide +kernel), kTS_i 63 (by decide +kernel) (by decide +kernel), kTS_i 285 (by decide +kernel) (by decide +kernel), ⟨by decide +kernel, by decide +kernel, by decide +kernel⟩⟩
theorem vX1_hasCell : kVm yX1_hasCell mX1_hasCell 1 := ⟨kTS_i 307 (by decide +kernel) (by decide +kernel), kTS_i 308 (by decide +kernel) (by decide +kernel), kTS_i 63 (by decide +kernel) (by decide +kernel), kTS_i 309 (by decide +kernel) (by decide +kernel), ⟨by decide +kernel, by decide +kernel, by decide +kernel⟩⟩
theorem vX1_hasCells : kVm yX1_hasCells mX1_hasCells 2 := ⟨kTS_i 291 (by decide +kernel) (by decide +kernel), kTS_i 292 (by decide +kernel) (by decide +kernel), kTS_i 63 (by decide +kernel) (by decide +kernel), kTS_i 293 (by decide +kernel) (by decide +kernel), ⟨by decide +kernel, by decide +kernel, by decide +kernel⟩⟩
theorem vX1_read : kVm yX1_read mX1_read 1 := ⟨kTS_i 303 (by decide +kernel) (by decide +kernel), kTS_i 304 (by decide +kernel) (by decide +kernel), kTS_i 63 (by decide +kernel) (by decide +kernel), kTS_i 305 (by decide +kernel) (by decide +kernel), ⟨by decide +kernel, by decide +kernel, by decide +kernel⟩⟩
theorem vX1_write : kVm yX1_write mX1_write 2 := ⟨kTS_i 613 (by decide +kernel) (by decide +kernel), kTS_i 614 (by decide +kernel) (by decide +kernel), kTS_i 63 (by decide +kernel) (by decide +kernel), kTS_i 615 (by decide +kernel) (by decide +kernel), ⟨by decide +kernel, by decide +kernel, by decide +kernel⟩⟩
theorem vX1_cutToLane : kVm yX1_cutToLane mX1_cutToLane 1 := ⟨kTS_i 618 (by decide +kernel) (by decide +kernel), kTS_i 20 (by decide +kernel) (by decide +kernel), kTS_i 63 (by decide +kernel) (by decide +kernel), kTS_i 619 (by decide +kernel) (by decide +kernel), ⟨by decide +kernel, by decide +kernel, by decide +kernel⟩⟩
theorem vX2_init : kIm yX2_init mX2_init 0 := ⟨kTS_i 108 (by decide +kernel) (by decide +kernel), kTS_i 61 (by decide +kernel) (by decide +kernel), kTS_i 109 (by decide +kernel) (by decide +kernel), ⟨by decide +kernel, by decide +kernel, by decide +kernel⟩, rfl, rfl⟩
theorem vX2_begin : kVm yX2_begin mX2_begin 0 := ⟨kTS_i 299 (by decide +kernel) (by decide +kernel), kTS_i 300 (by decide +kernel) (by decide +kernel), kTS_i 61 (by decide +kernel) (by decide +kernel), kTS_i 301 (by decide +kernel) (by decide +kernel), ⟨by decide +kernel, by decide +kernel, by decide +kernel⟩⟩
theorem vX2_isWhole : kVm yX2_isWhole mX2_isWhole 0 := ⟨kTS_i 340 (by decide +kernel) (by decide +kernel), kTS_i 341 (by decide +kernel) (by decide +kernel), kTS_i 61 (by decide +kernel) (by decide +kernel), kTS_i 342 (by decide +kernel) (by decide +kernel), ⟨by decide +kernel, by decide +kernel, by decide +kernel⟩⟩
theorem vX2_goesOn : kVm yX2_goesOn mX2_goesOn 1 := ⟨kTS_i 311 (by decide +kernel) (by decide +kernel), kTS_i 312 (by decide +kernel) (by decide +kernel), kTS_i 61 (by decide +kernel) (by decide +kernel), kTS_i 313 (by decide +kernel) (by decide +kernel), ⟨by decide +kernel, by decide +kernel, by decide +kernel⟩⟩
theorem vX2_headGoesOn : kVm yX2_headGoesOn mX2_headGoesOn 1 := ⟨kTS_i 316 (by decide +kernel) (by decide +kernel), kTS_i 4 (by decide +kernel) (by decide +kernel), kTS_i 61 (by decide +kernel) (by decide +kernel), kTS_i 317 (by decide +kernel) (by decide +kernel), ⟨by decide +kernel, by decide +kernel, by decide +kernel⟩⟩
theorem vX2_opens : kVm yX2_opens mX2_opens 1 := ⟨kTS_i 337 (by decide +kernel) (by decide +kernel), kTS_i 7 (by decide +kernel) (by decide +kernel), kTS_i 61 (by decide +kernel) (by decide +kernel), kTS_i 338 (by decide +kernel) (by decide +kernel), ⟨by decide +kernel, by decide +kernel, by decide +kernel⟩⟩
theorem vX2_houseGoesOn : kVm yX2_houseGoesOn mX2_houseGoesOn 2 := ⟨kTS_i 326 (by decide +kernel) (by decide +kernel), kTS_i 5 (by decide +kernel) (by decide +kernel), kTS_i 61 (by decide +kernel) (by decide +kernel), kTS_i 327 (by decide +kernel) (by decide +kernel), ⟨by decide +kernel, by decide +kernel, by decide +kernel⟩⟩
theorem vX2_personGoesOn : kVm yX2_personGoesOn mX2_personGoesOn 2 := ⟨kTS_i 330 (by decide +kernel) (by decide +kernel), kTS_i 6 (by decide +kernel) (by decide +kernel), kTS_i 61 (by decide +kernel) (by decide +kernel), kTS_i 331 (by decide +kernel) (by decide +kernel), ⟨by decide +kernel, by decide +kernel, by decide +kernel⟩⟩
theorem vX2_isIn : kSm yX2_isIn mX2_isIn 3 := ⟨kTS_i 322 (by decide +kernel) (by decide +kernel), kTS_i 61 (by decide +kernel) (by decide +kernel), kTS_i 323 (by decide +kernel) (by decide +kernel), ⟨by decide +kernel, by decide +kernel, by decide +kernel⟩⟩
theorem vX2_digitOf : kSm yX2_digitOf mX2_digitOf 1 := ⟨kTS_i 319 (by decide +kernel) (by decide +kernel), kTS_i 61 (by decide +kernel) (by decide +kernel), kTS_i 320 (by decide +kernel) (by decide +kernel), ⟨by decide +kernel, by decide +kernel, by decide +kernel⟩⟩
theorem vX2_kindOf : kSm yX2_kindOf mX2_kindOf 1 := ⟨kTS_i 333 (by decide +kernel) (by decide +kernel), kTS_i 61 (by decide +kernel) (by decide +kernel), kTS_i 334 (by decide +kernel) (by decide +kernel), ⟨by decide +kernel, by decide +kernel, by decide +kernel⟩⟩
theorem vX2_breaksBy : kVm yX2_breaksBy mX2_breaksBy 2 := ⟨kTS_i 436 (by decide +kernel) (by decide +kernel), kTS_i 437 (by decide +kernel) (by decide +kernel), kTS_i 61 (by decide +kernel) (by decide +kernel), kTS_i 438 (by decide +kernel) (by decide +kernel), ⟨by decide +kernel, by decide +kernel, by decide +kernel⟩⟩
theorem vX2_dwellersOf : kVm yX2_dwellersOf mX2_dwellersOf 1 := ⟨kTS_i 516 (by decide +kernel) (by decide +kernel), kTS_i 517 (by decide +kernel) (by decide +kernel), kTS_i 61 (by decide +kernel) (by decide +kernel), kTS_i 518 (by decide +kernel) (by decide +kernel), ⟨by decide +kernel, by decide +kernel, by decide +kernel⟩⟩
theorem vX2_townIn : kVm yX2_townIn mX2_townIn 2 := ⟨kTS_i 417 (by decide +kernel) (by decide +kernel), kTS_i 418 (by decide +kernel) (by decide +kernel), kTS_i 61 (by decide +kernel) (by decide +kernel), kTS_i 419 (by decide +kernel) (by decide +kernel), ⟨by decide +kernel, by decide +kernel, by decide +kernel⟩⟩
theorem vX3_init : kIm yX3_init mX3_init 2 := ⟨kTS_i 169 (by decide +kernel) (by decide +kernel), kTS_i 62 (by decide +kernel) (by decide +kernel), kTS_i 170 (by decide +kernel) (by decide +kernel), ⟨by decide +kernel, by decide +kernel, by decide +kernel⟩, rfl, rfl⟩
theorem vX3_prepare : kVm yX3_prepare mX3_prepare 2 := ⟨kTS_i 405 (by decide +kernel) (by decide +kernel), kTS_i 406 (by decide +kernel) (by decide +kernel), kTS_i 62 (by decide +kernel) (by decide +kernel), kTS_i 407 (by decide +kernel) (by decide +kernel), ⟨by decide +kernel, by decide +kernel, by decide +kernel⟩⟩
theorem vX3_live : kVm yX3_live mX3_live 2 := ⟨kTS_i 410 (by decide +kernel) (by decide +kernel), kTS_i 411 (by decide +kernel) (by decide +kernel), kTS_i 62 (by decide +kernel) (by decide +kernel), kTS_i 412 (by decide +kernel) (by decide +kernel), ⟨by decide +kernel, by decide +kernel, by decide +kernel⟩⟩
theorem vX3_bringWood : kVm yX3_bringWood mX3_bringWood 1 := ⟨kTS_i 422 (by decide +kernel) (by decide +kernel), kTS_i 12 (by decide +kernel) (by decide +kernel), kTS_i 62 (by decide +kernel) (by decide +kernel), kTS_i 423 (by decide +kernel) (by decide +kernel), ⟨by decide +kernel, by decide +kernel, by decide +kernel⟩⟩
theorem vX3_takeWood : kVm yX3_takeWood mX3_takeWood 1 := ⟨kTS_i 433 (by decide +kernel) (by decide +kernel), kTS_i 13 (by decide +kernel) (by decide +kernel), kTS_i 62 (by decide +kernel) (by decide +kernel), kTS_i 434 (by decide +kernel) (by decide +kernel), ⟨by decide +kernel, by decide +kernel, by decide +kernel⟩⟩
theorem vX3_mend : kVm yX3_mend mX3_mend 1 := ⟨kTS_i 441 (by decide +kernel) (by decide +kernel), kTS_i 14 (by decide +kernel) (by decide +kernel), kTS_i 62 (by decide +kernel) (by decide +kernel), kTS_i 442 (by decide +kernel) (by decide +kernel), ⟨by decide +kernel, by decide +kernel, by decide +kernel⟩⟩
theorem vX3_note : kVm yX3_note mX3_note 2 := ⟨kTS_i 446 (by decide +kernel) (by decide +kernel), kTS_i 15 (by decide +kernel) (by decide +kernel), kTS_i 62 (by decide +kernel) (by decide +kernel), kTS_i 447 (by decide +kernel) (by decide +kernel), ⟨by decide +kernel, by decide +kernel, by decide +kernel⟩⟩
theorem vX3_woodAt : kVm yX3_woodAt mX3_woodAt 2 := ⟨kTS_i 452 (by decide +kernel) (by decide +kernel), kTS_i 453 (by decide +kernel) (by decide +kernel), kTS_i 62 (by decide +kernel) (by decide +kernel), kTS_i 454 (by decide +kernel) (by decide +kernel), ⟨by decide +kernel, by decide +kernel, by decide +kernel⟩⟩
theorem vX3_wearAt : kVm yX3_wearAt mX3_wearAt 2 := ⟨kTS_i 460 (by decide +kernel) (by decide +kernel), kTS_i 461 (by decide +kernel) (by decide +kernel), kTS_i 62 (by decide +kernel) (by decide +kernel), kTS_i 462 (by decide +kernel) (by decide +kernel), ⟨by decide +kernel, by decide +kernel, by decide +kernel⟩⟩
theorem vX3_coldAt : kVm yX3_coldAt mX3_coldAt 1 := ⟨kTS_i 468 (by decide +kernel) (by decide +kernel), kTS_i 469 (by decide +kernel) (by decide +kernel), kTS_i 62 (by decide +kernel) (by decide +kernel), kTS_i 470 (by decide +kernel) (by decide +kernel), ⟨by decide +kernel, by decide +kernel, by decide +kernel⟩⟩
theorem vX3_wearTogether : kVm yX3_wearTogether mX3_wearTogether 1 := ⟨kTS_i 532 (by decide +kernel) (by decide +kernel), kTS_i 533 (by decide +kernel) (by decide +kernel), kTS_i 62 (by decide +kernel) (by decide +kernel), kTS_i 534 (by decide +kernel) (by decide +kernel), ⟨by decide +kernel, by decide +kernel, by decide +kernel⟩⟩
theorem vX3_chillsOf : kVm yX3_chillsOf mX3_chillsOf 2 := ⟨kTS_i 476 (by decide +kernel) (by decide +kernel), kTS_i 477 (by decide +kernel) (by decide +kernel), kTS_i 62 (by decide +kernel) (by decide +kernel), kTS_i 478 (by decide +kernel) (by decide +kernel), ⟨by decide +kernel, by decide +kernel, by decide +kernel⟩⟩
theorem vX4_init : kIm yX4_init mX4_init 0 := ⟨kTS_i 71 (by decide +kernel) (by decide +kernel), kTS_i 58 (by decide +kernel) (by decide +kernel), kTS_i 72 (by decide +kernel) (by decide +kernel), ⟨by decide +kernel, by decide +kernel, by decide +kernel⟩, rfl, rfl⟩
theorem vX4_houses : kVm yX4_houses mX4_houses 4 := ⟨kTS_i 265 (by decide +kernel) (by decide +kernel), kTS_i 266 (by decide +kernel) (by decide +kernel), kTS_i 58 (by decide +kernel) (by decide +kernel), kTS_i 267 (by decide +kernel) (by decide +kernel), ⟨by decide +kernel, by decide +kernel, by decide +kernel⟩⟩
theorem vX4_ofHouse : kVm yX4_ofHouse mX4_ofHouse 2 := ⟨kTS_i 344 (by decide +kernel) (by decide +kernel), kTS_i 345 (by decide +kernel) (by decide +kernel), kTS_i 58 (by decide +kernel) (by decide +kernel), kTS_i 346 (by decide +kernel) (by decide +kernel), ⟨by decide +kernel, by decide +kernel, by decide +kernel⟩⟩
theorem vX4_ofPerson : kVm yX4_ofPerson mX4_ofPerson 2 := ⟨kTS_i 352 (by decide +kernel) (by decide +kernel), kTS_i 353 (by decide +kernel) (by decide +kernel), kTS_i 58 (by decide +kernel) (by decide +kernel), kTS_i 354 (by decide +kernel) (by decide +kernel), ⟨by decide +kernel, by decide +kernel, by decide +kernel⟩⟩
theorem vX4_seam : kVm yX4_seam mX4_seam 1 := ⟨kTS_i 367 (by decide +kernel) (by decide +kernel), kTS_i 368 (by decide +kernel) (by decide +kernel), kTS_i 58 (by decide +kernel) (by decide +kernel), kTS_i 369 (by decide +kernel) (by decide +kernel), ⟨by decide +kernel, by decide +kernel, by decide +kernel⟩⟩
theorem vX4_away : kVm yX4_away mX4_away 2 := ⟨kTS_i 371 (by decide +kernel) (by decide +kernel), kTS_i 372 (by decide +kernel) (by decide +kernel), kTS_i 58 (by decide +kernel) (by decide +kernel), kTS_i 373 (by decide +kernel) (by decide +kernel), ⟨by decide +kernel, by decide +kernel, by decide +kernel⟩⟩
theorem vX4_gift : kVm yX4_gift mX4_gift 3 := ⟨kTS_i 375 (by decide +kernel) (by decide +kernel), kTS_i 376 (by decide +kernel) (by decide +kernel), kTS_i 58 (by decide +kernel) (by decide +kernel), kTS_i 377 (by decide +kernel) (by decide +kernel), ⟨by decide +kernel, by decide +kernel, by decide +kernel⟩⟩
theorem vX4_undo : kVm yX4_undo mX4_undo 1 := ⟨kTS_i 386 (by decide +kernel) (by decide +kernel), kTS_i 387 (by decide +kernel) (by decide +kernel), kTS_i 58 (by decide +kernel) (by decide +kernel), kTS_i 388 (by decide +kernel) (by decide +kernel), ⟨by decide +kernel, by decide +kernel, by decide +kernel⟩⟩
theorem vX4_wood : kVm yX4_wood mX4_wood 3 := ⟨kTS_i 394 (by decide +kernel) (by decide +kernel), kTS_i 395 (by decide +kernel) (by decide +kernel), kTS_i 58 (by decide +kernel) (by decide +kernel), kTS_i 396 (by decide +kernel) (by decide +kernel), ⟨by decide +kernel, by decide +kernel, by decide +kernel⟩⟩
theorem vX4_wear : kVm yX4_wear mX4_wear 3 := ⟨kTS_i 456 (by decide +kernel) (by decide +kernel), kTS_i 457 (by decide +kernel) (by decide +kernel), kTS_i 58 (by decide +kernel) (by decide +kernel), kTS_i 458 (by decide +kernel) (by decide +kernel), ⟨by decide +kernel, by decide +kernel, by decide +kernel⟩⟩
theorem vX4_cold : kVm yX4_cold mX4_cold 2 := ⟨kTS_i 464 (by decide +kernel) (by decide +kernel), kTS_i 465 (by decide +kernel) (by decide +kernel), kTS_i 58 (by decide +kernel) (by decide +kernel), kTS_i 466 (by decide +kernel) (by decide +kernel), ⟨by decide +kernel, by decide +kernel, by decide +kernel⟩⟩
theorem vX4_chills : kVm yX4_chills mX4_chills 2 := ⟨kTS_i 472 (by decide +kernel) (by decide +kernel), kTS_i 473 (by decide +kernel) (by decide +kernel), kTS_i 58 (by decide +kernel) (by decide +kernel), kTS_i 474 (by decide +kernel) (by decide +kernel), ⟨by decide +kernel, by decide +kernel, by decide +kernel⟩⟩
theorem vX4_all : kVm yX4_all mX4_all 0 := ⟨kTS_i 486 (by decide +kernel) (by decide +kernel), kTS_i 487 (by decide +kernel) (by decide +kernel), kTS_i 58 (by decide +kernel) (by decide +kernel), kTS_i 488 (by decide +kernel) (by decide +kernel), ⟨by decide +kernel, by decide +kernel, by decide +kernel⟩⟩
theorem vX4_breaks : kVm yX4_breaks mX4_breaks 1 := ⟨kTS_i 494 (by decide +kernel) (by decide +kernel), kTS_i 495 (by decide +kernel) (by decide +kernel), kTS_i 58 (by decide +kernel) (by decide +kernel), kTS_i 496 (by decide +kernel) (by decide +kernel), ⟨by decide +kernel, by decide +kernel, by decide +kernel⟩⟩
theorem vX4_best : kVm yX4_best mX4_best 1 := ⟨kTS_i 499 (by decide +kernel) (by decide +kernel), kTS_i 500 (by decide +kernel) (by decide +kernel), kTS_i 58 (by decide +kernel) (by decide +kernel), kTS_i 501 (by decide +kernel) (by decide +kernel), ⟨by decide +kernel, by decide +kernel, by decide +kernel⟩⟩
theorem vX4_blame : kVm yX4_blame mX4_blame 1 := ⟨kTS_i 503 (by decide +kernel) (by decide +kernel), kTS_i 504 (by decide +kernel) (by decide +kernel), kTS_i 58 (by decide +kernel) (by decide +kernel), kTS_i 505 (by decide +kernel) (by decide +kernel), ⟨by decide +kernel, by decide +kernel, by decide +kernel⟩⟩
theorem vX4_warm : kVm yX4_warm mX4_warm 1 := ⟨kTS_i 507 (by decide +kernel) (by decide +kernel), kTS_i 508 (by decide +kernel) (by decide +kernel), kTS_i 58 (by decide +kernel) (by decide +kernel), kTS_i 509 (by decide +kernel) (by decide +kernel), ⟨by decide +kernel, by decide +kernel, by decide +kernel⟩⟩
theorem vX4_logs : kVm yX4_logs mX4_logs 1 := ⟨kTS_i 512 (by decide +kernel) (by decide +kernel), kTS_i 513 (by decide +kernel) (by decide +kernel), kTS_i 58 (by decide +kernel) (by decide +kernel), kTS_i 514 (by decide +kernel) (by decide +kernel), ⟨by decide +kernel, by decide +kernel, by decide +kernel⟩⟩
theorem vX4_pays : kVm yX4_pays mX4_pays 3 := ⟨kTS_i 520 (by decide +kernel) (by decide +kernel), kTS_i 521 (by decide +kernel) (by decide +kernel), kTS_i 58 (by decide +kernel) (by decide +kernel), kTS_i 522 (by decide +kernel) (by decide +kernel), ⟨by decide +kernel, by decide +kernel, by decide +kernel⟩⟩
theorem vX4_together : kVm yX4_together mX4_together 3 := ⟨kTS_i 544 (by decide +kernel) (by decide +kernel), kTS_i 545 (by decide +kernel) (by decide +kernel), kTS_i 58 (by decide +kernel) (by decide +kernel), kTS_i 546 (by decide +kernel) (by decide +kernel), ⟨by decide +kernel, by decide +kernel, by decide +kernel⟩⟩
theorem vX4_third : kVm yX4_third mX4_third 1 := ⟨kTS_i 549 (by decide +kernel) (by decide +kernel), kTS_i 550 (by decide +kernel) (by decide +kernel), kTS_i 58 (by decide +kernel) (by decide +kernel), kTS_i 551 (by decide +kernel) (by decide +kernel), ⟨by decide +kernel, by decide +kernel, by decide +kernel⟩⟩
theorem vX4_row : kVm yX4_row mX4_row 4 := ⟨kTS_i 558 (by decide +kernel) (by decide +kernel), kTS_i 559 (by decide +kernel) (by decide +kernel), kTS_i 58 (by decide +kernel) (by decide +kernel), kTS_i 560 (by decide +kernel) (by decide +kernel), ⟨by decide +kernel, by decide +kernel, by decide +kernel⟩⟩
theorem vX4_reading : kVm yX4_reading mX4_reading 4 := ⟨kTS_i 562 (by decide +kernel) (by decide +kernel), kTS_i 563 (by decide +kernel) (by decide +kernel), kTS_i 58 (by decide +kernel) (by decide +kernel), kTS_i 564 (by decide +kernel) (by decide +kernel), ⟨by decide +kernel, by decide +kernel, by decide +kernel⟩⟩
theorem vX4_back : kVm yX4_back mX4_back 1 := ⟨kTS_i 566 (by decide +kernel) (by decide +kernel), kTS_i 567 (by decide +kernel) (by decide +kernel), kTS_i 58 (by decide +kernel) (by decide +kernel), kTS_i 568 (by decide +kernel) (by decide +kernel), ⟨by decide +kernel, by decide +kernel, by decide +kernel⟩⟩
theorem vX4_gone : kVm yX4_gone mX4_gone 0 := ⟨kTS_i 570 (by decide +kernel) (by decide +kernel), kTS_i 571 (by decide +kernel) (by decide +kernel), kTS_i 58 (by decide +kernel) (by decide +kernel), kTS_i 572 (by decide +kernel) (by decide +kernel), ⟨by decide +kernel, by decide +kernel, by decide +kernel⟩⟩
theorem vX4_seams : kVm yX4_seams mX4_seams 0 := ⟨kTS_i 583 (by decide +kernel) (by decide +kernel), kTS_i 584 (by decide +kernel) (by decide +kernel), kTS_i 58 (by decide +kernel) (by decide +kernel), kTS_i 585 (by decide +kernel) (by decide +kernel), ⟨by decide +kernel, by decide +kernel, by decide +kernel⟩⟩
theorem vX4_kinds : kVm yX4_kinds mX4_kinds 1 := ⟨kTS_i 587 (by decide +kernel) (by decide +kernel), kTS_i 588 (by decide +kernel) (by decide +kernel), kTS_i 58 (by decide +kernel) (by decide +kernel), kTS_i 589 (by decide +kernel) (by decide +kernel), ⟨by decide +kernel, by decide +kernel, by decide +kernel⟩⟩
theorem vX4_odds : kVm yX4_odds mX4_odds 2 := ⟨kTS_i 591 (by decide +kernel) (by decide +kernel), kTS_i 592 (by decide +kernel) (by decide +kernel), kTS_i 58 (by decide +kernel) (by decide +kernel), kTS_i 593 (by decide +kernel) (by decide +kernel), ⟨by decide +kernel, by decide +kernel, by decide +kernel⟩⟩
theorem vX4_sheet : kVm yX4_sheet mX4_sheet 3 := ⟨kTS_i 595 (by decide +kernel) (by decide +kernel), kTS_i 596 (by decide +kernel) (by decide +kernel), kTS_i 58 (by decide +kernel) (by decide +kernel), kTS_i 597 (by decide +kernel) (by decide +kernel), ⟨by decide +kernel, by decide +kernel, by decide +kernel⟩⟩
theorem vX4_lose : kVm yX4_lose mX4_lose 1 := ⟨kTS_i 604 (by decide +kernel) (by decide +kernel), kTS_i 605 (by decide +kernel) (by decide +kernel), kTS_i 58 (by decide +kernel) (by decide +kernel), kTS_i 606 (by decide +kernel) (by decide +kernel), ⟨by decide +kernel, by decide +kernel, by decide +kernel⟩⟩
theorem vX4_put : kVm yX4_put mX4_put 3 := ⟨kTS_i 608 (by decide +kernel) (by decide +kernel), kTS_i 609 (by decide +kernel) (by decide +kernel), kTS_i 58 (by decide +kernel) (by decide +kernel), kTS_i 610 (by decide +kernel) (by decide +kernel), ⟨by decide +kernel, by decide +kernel, by decide +kernel⟩⟩
theorem vX4_cell : kVm yX4_cell mX4_cell 3 := ⟨kTS_i 621 (by decide +kernel) (by decide +kernel), kTS_i 622 (by decide +kernel) (by decide +kernel), kTS_i 58 (by decide +kernel) (by decide +kernel), kTS_i 623 (by decide +kernel) (by decide +kernel), ⟨by decide +kernel, by decide +kernel, by decide +kernel⟩⟩
theorem vX4_copy : kVm yX4_copy mX4_copy 5 := ⟨kTS_i 625 (by decide +kernel) (by decide +kernel), kTS_i 626 (by decide +kernel) (by decide +kernel), kTS_i 58 (by decide +kernel) (by decide +kernel), kTS_i 627 (by decide +kernel) (by decide +kernel), ⟨by decide +kernel, by decide +kernel, by decide +kernel⟩⟩
theorem vX4_tell : kVm yX4_tell mX4_tell 1 := ⟨kTS_i 632 (by decide +kernel) (by decide +kernel), kTS_i 633 (by decide +kernel) (by decide +kernel), kTS_i 58 (by decide +kernel) (by decide +kernel), kTS_i 634 (by decide +kernel) (by decide +kernel), ⟨by decide +kernel, by decide +kernel, by decide +kernel⟩⟩
theorem vX4_knock : kVm yX4_knock mX4_knock 1 := ⟨kTS_i 652 (by decide +kernel) (by decide +kernel), kTS_i 653 (by decide +kernel) (by decide +kernel), kTS_i 58 (by decide +kernel) (by decide +kernel), kTS_i 654 (by decide +kernel) (by decide +kernel), ⟨by decide +kernel, by decide +kernel, by decide +kernel⟩⟩
theorem vX4_as : kVm yX4_as mX4_as 2 := ⟨kTS_i 656 (by decide +kernel) (by decide +kernel), kTS_i 657 (by decide +kernel) (by decide +kernel), kTS_i 58 (by decide +kernel) (by decide +kernel), kTS_i 658 (by decide +kernel) (by decide +kernel), ⟨by decide +kernel, by decide +kernel, by decide +kernel⟩⟩
theorem vX4_trace : kVm yX4_trace mX4_trace 0 := ⟨kTS_i 660 (by decide +kernel) (by decide +kernel), kTS_i 661 (by decide +kernel) (by decide +kernel), kTS_i 58 (by decide +kernel) (by decide +kernel), kTS_i 662 (by decide +kernel) (by decide +kernel), ⟨by decide +kernel, by decide +kernel, by decide +kernel⟩⟩
theorem vX4_fault : kVm yX4_fault mX4_fault 0 := ⟨kTS_i 664 (by decide +kernel) (by decide +kernel), kTS_i 665 (by decide +kernel) (by decide +kernel), kTS_i 58 (by decide +kernel) (by decide +kernel), kTS_i 666 (by decide +kernel) (by decide +kernel), ⟨by decide +kernel, by decide +kernel, by decide +kernel⟩⟩
theorem vX4_many : kVm yX4_many mX4_many 1 := ⟨kTS_i 668 (by decide +kernel) (by decide +kernel), kTS_i 669 (by decide +kernel) (by decide +kernel), kTS_i 58 (by decide +kernel) (by decide +kernel), kTS_i 670 (by decide +kernel) (by decide +kernel), ⟨by decide +kernel, by decide +kernel, by decide +kernel⟩⟩
theorem vX4_isHouse : kVm yX4_isHouse mX4_isHouse 1 := ⟨kTS_i 349 (by decide +kernel) (by decide +kernel), kTS_i 8 (by decide +kernel) (by decide +kernel), kTS_i 58 (by decide +kernel) (by decide +kernel), kTS_i 350 (by decide +kernel) (by decide +kernel), ⟨by decide +kernel, by decide +kernel, by decide +kernel⟩⟩
theorem vX4_isPerson : kVm yX4_isPerson mX4_isPerson 1 := ⟨kTS_i 357 (by decide +kernel) (by decide +kernel), kTS_i 9 (by decide +kernel) (by decide +kernel), kTS_i 58 (by decide +kernel) (by decide +kernel), kTS_i 358 (by decide +kernel) (by decide +kernel), ⟨by decide +kernel, by decide +kernel, by decide +kernel⟩⟩
theorem vX4_isAway : kVm yX4_isAway mX4_isAway 1 := ⟨kTS_i 364 (by decide +kernel) (by decide +kernel), kTS_i 10 (by decide +kernel) (by decide +kernel), kTS_i 58 (by decide +kernel) (by decide +kernel), kTS_i 365 (by decide +kernel) (by decide +kernel), ⟨by decide +kernel, by decide +kernel, by decide +kernel⟩⟩
theorem vX4_isSheet : kSm yX4_isSheet mX4_isSheet 1 := ⟨kTS_i 277 (by decide +kernel) (by decide +kernel), kTS_i 58 (by decide +kernel) (by decide +kernel), kTS_i 278 (by decide +kernel) (by decide +kernel), ⟨by decide +kernel, by decide +kernel, by decide +kernel⟩⟩
theorem vX4_isLane : kSm yX4_isLane mX4_isLane 1 := ⟨kTS_i 280 (by decide +kernel) (by decide +kernel), kTS_i 58 (by decide +kernel) (by decide +kernel), kTS_i 281 (by decide +kernel) (by decide +kernel), ⟨by decide +kernel, by decide +kernel, by decide +kernel⟩⟩
theorem vX4_isWeek : kSm yX4_isWeek mX4_isWeek 1 := ⟨kTS_i 379 (by decide +kernel) (by decide +kernel), kTS_i 58 (by decide +kernel) (by decide +kernel), kTS_i 380 (by decide +kernel) (by decide +kernel), ⟨by decide +kernel, by decide +kernel, by decide +kernel⟩⟩
theorem vX4_isTime : kSm yX4_isTime mX4_isTime 2 := ⟨kTS_i 398 (by decide +kernel) (by decide +kernel), kTS_i 58 (by decide +kernel) (by decide +kernel), kTS_i 399 (by decide +kernel) (by decide +kernel), ⟨by decide +kernel, by decide +kernel, by decide +kernel⟩⟩
theorem vX4_isWhich : kSm yX4_isWhich mX4_isWhich 1 := ⟨kTS_i 524 (by decide +kernel) (by decide +kernel), kTS_i 58 (by decide +kernel) (by decide +kernel), kTS_i 525 (by decide +kernel) (by decide +kernel), ⟨by decide +kernel, by decide +kernel, by decide +kernel⟩⟩
theorem vX4_timeOf : kSm yX4_timeOf mX4_timeOf 2 := ⟨kTS_i 449 (by decide +kernel) (by decide +kernel), kTS_i 58 (by decide +kernel) (by decide +kernel), kTS_i 450 (by decide +kernel) (by decide +kernel), ⟨by decide +kernel, by decide +kernel, by decide +kernel⟩⟩
theorem vX4_everybody : kVm yX4_everybody mX4_everybody 0 := ⟨kTS_i 491 (by decide +kernel) (by decide +kernel), kTS_i 16 (by decide +kernel) (by decide +kernel), kTS_i 58 (by decide +kernel) (by decide +kernel), kTS_i 492 (by decide +kernel) (by decide +kernel), ⟨by decide +kernel, by decide +kernel, by decide +kernel⟩⟩
theorem vX4_whoIsIn : kVm yX4_whoIsIn mX4_whoIsIn 1 := ⟨kTS_i 554 (by decide +kernel) (by decide +kernel), kTS_i 18 (by decide +kernel) (by decide +kernel), kTS_i 58 (by decide +kernel) (by decide +kernel), kTS_i 555 (by decide +kernel) (by decide +kernel), ⟨by decide +kernel, by decide +kernel, by decide +kernel⟩⟩
theorem vX4_faultBy : kVm yX4_faultBy mX4_faultBy 1 := ⟨kTS_i 288 (by decide +kernel) (by decide +kernel), kTS_i 2 (by decide +kernel) (by decide +kernel), kTS_i 58 (by decide +kernel) (by decide +kernel), kTS_i 289 (by decide +kernel) (by decide +kernel), ⟨by decide +kernel, by decide +kernel, by decide +kernel⟩⟩
theorem vX4_refusalOfLane : kVm yX4_refusalOfLane mX4_refusalOfLane 2 := ⟨kTS_i 274 (by decide +kernel) (by decide +kernel), kTS_i 1 (by decide +kernel) (by decide +kernel), kTS_i 58 (by decide +kernel) (by decide +kernel), kTS_i 275 (by decide +kernel) (by decide +kernel), ⟨by decide +kernel, by decide +kernel, by decide +kernel⟩⟩
theorem vX4_refusalOfCells : kVm yX4_refusalOfCells mX4_refusalOfCells 4 := ⟨kTS_i 270 (by decide +kernel) (by decide +kernel), kTS_i 0 (by decide +kernel) (by decide +kernel), kTS_i 58 (by decide +kernel) (by decide +kernel), kTS_i 271 (by decide +kernel) (by decide +kernel), ⟨by decide +kernel, by decide +kernel, by decide +kernel⟩⟩
theorem vX4_firstFault : kVm yX4_firstFault mX4_firstFault 3 := ⟨kTS_i 296 (by decide +kernel) (by decide +kernel), kTS_i 3 (by decide +kernel) (by decide +kernel), kTS_i 58 (by decide +kernel) (by decide +kernel), kTS_i 297 (by decide +kernel) (by decide +kernel), ⟨by decide +kernel, by decide +kernel, by decide +kernel⟩⟩
theorem vX4_freshWeeks : kVm yX4_freshWeeks mX4_freshWeeks 0 := ⟨kTS_i 402 (by decide +kernel) (by decide +kernel), kTS_i 11 (by decide +kernel) (by decide +kernel), kTS_i 58 (by decide +kernel) (by decide +kernel), kTS_i 403 (by decide +kernel) (by decide +kernel), ⟨by decide +kernel, by decide +kernel, by decide +kernel⟩⟩
theorem vX4_lessWearWithout : kVm yX4_lessWearWithout mX4_lessWearWithout 2 := ⟨kTS_i 529 (by decide +kernel) (by decide +kernel), kTS_i 17 (by decide +kernel) (by decide +kernel), kTS_i 58 (by decide +kernel) (by decide +kernel), kTS_i 530 (by decide +kernel) (by decide +kernel), ⟨by decide +kernel, by decide +kernel, by decide +kernel⟩⟩
theorem vX4_readingsAreSoInTrial : kVm yX4_readingsAreSoInTrial mX4_readingsAreSoInTrial 0 := ⟨kTS_i 575 (by decide +kernel) (by decide +kernel), kTS_i 19 (by decide +kernel) (by decide +kernel), kTS_i 58 (by decide +kernel) (by decide +kernel), kTS_i 576 (by decide +kernel) (by decide +kernel), ⟨by decide +kernel, by decide +kernel, by decide +kernel⟩⟩
theorem vX4_ofShare : kSm yX4_ofShare mX4_ofShare 3 := ⟨kTS_i 538 (by decide +kernel) (by decide +kernel), kTS_i 58 (by decide +kernel) (by decide +kernel), kTS_i 539 (by decide +kernel) (by decide +kernel), ⟨by decide +kernel, by decide +kernel, by decide +kernel⟩⟩
theorem vX4_commonDivisor : kSm yX4_commonDivisor mX4_commonDivisor 2 := ⟨kTS_i 541 (by decide +kernel) (by decide +kernel), kTS_i 58 (by decide +kernel) (by decide +kernel), kTS_i 542 (by decide +kernel) (by decide +kernel), ⟨by decide +kernel, by decide +kernel, by decide +kernel⟩⟩
theorem vX4_wantsOf : kSm yX4_wantsOf mX4_wantsOf 2 := ⟨kTS_i 360 (by decide +kernel) (by decide +kernel), kTS_i 58 (by decide +kernel) (by decide +kernel), kTS_i 361 (by decide +kernel) (by decide +kernel), ⟨by decide +kernel, by decide +kernel, by decide +kernel⟩⟩
theorem vX4_leaveInTrace : kVm yX4_leaveInTrace mX4_leaveInTrace 1 := ⟨kTS_i 641 (by decide +kernel) (by decide +kernel), kTS_i 22 (by decide +kernel) (by decide +kernel), kTS_i 58 (by decide +kernel) (by decide +kernel), kTS_i 642 (by decide +kernel) (by decide +kernel), ⟨by decide +kernel, by decide +kernel, by decide +kernel⟩⟩
theorem vX4_tellDweller : kVm yX4_tellDweller mX4_tellDweller 1 := ⟨kTS_i 637 (by decide +kernel) (by decide +kernel), kTS_i 21 (by decide +kernel) (by decide +kernel), kTS_i 58 (by decide +kernel) (by decide +kernel), kTS_i 638 (by decide +kernel) (by decide +kernel), ⟨by decide +kernel, by decide +kernel, by decide +kernel⟩⟩
theorem vX4_tellHearty : kVm yX4_tellHearty mX4_tellHearty 1 := ⟨kTS_i 645 (by decide +kernel) (by decide +kernel), kTS_i 23 (by decide +kernel) (by decide +kernel), kTS_i 58 (by decide +kernel) (by decide +kernel), kTS_i 646 (by decide +kernel) (by decide +kernel), ⟨by decide +kernel, by decide +kernel, by decide +kernel⟩⟩
theorem vX4_tellFroward : kVm yX4_tellFroward mX4_tellFroward 1 := ⟨kTS_i 649 (by decide +kernel) (by decide +kernel), kTS_i 24 (by decide +kernel) (by decide +kernel), kTS_i 58 (by decide +kernel) (by decide +kernel), kTS_i 650 (by decide +kernel) (by decide +kernel), ⟨by decide +kernel, by decide +kernel, by decide +kernel⟩⟩
theorem vX5_init : kIm yX5_init mX5_init 0 := ⟨kTS_i 674 (by decide +kernel) (by decide +kernel), kTS_i 64 (by decide +kernel) (by decide +kernel), kTS_i 675 (by decide +kernel) (by decide +kernel), ⟨by decide +kernel, by decide +kernel, by decide +kernel⟩, rfl, rfl⟩
theorem vX5_fails : kVm yX5_fails mX5_fails 1 := ⟨kTS_i 806 (by decide +kernel) (by decide +kernel), kTS_i 26 (by decide +kernel) (by decide +kernel), kTS_i 64 (by decide +kernel) (by decide +kernel), kTS_i 807 (by decide +kernel) (by decide +kernel), ⟨by decide +kernel, by decide +kernel, by decide +kernel⟩⟩
theorem vX5_lost : kVm yX5_lost mX5_lost 1 := ⟨kTS_i 1055 (by decide +kernel) (by decide +kernel), kTS_i 55 (by decide +kernel) (by decide +kernel), kTS_i 64 (by decide +kernel) (by decide +kernel), kTS_i 1056 (by decide +kernel) (by decide +kernel), ⟨by decide +kernel, by decide +kernel, by decide +kernel⟩⟩
theorem vX5_within : kSm yX5_within mX5_within 3 := ⟨kTS_i 795 (by decide +kernel) (by decide +kernel), kTS_i 64 (by decide +kernel) (by decide +kernel), kTS_i 796 (by decide +kernel) (by decide +kernel), ⟨by decide +kernel, by decide +kernel, by decide +kernel⟩⟩
theorem vX5_isSheet : kSm yX5_isSheet mX5_isSheet 1 := ⟨kTS_i 792 (by decide +kernel) (by decide +kernel), kTS_i 64 (by decide +kernel) (by decide +kernel), kTS_i 793 (by decide +kernel) (by decide +kernel), ⟨by decide +kernel, by decide +kernel, by decide +kernel⟩⟩
theorem vX5_isSort : kSm yX5_isSort mX5_isSort 1 := ⟨kTS_i 798 (by decide +kernel) (by decide +kernel), kTS_i 64 (by decide +kernel) (by decide +kernel), kTS_i 799 (by decide +kernel) (by decide +kernel), ⟨by decide +kernel, by decide +kernel, by decide +kernel⟩⟩
theorem vX5_against : kVm yX5_against mX5_against 4 := ⟨kTS_i 802 (by decide +kernel) (by decide +kernel), kTS_i 25 (by decide +kernel) (by decide +kernel), kTS_i 64 (by decide +kernel) (by decide +kernel), kTS_i 803 (by decide +kernel) (by decide +kernel), ⟨by decide +kernel, by decide +kernel, by decide +kernel⟩⟩
theorem vX5_isHouse : kVm yX5_isHouse mX5_isHouse 1 := ⟨kTS_i 838 (by decide +kernel) (by decide +kernel), kTS_i 33 (by decide +kernel) (by decide +kernel), kTS_i 64 (by decide +kernel) (by decide +kernel), kTS_i 839 (by decide +kernel) (by decide +kernel), ⟨by decide +kernel, by decide +kernel, by decide +kernel⟩⟩
theorem vX5_isPerson : kVm yX5_isPerson mX5_isPerson 1 := ⟨kTS_i 846 (by decide +kernel) (by decide +kernel), kTS_i 34 (by decide +kernel) (by decide +kernel), kTS_i 64 (by decide +kernel) (by decide +kernel), kTS_i 847 (by decide +kernel) (by decide +kernel), ⟨by decide +kernel, by decide +kernel, by decide +kernel⟩⟩
theorem vX5_isWeek : kSm yX5_isWeek mX5_isWeek 1 := ⟨kTS_i 865 (by decide +kernel) (by decide +kernel), kTS_i 64 (by decide +kernel) (by decide +kernel), kTS_i 866 (by decide +kernel) (by decide +kernel), ⟨by decide +kernel, by decide +kernel, by decide +kernel⟩⟩
theorem vX5_isHalf : kSm yX5_isHalf mX5_isHalf 1 := ⟨kTS_i 880 (by decide +kernel) (by decide +kernel), kTS_i 64 (by decide +kernel) (by decide +kernel), kTS_i 881 (by decide +kernel) (by decide +kernel), ⟨by decide +kernel, by decide +kernel, by decide +kernel⟩⟩
theorem vX5_digit : kVm yX5_digit mX5_digit 3 := ⟨kTS_i 822 (by decide +kernel) (by decide +kernel), kTS_i 30 (by decide +kernel) (by decide +kernel), kTS_i 64 (by decide +kernel) (by decide +kernel), kTS_i 823 (by decide +kernel) (by decide +kernel), ⟨by decide +kernel, by decide +kernel, by decide +kernel⟩⟩
theorem vX5_isSign : kVm yX5_isSign mX5_isSign 2 := ⟨kTS_i 814 (by decide +kernel) (by decide +kernel), kTS_i 28 (by decide +kernel) (by decide +kernel), kTS_i 64 (by decide +kernel) (by decide +kernel), kTS_i 815 (by decide +kernel) (by decide +kernel), ⟨by decide +kernel, by decide +kernel, by decide +kernel⟩⟩
theorem vX5_houses : kVm yX5_houses mX5_houses 4 := ⟨kTS_i 788 (by decide +kernel) (by decide +kernel), kTS_i 789 (by decide +kernel) (by decide +kernel), kTS_i 64 (by decide +kernel) (by decide +kernel), kTS_i 790 (by decide +kernel) (by decide +kernel), ⟨by decide +kernel, by decide +kernel, by decide +kernel⟩⟩
theorem vX5_readAll : kVm yX5_readAll mX5_readAll 1 := ⟨kTS_i 810 (by decide +kernel) (by decide +kernel), kTS_i 27 (by decide +kernel) (by decide +kernel), kTS_i 64 (by decide +kernel) (by decide +kernel), kTS_i 811 (by decide +kernel) (by decide +kernel), ⟨by decide +kernel, by decide +kernel, by decide +kernel⟩⟩
theorem vX5_readTheSeam : kVm yX5_readTheSeam mX5_readTheSeam 1 := ⟨kTS_i 818 (by decide +kernel) (by decide +kernel), kTS_i 29 (by decide +kernel) (by decide +kernel), kTS_i 64 (by decide +kernel) (by decide +kernel), kTS_i 819 (by decide +kernel) (by decide +kernel), ⟨by decide +kernel, by decide +kernel, by decide +kernel⟩⟩
theorem vX5_readOneHouse : kVm yX5_readOneHouse mX5_readOneHouse 1 := ⟨kTS_i 826 (by decide +kernel) (by decide +kernel), kTS_i 31 (by decide +kernel) (by decide +kernel), kTS_i 64 (by decide +kernel) (by decide +kernel), kTS_i 827 (by decide +kernel) (by decide +kernel), ⟨by decide +kernel, by decide +kernel, by decide +kernel⟩⟩
theorem vX5_readPerson : kVm yX5_readPerson mX5_readPerson 1 := ⟨kTS_i 830 (by decide +kernel) (by decide +kernel), kTS_i 32 (by decide +kernel) (by decide +kernel), kTS_i 64 (by decide +kernel) (by decide +kernel), kTS_i 831 (by decide +kernel) (by decide +kernel), ⟨by decide +kernel, by decide +kernel, by decide +kernel⟩⟩
theorem vX5_ofHouse : kVm yX5_ofHouse mX5_ofHouse 2 := ⟨kTS_i 833 (by decide +kernel) (by decide +kernel), kTS_i 834 (by decide +kernel) (by decide +kernel), kTS_i 64 (by decide +kernel) (by decide +kernel), kTS_i 835 (by decide +kernel) (by decide +kernel), ⟨by decide +kernel, by decide +kernel, by decide +kernel⟩⟩
theorem vX5_wants : kVm yX5_wants mX5_wants 1 := ⟨kTS_i 850 (by decide +kernel) (by decide +kernel), kTS_i 35 (by decide +kernel) (by decide +kernel), kTS_i 64 (by decide +kernel) (by decide +kernel), kTS_i 851 (by decide +kernel) (by decide +kernel), ⟨by decide +kernel, by decide +kernel, by decide +kernel⟩⟩
theorem vX5_ofPerson : kVm yX5_ofPerson mX5_ofPerson 2 := ⟨kTS_i 841 (by decide +kernel) (by decide +kernel), kTS_i 842 (by decide +kernel) (by decide +kernel), kTS_i 64 (by decide +kernel) (by decide +kernel), kTS_i 843 (by decide +kernel) (by decide +kernel), ⟨by decide +kernel, by decide +kernel, by decide +kernel⟩⟩
theorem vX5_seam : kVm yX5_seam mX5_seam 1 := ⟨kTS_i 853 (by decide +kernel) (by decide +kernel), kTS_i 854 (by decide +kernel) (by decide +kernel), kTS_i 64 (by decide +kernel) (by decide +kernel), kTS_i 855 (by decide +kernel) (by decide +kernel), ⟨by decide +kernel, by decide +kernel, by decide +kernel⟩⟩
theorem vX5_away : kVm yX5_away mX5_away 2 := ⟨kTS_i 857 (by decide +kernel) (by decide +kernel), kTS_i 858 (by decide +kernel) (by decide +kernel), kTS_i 64 (by decide +kernel) (by decide +kernel), kTS_i 859 (by decide +kernel) (by decide +kernel), ⟨by decide +kernel, by decide +kernel, by decide +kernel⟩⟩
theorem vX5_layGift : kVm yX5_layGift mX5_layGift 4 := ⟨kTS_i 869 (by decide +kernel) (by decide +kernel), kTS_i 36 (by decide +kernel) (by decide +kernel), kTS_i 64 (by decide +kernel) (by decide +kernel), kTS_i 870 (by decide +kernel) (by decide +kernel), ⟨by decide +kernel, by decide +kernel, by decide +kernel⟩⟩
theorem vX5_gift : kVm yX5_gift mX5_gift 3 := ⟨kTS_i 861 (by decide +kernel) (by decide +kernel), kTS_i 862 (by decide +kernel) (by decide +kernel), kTS_i 64 (by decide +kernel) (by decide +kernel), kTS_i 863 (by decide +kernel) (by decide +kernel), ⟨by decide +kernel, by decide +kernel, by decide +kernel⟩⟩
theorem vX5_undo : kVm yX5_undo mX5_undo 1 := ⟨kTS_i 872 (by decide +kernel) (by decide +kernel), kTS_i 873 (by decide +kernel) (by decide +kernel), kTS_i 64 (by decide +kernel) (by decide +kernel), kTS_i 874 (by decide +kernel) (by decide +kernel), ⟨by decide +kernel, by decide +kernel, by decide +kernel⟩⟩
theorem vX5_isBroken : kVm yX5_isBroken mX5_isBroken 1 := ⟨kTS_i 904 (by decide +kernel) (by decide +kernel), kTS_i 42 (by decide +kernel) (by decide +kernel), kTS_i 64 (by decide +kernel) (by decide +kernel), kTS_i 905 (by decide +kernel) (by decide +kernel), ⟨by decide +kernel, by decide +kernel, by decide +kernel⟩⟩
theorem vX5_townIn : kVm yX5_townIn mX5_townIn 1 := ⟨kTS_i 896 (by decide +kernel) (by decide +kernel), kTS_i 40 (by decide +kernel) (by decide +kernel), kTS_i 64 (by decide +kernel) (by decide +kernel), kTS_i 897 (by decide +kernel) (by decide +kernel), ⟨by decide +kernel, by decide +kernel, by decide +kernel⟩⟩
theorem vX5_beginWeek : kVm yX5_beginWeek mX5_beginWeek 1 := ⟨kTS_i 888 (by decide +kernel) (by decide +kernel), kTS_i 38 (by decide +kernel) (by decide +kernel), kTS_i 64 (by decide +kernel) (by decide +kernel), kTS_i 889 (by decide +kernel) (by decide +kernel), ⟨by decide +kernel, by decide +kernel, by decide +kernel⟩⟩
theorem vX5_turn : kVm yX5_turn mX5_turn 1 := ⟨kTS_i 900 (by decide +kernel) (by decide +kernel), kTS_i 41 (by decide +kernel) (by decide +kernel), kTS_i 64 (by decide +kernel) (by decide +kernel), kTS_i 901 (by decide +kernel) (by decide +kernel), ⟨by decide +kernel, by decide +kernel, by decide +kernel⟩⟩
theorem vX5_mend : kVm yX5_mend mX5_mend 1 := ⟨kTS_i 908 (by decide +kernel) (by decide +kernel), kTS_i 43 (by decide +kernel) (by decide +kernel), kTS_i 64 (by decide +kernel) (by decide +kernel), kTS_i 909 (by decide +kernel) (by decide +kernel), ⟨by decide +kernel, by decide +kernel, by decide +kernel⟩⟩
theorem vX5_goHalf : kVm yX5_goHalf mX5_goHalf 2 := ⟨kTS_i 892 (by decide +kernel) (by decide +kernel), kTS_i 39 (by decide +kernel) (by decide +kernel), kTS_i 64 (by decide +kernel) (by decide +kernel), kTS_i 893 (by decide +kernel) (by decide +kernel), ⟨by decide +kernel, by decide +kernel, by decide +kernel⟩⟩
theorem vX5_goTo : kVm yX5_goTo mX5_goTo 2 := ⟨kTS_i 884 (by decide +kernel) (by decide +kernel), kTS_i 37 (by decide +kernel) (by decide +kernel), kTS_i 64 (by decide +kernel) (by decide +kernel), kTS_i 885 (by decide +kernel) (by decide +kernel), ⟨by decide +kernel, by decide +kernel, by decide +kernel⟩⟩
theorem vX5_goWeeks : kVm yX5_goWeeks mX5_goWeeks 1 := ⟨kTS_i 924 (by decide +kernel) (by decide +kernel), kTS_i 44 (by decide +kernel) (by decide +kernel), kTS_i 64 (by decide +kernel) (by decide +kernel), kTS_i 925 (by decide +kernel) (by decide +kernel), ⟨by decide +kernel, by decide +kernel, by decide +kernel⟩⟩
theorem vX5_allChills : kVm yX5_allChills mX5_allChills 0 := ⟨kTS_i 936 (by decide +kernel) (by decide +kernel), kTS_i 46 (by decide +kernel) (by decide +kernel), kTS_i 64 (by decide +kernel) (by decide +kernel), kTS_i 937 (by decide +kernel) (by decide +kernel), ⟨by decide +kernel, by decide +kernel, by decide +kernel⟩⟩
theorem vX5_wood : kVm yX5_wood mX5_wood 3 := ⟨kTS_i 876 (by decide +kernel) (by decide +kernel), kTS_i 877 (by decide +kernel) (by decide +kernel), kTS_i 64 (by decide +kernel) (by decide +kernel), kTS_i 878 (by decide +kernel) (by decide +kernel), ⟨by decide +kernel, by decide +kernel, by decide +kernel⟩⟩
theorem vX5_wear : kVm yX5_wear mX5_wear 3 := ⟨kTS_i 911 (by decide +kernel) (by decide +kernel), kTS_i 912 (by decide +kernel) (by decide +kernel), kTS_i 64 (by decide +kernel) (by decide +kernel), kTS_i 913 (by decide +kernel) (by decide +kernel), ⟨by decide +kernel, by decide +kernel, by decide +kernel⟩⟩
theorem vX5_cold : kVm yX5_cold mX5_cold 2 := ⟨kTS_i 915 (by decide +kernel) (by decide +kernel), kTS_i 916 (by decide +kernel) (by decide +kernel), kTS_i 64 (by decide +kernel) (by decide +kernel), kTS_i 917 (by decide +kernel) (by decide +kernel), ⟨by decide +kernel, by decide +kernel, by decide +kernel⟩⟩
theorem vX5_chills : kVm yX5_chills mX5_chills 2 := ⟨kTS_i 919 (by decide +kernel) (by decide +kernel), kTS_i 920 (by decide +kernel) (by decide +kernel), kTS_i 64 (by decide +kernel) (by decide +kernel), kTS_i 921 (by decide +kernel) (by decide +kernel), ⟨by decide +kernel, by decide +kernel, by decide +kernel⟩⟩
theorem vX5_allNow : kVm yX5_allNow mX5_allNow 0 := ⟨kTS_i 932 (by decide +kernel) (by decide +kernel), kTS_i 45 (by decide +kernel) (by decide +kernel), kTS_i 64 (by decide +kernel) (by decide +kernel), kTS_i 933 (by decide +kernel) (by decide +kernel), ⟨by decide +kernel, by decide +kernel, by decide +kernel⟩⟩
theorem vX5_all : kVm yX5_all mX5_all 0 := ⟨kTS_i 927 (by decide +kernel) (by decide +kernel), kTS_i 928 (by decide +kernel) (by decide +kernel), kTS_i 64 (by decide +kernel) (by decide +kernel), kTS_i 929 (by decide +kernel) (by decide +kernel), ⟨by decide +kernel, by decide +kernel, by decide +kernel⟩⟩
theorem vX5_breaks : kVm yX5_breaks mX5_breaks 1 := ⟨kTS_i 939 (by decide +kernel) (by decide +kernel), kTS_i 940 (by decide +kernel) (by decide +kernel), kTS_i 64 (by decide +kernel) (by decide +kernel), kTS_i 941 (by decide +kernel) (by decide +kernel), ⟨by decide +kernel, by decide +kernel, by decide +kernel⟩⟩
theorem vX5_best : kVm yX5_best mX5_best 1 := ⟨kTS_i 943 (by decide +kernel) (by decide +kernel), kTS_i 944 (by decide +kernel) (by decide +kernel), kTS_i 64 (by decide +kernel) (by decide +kernel), kTS_i 945 (by decide +kernel) (by decide +kernel), ⟨by decide +kernel, by decide +kernel, by decide +kernel⟩⟩
theorem vX5_blame : kVm yX5_blame mX5_blame 1 := ⟨kTS_i 947 (by decide +kernel) (by decide +kernel), kTS_i 948 (by decide +kernel) (by decide +kernel), kTS_i 64 (by decide +kernel) (by decide +kernel), kTS_i 949 (by decide +kernel) (by decide +kernel), ⟨by decide +kernel, by decide +kernel, by decide +kernel⟩⟩
theorem vX5_size : kSm yX5_size mX5_size 1 := ⟨kTS_i 959 (by decide +kernel) (by decide +kernel), kTS_i 64 (by decide +kernel) (by decide +kernel), kTS_i 960 (by decide +kernel) (by decide +kernel), ⟨by decide +kernel, by decide +kernel, by decide +kernel⟩⟩
theorem vX5_awayNow : kVm yX5_awayNow mX5_awayNow 0 := ⟨kTS_i 956 (by decide +kernel) (by decide +kernel), kTS_i 47 (by decide +kernel) (by decide +kernel), kTS_i 64 (by decide +kernel) (by decide +kernel), kTS_i 957 (by decide +kernel) (by decide +kernel), ⟨by decide +kernel, by decide +kernel, by decide +kernel⟩⟩
theorem vX5_layAway : kVm yX5_layAway mX5_layAway 1 := ⟨kTS_i 963 (by decide +kernel) (by decide +kernel), kTS_i 48 (by decide +kernel) (by decide +kernel), kTS_i 64 (by decide +kernel) (by decide +kernel), kTS_i 964 (by decide +kernel) (by decide +kernel), ⟨by decide +kernel, by decide +kernel, by decide +kernel⟩⟩
theorem vX5_warm : kVm yX5_warm mX5_warm 1 := ⟨kTS_i 951 (by decide +kernel) (by decide +kernel), kTS_i 952 (by decide +kernel) (by decide +kernel), kTS_i 64 (by decide +kernel) (by decide +kernel), kTS_i 953 (by decide +kernel) (by decide +kernel), ⟨by decide +kernel, by decide +kernel, by decide +kernel⟩⟩
theorem vX5_isWarmIn : kVm yX5_isWarmIn mX5_isWarmIn 1 := ⟨kTS_i 971 (by decide +kernel) (by decide +kernel), kTS_i 49 (by decide +kernel) (by decide +kernel), kTS_i 64 (by decide +kernel) (by decide +kernel), kTS_i 972 (by decide +kernel) (by decide +kernel), ⟨by decide +kernel, by decide +kernel, by decide +kernel⟩⟩
theorem vX5_logs : kVm yX5_logs mX5_logs 1 := ⟨kTS_i 966 (by decide +kernel) (by decide +kernel), kTS_i 967 (by decide +kernel) (by decide +kernel), kTS_i 64 (by decide +kernel) (by decide +kernel), kTS_i 968 (by decide +kernel) (by decide +kernel), ⟨by decide +kernel, by decide +kernel, by decide +kernel⟩⟩
theorem vX5_allWear : kVm yX5_allWear mX5_allWear 1 := ⟨kTS_i 984 (by decide +kernel) (by decide +kernel), kTS_i 51 (by decide +kernel) (by decide +kernel), kTS_i 64 (by decide +kernel) (by decide +kernel), kTS_i 985 (by decide +kernel) (by decide +kernel), ⟨by decide +kernel, by decide +kernel, by decide +kernel⟩⟩
theorem vX5_lessWear : kVm yX5_lessWear mX5_lessWear 2 := ⟨kTS_i 980 (by decide +kernel) (by decide +kernel), kTS_i 50 (by decide +kernel) (by decide +kernel), kTS_i 64 (by decide +kernel) (by decide +kernel), kTS_i 981 (by decide +kernel) (by decide +kernel), ⟨by decide +kernel, by decide +kernel, by decide +kernel⟩⟩
theorem vX5_inLeastTerms : kSm yX5_inLeastTerms mX5_inLeastTerms 3 := ⟨kTS_i 987 (by decide +kernel) (by decide +kernel), kTS_i 64 (by decide +kernel) (by decide +kernel), kTS_i 988 (by decide +kernel) (by decide +kernel), ⟨by decide +kernel, by decide +kernel, by decide +kernel⟩⟩
theorem vX5_pays : kVm yX5_pays mX5_pays 3 := ⟨kTS_i 974 (by decide +kernel) (by decide +kernel), kTS_i 975 (by decide +kernel) (by decide +kernel), kTS_i 64 (by decide +kernel) (by decide +kernel), kTS_i 976 (by decide +kernel) (by decide +kernel), ⟨by decide +kernel, by decide +kernel, by decide +kernel⟩⟩
theorem vX5_timeOf : kVm yX5_timeOf mX5_timeOf 1 := ⟨kTS_i 999 (by decide +kernel) (by decide +kernel), kTS_i 53 (by decide +kernel) (by decide +kernel), kTS_i 64 (by decide +kernel) (by decide +kernel), kTS_i 1000 (by decide +kernel) (by decide +kernel), ⟨by decide +kernel, by decide +kernel, by decide +kernel⟩⟩
theorem vX5_halvesOf : kVm yX5_halvesOf mX5_halvesOf 2 := ⟨kTS_i 995 (by decide +kernel) (by decide +kernel), kTS_i 52 (by decide +kernel) (by decide +kernel), kTS_i 64 (by decide +kernel) (by decide +kernel), kTS_i 996 (by decide +kernel) (by decide +kernel), ⟨by decide +kernel, by decide +kernel, by decide +kernel⟩⟩
theorem vX5_together : kVm yX5_together mX5_together 3 := ⟨kTS_i 990 (by decide +kernel) (by decide +kernel), kTS_i 991 (by decide +kernel) (by decide +kernel), kTS_i 64 (by decide +kernel) (by decide +kernel), kTS_i 992 (by decide +kernel) (by decide +kernel), ⟨by decide +kernel, by decide +kernel, by decide +kernel⟩⟩
theorem vX5_third : kVm yX5_third mX5_third 1 := ⟨kTS_i 1002 (by decide +kernel) (by decide +kernel), kTS_i 1003 (by decide +kernel) (by decide +kernel), kTS_i 64 (by decide +kernel) (by decide +kernel), kTS_i 1004 (by decide +kernel) (by decide +kernel), ⟨by decide +kernel, by decide +kernel, by decide +kernel⟩⟩
theorem vX5_row : kVm yX5_row mX5_row 4 := ⟨kTS_i 1006 (by decide +kernel) (by decide +kernel), kTS_i 1007 (by decide +kernel) (by decide +kernel), kTS_i 64 (by decide +kernel) (by decide +kernel), kTS_i 1008 (by decide +kernel) (by decide +kernel), ⟨by decide +kernel, by decide +kernel, by decide +kernel⟩⟩
theorem vX5_reading : kVm yX5_reading mX5_reading 4 := ⟨kTS_i 1010 (by decide +kernel) (by decide +kernel), kTS_i 1011 (by decide +kernel) (by decide +kernel), kTS_i 64 (by decide +kernel) (by decide +kernel), kTS_i 1012 (by decide +kernel) (by decide +kernel), ⟨by decide +kernel, by decide +kernel, by decide +kernel⟩⟩
theorem vX5_back : kVm yX5_back mX5_back 1 := ⟨kTS_i 1014 (by decide +kernel) (by decide +kernel), kTS_i 1015 (by decide +kernel) (by decide +kernel), kTS_i 64 (by decide +kernel) (by decide +kernel), kTS_i 1016 (by decide +kernel) (by decide +kernel), ⟨by decide +kernel, by decide +kernel, by decide +kernel⟩⟩
theorem vX5_areSo : kVm yX5_areSo mX5_areSo 0 := ⟨kTS_i 1023 (by decide +kernel) (by decide +kernel), kTS_i 54 (by decide +kernel) (by decide +kernel), kTS_i 64 (by decide +kernel) (by decide +kernel), kTS_i 1024 (by decide +kernel) (by decide +kernel), ⟨by decide +kernel, by decide +kernel, by decide +kernel⟩⟩
theorem vX5_gone : kVm yX5_gone mX5_gone 0 := ⟨kTS_i 1018 (by decide +kernel) (by decide +kernel), kTS_i 1019 (by decide +kernel) (by decide +kernel), kTS_i 64 (by decide +kernel) (by decide +kernel), kTS_i 1020 (by decide +kernel) (by decide +kernel), ⟨by decide +kernel, by decide +kernel, by decide +kernel⟩⟩
theorem vX5_seams : kVm yX5_seams mX5_seams 0 := ⟨kTS_i 1026 (by decide +kernel) (by decide +kernel), kTS_i 1027 (by decide +kernel) (by decide +kernel), kTS_i 64 (by decide +kernel) (by decide +kernel), kTS_i 1028 (by decide +kernel) (by decide +kernel), ⟨by decide +kernel, by decide +kernel, by decide +kernel⟩⟩
theorem vX5_kinds : kVm yX5_kinds mX5_kinds 1 := ⟨kTS_i 1030 (by decide +kernel) (by decide +kernel), kTS_i 1031 (by decide +kernel) (by decide +kernel), kTS_i 64 (by decide +kernel) (by decide +kernel), kTS_i 1032 (by decide +kernel) (by decide +kernel), ⟨by decide +kernel, by decide +kernel, by decide +kernel⟩⟩
theorem vX5_odds : kVm yX5_odds mX5_odds 2 := ⟨kTS_i 1034 (by decide +kernel) (by decide +kernel), kTS_i 1035 (by decide +kernel) (by decide +kernel), kTS_i 64 (by decide +kernel) (by decide +kernel), kTS_i 1036 (by decide +kernel) (by decide +kernel), ⟨by decide +kernel, by decide +kernel, by decide +kernel⟩⟩
theorem vX5_sheet : kVm yX5_sheet mX5_sheet 3 := ⟨kTS_i 1038 (by decide +kernel) (by decide +kernel), kTS_i 1039 (by decide +kernel) (by decide +kernel), kTS_i 64 (by decide +kernel) (by decide +kernel), kTS_i 1040 (by decide +kernel) (by decide +kernel), ⟨by decide +kernel, by decide +kernel, by decide +kernel⟩⟩
theorem vX5_lose : kVm yX5_lose mX5_lose 1 := ⟨kTS_i 1042 (by decide +kernel) (by decide +kernel), kTS_i 1043 (by decide +kernel) (by decide +kernel), kTS_i 64 (by decide +kernel) (by decide +kernel), kTS_i 1044 (by decide +kernel) (by decide +kernel), ⟨by decide +kernel, by decide +kernel, by decide +kernel⟩⟩
theorem vX5_put : kVm yX5_put mX5_put 3 := ⟨kTS_i 1046 (by decide +kernel) (by decide +kernel), kTS_i 1047 (by decide +kernel) (by decide +kernel), kTS_i 64 (by decide +kernel) (by decide +kernel), kTS_i 1048 (by decide +kernel) (by decide +kernel), ⟨by decide +kernel, by decide +kernel, by decide +kernel⟩⟩
theorem vX5_cell : kVm yX5_cell mX5_cell 3 := ⟨kTS_i 1050 (by decide +kernel) (by decide +kernel), kTS_i 1051 (by decide +kernel) (by decide +kernel), kTS_i 64 (by decide +kernel) (by decide +kernel), kTS_i 1052 (by decide +kernel) (by decide +kernel), ⟨by decide +kernel, by decide +kernel, by decide +kernel⟩⟩
theorem vX5_copy : kVm yX5_copy mX5_copy 5 := ⟨kTS_i 1058 (by decide +kernel) (by decide +kernel), kTS_i 1059 (by decide +kernel) (by decide +kernel), kTS_i 64 (by decide +kernel) (by decide +kernel), kTS_i 1060 (by decide +kernel) (by decide +kernel), ⟨by decide +kernel, by decide +kernel, by decide +kernel⟩⟩
theorem vX5_begins : kVm yX5_begins mX5_begins 1 := ⟨kTS_i 1067 (by decide +kernel) (by decide +kernel), kTS_i 56 (by decide +kernel) (by decide +kernel), kTS_i 64 (by decide +kernel) (by decide +kernel), kTS_i 1068 (by decide +kernel) (by decide +kernel), ⟨by decide +kernel, by decide +kernel, by decide +kernel⟩⟩
theorem vX5_tell : kVm yX5_tell mX5_tell 1 := ⟨kTS_i 1062 (by decide +kernel) (by decide +kernel), kTS_i 1063 (by decide +kernel) (by decide +kernel), kTS_i 64 (by decide +kernel) (by decide +kernel), kTS_i 1064 (by decide +kernel) (by decide +kernel), ⟨by decide +kernel, by decide +kernel, by decide +kernel⟩⟩
theorem vX5_knock : kVm yX5_knock mX5_knock 1 := ⟨kTS_i 1070 (by decide +kernel) (by decide +kernel), kTS_i 1071 (by decide +kernel) (by decide +kernel), kTS_i 64 (by decide +kernel) (by decide +kernel), kTS_i 1072 (by decide +kernel) (by decide +kernel), ⟨by decide +kernel, by decide +kernel, by decide +kernel⟩⟩
theorem vX5_as : kVm yX5_as mX5_as 2 := ⟨kTS_i 1074 (by decide +kernel) (by decide +kernel), kTS_i 1075 (by decide +kernel) (by decide +kernel), kTS_i 64 (by decide +kernel) (by decide +kernel), kTS_i 1076 (by decide +kernel) (by decide +kernel), ⟨by decide +kernel, by decide +kernel, by decide +kernel⟩⟩
theorem vX5_trace : kVm yX5_trace mX5_trace 0 := ⟨kTS_i 1078 (by decide +kernel) (by decide +kernel), kTS_i 1079 (by decide +kernel) (by decide +kernel), kTS_i 64 (by decide +kernel) (by decide +kernel), kTS_i 1080 (by decide +kernel) (by decide +kernel), ⟨by decide +kernel, by decide +kernel, by decide +kernel⟩⟩
theorem vX5_fault : kVm yX5_fault mX5_fault 0 := ⟨kTS_i 1082 (by decide +kernel) (by decide +kernel), kTS_i 1083 (by decide +kernel) (by decide +kernel), kTS_i 64 (by decide +kernel) (by decide +kernel), kTS_i 1084 (by decide +kernel) (by decide +kernel), ⟨by decide +kernel, by decide +kernel, by decide +kernel⟩⟩
theorem vX5_many : kVm yX5_many mX5_many 1 := ⟨kTS_i 1086 (by decide +kernel) (by decide +kernel), kTS_i 1087 (by decide +kernel) (by decide +kernel), kTS_i 64 (by decide +kernel) (by decide +kernel), kTS_i 1088 (by decide +kernel) (by decide +kernel), ⟨by decide +kernel, by decide +kernel, by decide +kernel⟩⟩
theorem vJ6_bitCount_0f7a4 : kSm yJ6_bitCount_0f7a4 mJ6_bitCount_0f7a4 1 := ⟨kTS_i 480 (by decide +kernel) (by decide +kernel), kTS_i 66 (by decide +kernel) (by decide +kernel), kTS_i 481 (by decide +kernel) (by decide +kernel), ⟨by decide +kernel, by decide +kernel, by decide +kernel⟩⟩
theorem vJ9_max_7cf53 : kSm yJ9_max_7cf53 mJ9_max_7cf53 2 := ⟨kTS_i 85 (by decide +kernel) (by decide +kernel), kTS_i 60 (by decide +kernel) (by decide +kernel), kTS_i 86 (by decide +kernel) (by decide +kernel), ⟨by decide +kernel, by decide +kernel, by decide +kernel⟩⟩
theorem vJ9_min_7cf53 : kSm yJ9_min_7cf53 mJ9_min_7cf53 2 := ⟨kTS_i 429 (by decide +kernel) (by decide +kernel), kTS_i 60 (by decide +kernel) (by decide +kernel), kTS_i 430 (by decide +kernel) (by decide +kernel), ⟨by decide +kernel, by decide +kernel, by decide +kernel⟩⟩
theorem vJ7_fill_53178 : kSm yJ7_fill_53178 mJ7_fill_53178 2 := ⟨kTS_i 414 (by decide +kernel) (by decide +kernel), kTS_i 65 (by decide +kernel) (by decide +kernel), kTS_i 415 (by decide +kernel) (by decide +kernel), ⟨by decide +kernel, by decide +kernel, by decide +kernel⟩⟩
theorem iL : Cond.initialized RL ∈ kTS := kTS_i 57 (by decide +kernel) (by decide +kernel)
theorem iX4 : Cond.initialized RX4 ∈ kTS := kTS_i 58 (by decide +kernel) (by decide +kernel)
theorem iX0 : Cond.initialized RX0 ∈ kTS := kTS_i 59 (by decide +kernel) (by decide +kernel)
theorem iJ9 : Cond.initialized RJ9 ∈ kTS := kTS_i 60 (by decide +kernel) (by decide +kernel)
theorem iX2 : Cond.initialized RX2 ∈ kTS := kTS_i 61 (by decide +kernel) (by decide +kernel)
theorem iX3 : Cond.initialized RX3 ∈ kTS := kTS_i 62 (by decide +kernel) (by decide +kernel)
theorem iX1 : Cond.initialized RX1 ∈ kTS := kTS_i 63 (by decide +kernel) (by decide +kernel)
theorem iX5 : Cond.initialized RX5 ∈ kTS := kTS_i 64 (by decide +kernel) (by decide +kernel)
theorem iJ7 : Cond.initialized RJ7 ∈ kTS := kTS_i 65 (by decide +kernel) (by decide +kernel)
theorem iJ6 : Cond.initialized RJ6 ∈ kTS := kTS_i 66 (by decide +kernel) (by decide +kernel)
theorem iJ10 : Cond.initialized RJ10 ∈ kTS := kTS_i 67 (by decide +kernel) (by decide +kernel)
theorem lL_7 : Cond.classLink RL 7 RX4 ∈ kTS := kTS_i 68 (by decide +kernel) (by decide +kernel)
theorem nX4 : Cond.instantiable RX4 11 ∈ kTS := kTS_i 69 (by decide +kernel) (by decide +kernel)
theorem lL_9 : Cond.methodLink RL 9 yX4_init ∈ kTS := kTS_i 70 (by decide +kernel) (by decide +kernel)
theorem lX4_5 : Cond.methodLink RX4 5 objectInit ∈ kTS := kTS_i 73 (by decide +kernel) (by decide +kernel)
theorem lX4_11 : Cond.classLink RX4 11 RX1 ∈ kTS := kTS_i 76 (by decide +kernel) (by decide +kernel)
theorem lX4_17 : Cond.classLink RX4 17 RX0 ∈ kTS := kTS_i 78 (by decide +kernel) (by decide +kernel)
theorem nX0 : Cond.instantiable RX0 5 ∈ kTS := kTS_i 79 (by decide +kernel) (by decide +kernel)
theorem lX4_19 : Cond.methodLink RX4 19 yX0_init ∈ kTS := kTS_i 80 (by decide +kernel) (by decide +kernel)
theorem lX0_3 : Cond.methodLink RX0 3 objectInit ∈ kTS := kTS_i 83 (by decide +kernel) (by decide +kernel)
theorem lX0_15 : Cond.methodLink RX0 15 Lib.Math.max.name ∈ kTS := kTS_i 84 (by decide +kernel) (by decide +kernel)
theorem fX0_21 : kFE RX0 21 0 0 := ⟨by decide, by decide, kTS_i 87 (by decide +kernel) (by decide +kernel)⟩
theorem fX0_24 : kFE RX0 24 0 1 := ⟨by decide, by decide, kTS_i 88 (by decide +kernel) (by decide +kernel)⟩
theorem fX0_28 : kFE RX0 28 0 2 := ⟨by decide, by decide, kTS_i 89 (by decide +kernel) (by decide +kernel)⟩
theorem fX0_31 : kFE RX0 31 0 3 := ⟨by decide, by decide, kTS_i 90 (by decide +kernel) (by decide +kernel)⟩
theorem fX0_9 : kFE RX0 9 0 4 := ⟨by decide, by decide, kTS_i 91 (by decide +kernel) (by decide +kernel)⟩
theorem fX4_74 : kFE RX4 74 0 4 := ⟨by decide, by decide, kTS_i 92 (by decide +kernel) (by decide +kernel)⟩
theorem lX4_29 : Cond.classLink RX4 29 RX2 ∈ kTS := kTS_i 105 (by decide +kernel) (by decide +kernel)
theorem nX2 : Cond.instantiable RX2 12 ∈ kTS := kTS_i 106 (by decide +kernel) (by decide +kernel)
theorem lX4_31 (Γ : kGm) : ∀ s, kKS Γ s → va_Nw (.methodLinkNest RX4 31 yX2_init RX4) s := fun _ h => h.2.1
theorem lX2_3 : Cond.methodLink RX2 3 objectInit ∈ kTS := kTS_i 110 (by decide +kernel) (by decide +kernel)
theorem fX2_9 : kFE RX2 9 2 0 := ⟨by decide, by decide, kTS_i 111 (by decide +kernel) (by decide +kernel)⟩
theorem fX4_84 : kFE RX4 84 2 0 := ⟨by decide, by decide, kTS_i 112 (by decide +kernel) (by decide +kernel)⟩
theorem fX3_94 : kFE RX3 94 2 0 := ⟨by decide, by decide, kTS_i 113 (by decide +kernel) (by decide +kernel)⟩
theorem fX2_15 : kFE RX2 15 2 1 := ⟨by decide, by decide, kTS_i 114 (by decide +kernel) (by decide +kernel)⟩
theorem fX4_88 : kFE RX4 88 2 1 := ⟨by decide, by decide, kTS_i 115 (by decide +kernel) (by decide +kernel)⟩
theorem fX2_18 : kFE RX2 18 2 2 := ⟨by decide, by decide, kTS_i 116 (by decide +kernel) (by decide +kernel)⟩
theorem fX3_57 : kFE RX3 57 2 2 := ⟨by decide, by decide, kTS_i 117 (by decide +kernel) (by decide +kernel)⟩
theorem fX4_94 : kFE RX4 94 2 2 := ⟨by decide, by decide, kTS_i 118 (by decide +kernel) (by decide +kernel)⟩
theorem fX2_21 : kFE RX2 21 2 3 := ⟨by decide, by decide, kTS_i 119 (by decide +kernel) (by decide +kernel)⟩
theorem fX4_97 : kFE RX4 97 2 3 := ⟨by decide, by decide, kTS_i 120 (by decide +kernel) (by decide +kernel)⟩
theorem fX2_24 : kFE RX2 24 2 4 := ⟨by decide, by decide, kTS_i 121 (by decide +kernel) (by decide +kernel)⟩
theorem fX4_100 : kFE RX4 100 2 4 := ⟨by decide, by decide, kTS_i 122 (by decide +kernel) (by decide +kernel)⟩
theorem fX3_107 : kFE RX3 107 2 4 := ⟨by decide, by decide, kTS_i 123 (by decide +kernel) (by decide +kernel)⟩
theorem fX2_27 : kFE RX2 27 2 5 := ⟨by decide, by decide, kTS_i 124 (by decide +kernel) (by decide +kernel)⟩
theorem fX3_60 : kFE RX3 60 2 5 := ⟨by decide, by decide, kTS_i 125 (by decide +kernel) (by decide +kernel)⟩
theorem fX4_103 : kFE RX4 103 2 5 := ⟨by decide, by decide, kTS_i 126 (by decide +kernel) (by decide +kernel)⟩
theorem fX2_30 : kFE RX2 30 2 6 := ⟨by decide, by decide, kTS_i 127 (by decide +kernel) (by decide +kernel)⟩
theorem fX4_106 : kFE RX4 106 2 6 := ⟨by decide, by decide, kTS_i 128 (by decide +kernel) (by decide +kernel)⟩
theorem fX3_114 : kFE RX3 114 2 6 := ⟨by decide, by decide, kTS_i 129 (by decide +kernel) (by decide +kernel)⟩
theorem fX2_33 : kFE RX2 33 2 7 := ⟨by decide, by decide, kTS_i 130 (by decide +kernel) (by decide +kernel)⟩
theorem fX3_51 : kFE RX3 51 2 7 := ⟨by decide, by decide, kTS_i 131 (by decide +kernel) (by decide +kernel)⟩
theorem fX4_116 : kFE RX4 116 2 7 := ⟨by decide, by decide, kTS_i 132 (by decide +kernel) (by decide +kernel)⟩
theorem fX2_37 : kFE RX2 37 2 8 := ⟨by decide, by decide, kTS_i 133 (by decide +kernel) (by decide +kernel)⟩
theorem fX4_77 : kFE RX4 77 2 8 := ⟨by decide, by decide, kTS_i 134 (by decide +kernel) (by decide +kernel)⟩
theorem fX3_91 : kFE RX3 91 2 8 := ⟨by decide, by decide, kTS_i 135 (by decide +kernel) (by decide +kernel)⟩
theorem fX2_40 : kFE RX2 40 2 9 := ⟨by decide, by decide, kTS_i 136 (by decide +kernel) (by decide +kernel)⟩
theorem fX3_54 : kFE RX3 54 2 9 := ⟨by decide, by decide, kTS_i 137 (by decide +kernel) (by decide +kernel)⟩
theorem fX4_187 : kFE RX4 187 2 9 := ⟨by decide, by decide, kTS_i 138 (by decide +kernel) (by decide +kernel)⟩
theorem fX2_43 : kFE RX2 43 2 10 := ⟨by decide, by decide, kTS_i 139 (by decide +kernel) (by decide +kernel)⟩
theorem fX2_46 : kFE RX2 46 2 11 := ⟨by decide, by decide, kTS_i 140 (by decide +kernel) (by decide +kernel)⟩
theorem lX4_39 : Cond.classLink RX4 39 RX3 ∈ kTS := kTS_i 166 (by decide +kernel) (by decide +kernel)
theorem nX3 : Cond.instantiable RX3 12 ∈ kTS := kTS_i 167 (by decide +kernel) (by decide +kernel)
theorem lX4_41 : Cond.methodLink RX4 41 yX3_init ∈ kTS := kTS_i 168 (by decide +kernel) (by decide +kernel)
theorem lX3_3 : Cond.methodLink RX3 3 objectInit ∈ kTS := kTS_i 171 (by decide +kernel) (by decide +kernel)
theorem fX3_9 : kFE RX3 9 3 0 := ⟨by decide, by decide, kTS_i 172 (by decide +kernel) (by decide +kernel)⟩
theorem fX3_15 : kFE RX3 15 3 1 := ⟨by decide, by decide, kTS_i 173 (by decide +kernel) (by decide +kernel)⟩
theorem fX3_18 : kFE RX3 18 3 2 := ⟨by decide, by decide, kTS_i 174 (by decide +kernel) (by decide +kernel)⟩
theorem fX3_21 : kFE RX3 21 3 3 := ⟨by decide, by decide, kTS_i 175 (by decide +kernel) (by decide +kernel)⟩
theorem fX3_24 : kFE RX3 24 3 4 := ⟨by decide, by decide, kTS_i 176 (by decide +kernel) (by decide +kernel)⟩
theorem fX3_27 : kFE RX3 27 3 5 := ⟨by decide, by decide, kTS_i 177 (by decide +kernel) (by decide +kernel)⟩
theorem fX4_212 : kFE RX4 212 3 5 := ⟨by decide, by decide, kTS_i 178 (by decide +kernel) (by decide +kernel)⟩
theorem fX3_47 : kFE RX3 47 3 6 := ⟨by decide, by decide, kTS_i 179 (by decide +kernel) (by decide +kernel)⟩
theorem fX3_43 : kFE RX3 43 3 7 := ⟨by decide, by decide, kTS_i 180 (by decide +kernel) (by decide +kernel)⟩
theorem fX3_30 : kFE RX3 30 3 8 := ⟨by decide, by decide, kTS_i 181 (by decide +kernel) (by decide +kernel)⟩
theorem fX3_34 : kFE RX3 34 3 9 := ⟨by decide, by decide, kTS_i 182 (by decide +kernel) (by decide +kernel)⟩
theorem fX4_164 : kFE RX4 164 3 9 := ⟨by decide, by decide, kTS_i 183 (by decide +kernel) (by decide +kernel)⟩
theorem fX3_37 : kFE RX3 37 3 10 := ⟨by decide, by decide, kTS_i 184 (by decide +kernel) (by decide +kernel)⟩
theorem fX4_176 : kFE RX4 176 3 10 := ⟨by decide, by decide, kTS_i 185 (by decide +kernel) (by decide +kernel)⟩
theorem fX3_40 : kFE RX3 40 3 11 := ⟨by decide, by decide, kTS_i 186 (by decide +kernel) (by decide +kernel)⟩
theorem fX4_179 : kFE RX4 179 3 11 := ⟨by decide, by decide, kTS_i 187 (by decide +kernel) (by decide +kernel)⟩
theorem nX1 : Cond.instantiable RX1 3 ∈ kTS := kTS_i 213 (by decide +kernel) (by decide +kernel)
theorem lX4_65 (Γ : kGm) : ∀ s, kKS Γ s → va_Nw (.methodLinkNest RX4 65 yX1_init RX4) s := fun _ h => h.2.2.1
theorem lX1_3 : Cond.methodLink RX1 3 objectInit ∈ kTS := kTS_i 217 (by decide +kernel) (by decide +kernel)
theorem fX1_9 : kFE RX1 9 1 0 := ⟨by decide, by decide, kTS_i 218 (by decide +kernel) (by decide +kernel)⟩
theorem fX4_246 : kFE RX4 246 1 0 := ⟨by decide, by decide, kTS_i 219 (by decide +kernel) (by decide +kernel)⟩
theorem fX1_15 : kFE RX1 15 1 1 := ⟨by decide, by decide, kTS_i 220 (by decide +kernel) (by decide +kernel)⟩
theorem fX4_240 : kFE RX4 240 1 1 := ⟨by decide, by decide, kTS_i 221 (by decide +kernel) (by decide +kernel)⟩
theorem fX1_19 : kFE RX1 19 1 2 := ⟨by decide, by decide, kTS_i 222 (by decide +kernel) (by decide +kernel)⟩
theorem fX4_13 : kFE RX4 13 4 0 := ⟨by decide, by decide, kTS_i 230 (by decide +kernel) (by decide +kernel)⟩
theorem fX4_22 : kFE RX4 22 4 1 := ⟨by decide, by decide, kTS_i 231 (by decide +kernel) (by decide +kernel)⟩
theorem fX4_26 : kFE RX4 26 4 2 := ⟨by decide, by decide, kTS_i 232 (by decide +kernel) (by decide +kernel)⟩
theorem fX4_32 : kFE RX4 32 4 3 := ⟨by decide, by decide, kTS_i 233 (by decide +kernel) (by decide +kernel)⟩
theorem fX4_36 : kFE RX4 36 4 4 := ⟨by decide, by decide, kTS_i 234 (by decide +kernel) (by decide +kernel)⟩
theorem fX4_44 : kFE RX4 44 4 5 := ⟨by decide, by decide, kTS_i 235 (by decide +kernel) (by decide +kernel)⟩
theorem fX4_48 : kFE RX4 48 4 6 := ⟨by decide, by decide, kTS_i 236 (by decide +kernel) (by decide +kernel)⟩
theorem fX4_51 : kFE RX4 51 4 7 := ⟨by decide, by decide, kTS_i 237 (by decide +kernel) (by decide +kernel)⟩
theorem fX4_55 : kFE RX4 55 4 8 := ⟨by decide, by decide, kTS_i 238 (by decide +kernel) (by decide +kernel)⟩
theorem fX4_59 : kFE RX4 59 4 9 := ⟨by decide, by decide, kTS_i 239 (by decide +kernel) (by decide +kernel)⟩
theorem fX4_62 : kFE RX4 62 4 10 := ⟨by decide, by decide, kTS_i 240 (by decide +kernel) (by decide +kernel)⟩
theorem lL_13 : Cond.methodLink RL 13 yX4_houses ∈ kTS := kTS_i 264 (by decide +kernel) (by decide +kernel)
theorem lX4_66 : Cond.methodLink RX4 66 yX4_refusalOfCells ∈ kTS := kTS_i 268 (by decide +kernel) (by decide +kernel)
theorem lX4_237 : Cond.methodLink RX4 237 yX4_refusalOfLane ∈ kTS := kTS_i 272 (by decide +kernel) (by decide +kernel)
theorem lX4_215 : Cond.methodLink RX4 215 yX4_isSheet ∈ kTS := kTS_i 276 (by decide +kernel) (by decide +kernel)
theorem lX4_218 : Cond.methodLink RX4 218 yX4_isLane ∈ kTS := kTS_i 279 (by decide +kernel) (by decide +kernel)
theorem lX4_228 : Cond.methodLink RX4 228 yX1_hasNothing ∈ kTS := kTS_i 282 (by decide +kernel) (by decide +kernel)
theorem lX4_221 : Cond.methodLink RX4 221 yX4_faultBy ∈ kTS := kTS_i 286 (by decide +kernel) (by decide +kernel)
theorem lX4_243 : Cond.methodLink RX4 243 yX1_hasCells ∈ kTS := kTS_i 290 (by decide +kernel) (by decide +kernel)
theorem lX4_70 : Cond.methodLink RX4 70 yX4_firstFault ∈ kTS := kTS_i 294 (by decide +kernel) (by decide +kernel)
theorem lX4_270 : Cond.methodLink RX4 270 yX2_begin ∈ kTS := kTS_i 298 (by decide +kernel) (by decide +kernel)
theorem lX4_205 : Cond.methodLink RX4 205 yX1_read ∈ kTS := kTS_i 302 (by decide +kernel) (by decide +kernel)
theorem lX1_28 : Cond.methodLink RX1 28 yX1_hasCell ∈ kTS := kTS_i 306 (by decide +kernel) (by decide +kernel)
theorem lX4_273 : Cond.methodLink RX4 273 yX2_goesOn ∈ kTS := kTS_i 310 (by decide +kernel) (by decide +kernel)
theorem lX2_49 : Cond.methodLink RX2 49 yX2_headGoesOn ∈ kTS := kTS_i 314 (by decide +kernel) (by decide +kernel)
theorem lX2_63 : Cond.methodLink RX2 63 yX2_digitOf ∈ kTS := kTS_i 318 (by decide +kernel) (by decide +kernel)
theorem lX2_67 : Cond.methodLink RX2 67 yX2_isIn ∈ kTS := kTS_i 321 (by decide +kernel) (by decide +kernel)
theorem lX2_53 : Cond.methodLink RX2 53 yX2_houseGoesOn ∈ kTS := kTS_i 324 (by decide +kernel) (by decide +kernel)
theorem lX2_57 : Cond.methodLink RX2 57 yX2_personGoesOn ∈ kTS := kTS_i 328 (by decide +kernel) (by decide +kernel)
theorem lX2_71 : Cond.methodLink RX2 71 yX2_kindOf ∈ kTS := kTS_i 332 (by decide +kernel) (by decide +kernel)
theorem lX2_60 : Cond.methodLink RX2 60 yX2_opens ∈ kTS := kTS_i 335 (by decide +kernel) (by decide +kernel)
theorem lX4_276 : Cond.methodLink RX4 276 yX2_isWhole ∈ kTS := kTS_i 339 (by decide +kernel) (by decide +kernel)
theorem lL_18 : Cond.methodLink RL 18 yX4_ofHouse ∈ kTS := kTS_i 343 (by decide +kernel) (by decide +kernel)
theorem lX4_80 : Cond.methodLink RX4 80 yX4_isHouse ∈ kTS := kTS_i 347 (by decide +kernel) (by decide +kernel)
theorem lL_23 : Cond.methodLink RL 23 yX4_ofPerson ∈ kTS := kTS_i 351 (by decide +kernel) (by decide +kernel)
theorem lX4_91 : Cond.methodLink RX4 91 yX4_isPerson ∈ kTS := kTS_i 355 (by decide +kernel) (by decide +kernel)
theorem lX4_109 : Cond.methodLink RX4 109 yX4_wantsOf ∈ kTS := kTS_i 359 (by decide +kernel) (by decide +kernel)
theorem lX4_113 : Cond.methodLink RX4 113 yX4_isAway ∈ kTS := kTS_i 362 (by decide +kernel) (by decide +kernel)
theorem lL_27 : Cond.methodLink RL 27 yX4_seam ∈ kTS := kTS_i 366 (by decide +kernel) (by decide +kernel)
theorem lL_32 : Cond.methodLink RL 32 yX4_away ∈ kTS := kTS_i 370 (by decide +kernel) (by decide +kernel)
theorem lL_37 : Cond.methodLink RL 37 yX4_gift ∈ kTS := kTS_i 374 (by decide +kernel) (by decide +kernel)
theorem lX4_119 : Cond.methodLink RX4 119 yX4_isWeek ∈ kTS := kTS_i 378 (by decide +kernel) (by decide +kernel)
theorem lX4_122 : Cond.methodLink RX4 122 yX0_keep ∈ kTS := kTS_i 381 (by decide +kernel) (by decide +kernel)
theorem lL_42 : Cond.methodLink RL 42 yX4_undo ∈ kTS := kTS_i 385 (by decide +kernel) (by decide +kernel)
theorem lX4_126 : Cond.methodLink RX4 126 yX0_takeBack ∈ kTS := kTS_i 389 (by decide +kernel) (by decide +kernel)
theorem lL_46 : Cond.methodLink RL 46 yX4_wood ∈ kTS := kTS_i 393 (by decide +kernel) (by decide +kernel)
theorem lX4_130 : Cond.methodLink RX4 130 yX4_isTime ∈ kTS := kTS_i 397 (by decide +kernel) (by decide +kernel)
theorem lX4_134 : Cond.methodLink RX4 134 yX4_freshWeeks ∈ kTS := kTS_i 400 (by decide +kernel) (by decide +kernel)
theorem lX4_160 : Cond.methodLink RX4 160 yX3_prepare ∈ kTS := kTS_i 404 (by decide +kernel) (by decide +kernel)
theorem lX3_63 (Γ : kGm) : ∀ s, kKS Γ s → va_Nw (.methodLinkNest RX3 63 yX4_wantsOf RX4) s := fun _ h => h.2.2.2.1
theorem lX4_165 : Cond.methodLink RX4 165 yX3_live ∈ kTS := kTS_i 409 (by decide +kernel) (by decide +kernel)
theorem lX3_67 : Cond.methodLink RX3 67 yJ7_fill_53178 ∈ kTS := kTS_i 413 (by decide +kernel) (by decide +kernel)
theorem lX3_73 : Cond.methodLink RX3 73 yX2_townIn ∈ kTS := kTS_i 416 (by decide +kernel) (by decide +kernel)
theorem lX3_76 : Cond.methodLink RX3 76 yX3_bringWood ∈ kTS := kTS_i 420 (by decide +kernel) (by decide +kernel)
theorem lX3_97 : Cond.methodLink RX3 97 yX0_sumOf ∈ kTS := kTS_i 424 (by decide +kernel) (by decide +kernel)
theorem lX3_102 : Cond.methodLink RX3 102 Lib.Math.min.name ∈ kTS := kTS_i 428 (by decide +kernel) (by decide +kernel)
theorem lX3_80 : Cond.methodLink RX3 80 yX3_takeWood ∈ kTS := kTS_i 431 (by decide +kernel) (by decide +kernel)
theorem lX3_110 : Cond.methodLink RX3 110 yX2_breaksBy ∈ kTS := kTS_i 435 (by decide +kernel) (by decide +kernel)
theorem lX3_84 : Cond.methodLink RX3 84 yX3_mend ∈ kTS := kTS_i 439 (by decide +kernel) (by decide +kernel)
theorem lX3_117 : Cond.methodLink RX3 117 Lib.Math.max.name ∈ kTS := kTS_i 443 (by decide +kernel) (by decide +kernel)
theorem lX3_87 : Cond.methodLink RX3 87 yX3_note ∈ kTS := kTS_i 444 (by decide +kernel) (by decide +kernel)
theorem lX4_138 : Cond.methodLink RX4 138 yX4_timeOf ∈ kTS := kTS_i 448 (by decide +kernel) (by decide +kernel)
theorem lX4_141 : Cond.methodLink RX4 141 yX3_woodAt ∈ kTS := kTS_i 451 (by decide +kernel) (by decide +kernel)
theorem lL_50 : Cond.methodLink RL 50 yX4_wear ∈ kTS := kTS_i 455 (by decide +kernel) (by decide +kernel)
theorem lX4_144 : Cond.methodLink RX4 144 yX3_wearAt ∈ kTS := kTS_i 459 (by decide +kernel) (by decide +kernel)
theorem lL_54 : Cond.methodLink RL 54 yX4_cold ∈ kTS := kTS_i 463 (by decide +kernel) (by decide +kernel)
theorem lX4_147 : Cond.methodLink RX4 147 yX3_coldAt ∈ kTS := kTS_i 467 (by decide +kernel) (by decide +kernel)
theorem lL_58 : Cond.methodLink RL 58 yX4_chills ∈ kTS := kTS_i 471 (by decide +kernel) (by decide +kernel)
theorem lX4_150 : Cond.methodLink RX4 150 yX3_chillsOf ∈ kTS := kTS_i 475 (by decide +kernel) (by decide +kernel)
theorem lX3_123 : Cond.methodLink RX3 123 yJ6_bitCount_0f7a4 ∈ kTS := kTS_i 479 (by decide +kernel) (by decide +kernel)
theorem kJ6_265 : Cond.constant RJ6 265 (1431655765) ∈ kTS := kTS_i 482 (by decide +kernel) (by decide +kernel)
theorem kJ6_266 : Cond.constant RJ6 266 (858993459) ∈ kTS := kTS_i 483 (by decide +kernel) (by decide +kernel)
theorem kJ6_267 : Cond.constant RJ6 267 (252645135) ∈ kTS := kTS_i 484 (by decide +kernel) (by decide +kernel)
theorem lL_62 : Cond.methodLink RL 62 yX4_all ∈ kTS := kTS_i 485 (by decide +kernel) (by decide +kernel)
theorem lX4_153 : Cond.methodLink RX4 153 yX4_everybody ∈ kTS := kTS_i 489 (by decide +kernel) (by decide +kernel)
theorem lL_67 : Cond.methodLink RL 67 yX4_breaks ∈ kTS := kTS_i 493 (by decide +kernel) (by decide +kernel)
theorem lX4_157 : Cond.methodLink RX4 157 yX2_breaksBy ∈ kTS := kTS_i 497 (by decide +kernel) (by decide +kernel)
theorem lL_71 : Cond.methodLink RL 71 yX4_best ∈ kTS := kTS_i 498 (by decide +kernel) (by decide +kernel)
theorem lL_75 : Cond.methodLink RL 75 yX4_blame ∈ kTS := kTS_i 502 (by decide +kernel) (by decide +kernel)
theorem lL_79 : Cond.methodLink RL 79 yX4_warm ∈ kTS := kTS_i 506 (by decide +kernel) (by decide +kernel)
theorem lX4_168 : Cond.methodLink RX4 168 yJ6_bitCount_0f7a4 ∈ kTS := kTS_i 510 (by decide +kernel) (by decide +kernel)
theorem lL_83 : Cond.methodLink RL 83 yX4_logs ∈ kTS := kTS_i 511 (by decide +kernel) (by decide +kernel)
theorem lX4_173 : Cond.methodLink RX4 173 yX2_dwellersOf ∈ kTS := kTS_i 515 (by decide +kernel) (by decide +kernel)
theorem lL_87 : Cond.methodLink RL 87 yX4_pays ∈ kTS := kTS_i 519 (by decide +kernel) (by decide +kernel)
theorem lX4_182 : Cond.methodLink RX4 182 yX4_isWhich ∈ kTS := kTS_i 523 (by decide +kernel) (by decide +kernel)
theorem kX4_185 : Cond.constantLong RX4 185 (-9223372036854775808) ∈ kTS := kTS_i 526 (by decide +kernel) (by decide +kernel)
theorem lX4_190 : Cond.methodLink RX4 190 yX4_lessWearWithout ∈ kTS := kTS_i 527 (by decide +kernel) (by decide +kernel)
theorem lX4_279 : Cond.methodLink RX4 279 yX3_wearTogether ∈ kTS := kTS_i 531 (by decide +kernel) (by decide +kernel)
theorem lX3_120 : Cond.methodLink RX3 120 yX3_wearAt ∈ kTS := kTS_i 535 (by decide +kernel) (by decide +kernel)
theorem lX4_282 : Cond.methodLink RX4 282 Lib.Math.max.name ∈ kTS := kTS_i 536 (by decide +kernel) (by decide +kernel)
theorem lX4_193 : Cond.methodLink RX4 193 yX4_ofShare ∈ kTS := kTS_i 537 (by decide +kernel) (by decide +kernel)
theorem lX4_289 : Cond.methodLink RX4 289 yX4_commonDivisor ∈ kTS := kTS_i 540 (by decide +kernel) (by decide +kernel)
theorem lL_92 : Cond.methodLink RL 92 yX4_together ∈ kTS := kTS_i 543 (by decide +kernel) (by decide +kernel)
theorem lX4_197 : Cond.methodLink RX4 197 Lib.Math.min.name ∈ kTS := kTS_i 547 (by decide +kernel) (by decide +kernel)
theorem lL_96 : Cond.methodLink RL 96 yX4_third ∈ kTS := kTS_i 548 (by decide +kernel) (by decide +kernel)
theorem lX4_202 : Cond.methodLink RX4 202 yX4_whoIsIn ∈ kTS := kTS_i 552 (by decide +kernel) (by decide +kernel)
theorem lX4_267 : Cond.methodLink RX4 267 yX2_townIn ∈ kTS := kTS_i 556 (by decide +kernel) (by decide +kernel)
theorem lL_100 : Cond.methodLink RL 100 yX4_row ∈ kTS := kTS_i 557 (by decide +kernel) (by decide +kernel)
theorem lL_104 : Cond.methodLink RL 104 yX4_reading ∈ kTS := kTS_i 561 (by decide +kernel) (by decide +kernel)
theorem lL_108 : Cond.methodLink RL 108 yX4_back ∈ kTS := kTS_i 565 (by decide +kernel) (by decide +kernel)
theorem lL_112 : Cond.methodLink RL 112 yX4_gone ∈ kTS := kTS_i 569 (by decide +kernel) (by decide +kernel)
theorem lX4_208 : Cond.methodLink RX4 208 yX4_readingsAreSoInTrial ∈ kTS := kTS_i 573 (by decide +kernel) (by decide +kernel)
theorem lX4_285 : Cond.methodLink RX4 285 yX0_areWearOf ∈ kTS := kTS_i 577 (by decide +kernel) (by decide +kernel)
theorem lX0_34 : Cond.methodLink RX0 34 yX3_wearAt ∈ kTS := kTS_i 581 (by decide +kernel) (by decide +kernel)
theorem lL_116 : Cond.methodLink RL 116 yX4_seams ∈ kTS := kTS_i 582 (by decide +kernel) (by decide +kernel)
theorem lL_120 : Cond.methodLink RL 120 yX4_kinds ∈ kTS := kTS_i 586 (by decide +kernel) (by decide +kernel)
theorem lL_124 : Cond.methodLink RL 124 yX4_odds ∈ kTS := kTS_i 590 (by decide +kernel) (by decide +kernel)
theorem lL_129 : Cond.methodLink RL 129 yX4_sheet ∈ kTS := kTS_i 594 (by decide +kernel) (by decide +kernel)
theorem lX4_224 : Cond.methodLink RX4 224 yX1_renew ∈ kTS := kTS_i 598 (by decide +kernel) (by decide +kernel)
theorem lX1_22 : Cond.methodLink RX1 22 yJ7_fill_53178 ∈ kTS := kTS_i 602 (by decide +kernel) (by decide +kernel)
theorem lL_133 : Cond.methodLink RL 133 yX4_lose ∈ kTS := kTS_i 603 (by decide +kernel) (by decide +kernel)
theorem lL_137 : Cond.methodLink RL 137 yX4_put ∈ kTS := kTS_i 607 (by decide +kernel) (by decide +kernel)
theorem lX4_231 : Cond.methodLink RX4 231 yX1_hasCell ∈ kTS := kTS_i 611 (by decide +kernel) (by decide +kernel)
theorem lX4_234 : Cond.methodLink RX4 234 yX1_write ∈ kTS := kTS_i 612 (by decide +kernel) (by decide +kernel)
theorem lX1_32 : Cond.methodLink RX1 32 yX1_cutToLane ∈ kTS := kTS_i 616 (by decide +kernel) (by decide +kernel)
theorem lL_141 : Cond.methodLink RL 141 yX4_cell ∈ kTS := kTS_i 620 (by decide +kernel) (by decide +kernel)
theorem lL_145 : Cond.methodLink RL 145 yX4_copy ∈ kTS := kTS_i 624 (by decide +kernel) (by decide +kernel)
theorem lX4_249 : Cond.methodLink RX4 249 arraycopyName ∈ kTS := kTS_i 628 (by decide +kernel) (by decide +kernel)
theorem lL_150 : Cond.methodLink RL 150 yX4_tell ∈ kTS := kTS_i 631 (by decide +kernel) (by decide +kernel)
theorem lX4_255 : Cond.methodLink RX4 255 yX4_tellDweller ∈ kTS := kTS_i 635 (by decide +kernel) (by decide +kernel)
theorem lX4_264 : Cond.methodLink RX4 264 yX4_leaveInTrace ∈ kTS := kTS_i 639 (by decide +kernel) (by decide +kernel)
theorem lX4_258 : Cond.methodLink RX4 258 yX4_tellHearty ∈ kTS := kTS_i 643 (by decide +kernel) (by decide +kernel)
theorem lX4_261 : Cond.methodLink RX4 261 yX4_tellFroward ∈ kTS := kTS_i 647 (by decide +kernel) (by decide +kernel)
theorem lL_154 : Cond.methodLink RL 154 yX4_knock ∈ kTS := kTS_i 651 (by decide +kernel) (by decide +kernel)
theorem lL_158 : Cond.methodLink RL 158 yX4_as ∈ kTS := kTS_i 655 (by decide +kernel) (by decide +kernel)
theorem lL_162 : Cond.methodLink RL 162 yX4_trace ∈ kTS := kTS_i 659 (by decide +kernel) (by decide +kernel)
theorem lL_166 : Cond.methodLink RL 166 yX4_fault ∈ kTS := kTS_i 663 (by decide +kernel) (by decide +kernel)
theorem lL_170 : Cond.methodLink RL 170 yX4_many ∈ kTS := kTS_i 667 (by decide +kernel) (by decide +kernel)
theorem lL_10 : Cond.classLink RL 10 RX5 ∈ kTS := kTS_i 671 (by decide +kernel) (by decide +kernel)
theorem nX5 : Cond.instantiable RX5 36 ∈ kTS := kTS_i 672 (by decide +kernel) (by decide +kernel)
theorem lL_12 : Cond.methodLink RL 12 yX5_init ∈ kTS := kTS_i 673 (by decide +kernel) (by decide +kernel)
theorem lX5_1 : Cond.methodLink RX5 1 objectInit ∈ kTS := kTS_i 676 (by decide +kernel) (by decide +kernel)
theorem fX5_83 : kFE RX5 83 5 0 := ⟨by decide, by decide, kTS_i 677 (by decide +kernel) (by decide +kernel)⟩
theorem fX5_247 : kFE RX5 247 5 1 := ⟨by decide, by decide, kTS_i 678 (by decide +kernel) (by decide +kernel)⟩
theorem fX5_9 : kFE RX5 9 5 2 := ⟨by decide, by decide, kTS_i 679 (by decide +kernel) (by decide +kernel)⟩
theorem fX5_13 : kFE RX5 13 5 3 := ⟨by decide, by decide, kTS_i 680 (by decide +kernel) (by decide +kernel)⟩
theorem fX5_16 : kFE RX5 16 5 4 := ⟨by decide, by decide, kTS_i 681 (by decide +kernel) (by decide +kernel)⟩
theorem fX5_123 : kFE RX5 123 5 5 := ⟨by decide, by decide, kTS_i 682 (by decide +kernel) (by decide +kernel)⟩
theorem fX5_93 : kFE RX5 93 5 6 := ⟨by decide, by decide, kTS_i 683 (by decide +kernel) (by decide +kernel)⟩
theorem fX5_96 : kFE RX5 96 5 7 := ⟨by decide, by decide, kTS_i 684 (by decide +kernel) (by decide +kernel)⟩
theorem fX5_19 : kFE RX5 19 5 8 := ⟨by decide, by decide, kTS_i 685 (by decide +kernel) (by decide +kernel)⟩
theorem fX5_22 : kFE RX5 22 5 9 := ⟨by decide, by decide, kTS_i 686 (by decide +kernel) (by decide +kernel)⟩
theorem fX5_25 : kFE RX5 25 5 10 := ⟨by decide, by decide, kTS_i 687 (by decide +kernel) (by decide +kernel)⟩
theorem fX5_28 : kFE RX5 28 5 11 := ⟨by decide, by decide, kTS_i 688 (by decide +kernel) (by decide +kernel)⟩
theorem fX5_31 : kFE RX5 31 5 12 := ⟨by decide, by decide, kTS_i 689 (by decide +kernel) (by decide +kernel)⟩
theorem fX5_34 : kFE RX5 34 5 13 := ⟨by decide, by decide, kTS_i 690 (by decide +kernel) (by decide +kernel)⟩
theorem fX5_37 : kFE RX5 37 5 14 := ⟨by decide, by decide, kTS_i 691 (by decide +kernel) (by decide +kernel)⟩
theorem fX5_40 : kFE RX5 40 5 15 := ⟨by decide, by decide, kTS_i 692 (by decide +kernel) (by decide +kernel)⟩
theorem fX5_99 : kFE RX5 99 5 16 := ⟨by decide, by decide, kTS_i 693 (by decide +kernel) (by decide +kernel)⟩
theorem fX5_120 : kFE RX5 120 5 17 := ⟨by decide, by decide, kTS_i 694 (by decide +kernel) (by decide +kernel)⟩
theorem fX5_126 : kFE RX5 126 5 18 := ⟨by decide, by decide, kTS_i 695 (by decide +kernel) (by decide +kernel)⟩
theorem fX5_129 : kFE RX5 129 5 19 := ⟨by decide, by decide, kTS_i 696 (by decide +kernel) (by decide +kernel)⟩
theorem fX5_44 : kFE RX5 44 5 20 := ⟨by decide, by decide, kTS_i 697 (by decide +kernel) (by decide +kernel)⟩
theorem fX5_47 : kFE RX5 47 5 21 := ⟨by decide, by decide, kTS_i 698 (by decide +kernel) (by decide +kernel)⟩
theorem fX5_132 : kFE RX5 132 5 22 := ⟨by decide, by decide, kTS_i 699 (by decide +kernel) (by decide +kernel)⟩
theorem fX5_50 : kFE RX5 50 5 23 := ⟨by decide, by decide, kTS_i 700 (by decide +kernel) (by decide +kernel)⟩
theorem fX5_53 : kFE RX5 53 5 24 := ⟨by decide, by decide, kTS_i 701 (by decide +kernel) (by decide +kernel)⟩
theorem fX5_56 : kFE RX5 56 5 25 := ⟨by decide, by decide, kTS_i 702 (by decide +kernel) (by decide +kernel)⟩
theorem fX5_59 : kFE RX5 59 5 26 := ⟨by decide, by decide, kTS_i 703 (by decide +kernel) (by decide +kernel)⟩
theorem fX5_62 : kFE RX5 62 5 27 := ⟨by decide, by decide, kTS_i 704 (by decide +kernel) (by decide +kernel)⟩
theorem fX5_65 : kFE RX5 65 5 28 := ⟨by decide, by decide, kTS_i 705 (by decide +kernel) (by decide +kernel)⟩
theorem fX5_68 : kFE RX5 68 5 29 := ⟨by decide, by decide, kTS_i 706 (by decide +kernel) (by decide +kernel)⟩
theorem fX5_174 : kFE RX5 174 5 30 := ⟨by decide, by decide, kTS_i 707 (by decide +kernel) (by decide +kernel)⟩
theorem fX5_135 : kFE RX5 135 5 31 := ⟨by decide, by decide, kTS_i 708 (by decide +kernel) (by decide +kernel)⟩
theorem fX5_71 : kFE RX5 71 5 32 := ⟨by decide, by decide, kTS_i 709 (by decide +kernel) (by decide +kernel)⟩
theorem fX5_74 : kFE RX5 74 5 33 := ⟨by decide, by decide, kTS_i 710 (by decide +kernel) (by decide +kernel)⟩
theorem fX5_77 : kFE RX5 77 5 34 := ⟨by decide, by decide, kTS_i 711 (by decide +kernel) (by decide +kernel)⟩
theorem fX5_80 : kFE RX5 80 5 35 := ⟨by decide, by decide, kTS_i 712 (by decide +kernel) (by decide +kernel)⟩
theorem lL_17 : Cond.methodLink RL 17 yX5_houses ∈ kTS := kTS_i 787 (by decide +kernel) (by decide +kernel)
theorem lX5_102 : Cond.methodLink RX5 102 yX5_isSheet ∈ kTS := kTS_i 791 (by decide +kernel) (by decide +kernel)
theorem lX5_89 : Cond.methodLink RX5 89 yX5_within ∈ kTS := kTS_i 794 (by decide +kernel) (by decide +kernel)
theorem lX5_106 : Cond.methodLink RX5 106 yX5_isSort ∈ kTS := kTS_i 797 (by decide +kernel) (by decide +kernel)
theorem lX5_109 : Cond.methodLink RX5 109 yX5_against ∈ kTS := kTS_i 800 (by decide +kernel) (by decide +kernel)
theorem lX5_113 : Cond.methodLink RX5 113 yX5_fails ∈ kTS := kTS_i 804 (by decide +kernel) (by decide +kernel)
theorem lX5_117 : Cond.methodLink RX5 117 yX5_readAll ∈ kTS := kTS_i 808 (by decide +kernel) (by decide +kernel)
theorem lX5_138 : Cond.methodLink RX5 138 yX5_isSign ∈ kTS := kTS_i 812 (by decide +kernel) (by decide +kernel)
theorem lX5_142 : Cond.methodLink RX5 142 yX5_readTheSeam ∈ kTS := kTS_i 816 (by decide +kernel) (by decide +kernel)
theorem lX5_151 : Cond.methodLink RX5 151 yX5_digit ∈ kTS := kTS_i 820 (by decide +kernel) (by decide +kernel)
theorem lX5_145 : Cond.methodLink RX5 145 yX5_readOneHouse ∈ kTS := kTS_i 824 (by decide +kernel) (by decide +kernel)
theorem lX5_148 : Cond.methodLink RX5 148 yX5_readPerson ∈ kTS := kTS_i 828 (by decide +kernel) (by decide +kernel)
theorem lL_22 : Cond.methodLink RL 22 yX5_ofHouse ∈ kTS := kTS_i 832 (by decide +kernel) (by decide +kernel)
theorem lX5_155 : Cond.methodLink RX5 155 yX5_isHouse ∈ kTS := kTS_i 836 (by decide +kernel) (by decide +kernel)
theorem lL_26 : Cond.methodLink RL 26 yX5_ofPerson ∈ kTS := kTS_i 840 (by decide +kernel) (by decide +kernel)
theorem lX5_158 : Cond.methodLink RX5 158 yX5_isPerson ∈ kTS := kTS_i 844 (by decide +kernel) (by decide +kernel)
theorem lX5_161 : Cond.methodLink RX5 161 yX5_wants ∈ kTS := kTS_i 848 (by decide +kernel) (by decide +kernel)
theorem lL_31 : Cond.methodLink RL 31 yX5_seam ∈ kTS := kTS_i 852 (by decide +kernel) (by decide +kernel)
theorem lL_36 : Cond.methodLink RL 36 yX5_away ∈ kTS := kTS_i 856 (by decide +kernel) (by decide +kernel)
theorem lL_41 : Cond.methodLink RL 41 yX5_gift ∈ kTS := kTS_i 860 (by decide +kernel) (by decide +kernel)
theorem lX5_164 : Cond.methodLink RX5 164 yX5_isWeek ∈ kTS := kTS_i 864 (by decide +kernel) (by decide +kernel)
theorem lX5_167 : Cond.methodLink RX5 167 yX5_layGift ∈ kTS := kTS_i 867 (by decide +kernel) (by decide +kernel)
theorem lL_45 : Cond.methodLink RL 45 yX5_undo ∈ kTS := kTS_i 871 (by decide +kernel) (by decide +kernel)
theorem lL_49 : Cond.methodLink RL 49 yX5_wood ∈ kTS := kTS_i 875 (by decide +kernel) (by decide +kernel)
theorem lX5_197 : Cond.methodLink RX5 197 yX5_isHalf ∈ kTS := kTS_i 879 (by decide +kernel) (by decide +kernel)
theorem lX5_194 : Cond.methodLink RX5 194 yX5_goTo ∈ kTS := kTS_i 882 (by decide +kernel) (by decide +kernel)
theorem lX5_187 : Cond.methodLink RX5 187 yX5_beginWeek ∈ kTS := kTS_i 886 (by decide +kernel) (by decide +kernel)
theorem lX5_190 : Cond.methodLink RX5 190 yX5_goHalf ∈ kTS := kTS_i 890 (by decide +kernel) (by decide +kernel)
theorem lX5_177 : Cond.methodLink RX5 177 yX5_townIn ∈ kTS := kTS_i 894 (by decide +kernel) (by decide +kernel)
theorem lX5_180 : Cond.methodLink RX5 180 yX5_turn ∈ kTS := kTS_i 898 (by decide +kernel) (by decide +kernel)
theorem lX5_171 : Cond.methodLink RX5 171 yX5_isBroken ∈ kTS := kTS_i 902 (by decide +kernel) (by decide +kernel)
theorem lX5_184 : Cond.methodLink RX5 184 yX5_mend ∈ kTS := kTS_i 906 (by decide +kernel) (by decide +kernel)
theorem lL_53 : Cond.methodLink RL 53 yX5_wear ∈ kTS := kTS_i 910 (by decide +kernel) (by decide +kernel)
theorem lL_57 : Cond.methodLink RL 57 yX5_cold ∈ kTS := kTS_i 914 (by decide +kernel) (by decide +kernel)
theorem lL_61 : Cond.methodLink RL 61 yX5_chills ∈ kTS := kTS_i 918 (by decide +kernel) (by decide +kernel)
theorem lX5_200 : Cond.methodLink RX5 200 yX5_goWeeks ∈ kTS := kTS_i 922 (by decide +kernel) (by decide +kernel)
theorem lL_66 : Cond.methodLink RL 66 yX5_all ∈ kTS := kTS_i 926 (by decide +kernel) (by decide +kernel)
theorem lX5_207 : Cond.methodLink RX5 207 yX5_allNow ∈ kTS := kTS_i 930 (by decide +kernel) (by decide +kernel)
theorem lX5_203 : Cond.methodLink RX5 203 yX5_allChills ∈ kTS := kTS_i 934 (by decide +kernel) (by decide +kernel)
theorem lL_70 : Cond.methodLink RL 70 yX5_breaks ∈ kTS := kTS_i 938 (by decide +kernel) (by decide +kernel)
theorem lL_74 : Cond.methodLink RL 74 yX5_best ∈ kTS := kTS_i 942 (by decide +kernel) (by decide +kernel)
theorem lL_78 : Cond.methodLink RL 78 yX5_blame ∈ kTS := kTS_i 946 (by decide +kernel) (by decide +kernel)
theorem lL_82 : Cond.methodLink RL 82 yX5_warm ∈ kTS := kTS_i 950 (by decide +kernel) (by decide +kernel)
theorem lX5_210 : Cond.methodLink RX5 210 yX5_awayNow ∈ kTS := kTS_i 954 (by decide +kernel) (by decide +kernel)
theorem lX5_213 : Cond.methodLink RX5 213 yX5_size ∈ kTS := kTS_i 958 (by decide +kernel) (by decide +kernel)
theorem lX5_216 : Cond.methodLink RX5 216 yX5_layAway ∈ kTS := kTS_i 961 (by decide +kernel) (by decide +kernel)
theorem lL_86 : Cond.methodLink RL 86 yX5_logs ∈ kTS := kTS_i 965 (by decide +kernel) (by decide +kernel)
theorem lX5_219 : Cond.methodLink RX5 219 yX5_isWarmIn ∈ kTS := kTS_i 969 (by decide +kernel) (by decide +kernel)
theorem lL_91 : Cond.methodLink RL 91 yX5_pays ∈ kTS := kTS_i 973 (by decide +kernel) (by decide +kernel)
theorem kX5_87 : Cond.constantLong RX5 87 (-9223372036854775808) ∈ kTS := kTS_i 977 (by decide +kernel) (by decide +kernel)
theorem lX5_225 : Cond.methodLink RX5 225 yX5_lessWear ∈ kTS := kTS_i 978 (by decide +kernel) (by decide +kernel)
theorem lX5_222 : Cond.methodLink RX5 222 yX5_allWear ∈ kTS := kTS_i 982 (by decide +kernel) (by decide +kernel)
theorem lX5_229 : Cond.methodLink RX5 229 yX5_inLeastTerms ∈ kTS := kTS_i 986 (by decide +kernel) (by decide +kernel)
theorem lL_95 : Cond.methodLink RL 95 yX5_together ∈ kTS := kTS_i 989 (by decide +kernel) (by decide +kernel)
theorem lX5_236 : Cond.methodLink RX5 236 yX5_halvesOf ∈ kTS := kTS_i 993 (by decide +kernel) (by decide +kernel)
theorem lX5_233 : Cond.methodLink RX5 233 yX5_timeOf ∈ kTS := kTS_i 997 (by decide +kernel) (by decide +kernel)
theorem lL_99 : Cond.methodLink RL 99 yX5_third ∈ kTS := kTS_i 1001 (by decide +kernel) (by decide +kernel)
theorem lL_103 : Cond.methodLink RL 103 yX5_row ∈ kTS := kTS_i 1005 (by decide +kernel) (by decide +kernel)
theorem lL_107 : Cond.methodLink RL 107 yX5_reading ∈ kTS := kTS_i 1009 (by decide +kernel) (by decide +kernel)
theorem lL_111 : Cond.methodLink RL 111 yX5_back ∈ kTS := kTS_i 1013 (by decide +kernel) (by decide +kernel)
theorem lL_115 : Cond.methodLink RL 115 yX5_gone ∈ kTS := kTS_i 1017 (by decide +kernel) (by decide +kernel)
theorem lX5_239 : Cond.methodLink RX5 239 yX5_areSo ∈ kTS := kTS_i 1021 (by decide +kernel) (by decide +kernel)
theorem lL_119 : Cond.methodLink RL 119 yX5_seams ∈ kTS := kTS_i 1025 (by decide +kernel) (by decide +kernel)
theorem lL_123 : Cond.methodLink RL 123 yX5_kinds ∈ kTS := kTS_i 1029 (by decide +kernel) (by decide +kernel)
theorem lL_128 : Cond.methodLink RL 128 yX5_odds ∈ kTS := kTS_i 1033 (by decide +kernel) (by decide +kernel)
theorem lL_132 : Cond.methodLink RL 132 yX5_sheet ∈ kTS := kTS_i 1037 (by decide +kernel) (by decide +kernel)
theorem lL_136 : Cond.methodLink RL 136 yX5_lose ∈ kTS := kTS_i 1041 (by decide +kernel) (by decide +kernel)
theorem lL_140 : Cond.methodLink RL 140 yX5_put ∈ kTS := kTS_i 1045 (by decide +kernel) (by decide +kernel)
theorem lL_144 : Cond.methodLink RL 144 yX5_cell ∈ kTS := kTS_i 1049 (by decide +kernel) (by decide +kernel)
theorem lX5_243 : Cond.methodLink RX5 243 yX5_lost ∈ kTS := kTS_i 1053 (by decide +kernel) (by decide +kernel)
theorem lL_149 : Cond.methodLink RL 149 yX5_copy ∈ kTS := kTS_i 1057 (by decide +kernel) (by decide +kernel)
theorem lL_153 : Cond.methodLink RL 153 yX5_tell ∈ kTS := kTS_i 1061 (by decide +kernel) (by decide +kernel)
theorem lX5_250 : Cond.methodLink RX5 250 yX5_begins ∈ kTS := kTS_i 1065 (by decide +kernel) (by decide +kernel)
theorem lL_157 : Cond.methodLink RL 157 yX5_knock ∈ kTS := kTS_i 1069 (by decide +kernel) (by decide +kernel)
theorem lL_161 : Cond.methodLink RL 161 yX5_as ∈ kTS := kTS_i 1073 (by decide +kernel) (by decide +kernel)
theorem lL_165 : Cond.methodLink RL 165 yX5_trace ∈ kTS := kTS_i 1077 (by decide +kernel) (by decide +kernel)
theorem lL_169 : Cond.methodLink RL 169 yX5_fault ∈ kTS := kTS_i 1081 (by decide +kernel) (by decide +kernel)
theorem lL_173 : Cond.methodLink RL 173 yX5_many ∈ kTS := kTS_i 1085 (by decide +kernel) (by decide +kernel)
end
section
theorem dX0_init_0 : decode cX0_init 0 = .ok (.aload_n 0, 1) := by decide +kernel
theorem dX0_init_1 : decode cX0_init 1 = .ok (.invokespecial 3, 3) := by decide +kernel
theorem dX0_init_4 : decode cX0_init 4 = .ok (.aload_n 0, 1) := by decide +kernel
theorem dX0_init_5 : decode cX0_init 5 = .ok (.iconst 0, 1) := by decide +kernel
theorem dX0_init_6 : decode cX0_init 6 = .ok (.putfield 9, 3) := by decide +kernel
theorem dX0_init_9 : decode cX0_init 9 = .ok (.aload_n 0, 1) := by decide +kernel
theorem dX0_init_10 : decode cX0_init 10 = .ok (.iconst 0, 1) := by decide +kernel
theorem dX0_init_11 : decode cX0_init 11 = .ok (.iload_n 1, 1) := by decide +kernel
theorem dX0_init_12 : decode cX0_init 12 = .ok (.invokestatic 15, 3) := by decide +kernel
theorem dX0_init_15 : decode cX0_init 15 = .ok (.putfield 21, 3) := by decide +kernel
theorem dX0_init_18 : decode cX0_init 18 = .ok (.aload_n 0, 1) := by decide +kernel
theorem dX0_init_19 : decode cX0_init 19 = .ok (.aload_n 0, 1) := by decide +kernel
theorem dX0_init_20 : decode cX0_init 20 = .ok (.getfield 21, 3) := by decide +kernel
theorem dX0_init_23 : decode cX0_init 23 = .ok (.newarray .int, 2) := by decide +kernel
theorem dX0_init_25 : decode cX0_init 25 = .ok (.putfield 24, 3) := by decide +kernel
theorem dX0_init_28 : decode cX0_init 28 = .ok (.aload_n 0, 1) := by decide +kernel
theorem dX0_init_29 : decode cX0_init 29 = .ok (.aload_n 0, 1) := by decide +kernel
theorem dX0_init_30 : decode cX0_init 30 = .ok (.getfield 21, 3) := by decide +kernel
theorem dX0_init_33 : decode cX0_init 33 = .ok (.newarray .int, 2) := by decide +kernel
theorem dX0_init_35 : decode cX0_init 35 = .ok (.putfield 28, 3) := by decide +kernel
theorem dX0_init_38 : decode cX0_init 38 = .ok (.aload_n 0, 1) := by decide +kernel
theorem dX0_init_39 : decode cX0_init 39 = .ok (.aload_n 0, 1) := by decide +kernel
theorem dX0_init_40 : decode cX0_init 40 = .ok (.getfield 21, 3) := by decide +kernel
theorem dX0_init_43 : decode cX0_init 43 = .ok (.newarray .int, 2) := by decide +kernel
theorem dX0_init_45 : decode cX0_init 45 = .ok (.putfield 31, 3) := by decide +kernel
theorem dX0_init_48 : decode cX0_init 48 = .ok (.return_, 1) := by decide +kernel
theorem dX0_keep_0 : decode cX0_keep 0 = .ok (.aload_n 0, 1) := by decide +kernel
theorem dX0_keep_1 : decode cX0_keep 1 = .ok (.getfield 9, 3) := by decide +kernel
theorem dX0_keep_4 : decode cX0_keep 4 = .ok (.aload_n 0, 1) := by decide +kernel
theorem dX0_keep_5 : decode cX0_keep 5 = .ok (.getfield 21, 3) := by decide +kernel
theorem dX0_keep_8 : decode cX0_keep 8 = .ok (.if_icmp .lt 6, 3) := by decide +kernel
theorem dX0_keep_11 : decode cX0_keep 11 = .ok (.bipush (-4), 2) := by decide +kernel
theorem dX0_keep_13 : decode cX0_keep 13 = .ok (.ireturn, 1) := by decide +kernel
theorem dX0_keep_14 : decode cX0_keep 14 = .ok (.aload_n 0, 1) := by decide +kernel
theorem dX0_keep_15 : decode cX0_keep 15 = .ok (.getfield 24, 3) := by decide +kernel
theorem dX0_keep_18 : decode cX0_keep 18 = .ok (.aload_n 0, 1) := by decide +kernel
theorem dX0_keep_19 : decode cX0_keep 19 = .ok (.getfield 9, 3) := by decide +kernel
theorem dX0_keep_22 : decode cX0_keep 22 = .ok (.iload_n 1, 1) := by decide +kernel
theorem dX0_keep_23 : decode cX0_keep 23 = .ok (.iastore, 1) := by decide +kernel
theorem dX0_keep_24 : decode cX0_keep 24 = .ok (.aload_n 0, 1) := by decide +kernel
theorem dX0_keep_25 : decode cX0_keep 25 = .ok (.getfield 28, 3) := by decide +kernel
theorem dX0_keep_28 : decode cX0_keep 28 = .ok (.aload_n 0, 1) := by decide +kernel
theorem dX0_keep_29 : decode cX0_keep 29 = .ok (.getfield 9, 3) := by decide +kernel
theorem dX0_keep_32 : decode cX0_keep 32 = .ok (.iload_n 2, 1) := by decide +kernel
theorem dX0_keep_33 : decode cX0_keep 33 = .ok (.iastore, 1) := by decide +kernel
theorem dX0_keep_34 : decode cX0_keep 34 = .ok (.aload_n 0, 1) := by decide +kernel
theorem dX0_keep_35 : decode cX0_keep 35 = .ok (.getfield 31, 3) := by decide +kernel
theorem dX0_keep_38 : decode cX0_keep 38 = .ok (.aload_n 0, 1) := by decide +kernel
theorem dX0_keep_39 : decode cX0_keep 39 = .ok (.getfield 9, 3) := by decide +kernel
theorem dX0_keep_42 : decode cX0_keep 42 = .ok (.iload_n 3, 1) := by decide +kernel
theorem dX0_keep_43 : decode cX0_keep 43 = .ok (.iastore, 1) := by decide +kernel
theorem dX0_keep_44 : decode cX0_keep 44 = .ok (.aload_n 0, 1) := by decide +kernel
theorem dX0_keep_45 : decode cX0_keep 45 = .ok (.dup, 1) := by decide +kernel
theorem dX0_keep_46 : decode cX0_keep 46 = .ok (.getfield 9, 3) := by decide +kernel
theorem dX0_keep_49 : decode cX0_keep 49 = .ok (.dup_x1, 1) := by decide +kernel
theorem dX0_keep_50 : decode cX0_keep 50 = .ok (.iconst 1, 1) := by decide +kernel
theorem dX0_keep_51 : decode cX0_keep 51 = .ok (.iadd, 1) := by decide +kernel
theorem dX0_keep_52 : decode cX0_keep 52 = .ok (.putfield 9, 3) := by decide +kernel
theorem dX0_keep_55 : decode cX0_keep 55 = .ok (.ireturn, 1) := by decide +kernel
theorem dX0_takeBack_0 : decode cX0_takeBack 0 = .ok (.iload_n 1, 1) := by decide +kernel
theorem dX0_takeBack_1 : decode cX0_takeBack 1 = .ok (.ifCond .lt 11, 3) := by decide +kernel
theorem dX0_takeBack_4 : decode cX0_takeBack 4 = .ok (.iload_n 1, 1) := by decide +kernel
theorem dX0_takeBack_5 : decode cX0_takeBack 5 = .ok (.aload_n 0, 1) := by decide +kernel
theorem dX0_takeBack_6 : decode cX0_takeBack 6 = .ok (.getfield 9, 3) := by decide +kernel
theorem dX0_takeBack_9 : decode cX0_takeBack 9 = .ok (.if_icmp .le 6, 3) := by decide +kernel
theorem dX0_takeBack_12 : decode cX0_takeBack 12 = .ok (.bipush (-2), 2) := by decide +kernel
theorem dX0_takeBack_14 : decode cX0_takeBack 14 = .ok (.ireturn, 1) := by decide +kernel
theorem dX0_takeBack_15 : decode cX0_takeBack 15 = .ok (.aload_n 0, 1) := by decide +kernel
theorem dX0_takeBack_16 : decode cX0_takeBack 16 = .ok (.dup, 1) := by decide +kernel
theorem dX0_takeBack_17 : decode cX0_takeBack 17 = .ok (.getfield 9, 3) := by decide +kernel
theorem dX0_takeBack_20 : decode cX0_takeBack 20 = .ok (.iload_n 1, 1) := by decide +kernel
theorem dX0_takeBack_21 : decode cX0_takeBack 21 = .ok (.isub, 1) := by decide +kernel
theorem dX0_takeBack_22 : decode cX0_takeBack 22 = .ok (.putfield 9, 3) := by decide +kernel
theorem dX0_takeBack_25 : decode cX0_takeBack 25 = .ok (.aload_n 0, 1) := by decide +kernel
theorem dX0_takeBack_26 : decode cX0_takeBack 26 = .ok (.getfield 9, 3) := by decide +kernel
theorem dX0_takeBack_29 : decode cX0_takeBack 29 = .ok (.ireturn, 1) := by decide +kernel
theorem dX0_sumOf_0 : decode cX0_sumOf 0 = .ok (.iconst 0, 1) := by decide +kernel
theorem dX0_sumOf_1 : decode cX0_sumOf 1 = .ok (.istore_n 3, 1) := by decide +kernel
theorem dX0_sumOf_2 : decode cX0_sumOf 2 = .ok (.iconst 0, 1) := by decide +kernel
theorem dX0_sumOf_3 : decode cX0_sumOf 3 = .ok (.istore 4, 2) := by decide +kernel
theorem dX0_sumOf_5 : decode cX0_sumOf 5 = .ok (.iload 4, 2) := by decide +kernel
theorem dX0_sumOf_7 : decode cX0_sumOf 7 = .ok (.aload_n 0, 1) := by decide +kernel
theorem dX0_sumOf_8 : decode cX0_sumOf 8 = .ok (.getfield 9, 3) := by decide +kernel
theorem dX0_sumOf_11 : decode cX0_sumOf 11 = .ok (.if_icmp .ge 45, 3) := by decide +kernel
theorem dX0_sumOf_14 : decode cX0_sumOf 14 = .ok (.iload_n 3, 1) := by decide +kernel
theorem dX0_sumOf_15 : decode cX0_sumOf 15 = .ok (.aload_n 0, 1) := by decide +kernel
theorem dX0_sumOf_16 : decode cX0_sumOf 16 = .ok (.getfield 24, 3) := by decide +kernel
theorem dX0_sumOf_19 : decode cX0_sumOf 19 = .ok (.iload 4, 2) := by decide +kernel
theorem dX0_sumOf_21 : decode cX0_sumOf 21 = .ok (.iaload, 1) := by decide +kernel
theorem dX0_sumOf_22 : decode cX0_sumOf 22 = .ok (.iload_n 1, 1) := by decide +kernel
theorem dX0_sumOf_23 : decode cX0_sumOf 23 = .ok (.if_icmp .ne 24, 3) := by decide +kernel
theorem dX0_sumOf_26 : decode cX0_sumOf 26 = .ok (.aload_n 0, 1) := by decide +kernel
theorem dX0_sumOf_27 : decode cX0_sumOf 27 = .ok (.getfield 28, 3) := by decide +kernel
theorem dX0_sumOf_30 : decode cX0_sumOf 30 = .ok (.iload 4, 2) := by decide +kernel
theorem dX0_sumOf_32 : decode cX0_sumOf 32 = .ok (.iaload, 1) := by decide +kernel
theorem dX0_sumOf_33 : decode cX0_sumOf 33 = .ok (.iload_n 2, 1) := by decide +kernel
theorem dX0_sumOf_34 : decode cX0_sumOf 34 = .ok (.if_icmp .ne 13, 3) := by decide +kernel
theorem dX0_sumOf_37 : decode cX0_sumOf 37 = .ok (.aload_n 0, 1) := by decide +kernel
theorem dX0_sumOf_38 : decode cX0_sumOf 38 = .ok (.getfield 31, 3) := by decide +kernel
theorem dX0_sumOf_41 : decode cX0_sumOf 41 = .ok (.iload 4, 2) := by decide +kernel
theorem dX0_sumOf_43 : decode cX0_sumOf 43 = .ok (.iaload, 1) := by decide +kernel
theorem dX0_sumOf_44 : decode cX0_sumOf 44 = .ok (.goto 4, 3) := by decide +kernel
theorem dX0_sumOf_47 : decode cX0_sumOf 47 = .ok (.iconst 0, 1) := by decide +kernel
theorem dX0_sumOf_48 : decode cX0_sumOf 48 = .ok (.iadd, 1) := by decide +kernel
theorem dX0_sumOf_49 : decode cX0_sumOf 49 = .ok (.istore_n 3, 1) := by decide +kernel
theorem dX0_sumOf_50 : decode cX0_sumOf 50 = .ok (.iinc 4 1, 3) := by decide +kernel
theorem dX0_sumOf_53 : decode cX0_sumOf 53 = .ok (.goto (-48), 3) := by decide +kernel
theorem dX0_sumOf_56 : decode cX0_sumOf 56 = .ok (.iload_n 3, 1) := by decide +kernel
theorem dX0_sumOf_57 : decode cX0_sumOf 57 = .ok (.ireturn, 1) := by decide +kernel
theorem dX0_areWearOf_0 : decode cX0_areWearOf 0 = .ok (.iconst 0, 1) := by decide +kernel
theorem dX0_areWearOf_1 : decode cX0_areWearOf 1 = .ok (.istore_n 2, 1) := by decide +kernel
theorem dX0_areWearOf_2 : decode cX0_areWearOf 2 = .ok (.iload_n 2, 1) := by decide +kernel
theorem dX0_areWearOf_3 : decode cX0_areWearOf 3 = .ok (.aload_n 0, 1) := by decide +kernel
theorem dX0_areWearOf_4 : decode cX0_areWearOf 4 = .ok (.getfield 9, 3) := by decide +kernel
theorem dX0_areWearOf_7 : decode cX0_areWearOf 7 = .ok (.if_icmp .ge 36, 3) := by decide +kernel
theorem dX0_areWearOf_10 : decode cX0_areWearOf 10 = .ok (.aload_n 1, 1) := by decide +kernel
theorem dX0_areWearOf_11 : decode cX0_areWearOf 11 = .ok (.aload_n 0, 1) := by decide +kernel
theorem dX0_areWearOf_12 : decode cX0_areWearOf 12 = .ok (.getfield 24, 3) := by decide +kernel
theorem dX0_areWearOf_15 : decode cX0_areWearOf 15 = .ok (.iload_n 2, 1) := by decide +kernel
theorem dX0_areWearOf_16 : decode cX0_areWearOf 16 = .ok (.iaload, 1) := by decide +kernel
theorem dX0_areWearOf_17 : decode cX0_areWearOf 17 = .ok (.aload_n 0, 1) := by decide +kernel
theorem dX0_areWearOf_18 : decode cX0_areWearOf 18 = .ok (.getfield 28, 3) := by decide +kernel
theorem dX0_areWearOf_21 : decode cX0_areWearOf 21 = .ok (.iload_n 2, 1) := by decide +kernel
theorem dX0_areWearOf_22 : decode cX0_areWearOf 22 = .ok (.iaload, 1) := by decide +kernel
theorem dX0_areWearOf_23 : decode cX0_areWearOf 23 = .ok (.invokevirtual 34, 3) := by decide +kernel
theorem dX0_areWearOf_26 : decode cX0_areWearOf 26 = .ok (.aload_n 0, 1) := by decide +kernel
theorem dX0_areWearOf_27 : decode cX0_areWearOf 27 = .ok (.getfield 31, 3) := by decide +kernel
theorem dX0_areWearOf_30 : decode cX0_areWearOf 30 = .ok (.iload_n 2, 1) := by decide +kernel
theorem dX0_areWearOf_31 : decode cX0_areWearOf 31 = .ok (.iaload, 1) := by decide +kernel
theorem dX0_areWearOf_32 : decode cX0_areWearOf 32 = .ok (.if_icmp .eq 5, 3) := by decide +kernel
theorem dX0_areWearOf_35 : decode cX0_areWearOf 35 = .ok (.iconst 0, 1) := by decide +kernel
theorem dX0_areWearOf_36 : decode cX0_areWearOf 36 = .ok (.ireturn, 1) := by decide +kernel
theorem dX0_areWearOf_37 : decode cX0_areWearOf 37 = .ok (.iinc 2 1, 3) := by decide +kernel
theorem dX0_areWearOf_40 : decode cX0_areWearOf 40 = .ok (.goto (-38), 3) := by decide +kernel
theorem dX0_areWearOf_43 : decode cX0_areWearOf 43 = .ok (.iconst 1, 1) := by decide +kernel
theorem dX0_areWearOf_44 : decode cX0_areWearOf 44 = .ok (.ireturn, 1) := by decide +kernel
theorem dJ6_bitCount_0f7a4_0 : decode cJ6_bitCount_0f7a4 0 = .ok (.iload_n 0, 1) := by decide +kernel
theorem dJ6_bitCount_0f7a4_1 : decode cJ6_bitCount_0f7a4 1 = .ok (.iload_n 0, 1) := by decide +kernel
theorem dJ6_bitCount_0f7a4_2 : decode cJ6_bitCount_0f7a4 2 = .ok (.iconst 1, 1) := by decide +kernel
theorem dJ6_bitCount_0f7a4_3 : decode cJ6_bitCount_0f7a4 3 = .ok (.iushr, 1) := by decide +kernel
theorem dJ6_bitCount_0f7a4_4 : decode cJ6_bitCount_0f7a4 4 = .ok (.ldc_w 265, 3) := by decide +kernel
theorem dJ6_bitCount_0f7a4_7 : decode cJ6_bitCount_0f7a4 7 = .ok (.iand, 1) := by decide +kernel
theorem dJ6_bitCount_0f7a4_8 : decode cJ6_bitCount_0f7a4 8 = .ok (.isub, 1) := by decide +kernel
theorem dJ6_bitCount_0f7a4_9 : decode cJ6_bitCount_0f7a4 9 = .ok (.istore_n 0, 1) := by decide +kernel
theorem dJ6_bitCount_0f7a4_10 : decode cJ6_bitCount_0f7a4 10 = .ok (.iload_n 0, 1) := by decide +kernel
theorem dJ6_bitCount_0f7a4_11 : decode cJ6_bitCount_0f7a4 11 = .ok (.ldc_w 266, 3) := by decide +kernel
theorem dJ6_bitCount_0f7a4_14 : decode cJ6_bitCount_0f7a4 14 = .ok (.iand, 1) := by decide +kernel
theorem dJ6_bitCount_0f7a4_15 : decode cJ6_bitCount_0f7a4 15 = .ok (.iload_n 0, 1) := by decide +kernel
theorem dJ6_bitCount_0f7a4_16 : decode cJ6_bitCount_0f7a4 16 = .ok (.iconst 2, 1) := by decide +kernel
theorem dJ6_bitCount_0f7a4_17 : decode cJ6_bitCount_0f7a4 17 = .ok (.iushr, 1) := by decide +kernel
theorem dJ6_bitCount_0f7a4_18 : decode cJ6_bitCount_0f7a4 18 = .ok (.ldc_w 266, 3) := by decide +kernel
theorem dJ6_bitCount_0f7a4_21 : decode cJ6_bitCount_0f7a4 21 = .ok (.iand, 1) := by decide +kernel
theorem dJ6_bitCount_0f7a4_22 : decode cJ6_bitCount_0f7a4 22 = .ok (.iadd, 1) := by decide +kernel
theorem dJ6_bitCount_0f7a4_23 : decode cJ6_bitCount_0f7a4 23 = .ok (.istore_n 0, 1) := by decide +kernel
theorem dJ6_bitCount_0f7a4_24 : decode cJ6_bitCount_0f7a4 24 = .ok (.iload_n 0, 1) := by decide +kernel
theorem dJ6_bitCount_0f7a4_25 : decode cJ6_bitCount_0f7a4 25 = .ok (.iload_n 0, 1) := by decide +kernel
theorem dJ6_bitCount_0f7a4_26 : decode cJ6_bitCount_0f7a4 26 = .ok (.iconst 4, 1) := by decide +kernel
theorem dJ6_bitCount_0f7a4_27 : decode cJ6_bitCount_0f7a4 27 = .ok (.iushr, 1) := by decide +kernel
theorem dJ6_bitCount_0f7a4_28 : decode cJ6_bitCount_0f7a4 28 = .ok (.iadd, 1) := by decide +kernel
theorem dJ6_bitCount_0f7a4_29 : decode cJ6_bitCount_0f7a4 29 = .ok (.ldc_w 267, 3) := by decide +kernel
theorem dJ6_bitCount_0f7a4_32 : decode cJ6_bitCount_0f7a4 32 = .ok (.iand, 1) := by decide +kernel
theorem dJ6_bitCount_0f7a4_33 : decode cJ6_bitCount_0f7a4 33 = .ok (.istore_n 0, 1) := by decide +kernel
theorem dJ6_bitCount_0f7a4_34 : decode cJ6_bitCount_0f7a4 34 = .ok (.iload_n 0, 1) := by decide +kernel
theorem dJ6_bitCount_0f7a4_35 : decode cJ6_bitCount_0f7a4 35 = .ok (.iload_n 0, 1) := by decide +kernel
theorem dJ6_bitCount_0f7a4_36 : decode cJ6_bitCount_0f7a4 36 = .ok (.bipush 8, 2) := by decide +kernel
theorem dJ6_bitCount_0f7a4_38 : decode cJ6_bitCount_0f7a4 38 = .ok (.iushr, 1) := by decide +kernel
theorem dJ6_bitCount_0f7a4_39 : decode cJ6_bitCount_0f7a4 39 = .ok (.iadd, 1) := by decide +kernel
theorem dJ6_bitCount_0f7a4_40 : decode cJ6_bitCount_0f7a4 40 = .ok (.istore_n 0, 1) := by decide +kernel
theorem dJ6_bitCount_0f7a4_41 : decode cJ6_bitCount_0f7a4 41 = .ok (.iload_n 0, 1) := by decide +kernel
theorem dJ6_bitCount_0f7a4_42 : decode cJ6_bitCount_0f7a4 42 = .ok (.iload_n 0, 1) := by decide +kernel
theorem dJ6_bitCount_0f7a4_43 : decode cJ6_bitCount_0f7a4 43 = .ok (.bipush 16, 2) := by decide +kernel
theorem dJ6_bitCount_0f7a4_45 : decode cJ6_bitCount_0f7a4 45 = .ok (.iushr, 1) := by decide +kernel
theorem dJ6_bitCount_0f7a4_46 : decode cJ6_bitCount_0f7a4 46 = .ok (.iadd, 1) := by decide +kernel
theorem dJ6_bitCount_0f7a4_47 : decode cJ6_bitCount_0f7a4 47 = .ok (.istore_n 0, 1) := by decide +kernel
theorem dJ6_bitCount_0f7a4_48 : decode cJ6_bitCount_0f7a4 48 = .ok (.iload_n 0, 1) := by decide +kernel
theorem dJ6_bitCount_0f7a4_49 : decode cJ6_bitCount_0f7a4 49 = .ok (.bipush 63, 2) := by decide +kernel
theorem dJ6_bitCount_0f7a4_51 : decode cJ6_bitCount_0f7a4 51 = .ok (.iand, 1) := by decide +kernel
theorem dJ6_bitCount_0f7a4_52 : decode cJ6_bitCount_0f7a4 52 = .ok (.ireturn, 1) := by decide +kernel
theorem dJ9_max_7cf53_0 : decode cJ9_max_7cf53 0 = .ok (.iload_n 0, 1) := by decide +kernel
theorem dJ9_max_7cf53_1 : decode cJ9_max_7cf53 1 = .ok (.iload_n 1, 1) := by decide +kernel
theorem dJ9_max_7cf53_2 : decode cJ9_max_7cf53 2 = .ok (.if_icmp .lt 7, 3) := by decide +kernel
theorem dJ9_max_7cf53_5 : decode cJ9_max_7cf53 5 = .ok (.iload_n 0, 1) := by decide +kernel
theorem dJ9_max_7cf53_6 : decode cJ9_max_7cf53 6 = .ok (.goto 4, 3) := by decide +kernel
theorem dJ9_max_7cf53_9 : decode cJ9_max_7cf53 9 = .ok (.iload_n 1, 1) := by decide +kernel
theorem dJ9_max_7cf53_10 : decode cJ9_max_7cf53 10 = .ok (.ireturn, 1) := by decide +kernel
theorem dJ9_min_7cf53_0 : decode cJ9_min_7cf53 0 = .ok (.iload_n 0, 1) := by decide +kernel
theorem dJ9_min_7cf53_1 : decode cJ9_min_7cf53 1 = .ok (.iload_n 1, 1) := by decide +kernel
theorem dJ9_min_7cf53_2 : decode cJ9_min_7cf53 2 = .ok (.if_icmp .gt 7, 3) := by decide +kernel
theorem dJ9_min_7cf53_5 : decode cJ9_min_7cf53 5 = .ok (.iload_n 0, 1) := by decide +kernel
theorem dJ9_min_7cf53_6 : decode cJ9_min_7cf53 6 = .ok (.goto 4, 3) := by decide +kernel
theorem dJ9_min_7cf53_9 : decode cJ9_min_7cf53 9 = .ok (.iload_n 1, 1) := by decide +kernel
theorem dJ9_min_7cf53_10 : decode cJ9_min_7cf53 10 = .ok (.ireturn, 1) := by decide +kernel
theorem dJ7_fill_53178_0 : decode cJ7_fill_53178 0 = .ok (.iconst 0, 1) := by decide +kernel
theorem dJ7_fill_53178_1 : decode cJ7_fill_53178 1 = .ok (.istore_n 2, 1) := by decide +kernel
theorem dJ7_fill_53178_2 : decode cJ7_fill_53178 2 = .ok (.aload_n 0, 1) := by decide +kernel
theorem dJ7_fill_53178_3 : decode cJ7_fill_53178 3 = .ok (.arraylength, 1) := by decide +kernel
theorem dJ7_fill_53178_4 : decode cJ7_fill_53178 4 = .ok (.istore_n 3, 1) := by decide +kernel
theorem dJ7_fill_53178_5 : decode cJ7_fill_53178 5 = .ok (.iload_n 2, 1) := by decide +kernel
theorem dJ7_fill_53178_6 : decode cJ7_fill_53178 6 = .ok (.iload_n 3, 1) := by decide +kernel
theorem dJ7_fill_53178_7 : decode cJ7_fill_53178 7 = .ok (.if_icmp .ge 13, 3) := by decide +kernel
theorem dJ7_fill_53178_10 : decode cJ7_fill_53178 10 = .ok (.aload_n 0, 1) := by decide +kernel
theorem dJ7_fill_53178_11 : decode cJ7_fill_53178 11 = .ok (.iload_n 2, 1) := by decide +kernel
theorem dJ7_fill_53178_12 : decode cJ7_fill_53178 12 = .ok (.iload_n 1, 1) := by decide +kernel
theorem dJ7_fill_53178_13 : decode cJ7_fill_53178 13 = .ok (.iastore, 1) := by decide +kernel
theorem dJ7_fill_53178_14 : decode cJ7_fill_53178 14 = .ok (.iinc 2 1, 3) := by decide +kernel
theorem dJ7_fill_53178_17 : decode cJ7_fill_53178 17 = .ok (.goto (-12), 3) := by decide +kernel
theorem dJ7_fill_53178_20 : decode cJ7_fill_53178 20 = .ok (.return_, 1) := by decide +kernel
theorem dX1_init_0 : decode cX1_init 0 = .ok (.aload_n 0, 1) := by decide +kernel
theorem dX1_init_1 : decode cX1_init 1 = .ok (.invokespecial 3, 3) := by decide +kernel
theorem dX1_init_4 : decode cX1_init 4 = .ok (.aload_n 0, 1) := by decide +kernel
theorem dX1_init_5 : decode cX1_init 5 = .ok (.bipush 60, 2) := by decide +kernel
theorem dX1_init_7 : decode cX1_init 7 = .ok (.newarray .int, 2) := by decide +kernel
theorem dX1_init_9 : decode cX1_init 9 = .ok (.putfield 9, 3) := by decide +kernel
theorem dX1_init_12 : decode cX1_init 12 = .ok (.aload_n 0, 1) := by decide +kernel
theorem dX1_init_13 : decode cX1_init 13 = .ok (.iconst (-1), 1) := by decide +kernel
theorem dX1_init_14 : decode cX1_init 14 = .ok (.putfield 15, 3) := by decide +kernel
theorem dX1_init_17 : decode cX1_init 17 = .ok (.aload_n 0, 1) := by decide +kernel
theorem dX1_init_18 : decode cX1_init 18 = .ok (.iconst 0, 1) := by decide +kernel
theorem dX1_init_19 : decode cX1_init 19 = .ok (.putfield 19, 3) := by decide +kernel
theorem dX1_init_22 : decode cX1_init 22 = .ok (.return_, 1) := by decide +kernel
theorem dX1_renew_0 : decode cX1_renew 0 = .ok (.aload_n 0, 1) := by decide +kernel
theorem dX1_renew_1 : decode cX1_renew 1 = .ok (.iload_n 1, 1) := by decide +kernel
theorem dX1_renew_2 : decode cX1_renew 2 = .ok (.putfield 15, 3) := by decide +kernel
theorem dX1_renew_5 : decode cX1_renew 5 = .ok (.aload_n 0, 1) := by decide +kernel
theorem dX1_renew_6 : decode cX1_renew 6 = .ok (.iload_n 2, 1) := by decide +kernel
theorem dX1_renew_7 : decode cX1_renew 7 = .ok (.putfield 19, 3) := by decide +kernel
theorem dX1_renew_10 : decode cX1_renew 10 = .ok (.aload_n 0, 1) := by decide +kernel
theorem dX1_renew_11 : decode cX1_renew 11 = .ok (.getfield 9, 3) := by decide +kernel
theorem dX1_renew_14 : decode cX1_renew 14 = .ok (.iconst 0, 1) := by decide +kernel
theorem dX1_renew_15 : decode cX1_renew 15 = .ok (.invokestatic 22, 3) := by decide +kernel
theorem dX1_renew_18 : decode cX1_renew 18 = .ok (.return_, 1) := by decide +kernel
theorem dX1_hasNothing_0 : decode cX1_hasNothing 0 = .ok (.aload_n 0, 1) := by decide +kernel
theorem dX1_hasNothing_1 : decode cX1_hasNothing 1 = .ok (.getfield 15, 3) := by decide +kernel
theorem dX1_hasNothing_4 : decode cX1_hasNothing 4 = .ok (.iconst (-1), 1) := by decide +kernel
theorem dX1_hasNothing_5 : decode cX1_hasNothing 5 = .ok (.if_icmp .ne 7, 3) := by decide +kernel
theorem dX1_hasNothing_8 : decode cX1_hasNothing 8 = .ok (.iconst 1, 1) := by decide +kernel
theorem dX1_hasNothing_9 : decode cX1_hasNothing 9 = .ok (.goto 4, 3) := by decide +kernel
theorem dX1_hasNothing_12 : decode cX1_hasNothing 12 = .ok (.iconst 0, 1) := by decide +kernel
theorem dX1_hasNothing_13 : decode cX1_hasNothing 13 = .ok (.ireturn, 1) := by decide +kernel
theorem dX1_hasCell_0 : decode cX1_hasCell 0 = .ok (.iload_n 1, 1) := by decide +kernel
theorem dX1_hasCell_1 : decode cX1_hasCell 1 = .ok (.ifCond .lt 15, 3) := by decide +kernel
theorem dX1_hasCell_4 : decode cX1_hasCell 4 = .ok (.iload_n 1, 1) := by decide +kernel
theorem dX1_hasCell_5 : decode cX1_hasCell 5 = .ok (.aload_n 0, 1) := by decide +kernel
theorem dX1_hasCell_6 : decode cX1_hasCell 6 = .ok (.getfield 19, 3) := by decide +kernel
theorem dX1_hasCell_9 : decode cX1_hasCell 9 = .ok (.if_icmp .ge 7, 3) := by decide +kernel
theorem dX1_hasCell_12 : decode cX1_hasCell 12 = .ok (.iconst 1, 1) := by decide +kernel
theorem dX1_hasCell_13 : decode cX1_hasCell 13 = .ok (.goto 4, 3) := by decide +kernel
theorem dX1_hasCell_16 : decode cX1_hasCell 16 = .ok (.iconst 0, 1) := by decide +kernel
theorem dX1_hasCell_17 : decode cX1_hasCell 17 = .ok (.ireturn, 1) := by decide +kernel
theorem dX1_hasCells_0 : decode cX1_hasCells 0 = .ok (.iload_n 1, 1) := by decide +kernel
theorem dX1_hasCells_1 : decode cX1_hasCells 1 = .ok (.ifCond .lt 29, 3) := by decide +kernel
theorem dX1_hasCells_4 : decode cX1_hasCells 4 = .ok (.iload_n 1, 1) := by decide +kernel
theorem dX1_hasCells_5 : decode cX1_hasCells 5 = .ok (.aload_n 0, 1) := by decide +kernel
theorem dX1_hasCells_6 : decode cX1_hasCells 6 = .ok (.getfield 19, 3) := by decide +kernel
theorem dX1_hasCells_9 : decode cX1_hasCells 9 = .ok (.if_icmp .gt 21, 3) := by decide +kernel
theorem dX1_hasCells_12 : decode cX1_hasCells 12 = .ok (.iload_n 2, 1) := by decide +kernel
theorem dX1_hasCells_13 : decode cX1_hasCells 13 = .ok (.ifCond .lt 17, 3) := by decide +kernel
theorem dX1_hasCells_16 : decode cX1_hasCells 16 = .ok (.iload_n 2, 1) := by decide +kernel
theorem dX1_hasCells_17 : decode cX1_hasCells 17 = .ok (.aload_n 0, 1) := by decide +kernel
theorem dX1_hasCells_18 : decode cX1_hasCells 18 = .ok (.getfield 19, 3) := by decide +kernel
theorem dX1_hasCells_21 : decode cX1_hasCells 21 = .ok (.iload_n 1, 1) := by decide +kernel
theorem dX1_hasCells_22 : decode cX1_hasCells 22 = .ok (.isub, 1) := by decide +kernel
theorem dX1_hasCells_23 : decode cX1_hasCells 23 = .ok (.if_icmp .gt 7, 3) := by decide +kernel
theorem dX1_hasCells_26 : decode cX1_hasCells 26 = .ok (.iconst 1, 1) := by decide +kernel
theorem dX1_hasCells_27 : decode cX1_hasCells 27 = .ok (.goto 4, 3) := by decide +kernel
theorem dX1_hasCells_30 : decode cX1_hasCells 30 = .ok (.iconst 0, 1) := by decide +kernel
theorem dX1_hasCells_31 : decode cX1_hasCells 31 = .ok (.ireturn, 1) := by decide +kernel
theorem dX1_read_0 : decode cX1_read 0 = .ok (.aload_n 0, 1) := by decide +kernel
theorem dX1_read_1 : decode cX1_read 1 = .ok (.iload_n 1, 1) := by decide +kernel
theorem dX1_read_2 : decode cX1_read 2 = .ok (.invokevirtual 28, 3) := by decide +kernel
theorem dX1_read_5 : decode cX1_read 5 = .ok (.ifCond .eq 12, 3) := by decide +kernel
theorem dX1_read_8 : decode cX1_read 8 = .ok (.aload_n 0, 1) := by decide +kernel
theorem dX1_read_9 : decode cX1_read 9 = .ok (.getfield 9, 3) := by decide +kernel
theorem dX1_read_12 : decode cX1_read 12 = .ok (.iload_n 1, 1) := by decide +kernel
theorem dX1_read_13 : decode cX1_read 13 = .ok (.iaload, 1) := by decide +kernel
theorem dX1_read_14 : decode cX1_read 14 = .ok (.goto 4, 3) := by decide +kernel
theorem dX1_read_17 : decode cX1_read 17 = .ok (.iconst 0, 1) := by decide +kernel
theorem dX1_read_18 : decode cX1_read 18 = .ok (.ireturn, 1) := by decide +kernel
theorem dX1_write_0 : decode cX1_write 0 = .ok (.aload_n 0, 1) := by decide +kernel
theorem dX1_write_1 : decode cX1_write 1 = .ok (.iload_n 1, 1) := by decide +kernel
theorem dX1_write_2 : decode cX1_write 2 = .ok (.invokevirtual 28, 3) := by decide +kernel
theorem dX1_write_5 : decode cX1_write 5 = .ok (.ifCond .eq 14, 3) := by decide +kernel
theorem dX1_write_8 : decode cX1_write 8 = .ok (.aload_n 0, 1) := by decide +kernel
theorem dX1_write_9 : decode cX1_write 9 = .ok (.getfield 9, 3) := by decide +kernel
theorem dX1_write_12 : decode cX1_write 12 = .ok (.iload_n 1, 1) := by decide +kernel
theorem dX1_write_13 : decode cX1_write 13 = .ok (.aload_n 0, 1) := by decide +kernel
theorem dX1_write_14 : decode cX1_write 14 = .ok (.iload_n 2, 1) := by decide +kernel
theorem dX1_write_15 : decode cX1_write 15 = .ok (.invokevirtual 32, 3) := by decide +kernel
theorem dX1_write_18 : decode cX1_write 18 = .ok (.iastore, 1) := by decide +kernel
theorem dX1_write_19 : decode cX1_write 19 = .ok (.return_, 1) := by decide +kernel
theorem dX1_cutToLane_0 : decode cX1_cutToLane 0 = .ok (.aload_n 0, 1) := by decide +kernel
theorem dX1_cutToLane_1 : decode cX1_cutToLane 1 = .ok (.getfield 15, 3) := by decide +kernel
theorem dX1_cutToLane_4 : decode cX1_cutToLane 4 = .ok (.lookupswitch 34 #[(0, 28), (1, 31)], 28) := by decide +kernel
theorem dX1_cutToLane_32 : decode cX1_cutToLane 32 = .ok (.iload_n 1, 1) := by decide +kernel
theorem dX1_cutToLane_33 : decode cX1_cutToLane 33 = .ok (.i2b, 1) := by decide +kernel
theorem dX1_cutToLane_34 : decode cX1_cutToLane 34 = .ok (.ireturn, 1) := by decide +kernel
theorem dX1_cutToLane_35 : decode cX1_cutToLane 35 = .ok (.iload_n 1, 1) := by decide +kernel
theorem dX1_cutToLane_36 : decode cX1_cutToLane 36 = .ok (.i2s, 1) := by decide +kernel
theorem dX1_cutToLane_37 : decode cX1_cutToLane 37 = .ok (.ireturn, 1) := by decide +kernel
theorem dX1_cutToLane_38 : decode cX1_cutToLane 38 = .ok (.iload_n 1, 1) := by decide +kernel
theorem dX1_cutToLane_39 : decode cX1_cutToLane 39 = .ok (.ireturn, 1) := by decide +kernel
theorem dX2_init_0 : decode cX2_init 0 = .ok (.aload_n 0, 1) := by decide +kernel
theorem dX2_init_1 : decode cX2_init 1 = .ok (.invokespecial 3, 3) := by decide +kernel
theorem dX2_init_4 : decode cX2_init 4 = .ok (.aload_n 0, 1) := by decide +kernel
theorem dX2_init_5 : decode cX2_init 5 = .ok (.iconst 4, 1) := by decide +kernel
theorem dX2_init_6 : decode cX2_init 6 = .ok (.newarray .int, 2) := by decide +kernel
theorem dX2_init_8 : decode cX2_init 8 = .ok (.putfield 9, 3) := by decide +kernel
theorem dX2_init_11 : decode cX2_init 11 = .ok (.aload_n 0, 1) := by decide +kernel
theorem dX2_init_12 : decode cX2_init 12 = .ok (.iconst 4, 1) := by decide +kernel
theorem dX2_init_13 : decode cX2_init 13 = .ok (.newarray .int, 2) := by decide +kernel
theorem dX2_init_15 : decode cX2_init 15 = .ok (.putfield 15, 3) := by decide +kernel
theorem dX2_init_18 : decode cX2_init 18 = .ok (.aload_n 0, 1) := by decide +kernel
theorem dX2_init_19 : decode cX2_init 19 = .ok (.bipush 6, 2) := by decide +kernel
theorem dX2_init_21 : decode cX2_init 21 = .ok (.newarray .int, 2) := by decide +kernel
theorem dX2_init_23 : decode cX2_init 23 = .ok (.putfield 18, 3) := by decide +kernel
theorem dX2_init_26 : decode cX2_init 26 = .ok (.aload_n 0, 1) := by decide +kernel
theorem dX2_init_27 : decode cX2_init 27 = .ok (.bipush 6, 2) := by decide +kernel
theorem dX2_init_29 : decode cX2_init 29 = .ok (.newarray .int, 2) := by decide +kernel
theorem dX2_init_31 : decode cX2_init 31 = .ok (.putfield 21, 3) := by decide +kernel
theorem dX2_init_34 : decode cX2_init 34 = .ok (.aload_n 0, 1) := by decide +kernel
theorem dX2_init_35 : decode cX2_init 35 = .ok (.bipush 6, 2) := by decide +kernel
theorem dX2_init_37 : decode cX2_init 37 = .ok (.newarray .int, 2) := by decide +kernel
theorem dX2_init_39 : decode cX2_init 39 = .ok (.putfield 24, 3) := by decide +kernel
theorem dX2_init_42 : decode cX2_init 42 = .ok (.aload_n 0, 1) := by decide +kernel
theorem dX2_init_43 : decode cX2_init 43 = .ok (.bipush 6, 2) := by decide +kernel
theorem dX2_init_45 : decode cX2_init 45 = .ok (.newarray .int, 2) := by decide +kernel
theorem dX2_init_47 : decode cX2_init 47 = .ok (.putfield 27, 3) := by decide +kernel
theorem dX2_init_50 : decode cX2_init 50 = .ok (.aload_n 0, 1) := by decide +kernel
theorem dX2_init_51 : decode cX2_init 51 = .ok (.bipush 6, 2) := by decide +kernel
theorem dX2_init_53 : decode cX2_init 53 = .ok (.newarray .int, 2) := by decide +kernel
theorem dX2_init_55 : decode cX2_init 55 = .ok (.putfield 30, 3) := by decide +kernel
theorem dX2_init_58 : decode cX2_init 58 = .ok (.aload_n 0, 1) := by decide +kernel
theorem dX2_init_59 : decode cX2_init 59 = .ok (.iconst 0, 1) := by decide +kernel
theorem dX2_init_60 : decode cX2_init 60 = .ok (.putfield 33, 3) := by decide +kernel
theorem dX2_init_63 : decode cX2_init 63 = .ok (.aload_n 0, 1) := by decide +kernel
theorem dX2_init_64 : decode cX2_init 64 = .ok (.iconst 0, 1) := by decide +kernel
theorem dX2_init_65 : decode cX2_init 65 = .ok (.putfield 37, 3) := by decide +kernel
theorem dX2_init_68 : decode cX2_init 68 = .ok (.aload_n 0, 1) := by decide +kernel
theorem dX2_init_69 : decode cX2_init 69 = .ok (.iconst 0, 1) := by decide +kernel
theorem dX2_init_70 : decode cX2_init 70 = .ok (.putfield 40, 3) := by decide +kernel
theorem dX2_init_73 : decode cX2_init 73 = .ok (.aload_n 0, 1) := by decide +kernel
theorem dX2_init_74 : decode cX2_init 74 = .ok (.iconst 0, 1) := by decide +kernel
theorem dX2_init_75 : decode cX2_init 75 = .ok (.putfield 43, 3) := by decide +kernel
theorem dX2_init_78 : decode cX2_init 78 = .ok (.aload_n 0, 1) := by decide +kernel
theorem dX2_init_79 : decode cX2_init 79 = .ok (.iconst 0, 1) := by decide +kernel
theorem dX2_init_80 : decode cX2_init 80 = .ok (.putfield 46, 3) := by decide +kernel
theorem dX2_init_83 : decode cX2_init 83 = .ok (.return_, 1) := by decide +kernel
theorem dX2_begin_0 : decode cX2_begin 0 = .ok (.aload_n 0, 1) := by decide +kernel
theorem dX2_begin_1 : decode cX2_begin 1 = .ok (.iconst 0, 1) := by decide +kernel
theorem dX2_begin_2 : decode cX2_begin 2 = .ok (.putfield 33, 3) := by decide +kernel
theorem dX2_begin_5 : decode cX2_begin 5 = .ok (.aload_n 0, 1) := by decide +kernel
theorem dX2_begin_6 : decode cX2_begin 6 = .ok (.iconst 0, 1) := by decide +kernel
theorem dX2_begin_7 : decode cX2_begin 7 = .ok (.putfield 37, 3) := by decide +kernel
theorem dX2_begin_10 : decode cX2_begin 10 = .ok (.aload_n 0, 1) := by decide +kernel
theorem dX2_begin_11 : decode cX2_begin 11 = .ok (.iconst 0, 1) := by decide +kernel
theorem dX2_begin_12 : decode cX2_begin 12 = .ok (.putfield 40, 3) := by decide +kernel
theorem dX2_begin_15 : decode cX2_begin 15 = .ok (.aload_n 0, 1) := by decide +kernel
theorem dX2_begin_16 : decode cX2_begin 16 = .ok (.iconst 0, 1) := by decide +kernel
theorem dX2_begin_17 : decode cX2_begin 17 = .ok (.putfield 43, 3) := by decide +kernel
theorem dX2_begin_20 : decode cX2_begin 20 = .ok (.aload_n 0, 1) := by decide +kernel
theorem dX2_begin_21 : decode cX2_begin 21 = .ok (.iconst 0, 1) := by decide +kernel
theorem dX2_begin_22 : decode cX2_begin 22 = .ok (.putfield 46, 3) := by decide +kernel
theorem dX2_begin_25 : decode cX2_begin 25 = .ok (.return_, 1) := by decide +kernel
theorem dX2_isWhole_0 : decode cX2_isWhole 0 = .ok (.aload_n 0, 1) := by decide +kernel
theorem dX2_isWhole_1 : decode cX2_isWhole 1 = .ok (.getfield 43, 3) := by decide +kernel
theorem dX2_isWhole_4 : decode cX2_isWhole 4 = .ok (.iconst 3, 1) := by decide +kernel
theorem dX2_isWhole_5 : decode cX2_isWhole 5 = .ok (.if_icmp .ne 14, 3) := by decide +kernel
theorem dX2_isWhole_8 : decode cX2_isWhole 8 = .ok (.aload_n 0, 1) := by decide +kernel
theorem dX2_isWhole_9 : decode cX2_isWhole 9 = .ok (.getfield 40, 3) := by decide +kernel
theorem dX2_isWhole_12 : decode cX2_isWhole 12 = .ok (.ifCond .le 7, 3) := by decide +kernel
theorem dX2_isWhole_15 : decode cX2_isWhole 15 = .ok (.iconst 1, 1) := by decide +kernel
theorem dX2_isWhole_16 : decode cX2_isWhole 16 = .ok (.goto 4, 3) := by decide +kernel
theorem dX2_isWhole_19 : decode cX2_isWhole 19 = .ok (.iconst 0, 1) := by decide +kernel
theorem dX2_isWhole_20 : decode cX2_isWhole 20 = .ok (.ireturn, 1) := by decide +kernel
theorem dX2_goesOn_0 : decode cX2_goesOn 0 = .ok (.aload_n 0, 1) := by decide +kernel
theorem dX2_goesOn_1 : decode cX2_goesOn 1 = .ok (.getfield 43, 3) := by decide +kernel
theorem dX2_goesOn_4 : decode cX2_goesOn 4 = .ok (.tableswitch 67 0 2 #[28, 37, 52], 28) := by decide +kernel
theorem dX2_goesOn_32 : decode cX2_goesOn 32 = .ok (.aload_n 0, 1) := by decide +kernel
theorem dX2_goesOn_33 : decode cX2_goesOn 33 = .ok (.iload_n 1, 1) := by decide +kernel
theorem dX2_goesOn_34 : decode cX2_goesOn 34 = .ok (.invokevirtual 49, 3) := by decide +kernel
theorem dX2_goesOn_37 : decode cX2_goesOn 37 = .ok (.istore_n 2, 1) := by decide +kernel
theorem dX2_goesOn_38 : decode cX2_goesOn 38 = .ok (.goto 39, 3) := by decide +kernel
theorem dX2_goesOn_41 : decode cX2_goesOn 41 = .ok (.aload_n 0, 1) := by decide +kernel
theorem dX2_goesOn_42 : decode cX2_goesOn 42 = .ok (.aload_n 0, 1) := by decide +kernel
theorem dX2_goesOn_43 : decode cX2_goesOn 43 = .ok (.getfield 37, 3) := by decide +kernel
theorem dX2_goesOn_46 : decode cX2_goesOn 46 = .ok (.iconst 1, 1) := by decide +kernel
theorem dX2_goesOn_47 : decode cX2_goesOn 47 = .ok (.isub, 1) := by decide +kernel
theorem dX2_goesOn_48 : decode cX2_goesOn 48 = .ok (.iload_n 1, 1) := by decide +kernel
theorem dX2_goesOn_49 : decode cX2_goesOn 49 = .ok (.invokevirtual 53, 3) := by decide +kernel
theorem dX2_goesOn_52 : decode cX2_goesOn 52 = .ok (.istore_n 2, 1) := by decide +kernel
theorem dX2_goesOn_53 : decode cX2_goesOn 53 = .ok (.goto 24, 3) := by decide +kernel
theorem dX2_goesOn_56 : decode cX2_goesOn 56 = .ok (.aload_n 0, 1) := by decide +kernel
theorem dX2_goesOn_57 : decode cX2_goesOn 57 = .ok (.aload_n 0, 1) := by decide +kernel
theorem dX2_goesOn_58 : decode cX2_goesOn 58 = .ok (.getfield 40, 3) := by decide +kernel
theorem dX2_goesOn_61 : decode cX2_goesOn 61 = .ok (.iconst 1, 1) := by decide +kernel
theorem dX2_goesOn_62 : decode cX2_goesOn 62 = .ok (.isub, 1) := by decide +kernel
theorem dX2_goesOn_63 : decode cX2_goesOn 63 = .ok (.iload_n 1, 1) := by decide +kernel
theorem dX2_goesOn_64 : decode cX2_goesOn 64 = .ok (.invokevirtual 57, 3) := by decide +kernel
theorem dX2_goesOn_67 : decode cX2_goesOn 67 = .ok (.istore_n 2, 1) := by decide +kernel
theorem dX2_goesOn_68 : decode cX2_goesOn 68 = .ok (.goto 9, 3) := by decide +kernel
theorem dX2_goesOn_71 : decode cX2_goesOn 71 = .ok (.aload_n 0, 1) := by decide +kernel
theorem dX2_goesOn_72 : decode cX2_goesOn 72 = .ok (.iload_n 1, 1) := by decide +kernel
theorem dX2_goesOn_73 : decode cX2_goesOn 73 = .ok (.invokevirtual 60, 3) := by decide +kernel
theorem dX2_goesOn_76 : decode cX2_goesOn 76 = .ok (.istore_n 2, 1) := by decide +kernel
theorem dX2_goesOn_77 : decode cX2_goesOn 77 = .ok (.aload_n 0, 1) := by decide +kernel
theorem dX2_goesOn_78 : decode cX2_goesOn 78 = .ok (.dup, 1) := by decide +kernel
theorem dX2_goesOn_79 : decode cX2_goesOn 79 = .ok (.getfield 46, 3) := by decide +kernel
theorem dX2_goesOn_82 : decode cX2_goesOn 82 = .ok (.iconst 1, 1) := by decide +kernel
theorem dX2_goesOn_83 : decode cX2_goesOn 83 = .ok (.iadd, 1) := by decide +kernel
theorem dX2_goesOn_84 : decode cX2_goesOn 84 = .ok (.putfield 46, 3) := by decide +kernel
theorem dX2_goesOn_87 : decode cX2_goesOn 87 = .ok (.iload_n 2, 1) := by decide +kernel
theorem dX2_goesOn_88 : decode cX2_goesOn 88 = .ok (.ireturn, 1) := by decide +kernel
theorem dX2_headGoesOn_0 : decode cX2_headGoesOn 0 = .ok (.iload_n 1, 1) := by decide +kernel
theorem dX2_headGoesOn_1 : decode cX2_headGoesOn 1 = .ok (.invokestatic 63, 3) := by decide +kernel
theorem dX2_headGoesOn_4 : decode cX2_headGoesOn 4 = .ok (.istore_n 2, 1) := by decide +kernel
theorem dX2_headGoesOn_5 : decode cX2_headGoesOn 5 = .ok (.aload_n 0, 1) := by decide +kernel
theorem dX2_headGoesOn_6 : decode cX2_headGoesOn 6 = .ok (.getfield 46, 3) := by decide +kernel
theorem dX2_headGoesOn_9 : decode cX2_headGoesOn 9 = .ok (.lookupswitch 54 #[(0, 27), (1, 39)], 27) := by decide +kernel
theorem dX2_headGoesOn_36 : decode cX2_headGoesOn 36 = .ok (.iload_n 1, 1) := by decide +kernel
theorem dX2_headGoesOn_37 : decode cX2_headGoesOn 37 = .ok (.bipush 117, 2) := by decide +kernel
theorem dX2_headGoesOn_39 : decode cX2_headGoesOn 39 = .ok (.if_icmp .ne 7, 3) := by decide +kernel
theorem dX2_headGoesOn_42 : decode cX2_headGoesOn 42 = .ok (.iconst 1, 1) := by decide +kernel
theorem dX2_headGoesOn_43 : decode cX2_headGoesOn 43 = .ok (.goto 4, 3) := by decide +kernel
theorem dX2_headGoesOn_46 : decode cX2_headGoesOn 46 = .ok (.iconst 0, 1) := by decide +kernel
theorem dX2_headGoesOn_47 : decode cX2_headGoesOn 47 = .ok (.ireturn, 1) := by decide +kernel
theorem dX2_headGoesOn_48 : decode cX2_headGoesOn 48 = .ok (.aload_n 0, 1) := by decide +kernel
theorem dX2_headGoesOn_49 : decode cX2_headGoesOn 49 = .ok (.bipush 10, 2) := by decide +kernel
theorem dX2_headGoesOn_51 : decode cX2_headGoesOn 51 = .ok (.iload_n 2, 1) := by decide +kernel
theorem dX2_headGoesOn_52 : decode cX2_headGoesOn 52 = .ok (.imul, 1) := by decide +kernel
theorem dX2_headGoesOn_53 : decode cX2_headGoesOn 53 = .ok (.putfield 33, 3) := by decide +kernel
theorem dX2_headGoesOn_56 : decode cX2_headGoesOn 56 = .ok (.iload_n 2, 1) := by decide +kernel
theorem dX2_headGoesOn_57 : decode cX2_headGoesOn 57 = .ok (.iconst 0, 1) := by decide +kernel
theorem dX2_headGoesOn_58 : decode cX2_headGoesOn 58 = .ok (.iconst 1, 1) := by decide +kernel
theorem dX2_headGoesOn_59 : decode cX2_headGoesOn 59 = .ok (.invokestatic 67, 3) := by decide +kernel
theorem dX2_headGoesOn_62 : decode cX2_headGoesOn 62 = .ok (.ireturn, 1) := by decide +kernel
theorem dX2_headGoesOn_63 : decode cX2_headGoesOn 63 = .ok (.aload_n 0, 1) := by decide +kernel
theorem dX2_headGoesOn_64 : decode cX2_headGoesOn 64 = .ok (.dup, 1) := by decide +kernel
theorem dX2_headGoesOn_65 : decode cX2_headGoesOn 65 = .ok (.getfield 33, 3) := by decide +kernel
theorem dX2_headGoesOn_68 : decode cX2_headGoesOn 68 = .ok (.iload_n 2, 1) := by decide +kernel
theorem dX2_headGoesOn_69 : decode cX2_headGoesOn 69 = .ok (.iadd, 1) := by decide +kernel
theorem dX2_headGoesOn_70 : decode cX2_headGoesOn 70 = .ok (.putfield 33, 3) := by decide +kernel
theorem dX2_headGoesOn_73 : decode cX2_headGoesOn 73 = .ok (.aload_n 0, 1) := by decide +kernel
theorem dX2_headGoesOn_74 : decode cX2_headGoesOn 74 = .ok (.iconst 3, 1) := by decide +kernel
theorem dX2_headGoesOn_75 : decode cX2_headGoesOn 75 = .ok (.putfield 43, 3) := by decide +kernel
theorem dX2_headGoesOn_78 : decode cX2_headGoesOn 78 = .ok (.iload_n 2, 1) := by decide +kernel
theorem dX2_headGoesOn_79 : decode cX2_headGoesOn 79 = .ok (.ifCond .lt 20, 3) := by decide +kernel
theorem dX2_headGoesOn_82 : decode cX2_headGoesOn 82 = .ok (.aload_n 0, 1) := by decide +kernel
theorem dX2_headGoesOn_83 : decode cX2_headGoesOn 83 = .ok (.getfield 33, 3) := by decide +kernel
theorem dX2_headGoesOn_86 : decode cX2_headGoesOn 86 = .ok (.iconst 1, 1) := by decide +kernel
theorem dX2_headGoesOn_87 : decode cX2_headGoesOn 87 = .ok (.bipush 13, 2) := by decide +kernel
theorem dX2_headGoesOn_89 : decode cX2_headGoesOn 89 = .ok (.invokestatic 67, 3) := by decide +kernel
theorem dX2_headGoesOn_92 : decode cX2_headGoesOn 92 = .ok (.ifCond .eq 7, 3) := by decide +kernel
theorem dX2_headGoesOn_95 : decode cX2_headGoesOn 95 = .ok (.iconst 1, 1) := by decide +kernel
theorem dX2_headGoesOn_96 : decode cX2_headGoesOn 96 = .ok (.goto 4, 3) := by decide +kernel
theorem dX2_headGoesOn_99 : decode cX2_headGoesOn 99 = .ok (.iconst 0, 1) := by decide +kernel
theorem dX2_headGoesOn_100 : decode cX2_headGoesOn 100 = .ok (.ireturn, 1) := by decide +kernel
theorem dX2_opens_0 : decode cX2_opens 0 = .ok (.aload_n 0, 1) := by decide +kernel
theorem dX2_opens_1 : decode cX2_opens 1 = .ok (.iconst 0, 1) := by decide +kernel
theorem dX2_opens_2 : decode cX2_opens 2 = .ok (.putfield 46, 3) := by decide +kernel
theorem dX2_opens_5 : decode cX2_opens 5 = .ok (.iload_n 1, 1) := by decide +kernel
theorem dX2_opens_6 : decode cX2_opens 6 = .ok (.bipush 59, 2) := by decide +kernel
theorem dX2_opens_8 : decode cX2_opens 8 = .ok (.if_icmp .ne 35, 3) := by decide +kernel
theorem dX2_opens_11 : decode cX2_opens 11 = .ok (.aload_n 0, 1) := by decide +kernel
theorem dX2_opens_12 : decode cX2_opens 12 = .ok (.getfield 40, 3) := by decide +kernel
theorem dX2_opens_15 : decode cX2_opens 15 = .ok (.ifCond .ne 28, 3) := by decide +kernel
theorem dX2_opens_18 : decode cX2_opens 18 = .ok (.aload_n 0, 1) := by decide +kernel
theorem dX2_opens_19 : decode cX2_opens 19 = .ok (.getfield 37, 3) := by decide +kernel
theorem dX2_opens_22 : decode cX2_opens 22 = .ok (.iconst 4, 1) := by decide +kernel
theorem dX2_opens_23 : decode cX2_opens 23 = .ok (.if_icmp .ge 20, 3) := by decide +kernel
theorem dX2_opens_26 : decode cX2_opens 26 = .ok (.aload_n 0, 1) := by decide +kernel
theorem dX2_opens_27 : decode cX2_opens 27 = .ok (.dup, 1) := by decide +kernel
theorem dX2_opens_28 : decode cX2_opens 28 = .ok (.getfield 37, 3) := by decide +kernel
theorem dX2_opens_31 : decode cX2_opens 31 = .ok (.iconst 1, 1) := by decide +kernel
theorem dX2_opens_32 : decode cX2_opens 32 = .ok (.iadd, 1) := by decide +kernel
theorem dX2_opens_33 : decode cX2_opens 33 = .ok (.putfield 37, 3) := by decide +kernel
theorem dX2_opens_36 : decode cX2_opens 36 = .ok (.aload_n 0, 1) := by decide +kernel
theorem dX2_opens_37 : decode cX2_opens 37 = .ok (.iconst 1, 1) := by decide +kernel
theorem dX2_opens_38 : decode cX2_opens 38 = .ok (.putfield 43, 3) := by decide +kernel
theorem dX2_opens_41 : decode cX2_opens 41 = .ok (.iconst 1, 1) := by decide +kernel
theorem dX2_opens_42 : decode cX2_opens 42 = .ok (.ireturn, 1) := by decide +kernel
theorem dX2_opens_43 : decode cX2_opens 43 = .ok (.iload_n 1, 1) := by decide +kernel
theorem dX2_opens_44 : decode cX2_opens 44 = .ok (.bipush 44, 2) := by decide +kernel
theorem dX2_opens_46 : decode cX2_opens 46 = .ok (.if_icmp .ne 36, 3) := by decide +kernel
theorem dX2_opens_49 : decode cX2_opens 49 = .ok (.aload_n 0, 1) := by decide +kernel
theorem dX2_opens_50 : decode cX2_opens 50 = .ok (.getfield 37, 3) := by decide +kernel
theorem dX2_opens_53 : decode cX2_opens 53 = .ok (.ifCond .le 29, 3) := by decide +kernel
theorem dX2_opens_56 : decode cX2_opens 56 = .ok (.aload_n 0, 1) := by decide +kernel
theorem dX2_opens_57 : decode cX2_opens 57 = .ok (.getfield 40, 3) := by decide +kernel
theorem dX2_opens_60 : decode cX2_opens 60 = .ok (.bipush 6, 2) := by decide +kernel
theorem dX2_opens_62 : decode cX2_opens 62 = .ok (.if_icmp .ge 20, 3) := by decide +kernel
theorem dX2_opens_65 : decode cX2_opens 65 = .ok (.aload_n 0, 1) := by decide +kernel
theorem dX2_opens_66 : decode cX2_opens 66 = .ok (.dup, 1) := by decide +kernel
theorem dX2_opens_67 : decode cX2_opens 67 = .ok (.getfield 40, 3) := by decide +kernel
theorem dX2_opens_70 : decode cX2_opens 70 = .ok (.iconst 1, 1) := by decide +kernel
theorem dX2_opens_71 : decode cX2_opens 71 = .ok (.iadd, 1) := by decide +kernel
theorem dX2_opens_72 : decode cX2_opens 72 = .ok (.putfield 40, 3) := by decide +kernel
theorem dX2_opens_75 : decode cX2_opens 75 = .ok (.aload_n 0, 1) := by decide +kernel
theorem dX2_opens_76 : decode cX2_opens 76 = .ok (.iconst 2, 1) := by decide +kernel
theorem dX2_opens_77 : decode cX2_opens 77 = .ok (.putfield 43, 3) := by decide +kernel
theorem dX2_opens_80 : decode cX2_opens 80 = .ok (.iconst 1, 1) := by decide +kernel
theorem dX2_opens_81 : decode cX2_opens 81 = .ok (.ireturn, 1) := by decide +kernel
theorem dX2_opens_82 : decode cX2_opens 82 = .ok (.iconst 0, 1) := by decide +kernel
theorem dX2_opens_83 : decode cX2_opens 83 = .ok (.ireturn, 1) := by decide +kernel
theorem dX2_houseGoesOn_0 : decode cX2_houseGoesOn 0 = .ok (.iload_n 2, 1) := by decide +kernel
theorem dX2_houseGoesOn_1 : decode cX2_houseGoesOn 1 = .ok (.invokestatic 63, 3) := by decide +kernel
theorem dX2_houseGoesOn_4 : decode cX2_houseGoesOn 4 = .ok (.istore_n 3, 1) := by decide +kernel
theorem dX2_houseGoesOn_5 : decode cX2_houseGoesOn 5 = .ok (.aload_n 0, 1) := by decide +kernel
theorem dX2_houseGoesOn_6 : decode cX2_houseGoesOn 6 = .ok (.getfield 46, 3) := by decide +kernel
theorem dX2_houseGoesOn_9 : decode cX2_houseGoesOn 9 = .ok (.lookupswitch 67 #[(1, 27), (2, 47)], 27) := by decide +kernel
theorem dX2_houseGoesOn_36 : decode cX2_houseGoesOn 36 = .ok (.aload_n 0, 1) := by decide +kernel
theorem dX2_houseGoesOn_37 : decode cX2_houseGoesOn 37 = .ok (.getfield 9, 3) := by decide +kernel
theorem dX2_houseGoesOn_40 : decode cX2_houseGoesOn 40 = .ok (.iload_n 1, 1) := by decide +kernel
theorem dX2_houseGoesOn_41 : decode cX2_houseGoesOn 41 = .ok (.bipush 10, 2) := by decide +kernel
theorem dX2_houseGoesOn_43 : decode cX2_houseGoesOn 43 = .ok (.iload_n 3, 1) := by decide +kernel
theorem dX2_houseGoesOn_44 : decode cX2_houseGoesOn 44 = .ok (.imul, 1) := by decide +kernel
theorem dX2_houseGoesOn_45 : decode cX2_houseGoesOn 45 = .ok (.iastore, 1) := by decide +kernel
theorem dX2_houseGoesOn_46 : decode cX2_houseGoesOn 46 = .ok (.iload_n 3, 1) := by decide +kernel
theorem dX2_houseGoesOn_47 : decode cX2_houseGoesOn 47 = .ok (.ifCond .lt 7, 3) := by decide +kernel
theorem dX2_houseGoesOn_50 : decode cX2_houseGoesOn 50 = .ok (.iconst 1, 1) := by decide +kernel
theorem dX2_houseGoesOn_51 : decode cX2_houseGoesOn 51 = .ok (.goto 4, 3) := by decide +kernel
theorem dX2_houseGoesOn_54 : decode cX2_houseGoesOn 54 = .ok (.iconst 0, 1) := by decide +kernel
theorem dX2_houseGoesOn_55 : decode cX2_houseGoesOn 55 = .ok (.ireturn, 1) := by decide +kernel
theorem dX2_houseGoesOn_56 : decode cX2_houseGoesOn 56 = .ok (.aload_n 0, 1) := by decide +kernel
theorem dX2_houseGoesOn_57 : decode cX2_houseGoesOn 57 = .ok (.getfield 9, 3) := by decide +kernel
theorem dX2_houseGoesOn_60 : decode cX2_houseGoesOn 60 = .ok (.iload_n 1, 1) := by decide +kernel
theorem dX2_houseGoesOn_61 : decode cX2_houseGoesOn 61 = .ok (.dup2, 1) := by decide +kernel
theorem dX2_houseGoesOn_62 : decode cX2_houseGoesOn 62 = .ok (.iaload, 1) := by decide +kernel
theorem dX2_houseGoesOn_63 : decode cX2_houseGoesOn 63 = .ok (.iload_n 3, 1) := by decide +kernel
theorem dX2_houseGoesOn_64 : decode cX2_houseGoesOn 64 = .ok (.iadd, 1) := by decide +kernel
theorem dX2_houseGoesOn_65 : decode cX2_houseGoesOn 65 = .ok (.iastore, 1) := by decide +kernel
theorem dX2_houseGoesOn_66 : decode cX2_houseGoesOn 66 = .ok (.iload_n 3, 1) := by decide +kernel
theorem dX2_houseGoesOn_67 : decode cX2_houseGoesOn 67 = .ok (.ifCond .lt 7, 3) := by decide +kernel
theorem dX2_houseGoesOn_70 : decode cX2_houseGoesOn 70 = .ok (.iconst 1, 1) := by decide +kernel
theorem dX2_houseGoesOn_71 : decode cX2_houseGoesOn 71 = .ok (.goto 4, 3) := by decide +kernel
theorem dX2_houseGoesOn_74 : decode cX2_houseGoesOn 74 = .ok (.iconst 0, 1) := by decide +kernel
theorem dX2_houseGoesOn_75 : decode cX2_houseGoesOn 75 = .ok (.ireturn, 1) := by decide +kernel
theorem dX2_houseGoesOn_76 : decode cX2_houseGoesOn 76 = .ok (.aload_n 0, 1) := by decide +kernel
theorem dX2_houseGoesOn_77 : decode cX2_houseGoesOn 77 = .ok (.getfield 15, 3) := by decide +kernel
theorem dX2_houseGoesOn_80 : decode cX2_houseGoesOn 80 = .ok (.iload_n 1, 1) := by decide +kernel
theorem dX2_houseGoesOn_81 : decode cX2_houseGoesOn 81 = .ok (.iload_n 3, 1) := by decide +kernel
theorem dX2_houseGoesOn_82 : decode cX2_houseGoesOn 82 = .ok (.iastore, 1) := by decide +kernel
theorem dX2_houseGoesOn_83 : decode cX2_houseGoesOn 83 = .ok (.aload_n 0, 1) := by decide +kernel
theorem dX2_houseGoesOn_84 : decode cX2_houseGoesOn 84 = .ok (.iconst 3, 1) := by decide +kernel
theorem dX2_houseGoesOn_85 : decode cX2_houseGoesOn 85 = .ok (.putfield 43, 3) := by decide +kernel
theorem dX2_houseGoesOn_88 : decode cX2_houseGoesOn 88 = .ok (.iload_n 3, 1) := by decide +kernel
theorem dX2_houseGoesOn_89 : decode cX2_houseGoesOn 89 = .ok (.iconst 1, 1) := by decide +kernel
theorem dX2_houseGoesOn_90 : decode cX2_houseGoesOn 90 = .ok (.if_icmp .lt 7, 3) := by decide +kernel
theorem dX2_houseGoesOn_93 : decode cX2_houseGoesOn 93 = .ok (.iconst 1, 1) := by decide +kernel
theorem dX2_houseGoesOn_94 : decode cX2_houseGoesOn 94 = .ok (.goto 4, 3) := by decide +kernel
theorem dX2_houseGoesOn_97 : decode cX2_houseGoesOn 97 = .ok (.iconst 0, 1) := by decide +kernel
theorem dX2_houseGoesOn_98 : decode cX2_houseGoesOn 98 = .ok (.ireturn, 1) := by decide +kernel
theorem dX2_personGoesOn_0 : decode cX2_personGoesOn 0 = .ok (.iload_n 2, 1) := by decide +kernel
theorem dX2_personGoesOn_1 : decode cX2_personGoesOn 1 = .ok (.invokestatic 63, 3) := by decide +kernel
theorem dX2_personGoesOn_4 : decode cX2_personGoesOn 4 = .ok (.istore_n 3, 1) := by decide +kernel
theorem dX2_personGoesOn_5 : decode cX2_personGoesOn 5 = .ok (.aload_n 0, 1) := by decide +kernel
theorem dX2_personGoesOn_6 : decode cX2_personGoesOn 6 = .ok (.getfield 46, 3) := by decide +kernel
theorem dX2_personGoesOn_9 : decode cX2_personGoesOn 9 = .ok (.tableswitch 105 1 4 #[31, 58, 72, 91], 31) := by decide +kernel
theorem dX2_personGoesOn_40 : decode cX2_personGoesOn 40 = .ok (.aload_n 0, 1) := by decide +kernel
theorem dX2_personGoesOn_41 : decode cX2_personGoesOn 41 = .ok (.getfield 18, 3) := by decide +kernel
theorem dX2_personGoesOn_44 : decode cX2_personGoesOn 44 = .ok (.iload_n 1, 1) := by decide +kernel
theorem dX2_personGoesOn_45 : decode cX2_personGoesOn 45 = .ok (.iload_n 2, 1) := by decide +kernel
theorem dX2_personGoesOn_46 : decode cX2_personGoesOn 46 = .ok (.invokestatic 71, 3) := by decide +kernel
theorem dX2_personGoesOn_49 : decode cX2_personGoesOn 49 = .ok (.iastore, 1) := by decide +kernel
theorem dX2_personGoesOn_50 : decode cX2_personGoesOn 50 = .ok (.aload_n 0, 1) := by decide +kernel
theorem dX2_personGoesOn_51 : decode cX2_personGoesOn 51 = .ok (.getfield 18, 3) := by decide +kernel
theorem dX2_personGoesOn_54 : decode cX2_personGoesOn 54 = .ok (.iload_n 1, 1) := by decide +kernel
theorem dX2_personGoesOn_55 : decode cX2_personGoesOn 55 = .ok (.iaload, 1) := by decide +kernel
theorem dX2_personGoesOn_56 : decode cX2_personGoesOn 56 = .ok (.bipush (-9), 2) := by decide +kernel
theorem dX2_personGoesOn_58 : decode cX2_personGoesOn 58 = .ok (.if_icmp .eq 7, 3) := by decide +kernel
theorem dX2_personGoesOn_61 : decode cX2_personGoesOn 61 = .ok (.iconst 1, 1) := by decide +kernel
theorem dX2_personGoesOn_62 : decode cX2_personGoesOn 62 = .ok (.goto 4, 3) := by decide +kernel
theorem dX2_personGoesOn_65 : decode cX2_personGoesOn 65 = .ok (.iconst 0, 1) := by decide +kernel
theorem dX2_personGoesOn_66 : decode cX2_personGoesOn 66 = .ok (.ireturn, 1) := by decide +kernel
theorem dX2_personGoesOn_67 : decode cX2_personGoesOn 67 = .ok (.aload_n 0, 1) := by decide +kernel
theorem dX2_personGoesOn_68 : decode cX2_personGoesOn 68 = .ok (.getfield 21, 3) := by decide +kernel
theorem dX2_personGoesOn_71 : decode cX2_personGoesOn 71 = .ok (.iload_n 1, 1) := by decide +kernel
theorem dX2_personGoesOn_72 : decode cX2_personGoesOn 72 = .ok (.iload_n 3, 1) := by decide +kernel
theorem dX2_personGoesOn_73 : decode cX2_personGoesOn 73 = .ok (.iastore, 1) := by decide +kernel
theorem dX2_personGoesOn_74 : decode cX2_personGoesOn 74 = .ok (.iload_n 3, 1) := by decide +kernel
theorem dX2_personGoesOn_75 : decode cX2_personGoesOn 75 = .ok (.iconst 0, 1) := by decide +kernel
theorem dX2_personGoesOn_76 : decode cX2_personGoesOn 76 = .ok (.iconst 1, 1) := by decide +kernel
theorem dX2_personGoesOn_77 : decode cX2_personGoesOn 77 = .ok (.invokestatic 67, 3) := by decide +kernel
theorem dX2_personGoesOn_80 : decode cX2_personGoesOn 80 = .ok (.ireturn, 1) := by decide +kernel
theorem dX2_personGoesOn_81 : decode cX2_personGoesOn 81 = .ok (.aload_n 0, 1) := by decide +kernel
theorem dX2_personGoesOn_82 : decode cX2_personGoesOn 82 = .ok (.getfield 24, 3) := by decide +kernel
theorem dX2_personGoesOn_85 : decode cX2_personGoesOn 85 = .ok (.iload_n 1, 1) := by decide +kernel
theorem dX2_personGoesOn_86 : decode cX2_personGoesOn 86 = .ok (.iload_n 3, 1) := by decide +kernel
theorem dX2_personGoesOn_87 : decode cX2_personGoesOn 87 = .ok (.iastore, 1) := by decide +kernel
theorem dX2_personGoesOn_88 : decode cX2_personGoesOn 88 = .ok (.iload_n 3, 1) := by decide +kernel
theorem dX2_personGoesOn_89 : decode cX2_personGoesOn 89 = .ok (.iconst 0, 1) := by decide +kernel
theorem dX2_personGoesOn_90 : decode cX2_personGoesOn 90 = .ok (.aload_n 0, 1) := by decide +kernel
theorem dX2_personGoesOn_91 : decode cX2_personGoesOn 91 = .ok (.getfield 37, 3) := by decide +kernel
theorem dX2_personGoesOn_94 : decode cX2_personGoesOn 94 = .ok (.iconst 1, 1) := by decide +kernel
theorem dX2_personGoesOn_95 : decode cX2_personGoesOn 95 = .ok (.isub, 1) := by decide +kernel
theorem dX2_personGoesOn_96 : decode cX2_personGoesOn 96 = .ok (.invokestatic 67, 3) := by decide +kernel
theorem dX2_personGoesOn_99 : decode cX2_personGoesOn 99 = .ok (.ireturn, 1) := by decide +kernel
theorem dX2_personGoesOn_100 : decode cX2_personGoesOn 100 = .ok (.aload_n 0, 1) := by decide +kernel
theorem dX2_personGoesOn_101 : decode cX2_personGoesOn 101 = .ok (.getfield 27, 3) := by decide +kernel
theorem dX2_personGoesOn_104 : decode cX2_personGoesOn 104 = .ok (.iload_n 1, 1) := by decide +kernel
theorem dX2_personGoesOn_105 : decode cX2_personGoesOn 105 = .ok (.iload_n 3, 1) := by decide +kernel
theorem dX2_personGoesOn_106 : decode cX2_personGoesOn 106 = .ok (.iastore, 1) := by decide +kernel
theorem dX2_personGoesOn_107 : decode cX2_personGoesOn 107 = .ok (.iload_n 3, 1) := by decide +kernel
theorem dX2_personGoesOn_108 : decode cX2_personGoesOn 108 = .ok (.iconst 0, 1) := by decide +kernel
theorem dX2_personGoesOn_109 : decode cX2_personGoesOn 109 = .ok (.iconst 5, 1) := by decide +kernel
theorem dX2_personGoesOn_110 : decode cX2_personGoesOn 110 = .ok (.invokestatic 67, 3) := by decide +kernel
theorem dX2_personGoesOn_113 : decode cX2_personGoesOn 113 = .ok (.ireturn, 1) := by decide +kernel
theorem dX2_personGoesOn_114 : decode cX2_personGoesOn 114 = .ok (.aload_n 0, 1) := by decide +kernel
theorem dX2_personGoesOn_115 : decode cX2_personGoesOn 115 = .ok (.getfield 30, 3) := by decide +kernel
theorem dX2_personGoesOn_118 : decode cX2_personGoesOn 118 = .ok (.iload_n 1, 1) := by decide +kernel
theorem dX2_personGoesOn_119 : decode cX2_personGoesOn 119 = .ok (.iload_n 3, 1) := by decide +kernel
theorem dX2_personGoesOn_120 : decode cX2_personGoesOn 120 = .ok (.iastore, 1) := by decide +kernel
theorem dX2_personGoesOn_121 : decode cX2_personGoesOn 121 = .ok (.aload_n 0, 1) := by decide +kernel
theorem dX2_personGoesOn_122 : decode cX2_personGoesOn 122 = .ok (.iconst 3, 1) := by decide +kernel
theorem dX2_personGoesOn_123 : decode cX2_personGoesOn 123 = .ok (.putfield 43, 3) := by decide +kernel
theorem dX2_personGoesOn_126 : decode cX2_personGoesOn 126 = .ok (.iload_n 3, 1) := by decide +kernel
theorem dX2_personGoesOn_127 : decode cX2_personGoesOn 127 = .ok (.ifCond .lt 7, 3) := by decide +kernel
theorem dX2_personGoesOn_130 : decode cX2_personGoesOn 130 = .ok (.iconst 1, 1) := by decide +kernel
theorem dX2_personGoesOn_131 : decode cX2_personGoesOn 131 = .ok (.goto 4, 3) := by decide +kernel
theorem dX2_personGoesOn_134 : decode cX2_personGoesOn 134 = .ok (.iconst 0, 1) := by decide +kernel
theorem dX2_personGoesOn_135 : decode cX2_personGoesOn 135 = .ok (.ireturn, 1) := by decide +kernel
theorem dX2_isIn_0 : decode cX2_isIn 0 = .ok (.iload_n 0, 1) := by decide +kernel
theorem dX2_isIn_1 : decode cX2_isIn 1 = .ok (.iload_n 1, 1) := by decide +kernel
theorem dX2_isIn_2 : decode cX2_isIn 2 = .ok (.if_icmp .lt 12, 3) := by decide +kernel
theorem dX2_isIn_5 : decode cX2_isIn 5 = .ok (.iload_n 0, 1) := by decide +kernel
theorem dX2_isIn_6 : decode cX2_isIn 6 = .ok (.iload_n 2, 1) := by decide +kernel
theorem dX2_isIn_7 : decode cX2_isIn 7 = .ok (.if_icmp .gt 7, 3) := by decide +kernel
theorem dX2_isIn_10 : decode cX2_isIn 10 = .ok (.iconst 1, 1) := by decide +kernel
theorem dX2_isIn_11 : decode cX2_isIn 11 = .ok (.goto 4, 3) := by decide +kernel
theorem dX2_isIn_14 : decode cX2_isIn 14 = .ok (.iconst 0, 1) := by decide +kernel
theorem dX2_isIn_15 : decode cX2_isIn 15 = .ok (.ireturn, 1) := by decide +kernel
theorem dX2_digitOf_0 : decode cX2_digitOf 0 = .ok (.iload_n 0, 1) := by decide +kernel
theorem dX2_digitOf_1 : decode cX2_digitOf 1 = .ok (.bipush 48, 2) := by decide +kernel
theorem dX2_digitOf_3 : decode cX2_digitOf 3 = .ok (.bipush 57, 2) := by decide +kernel
theorem dX2_digitOf_5 : decode cX2_digitOf 5 = .ok (.invokestatic 67, 3) := by decide +kernel
theorem dX2_digitOf_8 : decode cX2_digitOf 8 = .ok (.ifCond .eq 10, 3) := by decide +kernel
theorem dX2_digitOf_11 : decode cX2_digitOf 11 = .ok (.iload_n 0, 1) := by decide +kernel
theorem dX2_digitOf_12 : decode cX2_digitOf 12 = .ok (.bipush 48, 2) := by decide +kernel
theorem dX2_digitOf_14 : decode cX2_digitOf 14 = .ok (.isub, 1) := by decide +kernel
theorem dX2_digitOf_15 : decode cX2_digitOf 15 = .ok (.goto 5, 3) := by decide +kernel
theorem dX2_digitOf_18 : decode cX2_digitOf 18 = .ok (.bipush (-9), 2) := by decide +kernel
theorem dX2_digitOf_20 : decode cX2_digitOf 20 = .ok (.ireturn, 1) := by decide +kernel
theorem dX2_kindOf_0 : decode cX2_kindOf 0 = .ok (.iload_n 0, 1) := by decide +kernel
theorem dX2_kindOf_1 : decode cX2_kindOf 1 = .ok (.tableswitch 41 100 104 #[35, 41, 39, 41, 37], 35) := by decide +kernel
theorem dX2_kindOf_36 : decode cX2_kindOf 36 = .ok (.iconst 0, 1) := by decide +kernel
theorem dX2_kindOf_37 : decode cX2_kindOf 37 = .ok (.ireturn, 1) := by decide +kernel
theorem dX2_kindOf_38 : decode cX2_kindOf 38 = .ok (.iconst 1, 1) := by decide +kernel
theorem dX2_kindOf_39 : decode cX2_kindOf 39 = .ok (.ireturn, 1) := by decide +kernel
theorem dX2_kindOf_40 : decode cX2_kindOf 40 = .ok (.iconst 2, 1) := by decide +kernel
theorem dX2_kindOf_41 : decode cX2_kindOf 41 = .ok (.ireturn, 1) := by decide +kernel
theorem dX2_kindOf_42 : decode cX2_kindOf 42 = .ok (.bipush (-9), 2) := by decide +kernel
theorem dX2_kindOf_44 : decode cX2_kindOf 44 = .ok (.ireturn, 1) := by decide +kernel
theorem dX2_breaksBy_0 : decode cX2_breaksBy 0 = .ok (.iload_n 2, 1) := by decide +kernel
theorem dX2_breaksBy_1 : decode cX2_breaksBy 1 = .ok (.bipush 10, 2) := by decide +kernel
theorem dX2_breaksBy_3 : decode cX2_breaksBy 3 = .ok (.aload_n 0, 1) := by decide +kernel
theorem dX2_breaksBy_4 : decode cX2_breaksBy 4 = .ok (.getfield 15, 3) := by decide +kernel
theorem dX2_breaksBy_7 : decode cX2_breaksBy 7 = .ok (.iload_n 1, 1) := by decide +kernel
theorem dX2_breaksBy_8 : decode cX2_breaksBy 8 = .ok (.iaload, 1) := by decide +kernel
theorem dX2_breaksBy_9 : decode cX2_breaksBy 9 = .ok (.imul, 1) := by decide +kernel
theorem dX2_breaksBy_10 : decode cX2_breaksBy 10 = .ok (.if_icmp .lt 7, 3) := by decide +kernel
theorem dX2_breaksBy_13 : decode cX2_breaksBy 13 = .ok (.iconst 1, 1) := by decide +kernel
theorem dX2_breaksBy_14 : decode cX2_breaksBy 14 = .ok (.goto 4, 3) := by decide +kernel
theorem dX2_breaksBy_17 : decode cX2_breaksBy 17 = .ok (.iconst 0, 1) := by decide +kernel
theorem dX2_breaksBy_18 : decode cX2_breaksBy 18 = .ok (.ireturn, 1) := by decide +kernel
theorem dX2_dwellersOf_0 : decode cX2_dwellersOf 0 = .ok (.iconst 0, 1) := by decide +kernel
theorem dX2_dwellersOf_1 : decode cX2_dwellersOf 1 = .ok (.istore_n 2, 1) := by decide +kernel
theorem dX2_dwellersOf_2 : decode cX2_dwellersOf 2 = .ok (.iconst 0, 1) := by decide +kernel
theorem dX2_dwellersOf_3 : decode cX2_dwellersOf 3 = .ok (.istore_n 3, 1) := by decide +kernel
theorem dX2_dwellersOf_4 : decode cX2_dwellersOf 4 = .ok (.iload_n 3, 1) := by decide +kernel
theorem dX2_dwellersOf_5 : decode cX2_dwellersOf 5 = .ok (.aload_n 0, 1) := by decide +kernel
theorem dX2_dwellersOf_6 : decode cX2_dwellersOf 6 = .ok (.getfield 40, 3) := by decide +kernel
theorem dX2_dwellersOf_9 : decode cX2_dwellersOf 9 = .ok (.if_icmp .ge 29, 3) := by decide +kernel
theorem dX2_dwellersOf_12 : decode cX2_dwellersOf 12 = .ok (.iload_n 2, 1) := by decide +kernel
theorem dX2_dwellersOf_13 : decode cX2_dwellersOf 13 = .ok (.aload_n 0, 1) := by decide +kernel
theorem dX2_dwellersOf_14 : decode cX2_dwellersOf 14 = .ok (.getfield 24, 3) := by decide +kernel
theorem dX2_dwellersOf_17 : decode cX2_dwellersOf 17 = .ok (.iload_n 3, 1) := by decide +kernel
theorem dX2_dwellersOf_18 : decode cX2_dwellersOf 18 = .ok (.iaload, 1) := by decide +kernel
theorem dX2_dwellersOf_19 : decode cX2_dwellersOf 19 = .ok (.iload_n 1, 1) := by decide +kernel
theorem dX2_dwellersOf_20 : decode cX2_dwellersOf 20 = .ok (.if_icmp .ne 9, 3) := by decide +kernel
theorem dX2_dwellersOf_23 : decode cX2_dwellersOf 23 = .ok (.iconst 1, 1) := by decide +kernel
theorem dX2_dwellersOf_24 : decode cX2_dwellersOf 24 = .ok (.iload_n 3, 1) := by decide +kernel
theorem dX2_dwellersOf_25 : decode cX2_dwellersOf 25 = .ok (.ishl, 1) := by decide +kernel
theorem dX2_dwellersOf_26 : decode cX2_dwellersOf 26 = .ok (.goto 4, 3) := by decide +kernel
theorem dX2_dwellersOf_29 : decode cX2_dwellersOf 29 = .ok (.iconst 0, 1) := by decide +kernel
theorem dX2_dwellersOf_30 : decode cX2_dwellersOf 30 = .ok (.ior, 1) := by decide +kernel
theorem dX2_dwellersOf_31 : decode cX2_dwellersOf 31 = .ok (.istore_n 2, 1) := by decide +kernel
theorem dX2_dwellersOf_32 : decode cX2_dwellersOf 32 = .ok (.iinc 3 1, 3) := by decide +kernel
theorem dX2_dwellersOf_35 : decode cX2_dwellersOf 35 = .ok (.goto (-31), 3) := by decide +kernel
theorem dX2_dwellersOf_38 : decode cX2_dwellersOf 38 = .ok (.iload_n 2, 1) := by decide +kernel
theorem dX2_dwellersOf_39 : decode cX2_dwellersOf 39 = .ok (.ireturn, 1) := by decide +kernel
theorem dX2_townIn_0 : decode cX2_townIn 0 = .ok (.iload_n 1, 1) := by decide +kernel
theorem dX2_townIn_1 : decode cX2_townIn 1 = .ok (.iload_n 2, 1) := by decide +kernel
theorem dX2_townIn_2 : decode cX2_townIn 2 = .ok (.if_icmp .ge 7, 3) := by decide +kernel
theorem dX2_townIn_5 : decode cX2_townIn 5 = .ok (.iconst 0, 1) := by decide +kernel
theorem dX2_townIn_6 : decode cX2_townIn 6 = .ok (.goto 4, 3) := by decide +kernel
theorem dX2_townIn_9 : decode cX2_townIn 9 = .ok (.iconst 1, 1) := by decide +kernel
theorem dX2_townIn_10 : decode cX2_townIn 10 = .ok (.istore_n 3, 1) := by decide +kernel
theorem dX2_townIn_11 : decode cX2_townIn 11 = .ok (.iconst 0, 1) := by decide +kernel
theorem dX2_townIn_12 : decode cX2_townIn 12 = .ok (.istore 4, 2) := by decide +kernel
theorem dX2_townIn_14 : decode cX2_townIn 14 = .ok (.iconst 0, 1) := by decide +kernel
theorem dX2_townIn_15 : decode cX2_townIn 15 = .ok (.istore 5, 2) := by decide +kernel
theorem dX2_townIn_17 : decode cX2_townIn 17 = .ok (.iload 5, 2) := by decide +kernel
theorem dX2_townIn_19 : decode cX2_townIn 19 = .ok (.aload_n 0, 1) := by decide +kernel
theorem dX2_townIn_20 : decode cX2_townIn 20 = .ok (.getfield 40, 3) := by decide +kernel
theorem dX2_townIn_23 : decode cX2_townIn 23 = .ok (.if_icmp .ge 33, 3) := by decide +kernel
theorem dX2_townIn_26 : decode cX2_townIn 26 = .ok (.iload 4, 2) := by decide +kernel
theorem dX2_townIn_28 : decode cX2_townIn 28 = .ok (.aload_n 0, 1) := by decide +kernel
theorem dX2_townIn_29 : decode cX2_townIn 29 = .ok (.getfield 21, 3) := by decide +kernel
theorem dX2_townIn_32 : decode cX2_townIn 32 = .ok (.iload 5, 2) := by decide +kernel
theorem dX2_townIn_34 : decode cX2_townIn 34 = .ok (.iaload, 1) := by decide +kernel
theorem dX2_townIn_35 : decode cX2_townIn 35 = .ok (.iload_n 3, 1) := by decide +kernel
theorem dX2_townIn_36 : decode cX2_townIn 36 = .ok (.if_icmp .ne 10, 3) := by decide +kernel
theorem dX2_townIn_39 : decode cX2_townIn 39 = .ok (.iconst 1, 1) := by decide +kernel
theorem dX2_townIn_40 : decode cX2_townIn 40 = .ok (.iload 5, 2) := by decide +kernel
theorem dX2_townIn_42 : decode cX2_townIn 42 = .ok (.ishl, 1) := by decide +kernel
theorem dX2_townIn_43 : decode cX2_townIn 43 = .ok (.goto 4, 3) := by decide +kernel
theorem dX2_townIn_46 : decode cX2_townIn 46 = .ok (.iconst 0, 1) := by decide +kernel
theorem dX2_townIn_47 : decode cX2_townIn 47 = .ok (.ior, 1) := by decide +kernel
theorem dX2_townIn_48 : decode cX2_townIn 48 = .ok (.istore 4, 2) := by decide +kernel
theorem dX2_townIn_50 : decode cX2_townIn 50 = .ok (.iinc 5 1, 3) := by decide +kernel
theorem dX2_townIn_53 : decode cX2_townIn 53 = .ok (.goto (-36), 3) := by decide +kernel
theorem dX2_townIn_56 : decode cX2_townIn 56 = .ok (.iload 4, 2) := by decide +kernel
theorem dX2_townIn_58 : decode cX2_townIn 58 = .ok (.ireturn, 1) := by decide +kernel
theorem dX3_init_0 : decode cX3_init 0 = .ok (.aload_n 0, 1) := by decide +kernel
theorem dX3_init_1 : decode cX3_init 1 = .ok (.invokespecial 3, 3) := by decide +kernel
theorem dX3_init_4 : decode cX3_init 4 = .ok (.aload_n 0, 1) := by decide +kernel
theorem dX3_init_5 : decode cX3_init 5 = .ok (.sipush 560, 3) := by decide +kernel
theorem dX3_init_8 : decode cX3_init 8 = .ok (.newarray .int, 2) := by decide +kernel
theorem dX3_init_10 : decode cX3_init 10 = .ok (.putfield 9, 3) := by decide +kernel
theorem dX3_init_13 : decode cX3_init 13 = .ok (.aload_n 0, 1) := by decide +kernel
theorem dX3_init_14 : decode cX3_init 14 = .ok (.sipush 560, 3) := by decide +kernel
theorem dX3_init_17 : decode cX3_init 17 = .ok (.newarray .int, 2) := by decide +kernel
theorem dX3_init_19 : decode cX3_init 19 = .ok (.putfield 15, 3) := by decide +kernel
theorem dX3_init_22 : decode cX3_init 22 = .ok (.aload_n 0, 1) := by decide +kernel
theorem dX3_init_23 : decode cX3_init 23 = .ok (.sipush 140, 3) := by decide +kernel
theorem dX3_init_26 : decode cX3_init 26 = .ok (.newarray .int, 2) := by decide +kernel
theorem dX3_init_28 : decode cX3_init 28 = .ok (.putfield 18, 3) := by decide +kernel
theorem dX3_init_31 : decode cX3_init 31 = .ok (.aload_n 0, 1) := by decide +kernel
theorem dX3_init_32 : decode cX3_init 32 = .ok (.iconst 4, 1) := by decide +kernel
theorem dX3_init_33 : decode cX3_init 33 = .ok (.newarray .int, 2) := by decide +kernel
theorem dX3_init_35 : decode cX3_init 35 = .ok (.putfield 21, 3) := by decide +kernel
theorem dX3_init_38 : decode cX3_init 38 = .ok (.aload_n 0, 1) := by decide +kernel
theorem dX3_init_39 : decode cX3_init 39 = .ok (.iconst 4, 1) := by decide +kernel
theorem dX3_init_40 : decode cX3_init 40 = .ok (.newarray .int, 2) := by decide +kernel
theorem dX3_init_42 : decode cX3_init 42 = .ok (.putfield 24, 3) := by decide +kernel
theorem dX3_init_45 : decode cX3_init 45 = .ok (.aload_n 0, 1) := by decide +kernel
theorem dX3_init_46 : decode cX3_init 46 = .ok (.bipush 6, 2) := by decide +kernel
theorem dX3_init_48 : decode cX3_init 48 = .ok (.newarray .int, 2) := by decide +kernel
theorem dX3_init_50 : decode cX3_init 50 = .ok (.putfield 27, 3) := by decide +kernel
theorem dX3_init_53 : decode cX3_init 53 = .ok (.aload_n 0, 1) := by decide +kernel
theorem dX3_init_54 : decode cX3_init 54 = .ok (.iconst 0, 1) := by decide +kernel
theorem dX3_init_55 : decode cX3_init 55 = .ok (.putfield 30, 3) := by decide +kernel
theorem dX3_init_58 : decode cX3_init 58 = .ok (.aload_n 0, 1) := by decide +kernel
theorem dX3_init_59 : decode cX3_init 59 = .ok (.iconst 0, 1) := by decide +kernel
theorem dX3_init_60 : decode cX3_init 60 = .ok (.putfield 34, 3) := by decide +kernel
theorem dX3_init_63 : decode cX3_init 63 = .ok (.aload_n 0, 1) := by decide +kernel
theorem dX3_init_64 : decode cX3_init 64 = .ok (.bipush (-9), 2) := by decide +kernel
theorem dX3_init_66 : decode cX3_init 66 = .ok (.putfield 37, 3) := by decide +kernel
theorem dX3_init_69 : decode cX3_init 69 = .ok (.aload_n 0, 1) := by decide +kernel
theorem dX3_init_70 : decode cX3_init 70 = .ok (.iconst 0, 1) := by decide +kernel
theorem dX3_init_71 : decode cX3_init 71 = .ok (.putfield 40, 3) := by decide +kernel
theorem dX3_init_74 : decode cX3_init 74 = .ok (.aload_n 0, 1) := by decide +kernel
theorem dX3_init_75 : decode cX3_init 75 = .ok (.aload_n 1, 1) := by decide +kernel
theorem dX3_init_76 : decode cX3_init 76 = .ok (.putfield 43, 3) := by decide +kernel
theorem dX3_init_79 : decode cX3_init 79 = .ok (.aload_n 0, 1) := by decide +kernel
theorem dX3_init_80 : decode cX3_init 80 = .ok (.aload_n 2, 1) := by decide +kernel
theorem dX3_init_81 : decode cX3_init 81 = .ok (.putfield 47, 3) := by decide +kernel
theorem dX3_init_84 : decode cX3_init 84 = .ok (.return_, 1) := by decide +kernel
theorem dX3_prepare_0 : decode cX3_prepare 0 = .ok (.aload_n 0, 1) := by decide +kernel
theorem dX3_prepare_1 : decode cX3_prepare 1 = .ok (.aload_n 1, 1) := by decide +kernel
theorem dX3_prepare_2 : decode cX3_prepare 2 = .ok (.putfield 43, 3) := by decide +kernel
theorem dX3_prepare_5 : decode cX3_prepare 5 = .ok (.aload_n 0, 1) := by decide +kernel
theorem dX3_prepare_6 : decode cX3_prepare 6 = .ok (.iload_n 2, 1) := by decide +kernel
theorem dX3_prepare_7 : decode cX3_prepare 7 = .ok (.putfield 30, 3) := by decide +kernel
theorem dX3_prepare_10 : decode cX3_prepare 10 = .ok (.aload_n 0, 1) := by decide +kernel
theorem dX3_prepare_11 : decode cX3_prepare 11 = .ok (.aload_n 0, 1) := by decide +kernel
theorem dX3_prepare_12 : decode cX3_prepare 12 = .ok (.getfield 43, 3) := by decide +kernel
theorem dX3_prepare_15 : decode cX3_prepare 15 = .ok (.getfield 51, 3) := by decide +kernel
theorem dX3_prepare_18 : decode cX3_prepare 18 = .ok (.putfield 34, 3) := by decide +kernel
theorem dX3_prepare_21 : decode cX3_prepare 21 = .ok (.aload_n 0, 1) := by decide +kernel
theorem dX3_prepare_22 : decode cX3_prepare 22 = .ok (.bipush (-9), 2) := by decide +kernel
theorem dX3_prepare_24 : decode cX3_prepare 24 = .ok (.putfield 37, 3) := by decide +kernel
theorem dX3_prepare_27 : decode cX3_prepare 27 = .ok (.aload_n 0, 1) := by decide +kernel
theorem dX3_prepare_28 : decode cX3_prepare 28 = .ok (.iconst 0, 1) := by decide +kernel
theorem dX3_prepare_29 : decode cX3_prepare 29 = .ok (.putfield 40, 3) := by decide +kernel
theorem dX3_prepare_32 : decode cX3_prepare 32 = .ok (.iconst 0, 1) := by decide +kernel
theorem dX3_prepare_33 : decode cX3_prepare 33 = .ok (.istore_n 3, 1) := by decide +kernel
theorem dX3_prepare_34 : decode cX3_prepare 34 = .ok (.iload_n 3, 1) := by decide +kernel
theorem dX3_prepare_35 : decode cX3_prepare 35 = .ok (.aload_n 0, 1) := by decide +kernel
theorem dX3_prepare_36 : decode cX3_prepare 36 = .ok (.getfield 43, 3) := by decide +kernel
theorem dX3_prepare_39 : decode cX3_prepare 39 = .ok (.getfield 54, 3) := by decide +kernel
theorem dX3_prepare_42 : decode cX3_prepare 42 = .ok (.if_icmp .ge 36, 3) := by decide +kernel
theorem dX3_prepare_45 : decode cX3_prepare 45 = .ok (.aload_n 0, 1) := by decide +kernel
theorem dX3_prepare_46 : decode cX3_prepare 46 = .ok (.getfield 27, 3) := by decide +kernel
theorem dX3_prepare_49 : decode cX3_prepare 49 = .ok (.iload_n 3, 1) := by decide +kernel
theorem dX3_prepare_50 : decode cX3_prepare 50 = .ok (.aload_n 0, 1) := by decide +kernel
theorem dX3_prepare_51 : decode cX3_prepare 51 = .ok (.getfield 43, 3) := by decide +kernel
theorem dX3_prepare_54 : decode cX3_prepare 54 = .ok (.getfield 57, 3) := by decide +kernel
theorem dX3_prepare_57 : decode cX3_prepare 57 = .ok (.iload_n 3, 1) := by decide +kernel
theorem dX3_prepare_58 : decode cX3_prepare 58 = .ok (.iaload, 1) := by decide +kernel
theorem dX3_prepare_59 : decode cX3_prepare 59 = .ok (.aload_n 0, 1) := by decide +kernel
theorem dX3_prepare_60 : decode cX3_prepare 60 = .ok (.getfield 43, 3) := by decide +kernel
theorem dX3_prepare_63 : decode cX3_prepare 63 = .ok (.getfield 60, 3) := by decide +kernel
theorem dX3_prepare_66 : decode cX3_prepare 66 = .ok (.iload_n 3, 1) := by decide +kernel
theorem dX3_prepare_67 : decode cX3_prepare 67 = .ok (.iaload, 1) := by decide +kernel
theorem dX3_prepare_68 : decode cX3_prepare 68 = .ok (.invokestatic 63, 3) := by decide +kernel
theorem dX3_prepare_71 : decode cX3_prepare 71 = .ok (.iastore, 1) := by decide +kernel
theorem dX3_prepare_72 : decode cX3_prepare 72 = .ok (.iinc 3 1, 3) := by decide +kernel
theorem dX3_prepare_75 : decode cX3_prepare 75 = .ok (.goto (-41), 3) := by decide +kernel
theorem dX3_prepare_78 : decode cX3_prepare 78 = .ok (.return_, 1) := by decide +kernel
theorem dX3_live_0 : decode cX3_live 0 = .ok (.aload_n 0, 1) := by decide +kernel
theorem dX3_live_1 : decode cX3_live 1 = .ok (.getfield 21, 3) := by decide +kernel
theorem dX3_live_4 : decode cX3_live 4 = .ok (.iconst 0, 1) := by decide +kernel
theorem dX3_live_5 : decode cX3_live 5 = .ok (.invokestatic 67, 3) := by decide +kernel
theorem dX3_live_8 : decode cX3_live 8 = .ok (.aload_n 0, 1) := by decide +kernel
theorem dX3_live_9 : decode cX3_live 9 = .ok (.getfield 24, 3) := by decide +kernel
theorem dX3_live_12 : decode cX3_live 12 = .ok (.iconst 0, 1) := by decide +kernel
theorem dX3_live_13 : decode cX3_live 13 = .ok (.invokestatic 67, 3) := by decide +kernel
theorem dX3_live_16 : decode cX3_live 16 = .ok (.aload_n 0, 1) := by decide +kernel
theorem dX3_live_17 : decode cX3_live 17 = .ok (.getfield 43, 3) := by decide +kernel
theorem dX3_live_20 : decode cX3_live 20 = .ok (.iconst 0, 1) := by decide +kernel
theorem dX3_live_21 : decode cX3_live 21 = .ok (.aload_n 0, 1) := by decide +kernel
theorem dX3_live_22 : decode cX3_live 22 = .ok (.getfield 34, 3) := by decide +kernel
theorem dX3_live_25 : decode cX3_live 25 = .ok (.invokevirtual 73, 3) := by decide +kernel
theorem dX3_live_28 : decode cX3_live 28 = .ok (.aload_n 0, 1) := by decide +kernel
theorem dX3_live_29 : decode cX3_live 29 = .ok (.getfield 30, 3) := by decide +kernel
theorem dX3_live_32 : decode cX3_live 32 = .ok (.iconst (-1), 1) := by decide +kernel
theorem dX3_live_33 : decode cX3_live 33 = .ok (.ixor, 1) := by decide +kernel
theorem dX3_live_34 : decode cX3_live 34 = .ok (.iand, 1) := by decide +kernel
theorem dX3_live_35 : decode cX3_live 35 = .ok (.istore_n 3, 1) := by decide +kernel
theorem dX3_live_36 : decode cX3_live 36 = .ok (.aload_n 0, 1) := by decide +kernel
theorem dX3_live_37 : decode cX3_live 37 = .ok (.getfield 43, 3) := by decide +kernel
theorem dX3_live_40 : decode cX3_live 40 = .ok (.aload_n 0, 1) := by decide +kernel
theorem dX3_live_41 : decode cX3_live 41 = .ok (.getfield 34, 3) := by decide +kernel
theorem dX3_live_44 : decode cX3_live 44 = .ok (.aload_n 0, 1) := by decide +kernel
theorem dX3_live_45 : decode cX3_live 45 = .ok (.getfield 34, 3) := by decide +kernel
theorem dX3_live_48 : decode cX3_live 48 = .ok (.invokevirtual 73, 3) := by decide +kernel
theorem dX3_live_51 : decode cX3_live 51 = .ok (.aload_n 0, 1) := by decide +kernel
theorem dX3_live_52 : decode cX3_live 52 = .ok (.getfield 30, 3) := by decide +kernel
theorem dX3_live_55 : decode cX3_live 55 = .ok (.iconst (-1), 1) := by decide +kernel
theorem dX3_live_56 : decode cX3_live 56 = .ok (.ixor, 1) := by decide +kernel
theorem dX3_live_57 : decode cX3_live 57 = .ok (.iand, 1) := by decide +kernel
theorem dX3_live_58 : decode cX3_live 58 = .ok (.istore 4, 2) := by decide +kernel
theorem dX3_live_60 : decode cX3_live 60 = .ok (.iconst 0, 1) := by decide +kernel
theorem dX3_live_61 : decode cX3_live 61 = .ok (.istore 5, 2) := by decide +kernel
theorem dX3_live_63 : decode cX3_live 63 = .ok (.iload 5, 2) := by decide +kernel
theorem dX3_live_65 : decode cX3_live 65 = .ok (.iload_n 1, 1) := by decide +kernel
theorem dX3_live_66 : decode cX3_live 66 = .ok (.bipush 14, 2) := by decide +kernel
theorem dX3_live_68 : decode cX3_live 68 = .ok (.imul, 1) := by decide +kernel
theorem dX3_live_69 : decode cX3_live 69 = .ok (.if_icmp .ge 109, 3) := by decide +kernel
theorem dX3_live_72 : decode cX3_live 72 = .ok (.iload 5, 2) := by decide +kernel
theorem dX3_live_74 : decode cX3_live 74 = .ok (.sipush 140, 3) := by decide +kernel
theorem dX3_live_77 : decode cX3_live 77 = .ok (.if_icmp .ge 101, 3) := by decide +kernel
theorem dX3_live_80 : decode cX3_live 80 = .ok (.iload 5, 2) := by decide +kernel
theorem dX3_live_82 : decode cX3_live 82 = .ok (.bipush 14, 2) := by decide +kernel
theorem dX3_live_84 : decode cX3_live 84 = .ok (.irem, 1) := by decide +kernel
theorem dX3_live_85 : decode cX3_live 85 = .ok (.istore 6, 2) := by decide +kernel
theorem dX3_live_87 : decode cX3_live 87 = .ok (.iload 6, 2) := by decide +kernel
theorem dX3_live_89 : decode cX3_live 89 = .ok (.ifCond .ne 12, 3) := by decide +kernel
theorem dX3_live_92 : decode cX3_live 92 = .ok (.aload_n 0, 1) := by decide +kernel
theorem dX3_live_93 : decode cX3_live 93 = .ok (.iload 5, 2) := by decide +kernel
theorem dX3_live_95 : decode cX3_live 95 = .ok (.bipush 14, 2) := by decide +kernel
theorem dX3_live_97 : decode cX3_live 97 = .ok (.idiv, 1) := by decide +kernel
theorem dX3_live_98 : decode cX3_live 98 = .ok (.invokevirtual 76, 3) := by decide +kernel
theorem dX3_live_101 : decode cX3_live 101 = .ok (.iload 6, 2) := by decide +kernel
theorem dX3_live_103 : decode cX3_live 103 = .ok (.aload_n 0, 1) := by decide +kernel
theorem dX3_live_104 : decode cX3_live 104 = .ok (.getfield 34, 3) := by decide +kernel
theorem dX3_live_107 : decode cX3_live 107 = .ok (.if_icmp .ge 7, 3) := by decide +kernel
theorem dX3_live_110 : decode cX3_live 110 = .ok (.iload_n 3, 1) := by decide +kernel
theorem dX3_live_111 : decode cX3_live 111 = .ok (.goto 5, 3) := by decide +kernel
theorem dX3_live_114 : decode cX3_live 114 = .ok (.iload 4, 2) := by decide +kernel
theorem dX3_live_116 : decode cX3_live 116 = .ok (.istore 7, 2) := by decide +kernel
theorem dX3_live_118 : decode cX3_live 118 = .ok (.aload_n 0, 1) := by decide +kernel
theorem dX3_live_119 : decode cX3_live 119 = .ok (.iload 7, 2) := by decide +kernel
theorem dX3_live_121 : decode cX3_live 121 = .ok (.invokevirtual 80, 3) := by decide +kernel
theorem dX3_live_124 : decode cX3_live 124 = .ok (.istore 8, 2) := by decide +kernel
theorem dX3_live_126 : decode cX3_live 126 = .ok (.iload 6, 2) := by decide +kernel
theorem dX3_live_128 : decode cX3_live 128 = .ok (.aload_n 0, 1) := by decide +kernel
theorem dX3_live_129 : decode cX3_live 129 = .ok (.getfield 34, 3) := by decide +kernel
theorem dX3_live_132 : decode cX3_live 132 = .ok (.iconst 1, 1) := by decide +kernel
theorem dX3_live_133 : decode cX3_live 133 = .ok (.isub, 1) := by decide +kernel
theorem dX3_live_134 : decode cX3_live 134 = .ok (.if_icmp .eq 10, 3) := by decide +kernel
theorem dX3_live_137 : decode cX3_live 137 = .ok (.iload 6, 2) := by decide +kernel
theorem dX3_live_139 : decode cX3_live 139 = .ok (.bipush 13, 2) := by decide +kernel
theorem dX3_live_141 : decode cX3_live 141 = .ok (.if_icmp .ne 14, 3) := by decide +kernel
theorem dX3_live_144 : decode cX3_live 144 = .ok (.aload_n 0, 1) := by decide +kernel
theorem dX3_live_145 : decode cX3_live 145 = .ok (.iload 7, 2) := by decide +kernel
theorem dX3_live_147 : decode cX3_live 147 = .ok (.iload 8, 2) := by decide +kernel
theorem dX3_live_149 : decode cX3_live 149 = .ok (.iconst (-1), 1) := by decide +kernel
theorem dX3_live_150 : decode cX3_live 150 = .ok (.ixor, 1) := by decide +kernel
theorem dX3_live_151 : decode cX3_live 151 = .ok (.iand, 1) := by decide +kernel
theorem dX3_live_152 : decode cX3_live 152 = .ok (.invokevirtual 84, 3) := by decide +kernel
theorem dX3_live_155 : decode cX3_live 155 = .ok (.aload_n 0, 1) := by decide +kernel
theorem dX3_live_156 : decode cX3_live 156 = .ok (.iload 5, 2) := by decide +kernel
theorem dX3_live_158 : decode cX3_live 158 = .ok (.iload 8, 2) := by decide +kernel
theorem dX3_live_160 : decode cX3_live 160 = .ok (.invokevirtual 87, 3) := by decide +kernel
theorem dX3_live_163 : decode cX3_live 163 = .ok (.iload 8, 2) := by decide +kernel
theorem dX3_live_165 : decode cX3_live 165 = .ok (.iload_n 2, 1) := by decide +kernel
theorem dX3_live_166 : decode cX3_live 166 = .ok (.iand, 1) := by decide +kernel
theorem dX3_live_167 : decode cX3_live 167 = .ok (.ifCond .eq 5, 3) := by decide +kernel
theorem dX3_live_170 : decode cX3_live 170 = .ok (.iconst 0, 1) := by decide +kernel
theorem dX3_live_171 : decode cX3_live 171 = .ok (.ireturn, 1) := by decide +kernel
theorem dX3_live_172 : decode cX3_live 172 = .ok (.iinc 5 1, 3) := by decide +kernel
theorem dX3_live_175 : decode cX3_live 175 = .ok (.goto (-112), 3) := by decide +kernel
theorem dX3_live_178 : decode cX3_live 178 = .ok (.iconst 1, 1) := by decide +kernel
theorem dX3_live_179 : decode cX3_live 179 = .ok (.ireturn, 1) := by decide +kernel
theorem dX3_bringWood_0 : decode cX3_bringWood 0 = .ok (.iconst 0, 1) := by decide +kernel
theorem dX3_bringWood_1 : decode cX3_bringWood 1 = .ok (.istore_n 2, 1) := by decide +kernel
theorem dX3_bringWood_2 : decode cX3_bringWood 2 = .ok (.iload_n 2, 1) := by decide +kernel
theorem dX3_bringWood_3 : decode cX3_bringWood 3 = .ok (.aload_n 0, 1) := by decide +kernel
theorem dX3_bringWood_4 : decode cX3_bringWood 4 = .ok (.getfield 43, 3) := by decide +kernel
theorem dX3_bringWood_7 : decode cX3_bringWood 7 = .ok (.getfield 91, 3) := by decide +kernel
theorem dX3_bringWood_10 : decode cX3_bringWood 10 = .ok (.if_icmp .ge 73, 3) := by decide +kernel
theorem dX3_bringWood_13 : decode cX3_bringWood 13 = .ok (.iload_n 2, 1) := by decide +kernel
theorem dX3_bringWood_14 : decode cX3_bringWood 14 = .ok (.aload_n 0, 1) := by decide +kernel
theorem dX3_bringWood_15 : decode cX3_bringWood 15 = .ok (.getfield 37, 3) := by decide +kernel
theorem dX3_bringWood_18 : decode cX3_bringWood 18 = .ok (.if_icmp .ne 14, 3) := by decide +kernel
theorem dX3_bringWood_21 : decode cX3_bringWood 21 = .ok (.iload_n 1, 1) := by decide +kernel
theorem dX3_bringWood_22 : decode cX3_bringWood 22 = .ok (.ifCond .ne 10, 3) := by decide +kernel
theorem dX3_bringWood_25 : decode cX3_bringWood 25 = .ok (.aload_n 0, 1) := by decide +kernel
theorem dX3_bringWood_26 : decode cX3_bringWood 26 = .ok (.getfield 40, 3) := by decide +kernel
theorem dX3_bringWood_29 : decode cX3_bringWood 29 = .ok (.goto 4, 3) := by decide +kernel
theorem dX3_bringWood_32 : decode cX3_bringWood 32 = .ok (.iconst 0, 1) := by decide +kernel
theorem dX3_bringWood_33 : decode cX3_bringWood 33 = .ok (.istore_n 3, 1) := by decide +kernel
theorem dX3_bringWood_34 : decode cX3_bringWood 34 = .ok (.aload_n 0, 1) := by decide +kernel
theorem dX3_bringWood_35 : decode cX3_bringWood 35 = .ok (.getfield 21, 3) := by decide +kernel
theorem dX3_bringWood_38 : decode cX3_bringWood 38 = .ok (.iload_n 2, 1) := by decide +kernel
theorem dX3_bringWood_39 : decode cX3_bringWood 39 = .ok (.iaload, 1) := by decide +kernel
theorem dX3_bringWood_40 : decode cX3_bringWood 40 = .ok (.aload_n 0, 1) := by decide +kernel
theorem dX3_bringWood_41 : decode cX3_bringWood 41 = .ok (.getfield 43, 3) := by decide +kernel
theorem dX3_bringWood_44 : decode cX3_bringWood 44 = .ok (.getfield 94, 3) := by decide +kernel
theorem dX3_bringWood_47 : decode cX3_bringWood 47 = .ok (.iload_n 2, 1) := by decide +kernel
theorem dX3_bringWood_48 : decode cX3_bringWood 48 = .ok (.iaload, 1) := by decide +kernel
theorem dX3_bringWood_49 : decode cX3_bringWood 49 = .ok (.iadd, 1) := by decide +kernel
theorem dX3_bringWood_50 : decode cX3_bringWood 50 = .ok (.aload_n 0, 1) := by decide +kernel
theorem dX3_bringWood_51 : decode cX3_bringWood 51 = .ok (.getfield 47, 3) := by decide +kernel
theorem dX3_bringWood_54 : decode cX3_bringWood 54 = .ok (.iload_n 2, 1) := by decide +kernel
theorem dX3_bringWood_55 : decode cX3_bringWood 55 = .ok (.iload_n 1, 1) := by decide +kernel
theorem dX3_bringWood_56 : decode cX3_bringWood 56 = .ok (.invokevirtual 97, 3) := by decide +kernel
theorem dX3_bringWood_59 : decode cX3_bringWood 59 = .ok (.iadd, 1) := by decide +kernel
theorem dX3_bringWood_60 : decode cX3_bringWood 60 = .ok (.iload_n 3, 1) := by decide +kernel
theorem dX3_bringWood_61 : decode cX3_bringWood 61 = .ok (.iadd, 1) := by decide +kernel
theorem dX3_bringWood_62 : decode cX3_bringWood 62 = .ok (.istore 4, 2) := by decide +kernel
theorem dX3_bringWood_64 : decode cX3_bringWood 64 = .ok (.aload_n 0, 1) := by decide +kernel
theorem dX3_bringWood_65 : decode cX3_bringWood 65 = .ok (.getfield 21, 3) := by decide +kernel
theorem dX3_bringWood_68 : decode cX3_bringWood 68 = .ok (.iload_n 2, 1) := by decide +kernel
theorem dX3_bringWood_69 : decode cX3_bringWood 69 = .ok (.bipush 99, 2) := by decide +kernel
theorem dX3_bringWood_71 : decode cX3_bringWood 71 = .ok (.iload 4, 2) := by decide +kernel
theorem dX3_bringWood_73 : decode cX3_bringWood 73 = .ok (.invokestatic 102, 3) := by decide +kernel
theorem dX3_bringWood_76 : decode cX3_bringWood 76 = .ok (.iastore, 1) := by decide +kernel
theorem dX3_bringWood_77 : decode cX3_bringWood 77 = .ok (.iinc 2 1, 3) := by decide +kernel
theorem dX3_bringWood_80 : decode cX3_bringWood 80 = .ok (.goto (-78), 3) := by decide +kernel
theorem dX3_bringWood_83 : decode cX3_bringWood 83 = .ok (.return_, 1) := by decide +kernel
theorem dX3_takeWood_0 : decode cX3_takeWood 0 = .ok (.iconst 0, 1) := by decide +kernel
theorem dX3_takeWood_1 : decode cX3_takeWood 1 = .ok (.istore_n 2, 1) := by decide +kernel
theorem dX3_takeWood_2 : decode cX3_takeWood 2 = .ok (.iconst 0, 1) := by decide +kernel
theorem dX3_takeWood_3 : decode cX3_takeWood 3 = .ok (.istore_n 3, 1) := by decide +kernel
theorem dX3_takeWood_4 : decode cX3_takeWood 4 = .ok (.iload_n 3, 1) := by decide +kernel
theorem dX3_takeWood_5 : decode cX3_takeWood 5 = .ok (.aload_n 0, 1) := by decide +kernel
theorem dX3_takeWood_6 : decode cX3_takeWood 6 = .ok (.getfield 43, 3) := by decide +kernel
theorem dX3_takeWood_9 : decode cX3_takeWood 9 = .ok (.getfield 54, 3) := by decide +kernel
theorem dX3_takeWood_12 : decode cX3_takeWood 12 = .ok (.if_icmp .ge 111, 3) := by decide +kernel
theorem dX3_takeWood_15 : decode cX3_takeWood 15 = .ok (.iload_n 1, 1) := by decide +kernel
theorem dX3_takeWood_16 : decode cX3_takeWood 16 = .ok (.iload_n 3, 1) := by decide +kernel
theorem dX3_takeWood_17 : decode cX3_takeWood 17 = .ok (.ishr, 1) := by decide +kernel
theorem dX3_takeWood_18 : decode cX3_takeWood 18 = .ok (.iconst 1, 1) := by decide +kernel
theorem dX3_takeWood_19 : decode cX3_takeWood 19 = .ok (.iand, 1) := by decide +kernel
theorem dX3_takeWood_20 : decode cX3_takeWood 20 = .ok (.ifCond .ne 6, 3) := by decide +kernel
theorem dX3_takeWood_23 : decode cX3_takeWood 23 = .ok (.goto 94, 3) := by decide +kernel
theorem dX3_takeWood_26 : decode cX3_takeWood 26 = .ok (.aload_n 0, 1) := by decide +kernel
theorem dX3_takeWood_27 : decode cX3_takeWood 27 = .ok (.getfield 43, 3) := by decide +kernel
theorem dX3_takeWood_30 : decode cX3_takeWood 30 = .ok (.getfield 107, 3) := by decide +kernel
theorem dX3_takeWood_33 : decode cX3_takeWood 33 = .ok (.iload_n 3, 1) := by decide +kernel
theorem dX3_takeWood_34 : decode cX3_takeWood 34 = .ok (.iaload, 1) := by decide +kernel
theorem dX3_takeWood_35 : decode cX3_takeWood 35 = .ok (.istore 4, 2) := by decide +kernel
theorem dX3_takeWood_37 : decode cX3_takeWood 37 = .ok (.aload_n 0, 1) := by decide +kernel
theorem dX3_takeWood_38 : decode cX3_takeWood 38 = .ok (.getfield 43, 3) := by decide +kernel
theorem dX3_takeWood_41 : decode cX3_takeWood 41 = .ok (.iload 4, 2) := by decide +kernel
theorem dX3_takeWood_43 : decode cX3_takeWood 43 = .ok (.aload_n 0, 1) := by decide +kernel
theorem dX3_takeWood_44 : decode cX3_takeWood 44 = .ok (.getfield 24, 3) := by decide +kernel
theorem dX3_takeWood_47 : decode cX3_takeWood 47 = .ok (.iload 4, 2) := by decide +kernel
theorem dX3_takeWood_49 : decode cX3_takeWood 49 = .ok (.iaload, 1) := by decide +kernel
theorem dX3_takeWood_50 : decode cX3_takeWood 50 = .ok (.invokevirtual 110, 3) := by decide +kernel
theorem dX3_takeWood_53 : decode cX3_takeWood 53 = .ok (.ifCond .eq 12, 3) := by decide +kernel
theorem dX3_takeWood_56 : decode cX3_takeWood 56 = .ok (.iload_n 2, 1) := by decide +kernel
theorem dX3_takeWood_57 : decode cX3_takeWood 57 = .ok (.iconst 1, 1) := by decide +kernel
theorem dX3_takeWood_58 : decode cX3_takeWood 58 = .ok (.iload_n 3, 1) := by decide +kernel
theorem dX3_takeWood_59 : decode cX3_takeWood 59 = .ok (.ishl, 1) := by decide +kernel
theorem dX3_takeWood_60 : decode cX3_takeWood 60 = .ok (.ior, 1) := by decide +kernel
theorem dX3_takeWood_61 : decode cX3_takeWood 61 = .ok (.istore_n 2, 1) := by decide +kernel
theorem dX3_takeWood_62 : decode cX3_takeWood 62 = .ok (.goto 55, 3) := by decide +kernel
theorem dX3_takeWood_65 : decode cX3_takeWood 65 = .ok (.aload_n 0, 1) := by decide +kernel
theorem dX3_takeWood_66 : decode cX3_takeWood 66 = .ok (.getfield 21, 3) := by decide +kernel
theorem dX3_takeWood_69 : decode cX3_takeWood 69 = .ok (.iload 4, 2) := by decide +kernel
theorem dX3_takeWood_71 : decode cX3_takeWood 71 = .ok (.iaload, 1) := by decide +kernel
theorem dX3_takeWood_72 : decode cX3_takeWood 72 = .ok (.aload_n 0, 1) := by decide +kernel
theorem dX3_takeWood_73 : decode cX3_takeWood 73 = .ok (.getfield 27, 3) := by decide +kernel
theorem dX3_takeWood_76 : decode cX3_takeWood 76 = .ok (.iload_n 3, 1) := by decide +kernel
theorem dX3_takeWood_77 : decode cX3_takeWood 77 = .ok (.iaload, 1) := by decide +kernel
theorem dX3_takeWood_78 : decode cX3_takeWood 78 = .ok (.if_icmp .lt 22, 3) := by decide +kernel
theorem dX3_takeWood_81 : decode cX3_takeWood 81 = .ok (.aload_n 0, 1) := by decide +kernel
theorem dX3_takeWood_82 : decode cX3_takeWood 82 = .ok (.getfield 21, 3) := by decide +kernel
theorem dX3_takeWood_85 : decode cX3_takeWood 85 = .ok (.iload 4, 2) := by decide +kernel
theorem dX3_takeWood_87 : decode cX3_takeWood 87 = .ok (.dup2, 1) := by decide +kernel
theorem dX3_takeWood_88 : decode cX3_takeWood 88 = .ok (.iaload, 1) := by decide +kernel
theorem dX3_takeWood_89 : decode cX3_takeWood 89 = .ok (.aload_n 0, 1) := by decide +kernel
theorem dX3_takeWood_90 : decode cX3_takeWood 90 = .ok (.getfield 27, 3) := by decide +kernel
theorem dX3_takeWood_93 : decode cX3_takeWood 93 = .ok (.iload_n 3, 1) := by decide +kernel
theorem dX3_takeWood_94 : decode cX3_takeWood 94 = .ok (.iaload, 1) := by decide +kernel
theorem dX3_takeWood_95 : decode cX3_takeWood 95 = .ok (.isub, 1) := by decide +kernel
theorem dX3_takeWood_96 : decode cX3_takeWood 96 = .ok (.iastore, 1) := by decide +kernel
theorem dX3_takeWood_97 : decode cX3_takeWood 97 = .ok (.goto 9, 3) := by decide +kernel
theorem dX3_takeWood_100 : decode cX3_takeWood 100 = .ok (.iload_n 2, 1) := by decide +kernel
theorem dX3_takeWood_101 : decode cX3_takeWood 101 = .ok (.iconst 1, 1) := by decide +kernel
theorem dX3_takeWood_102 : decode cX3_takeWood 102 = .ok (.iload_n 3, 1) := by decide +kernel
theorem dX3_takeWood_103 : decode cX3_takeWood 103 = .ok (.ishl, 1) := by decide +kernel
theorem dX3_takeWood_104 : decode cX3_takeWood 104 = .ok (.ior, 1) := by decide +kernel
theorem dX3_takeWood_105 : decode cX3_takeWood 105 = .ok (.istore_n 2, 1) := by decide +kernel
theorem dX3_takeWood_106 : decode cX3_takeWood 106 = .ok (.aload_n 0, 1) := by decide +kernel
theorem dX3_takeWood_107 : decode cX3_takeWood 107 = .ok (.getfield 24, 3) := by decide +kernel
theorem dX3_takeWood_110 : decode cX3_takeWood 110 = .ok (.iload 4, 2) := by decide +kernel
theorem dX3_takeWood_112 : decode cX3_takeWood 112 = .ok (.dup2, 1) := by decide +kernel
theorem dX3_takeWood_113 : decode cX3_takeWood 113 = .ok (.iaload, 1) := by decide +kernel
theorem dX3_takeWood_114 : decode cX3_takeWood 114 = .ok (.iconst 1, 1) := by decide +kernel
theorem dX3_takeWood_115 : decode cX3_takeWood 115 = .ok (.iadd, 1) := by decide +kernel
theorem dX3_takeWood_116 : decode cX3_takeWood 116 = .ok (.iastore, 1) := by decide +kernel
theorem dX3_takeWood_117 : decode cX3_takeWood 117 = .ok (.iinc 3 1, 3) := by decide +kernel
theorem dX3_takeWood_120 : decode cX3_takeWood 120 = .ok (.goto (-116), 3) := by decide +kernel
theorem dX3_takeWood_123 : decode cX3_takeWood 123 = .ok (.iload_n 2, 1) := by decide +kernel
theorem dX3_takeWood_124 : decode cX3_takeWood 124 = .ok (.ireturn, 1) := by decide +kernel
theorem dX3_mend_0 : decode cX3_mend 0 = .ok (.iconst 0, 1) := by decide +kernel
theorem dX3_mend_1 : decode cX3_mend 1 = .ok (.istore_n 2, 1) := by decide +kernel
theorem dX3_mend_2 : decode cX3_mend 2 = .ok (.iload_n 2, 1) := by decide +kernel
theorem dX3_mend_3 : decode cX3_mend 3 = .ok (.aload_n 0, 1) := by decide +kernel
theorem dX3_mend_4 : decode cX3_mend 4 = .ok (.getfield 43, 3) := by decide +kernel
theorem dX3_mend_7 : decode cX3_mend 7 = .ok (.getfield 54, 3) := by decide +kernel
theorem dX3_mend_10 : decode cX3_mend 10 = .ok (.if_icmp .ge 71, 3) := by decide +kernel
theorem dX3_mend_13 : decode cX3_mend 13 = .ok (.aload_n 0, 1) := by decide +kernel
theorem dX3_mend_14 : decode cX3_mend 14 = .ok (.getfield 43, 3) := by decide +kernel
theorem dX3_mend_17 : decode cX3_mend 17 = .ok (.getfield 107, 3) := by decide +kernel
theorem dX3_mend_20 : decode cX3_mend 20 = .ok (.iload_n 2, 1) := by decide +kernel
theorem dX3_mend_21 : decode cX3_mend 21 = .ok (.iaload, 1) := by decide +kernel
theorem dX3_mend_22 : decode cX3_mend 22 = .ok (.istore_n 3, 1) := by decide +kernel
theorem dX3_mend_23 : decode cX3_mend 23 = .ok (.iload_n 1, 1) := by decide +kernel
theorem dX3_mend_24 : decode cX3_mend 24 = .ok (.iload_n 2, 1) := by decide +kernel
theorem dX3_mend_25 : decode cX3_mend 25 = .ok (.ishr, 1) := by decide +kernel
theorem dX3_mend_26 : decode cX3_mend 26 = .ok (.iconst 1, 1) := by decide +kernel
theorem dX3_mend_27 : decode cX3_mend 27 = .ok (.iand, 1) := by decide +kernel
theorem dX3_mend_28 : decode cX3_mend 28 = .ok (.iconst 1, 1) := by decide +kernel
theorem dX3_mend_29 : decode cX3_mend 29 = .ok (.if_icmp .ne 46, 3) := by decide +kernel
theorem dX3_mend_32 : decode cX3_mend 32 = .ok (.aload_n 0, 1) := by decide +kernel
theorem dX3_mend_33 : decode cX3_mend 33 = .ok (.getfield 43, 3) := by decide +kernel
theorem dX3_mend_36 : decode cX3_mend 36 = .ok (.iload_n 3, 1) := by decide +kernel
theorem dX3_mend_37 : decode cX3_mend 37 = .ok (.aload_n 0, 1) := by decide +kernel
theorem dX3_mend_38 : decode cX3_mend 38 = .ok (.getfield 24, 3) := by decide +kernel
theorem dX3_mend_41 : decode cX3_mend 41 = .ok (.iload_n 3, 1) := by decide +kernel
theorem dX3_mend_42 : decode cX3_mend 42 = .ok (.iaload, 1) := by decide +kernel
theorem dX3_mend_43 : decode cX3_mend 43 = .ok (.invokevirtual 110, 3) := by decide +kernel
theorem dX3_mend_46 : decode cX3_mend 46 = .ok (.ifCond .ne 29, 3) := by decide +kernel
theorem dX3_mend_49 : decode cX3_mend 49 = .ok (.aload_n 0, 1) := by decide +kernel
theorem dX3_mend_50 : decode cX3_mend 50 = .ok (.getfield 24, 3) := by decide +kernel
theorem dX3_mend_53 : decode cX3_mend 53 = .ok (.iload_n 3, 1) := by decide +kernel
theorem dX3_mend_54 : decode cX3_mend 54 = .ok (.iconst 0, 1) := by decide +kernel
theorem dX3_mend_55 : decode cX3_mend 55 = .ok (.aload_n 0, 1) := by decide +kernel
theorem dX3_mend_56 : decode cX3_mend 56 = .ok (.getfield 24, 3) := by decide +kernel
theorem dX3_mend_59 : decode cX3_mend 59 = .ok (.iload_n 3, 1) := by decide +kernel
theorem dX3_mend_60 : decode cX3_mend 60 = .ok (.iaload, 1) := by decide +kernel
theorem dX3_mend_61 : decode cX3_mend 61 = .ok (.aload_n 0, 1) := by decide +kernel
theorem dX3_mend_62 : decode cX3_mend 62 = .ok (.getfield 43, 3) := by decide +kernel
theorem dX3_mend_65 : decode cX3_mend 65 = .ok (.getfield 114, 3) := by decide +kernel
theorem dX3_mend_68 : decode cX3_mend 68 = .ok (.iload_n 2, 1) := by decide +kernel
theorem dX3_mend_69 : decode cX3_mend 69 = .ok (.iaload, 1) := by decide +kernel
theorem dX3_mend_70 : decode cX3_mend 70 = .ok (.isub, 1) := by decide +kernel
theorem dX3_mend_71 : decode cX3_mend 71 = .ok (.invokestatic 117, 3) := by decide +kernel
theorem dX3_mend_74 : decode cX3_mend 74 = .ok (.iastore, 1) := by decide +kernel
theorem dX3_mend_75 : decode cX3_mend 75 = .ok (.iinc 2 1, 3) := by decide +kernel
theorem dX3_mend_78 : decode cX3_mend 78 = .ok (.goto (-76), 3) := by decide +kernel
theorem dX3_mend_81 : decode cX3_mend 81 = .ok (.return_, 1) := by decide +kernel
theorem dX3_note_0 : decode cX3_note 0 = .ok (.aload_n 0, 1) := by decide +kernel
theorem dX3_note_1 : decode cX3_note 1 = .ok (.getfield 18, 3) := by decide +kernel
theorem dX3_note_4 : decode cX3_note 4 = .ok (.iload_n 1, 1) := by decide +kernel
theorem dX3_note_5 : decode cX3_note 5 = .ok (.iload_n 2, 1) := by decide +kernel
theorem dX3_note_6 : decode cX3_note 6 = .ok (.iastore, 1) := by decide +kernel
theorem dX3_note_7 : decode cX3_note 7 = .ok (.iconst 0, 1) := by decide +kernel
theorem dX3_note_8 : decode cX3_note 8 = .ok (.istore_n 3, 1) := by decide +kernel
theorem dX3_note_9 : decode cX3_note 9 = .ok (.iload_n 3, 1) := by decide +kernel
theorem dX3_note_10 : decode cX3_note 10 = .ok (.aload_n 0, 1) := by decide +kernel
theorem dX3_note_11 : decode cX3_note 11 = .ok (.getfield 43, 3) := by decide +kernel
theorem dX3_note_14 : decode cX3_note 14 = .ok (.getfield 91, 3) := by decide +kernel
theorem dX3_note_17 : decode cX3_note 17 = .ok (.if_icmp .ge 45, 3) := by decide +kernel
theorem dX3_note_20 : decode cX3_note 20 = .ok (.aload_n 0, 1) := by decide +kernel
theorem dX3_note_21 : decode cX3_note 21 = .ok (.getfield 9, 3) := by decide +kernel
theorem dX3_note_24 : decode cX3_note 24 = .ok (.iload_n 3, 1) := by decide +kernel
theorem dX3_note_25 : decode cX3_note 25 = .ok (.sipush 140, 3) := by decide +kernel
theorem dX3_note_28 : decode cX3_note 28 = .ok (.imul, 1) := by decide +kernel
theorem dX3_note_29 : decode cX3_note 29 = .ok (.iload_n 1, 1) := by decide +kernel
theorem dX3_note_30 : decode cX3_note 30 = .ok (.iadd, 1) := by decide +kernel
theorem dX3_note_31 : decode cX3_note 31 = .ok (.aload_n 0, 1) := by decide +kernel
theorem dX3_note_32 : decode cX3_note 32 = .ok (.getfield 21, 3) := by decide +kernel
theorem dX3_note_35 : decode cX3_note 35 = .ok (.iload_n 3, 1) := by decide +kernel
theorem dX3_note_36 : decode cX3_note 36 = .ok (.iaload, 1) := by decide +kernel
theorem dX3_note_37 : decode cX3_note 37 = .ok (.iastore, 1) := by decide +kernel
theorem dX3_note_38 : decode cX3_note 38 = .ok (.aload_n 0, 1) := by decide +kernel
theorem dX3_note_39 : decode cX3_note 39 = .ok (.getfield 15, 3) := by decide +kernel
theorem dX3_note_42 : decode cX3_note 42 = .ok (.iload_n 3, 1) := by decide +kernel
theorem dX3_note_43 : decode cX3_note 43 = .ok (.sipush 140, 3) := by decide +kernel
theorem dX3_note_46 : decode cX3_note 46 = .ok (.imul, 1) := by decide +kernel
theorem dX3_note_47 : decode cX3_note 47 = .ok (.iload_n 1, 1) := by decide +kernel
theorem dX3_note_48 : decode cX3_note 48 = .ok (.iadd, 1) := by decide +kernel
theorem dX3_note_49 : decode cX3_note 49 = .ok (.aload_n 0, 1) := by decide +kernel
theorem dX3_note_50 : decode cX3_note 50 = .ok (.getfield 24, 3) := by decide +kernel
theorem dX3_note_53 : decode cX3_note 53 = .ok (.iload_n 3, 1) := by decide +kernel
theorem dX3_note_54 : decode cX3_note 54 = .ok (.iaload, 1) := by decide +kernel
theorem dX3_note_55 : decode cX3_note 55 = .ok (.iastore, 1) := by decide +kernel
theorem dX3_note_56 : decode cX3_note 56 = .ok (.iinc 3 1, 3) := by decide +kernel
theorem dX3_note_59 : decode cX3_note 59 = .ok (.goto (-50), 3) := by decide +kernel
theorem dX3_note_62 : decode cX3_note 62 = .ok (.return_, 1) := by decide +kernel
theorem dX3_woodAt_0 : decode cX3_woodAt 0 = .ok (.aload_n 0, 1) := by decide +kernel
theorem dX3_woodAt_1 : decode cX3_woodAt 1 = .ok (.getfield 9, 3) := by decide +kernel
theorem dX3_woodAt_4 : decode cX3_woodAt 4 = .ok (.iload_n 1, 1) := by decide +kernel
theorem dX3_woodAt_5 : decode cX3_woodAt 5 = .ok (.sipush 140, 3) := by decide +kernel
theorem dX3_woodAt_8 : decode cX3_woodAt 8 = .ok (.imul, 1) := by decide +kernel
theorem dX3_woodAt_9 : decode cX3_woodAt 9 = .ok (.iload_n 2, 1) := by decide +kernel
theorem dX3_woodAt_10 : decode cX3_woodAt 10 = .ok (.iadd, 1) := by decide +kernel
theorem dX3_woodAt_11 : decode cX3_woodAt 11 = .ok (.iaload, 1) := by decide +kernel
theorem dX3_woodAt_12 : decode cX3_woodAt 12 = .ok (.ireturn, 1) := by decide +kernel
theorem dX3_wearAt_0 : decode cX3_wearAt 0 = .ok (.aload_n 0, 1) := by decide +kernel
theorem dX3_wearAt_1 : decode cX3_wearAt 1 = .ok (.getfield 15, 3) := by decide +kernel
theorem dX3_wearAt_4 : decode cX3_wearAt 4 = .ok (.iload_n 1, 1) := by decide +kernel
theorem dX3_wearAt_5 : decode cX3_wearAt 5 = .ok (.sipush 140, 3) := by decide +kernel
theorem dX3_wearAt_8 : decode cX3_wearAt 8 = .ok (.imul, 1) := by decide +kernel
theorem dX3_wearAt_9 : decode cX3_wearAt 9 = .ok (.iload_n 2, 1) := by decide +kernel
theorem dX3_wearAt_10 : decode cX3_wearAt 10 = .ok (.iadd, 1) := by decide +kernel
theorem dX3_wearAt_11 : decode cX3_wearAt 11 = .ok (.iaload, 1) := by decide +kernel
theorem dX3_wearAt_12 : decode cX3_wearAt 12 = .ok (.ireturn, 1) := by decide +kernel
theorem dX3_coldAt_0 : decode cX3_coldAt 0 = .ok (.aload_n 0, 1) := by decide +kernel
theorem dX3_coldAt_1 : decode cX3_coldAt 1 = .ok (.getfield 18, 3) := by decide +kernel
theorem dX3_coldAt_4 : decode cX3_coldAt 4 = .ok (.iload_n 1, 1) := by decide +kernel
theorem dX3_coldAt_5 : decode cX3_coldAt 5 = .ok (.iaload, 1) := by decide +kernel
theorem dX3_coldAt_6 : decode cX3_coldAt 6 = .ok (.ireturn, 1) := by decide +kernel
theorem dX3_wearTogether_0 : decode cX3_wearTogether 0 = .ok (.iconst 0, 1) := by decide +kernel
theorem dX3_wearTogether_1 : decode cX3_wearTogether 1 = .ok (.istore_n 2, 1) := by decide +kernel
theorem dX3_wearTogether_2 : decode cX3_wearTogether 2 = .ok (.iconst 0, 1) := by decide +kernel
theorem dX3_wearTogether_3 : decode cX3_wearTogether 3 = .ok (.istore_n 3, 1) := by decide +kernel
theorem dX3_wearTogether_4 : decode cX3_wearTogether 4 = .ok (.iload_n 3, 1) := by decide +kernel
theorem dX3_wearTogether_5 : decode cX3_wearTogether 5 = .ok (.aload_n 0, 1) := by decide +kernel
theorem dX3_wearTogether_6 : decode cX3_wearTogether 6 = .ok (.getfield 43, 3) := by decide +kernel
theorem dX3_wearTogether_9 : decode cX3_wearTogether 9 = .ok (.getfield 91, 3) := by decide +kernel
theorem dX3_wearTogether_12 : decode cX3_wearTogether 12 = .ok (.if_icmp .ge 18, 3) := by decide +kernel
theorem dX3_wearTogether_15 : decode cX3_wearTogether 15 = .ok (.iload_n 2, 1) := by decide +kernel
theorem dX3_wearTogether_16 : decode cX3_wearTogether 16 = .ok (.aload_n 0, 1) := by decide +kernel
theorem dX3_wearTogether_17 : decode cX3_wearTogether 17 = .ok (.iload_n 3, 1) := by decide +kernel
theorem dX3_wearTogether_18 : decode cX3_wearTogether 18 = .ok (.iload_n 1, 1) := by decide +kernel
theorem dX3_wearTogether_19 : decode cX3_wearTogether 19 = .ok (.invokevirtual 120, 3) := by decide +kernel
theorem dX3_wearTogether_22 : decode cX3_wearTogether 22 = .ok (.iadd, 1) := by decide +kernel
theorem dX3_wearTogether_23 : decode cX3_wearTogether 23 = .ok (.istore_n 2, 1) := by decide +kernel
theorem dX3_wearTogether_24 : decode cX3_wearTogether 24 = .ok (.iinc 3 1, 3) := by decide +kernel
theorem dX3_wearTogether_27 : decode cX3_wearTogether 27 = .ok (.goto (-23), 3) := by decide +kernel
theorem dX3_wearTogether_30 : decode cX3_wearTogether 30 = .ok (.iload_n 2, 1) := by decide +kernel
theorem dX3_wearTogether_31 : decode cX3_wearTogether 31 = .ok (.ireturn, 1) := by decide +kernel
theorem dX3_chillsOf_0 : decode cX3_chillsOf 0 = .ok (.iconst 0, 1) := by decide +kernel
theorem dX3_chillsOf_1 : decode cX3_chillsOf 1 = .ok (.istore_n 3, 1) := by decide +kernel
theorem dX3_chillsOf_2 : decode cX3_chillsOf 2 = .ok (.iconst 0, 1) := by decide +kernel
theorem dX3_chillsOf_3 : decode cX3_chillsOf 3 = .ok (.istore 4, 2) := by decide +kernel
theorem dX3_chillsOf_5 : decode cX3_chillsOf 5 = .ok (.iload 4, 2) := by decide +kernel
theorem dX3_chillsOf_7 : decode cX3_chillsOf 7 = .ok (.iload_n 2, 1) := by decide +kernel
theorem dX3_chillsOf_8 : decode cX3_chillsOf 8 = .ok (.iconst 1, 1) := by decide +kernel
theorem dX3_chillsOf_9 : decode cX3_chillsOf 9 = .ok (.iadd, 1) := by decide +kernel
theorem dX3_chillsOf_10 : decode cX3_chillsOf 10 = .ok (.bipush 14, 2) := by decide +kernel
theorem dX3_chillsOf_12 : decode cX3_chillsOf 12 = .ok (.imul, 1) := by decide +kernel
theorem dX3_chillsOf_13 : decode cX3_chillsOf 13 = .ok (.if_icmp .ge 32, 3) := by decide +kernel
theorem dX3_chillsOf_16 : decode cX3_chillsOf 16 = .ok (.iload 4, 2) := by decide +kernel
theorem dX3_chillsOf_18 : decode cX3_chillsOf 18 = .ok (.sipush 140, 3) := by decide +kernel
theorem dX3_chillsOf_21 : decode cX3_chillsOf 21 = .ok (.if_icmp .ge 24, 3) := by decide +kernel
theorem dX3_chillsOf_24 : decode cX3_chillsOf 24 = .ok (.iload_n 3, 1) := by decide +kernel
theorem dX3_chillsOf_25 : decode cX3_chillsOf 25 = .ok (.aload_n 0, 1) := by decide +kernel
theorem dX3_chillsOf_26 : decode cX3_chillsOf 26 = .ok (.getfield 18, 3) := by decide +kernel
theorem dX3_chillsOf_29 : decode cX3_chillsOf 29 = .ok (.iload 4, 2) := by decide +kernel
theorem dX3_chillsOf_31 : decode cX3_chillsOf 31 = .ok (.iaload, 1) := by decide +kernel
theorem dX3_chillsOf_32 : decode cX3_chillsOf 32 = .ok (.iload_n 1, 1) := by decide +kernel
theorem dX3_chillsOf_33 : decode cX3_chillsOf 33 = .ok (.iand, 1) := by decide +kernel
theorem dX3_chillsOf_34 : decode cX3_chillsOf 34 = .ok (.invokestatic 123, 3) := by decide +kernel
theorem dX3_chillsOf_37 : decode cX3_chillsOf 37 = .ok (.iadd, 1) := by decide +kernel
theorem dX3_chillsOf_38 : decode cX3_chillsOf 38 = .ok (.istore_n 3, 1) := by decide +kernel
theorem dX3_chillsOf_39 : decode cX3_chillsOf 39 = .ok (.iinc 4 1, 3) := by decide +kernel
theorem dX3_chillsOf_42 : decode cX3_chillsOf 42 = .ok (.goto (-37), 3) := by decide +kernel
theorem dX3_chillsOf_45 : decode cX3_chillsOf 45 = .ok (.iload_n 3, 1) := by decide +kernel
theorem dX3_chillsOf_46 : decode cX3_chillsOf 46 = .ok (.ireturn, 1) := by decide +kernel
end
section
theorem dX4_init_0 : decode cX4_init 0 = .ok (.aload_n 0, 1) := by decide +kernel
theorem dX4_init_1 : decode cX4_init 1 = .ok (.invokespecial 5, 3) := by decide +kernel
theorem dX4_init_4 : decode cX4_init 4 = .ok (.aload_n 0, 1) := by decide +kernel
theorem dX4_init_5 : decode cX4_init 5 = .ok (.iconst 4, 1) := by decide +kernel
theorem dX4_init_6 : decode cX4_init 6 = .ok (.anewarray 11, 3) := by decide +kernel
theorem dX4_init_9 : decode cX4_init 9 = .ok (.putfield 13, 3) := by decide +kernel
theorem dX4_init_12 : decode cX4_init 12 = .ok (.aload_n 0, 1) := by decide +kernel
theorem dX4_init_13 : decode cX4_init 13 = .ok (.new 17, 3) := by decide +kernel
theorem dX4_init_16 : decode cX4_init 16 = .ok (.dup, 1) := by decide +kernel
theorem dX4_init_17 : decode cX4_init 17 = .ok (.bipush 6, 2) := by decide +kernel
theorem dX4_init_19 : decode cX4_init 19 = .ok (.invokespecial 19, 3) := by decide +kernel
theorem dX4_init_22 : decode cX4_init 22 = .ok (.putfield 22, 3) := by decide +kernel
theorem dX4_init_25 : decode cX4_init 25 = .ok (.aload_n 0, 1) := by decide +kernel
theorem dX4_init_26 : decode cX4_init 26 = .ok (.new 17, 3) := by decide +kernel
theorem dX4_init_29 : decode cX4_init 29 = .ok (.dup, 1) := by decide +kernel
theorem dX4_init_30 : decode cX4_init 30 = .ok (.bipush 8, 2) := by decide +kernel
theorem dX4_init_32 : decode cX4_init 32 = .ok (.invokespecial 19, 3) := by decide +kernel
theorem dX4_init_35 : decode cX4_init 35 = .ok (.putfield 26, 3) := by decide +kernel
theorem dX4_init_38 : decode cX4_init 38 = .ok (.aload_n 0, 1) := by decide +kernel
theorem dX4_init_39 : decode cX4_init 39 = .ok (.new 29, 3) := by decide +kernel
theorem dX4_init_42 : decode cX4_init 42 = .ok (.dup, 1) := by decide +kernel
theorem dX4_init_43 : decode cX4_init 43 = .ok (.invokespecial 31, 3) := by decide +kernel
theorem dX4_init_46 : decode cX4_init 46 = .ok (.putfield 32, 3) := by decide +kernel
theorem dX4_init_49 : decode cX4_init 49 = .ok (.aload_n 0, 1) := by decide +kernel
theorem dX4_init_50 : decode cX4_init 50 = .ok (.new 29, 3) := by decide +kernel
theorem dX4_init_53 : decode cX4_init 53 = .ok (.dup, 1) := by decide +kernel
theorem dX4_init_54 : decode cX4_init 54 = .ok (.invokespecial 31, 3) := by decide +kernel
theorem dX4_init_57 : decode cX4_init 57 = .ok (.putfield 36, 3) := by decide +kernel
theorem dX4_init_60 : decode cX4_init 60 = .ok (.aload_n 0, 1) := by decide +kernel
theorem dX4_init_61 : decode cX4_init 61 = .ok (.new 39, 3) := by decide +kernel
theorem dX4_init_64 : decode cX4_init 64 = .ok (.dup, 1) := by decide +kernel
theorem dX4_init_65 : decode cX4_init 65 = .ok (.aload_n 0, 1) := by decide +kernel
theorem dX4_init_66 : decode cX4_init 66 = .ok (.getfield 32, 3) := by decide +kernel
theorem dX4_init_69 : decode cX4_init 69 = .ok (.aload_n 0, 1) := by decide +kernel
theorem dX4_init_70 : decode cX4_init 70 = .ok (.getfield 22, 3) := by decide +kernel
theorem dX4_init_73 : decode cX4_init 73 = .ok (.invokespecial 41, 3) := by decide +kernel
theorem dX4_init_76 : decode cX4_init 76 = .ok (.putfield 44, 3) := by decide +kernel
theorem dX4_init_79 : decode cX4_init 79 = .ok (.aload_n 0, 1) := by decide +kernel
theorem dX4_init_80 : decode cX4_init 80 = .ok (.new 39, 3) := by decide +kernel
theorem dX4_init_83 : decode cX4_init 83 = .ok (.dup, 1) := by decide +kernel
theorem dX4_init_84 : decode cX4_init 84 = .ok (.aload_n 0, 1) := by decide +kernel
theorem dX4_init_85 : decode cX4_init 85 = .ok (.getfield 32, 3) := by decide +kernel
theorem dX4_init_88 : decode cX4_init 88 = .ok (.aload_n 0, 1) := by decide +kernel
theorem dX4_init_89 : decode cX4_init 89 = .ok (.getfield 22, 3) := by decide +kernel
theorem dX4_init_92 : decode cX4_init 92 = .ok (.invokespecial 41, 3) := by decide +kernel
theorem dX4_init_95 : decode cX4_init 95 = .ok (.putfield 48, 3) := by decide +kernel
theorem dX4_init_98 : decode cX4_init 98 = .ok (.aload_n 0, 1) := by decide +kernel
theorem dX4_init_99 : decode cX4_init 99 = .ok (.iconst 0, 1) := by decide +kernel
theorem dX4_init_100 : decode cX4_init 100 = .ok (.putfield 51, 3) := by decide +kernel
theorem dX4_init_103 : decode cX4_init 103 = .ok (.aload_n 0, 1) := by decide +kernel
theorem dX4_init_104 : decode cX4_init 104 = .ok (.iconst 0, 1) := by decide +kernel
theorem dX4_init_105 : decode cX4_init 105 = .ok (.putfield 55, 3) := by decide +kernel
theorem dX4_init_108 : decode cX4_init 108 = .ok (.aload_n 0, 1) := by decide +kernel
theorem dX4_init_109 : decode cX4_init 109 = .ok (.iconst 0, 1) := by decide +kernel
theorem dX4_init_110 : decode cX4_init 110 = .ok (.putfield 59, 3) := by decide +kernel
theorem dX4_init_113 : decode cX4_init 113 = .ok (.aload_n 0, 1) := by decide +kernel
theorem dX4_init_114 : decode cX4_init 114 = .ok (.iconst 0, 1) := by decide +kernel
theorem dX4_init_115 : decode cX4_init 115 = .ok (.putfield 62, 3) := by decide +kernel
theorem dX4_init_118 : decode cX4_init 118 = .ok (.iconst 0, 1) := by decide +kernel
theorem dX4_init_119 : decode cX4_init 119 = .ok (.istore_n 1, 1) := by decide +kernel
theorem dX4_init_120 : decode cX4_init 120 = .ok (.iload_n 1, 1) := by decide +kernel
theorem dX4_init_121 : decode cX4_init 121 = .ok (.iconst 4, 1) := by decide +kernel
theorem dX4_init_122 : decode cX4_init 122 = .ok (.if_icmp .ge 22, 3) := by decide +kernel
theorem dX4_init_125 : decode cX4_init 125 = .ok (.aload_n 0, 1) := by decide +kernel
theorem dX4_init_126 : decode cX4_init 126 = .ok (.getfield 13, 3) := by decide +kernel
theorem dX4_init_129 : decode cX4_init 129 = .ok (.iload_n 1, 1) := by decide +kernel
theorem dX4_init_130 : decode cX4_init 130 = .ok (.new 11, 3) := by decide +kernel
theorem dX4_init_133 : decode cX4_init 133 = .ok (.dup, 1) := by decide +kernel
theorem dX4_init_134 : decode cX4_init 134 = .ok (.invokespecial 65, 3) := by decide +kernel
theorem dX4_init_137 : decode cX4_init 137 = .ok (.aastore, 1) := by decide +kernel
theorem dX4_init_138 : decode cX4_init 138 = .ok (.iinc 1 1, 3) := by decide +kernel
theorem dX4_init_141 : decode cX4_init 141 = .ok (.goto (-21), 3) := by decide +kernel
theorem dX4_init_144 : decode cX4_init 144 = .ok (.return_, 1) := by decide +kernel
theorem dX4_houses_0 : decode cX4_houses 0 = .ok (.aload_n 0, 1) := by decide +kernel
theorem dX4_houses_1 : decode cX4_houses 1 = .ok (.iload_n 1, 1) := by decide +kernel
theorem dX4_houses_2 : decode cX4_houses 2 = .ok (.iload_n 2, 1) := by decide +kernel
theorem dX4_houses_3 : decode cX4_houses 3 = .ok (.iload_n 3, 1) := by decide +kernel
theorem dX4_houses_4 : decode cX4_houses 4 = .ok (.iload 4, 2) := by decide +kernel
theorem dX4_houses_6 : decode cX4_houses 6 = .ok (.invokevirtual 66, 3) := by decide +kernel
theorem dX4_houses_9 : decode cX4_houses 9 = .ok (.istore 5, 2) := by decide +kernel
theorem dX4_houses_11 : decode cX4_houses 11 = .ok (.iload 5, 2) := by decide +kernel
theorem dX4_houses_13 : decode cX4_houses 13 = .ok (.ifCond .eq 6, 3) := by decide +kernel
theorem dX4_houses_16 : decode cX4_houses 16 = .ok (.iload 5, 2) := by decide +kernel
theorem dX4_houses_18 : decode cX4_houses 18 = .ok (.ireturn, 1) := by decide +kernel
theorem dX4_houses_19 : decode cX4_houses 19 = .ok (.aload_n 0, 1) := by decide +kernel
theorem dX4_houses_20 : decode cX4_houses 20 = .ok (.aload_n 0, 1) := by decide +kernel
theorem dX4_houses_21 : decode cX4_houses 21 = .ok (.getfield 13, 3) := by decide +kernel
theorem dX4_houses_24 : decode cX4_houses 24 = .ok (.iload_n 1, 1) := by decide +kernel
theorem dX4_houses_25 : decode cX4_houses 25 = .ok (.aaload, 1) := by decide +kernel
theorem dX4_houses_26 : decode cX4_houses 26 = .ok (.iload_n 3, 1) := by decide +kernel
theorem dX4_houses_27 : decode cX4_houses 27 = .ok (.iload 4, 2) := by decide +kernel
theorem dX4_houses_29 : decode cX4_houses 29 = .ok (.invokevirtual 70, 3) := by decide +kernel
theorem dX4_houses_32 : decode cX4_houses 32 = .ok (.istore 6, 2) := by decide +kernel
theorem dX4_houses_34 : decode cX4_houses 34 = .ok (.iload 6, 2) := by decide +kernel
theorem dX4_houses_36 : decode cX4_houses 36 = .ok (.bipush (-9), 2) := by decide +kernel
theorem dX4_houses_38 : decode cX4_houses 38 = .ok (.if_icmp .eq 9, 3) := by decide +kernel
theorem dX4_houses_41 : decode cX4_houses 41 = .ok (.bipush (-100), 2) := by decide +kernel
theorem dX4_houses_43 : decode cX4_houses 43 = .ok (.iload 6, 2) := by decide +kernel
theorem dX4_houses_45 : decode cX4_houses 45 = .ok (.isub, 1) := by decide +kernel
theorem dX4_houses_46 : decode cX4_houses 46 = .ok (.ireturn, 1) := by decide +kernel
theorem dX4_houses_47 : decode cX4_houses 47 = .ok (.aload_n 0, 1) := by decide +kernel
theorem dX4_houses_48 : decode cX4_houses 48 = .ok (.getfield 32, 3) := by decide +kernel
theorem dX4_houses_51 : decode cX4_houses 51 = .ok (.astore 7, 2) := by decide +kernel
theorem dX4_houses_53 : decode cX4_houses 53 = .ok (.aload_n 0, 1) := by decide +kernel
theorem dX4_houses_54 : decode cX4_houses 54 = .ok (.aload_n 0, 1) := by decide +kernel
theorem dX4_houses_55 : decode cX4_houses 55 = .ok (.getfield 36, 3) := by decide +kernel
theorem dX4_houses_58 : decode cX4_houses 58 = .ok (.putfield 32, 3) := by decide +kernel
theorem dX4_houses_61 : decode cX4_houses 61 = .ok (.aload_n 0, 1) := by decide +kernel
theorem dX4_houses_62 : decode cX4_houses 62 = .ok (.aload 7, 2) := by decide +kernel
theorem dX4_houses_64 : decode cX4_houses 64 = .ok (.putfield 36, 3) := by decide +kernel
theorem dX4_houses_67 : decode cX4_houses 67 = .ok (.aload_n 0, 1) := by decide +kernel
theorem dX4_houses_68 : decode cX4_houses 68 = .ok (.iconst 0, 1) := by decide +kernel
theorem dX4_houses_69 : decode cX4_houses 69 = .ok (.putfield 51, 3) := by decide +kernel
theorem dX4_houses_72 : decode cX4_houses 72 = .ok (.aload_n 0, 1) := by decide +kernel
theorem dX4_houses_73 : decode cX4_houses 73 = .ok (.getfield 22, 3) := by decide +kernel
theorem dX4_houses_76 : decode cX4_houses 76 = .ok (.iconst 0, 1) := by decide +kernel
theorem dX4_houses_77 : decode cX4_houses 77 = .ok (.putfield 74, 3) := by decide +kernel
theorem dX4_houses_80 : decode cX4_houses 80 = .ok (.aload_n 0, 1) := by decide +kernel
theorem dX4_houses_81 : decode cX4_houses 81 = .ok (.getfield 26, 3) := by decide +kernel
theorem dX4_houses_84 : decode cX4_houses 84 = .ok (.iconst 0, 1) := by decide +kernel
theorem dX4_houses_85 : decode cX4_houses 85 = .ok (.putfield 74, 3) := by decide +kernel
theorem dX4_houses_88 : decode cX4_houses 88 = .ok (.aload_n 0, 1) := by decide +kernel
theorem dX4_houses_89 : decode cX4_houses 89 = .ok (.iconst 0, 1) := by decide +kernel
theorem dX4_houses_90 : decode cX4_houses 90 = .ok (.putfield 55, 3) := by decide +kernel
theorem dX4_houses_93 : decode cX4_houses 93 = .ok (.aload_n 0, 1) := by decide +kernel
theorem dX4_houses_94 : decode cX4_houses 94 = .ok (.getfield 32, 3) := by decide +kernel
theorem dX4_houses_97 : decode cX4_houses 97 = .ok (.getfield 77, 3) := by decide +kernel
theorem dX4_houses_100 : decode cX4_houses 100 = .ok (.ireturn, 1) := by decide +kernel
theorem dX4_ofHouse_0 : decode cX4_ofHouse 0 = .ok (.aload_n 0, 1) := by decide +kernel
theorem dX4_ofHouse_1 : decode cX4_ofHouse 1 = .ok (.iload_n 1, 1) := by decide +kernel
theorem dX4_ofHouse_2 : decode cX4_ofHouse 2 = .ok (.invokevirtual 80, 3) := by decide +kernel
theorem dX4_ofHouse_5 : decode cX4_ofHouse 5 = .ok (.ifCond .ne 5, 3) := by decide +kernel
theorem dX4_ofHouse_8 : decode cX4_ofHouse 8 = .ok (.iconst (-1), 1) := by decide +kernel
theorem dX4_ofHouse_9 : decode cX4_ofHouse 9 = .ok (.ireturn, 1) := by decide +kernel
theorem dX4_ofHouse_10 : decode cX4_ofHouse 10 = .ok (.iload_n 2, 1) := by decide +kernel
theorem dX4_ofHouse_11 : decode cX4_ofHouse 11 = .ok (.lookupswitch 45 #[(0, 25), (1, 35)], 25) := by decide +kernel
theorem dX4_ofHouse_36 : decode cX4_ofHouse 36 = .ok (.aload_n 0, 1) := by decide +kernel
theorem dX4_ofHouse_37 : decode cX4_ofHouse 37 = .ok (.getfield 32, 3) := by decide +kernel
theorem dX4_ofHouse_40 : decode cX4_ofHouse 40 = .ok (.getfield 84, 3) := by decide +kernel
theorem dX4_ofHouse_43 : decode cX4_ofHouse 43 = .ok (.iload_n 1, 1) := by decide +kernel
theorem dX4_ofHouse_44 : decode cX4_ofHouse 44 = .ok (.iaload, 1) := by decide +kernel
theorem dX4_ofHouse_45 : decode cX4_ofHouse 45 = .ok (.ireturn, 1) := by decide +kernel
theorem dX4_ofHouse_46 : decode cX4_ofHouse 46 = .ok (.aload_n 0, 1) := by decide +kernel
theorem dX4_ofHouse_47 : decode cX4_ofHouse 47 = .ok (.getfield 32, 3) := by decide +kernel
theorem dX4_ofHouse_50 : decode cX4_ofHouse 50 = .ok (.getfield 88, 3) := by decide +kernel
theorem dX4_ofHouse_53 : decode cX4_ofHouse 53 = .ok (.iload_n 1, 1) := by decide +kernel
theorem dX4_ofHouse_54 : decode cX4_ofHouse 54 = .ok (.iaload, 1) := by decide +kernel
theorem dX4_ofHouse_55 : decode cX4_ofHouse 55 = .ok (.ireturn, 1) := by decide +kernel
theorem dX4_ofHouse_56 : decode cX4_ofHouse 56 = .ok (.bipush (-2), 2) := by decide +kernel
theorem dX4_ofHouse_58 : decode cX4_ofHouse 58 = .ok (.ireturn, 1) := by decide +kernel
theorem dX4_ofPerson_0 : decode cX4_ofPerson 0 = .ok (.aload_n 0, 1) := by decide +kernel
theorem dX4_ofPerson_1 : decode cX4_ofPerson 1 = .ok (.iload_n 1, 1) := by decide +kernel
theorem dX4_ofPerson_2 : decode cX4_ofPerson 2 = .ok (.invokevirtual 91, 3) := by decide +kernel
theorem dX4_ofPerson_5 : decode cX4_ofPerson 5 = .ok (.ifCond .ne 5, 3) := by decide +kernel
theorem dX4_ofPerson_8 : decode cX4_ofPerson 8 = .ok (.iconst (-1), 1) := by decide +kernel
theorem dX4_ofPerson_9 : decode cX4_ofPerson 9 = .ok (.ireturn, 1) := by decide +kernel
theorem dX4_ofPerson_10 : decode cX4_ofPerson 10 = .ok (.iload_n 2, 1) := by decide +kernel
theorem dX4_ofPerson_11 : decode cX4_ofPerson 11 = .ok (.tableswitch 127 0 6 #[41, 51, 61, 71, 81, 91, 113], 41) := by decide +kernel
theorem dX4_ofPerson_52 : decode cX4_ofPerson 52 = .ok (.aload_n 0, 1) := by decide +kernel
theorem dX4_ofPerson_53 : decode cX4_ofPerson 53 = .ok (.getfield 32, 3) := by decide +kernel
theorem dX4_ofPerson_56 : decode cX4_ofPerson 56 = .ok (.getfield 94, 3) := by decide +kernel
theorem dX4_ofPerson_59 : decode cX4_ofPerson 59 = .ok (.iload_n 1, 1) := by decide +kernel
theorem dX4_ofPerson_60 : decode cX4_ofPerson 60 = .ok (.iaload, 1) := by decide +kernel
theorem dX4_ofPerson_61 : decode cX4_ofPerson 61 = .ok (.ireturn, 1) := by decide +kernel
theorem dX4_ofPerson_62 : decode cX4_ofPerson 62 = .ok (.aload_n 0, 1) := by decide +kernel
theorem dX4_ofPerson_63 : decode cX4_ofPerson 63 = .ok (.getfield 32, 3) := by decide +kernel
theorem dX4_ofPerson_66 : decode cX4_ofPerson 66 = .ok (.getfield 97, 3) := by decide +kernel
theorem dX4_ofPerson_69 : decode cX4_ofPerson 69 = .ok (.iload_n 1, 1) := by decide +kernel
theorem dX4_ofPerson_70 : decode cX4_ofPerson 70 = .ok (.iaload, 1) := by decide +kernel
theorem dX4_ofPerson_71 : decode cX4_ofPerson 71 = .ok (.ireturn, 1) := by decide +kernel
theorem dX4_ofPerson_72 : decode cX4_ofPerson 72 = .ok (.aload_n 0, 1) := by decide +kernel
theorem dX4_ofPerson_73 : decode cX4_ofPerson 73 = .ok (.getfield 32, 3) := by decide +kernel
theorem dX4_ofPerson_76 : decode cX4_ofPerson 76 = .ok (.getfield 100, 3) := by decide +kernel
theorem dX4_ofPerson_79 : decode cX4_ofPerson 79 = .ok (.iload_n 1, 1) := by decide +kernel
theorem dX4_ofPerson_80 : decode cX4_ofPerson 80 = .ok (.iaload, 1) := by decide +kernel
theorem dX4_ofPerson_81 : decode cX4_ofPerson 81 = .ok (.ireturn, 1) := by decide +kernel
theorem dX4_ofPerson_82 : decode cX4_ofPerson 82 = .ok (.aload_n 0, 1) := by decide +kernel
theorem dX4_ofPerson_83 : decode cX4_ofPerson 83 = .ok (.getfield 32, 3) := by decide +kernel
theorem dX4_ofPerson_86 : decode cX4_ofPerson 86 = .ok (.getfield 103, 3) := by decide +kernel
theorem dX4_ofPerson_89 : decode cX4_ofPerson 89 = .ok (.iload_n 1, 1) := by decide +kernel
theorem dX4_ofPerson_90 : decode cX4_ofPerson 90 = .ok (.iaload, 1) := by decide +kernel
theorem dX4_ofPerson_91 : decode cX4_ofPerson 91 = .ok (.ireturn, 1) := by decide +kernel
theorem dX4_ofPerson_92 : decode cX4_ofPerson 92 = .ok (.aload_n 0, 1) := by decide +kernel
theorem dX4_ofPerson_93 : decode cX4_ofPerson 93 = .ok (.getfield 32, 3) := by decide +kernel
theorem dX4_ofPerson_96 : decode cX4_ofPerson 96 = .ok (.getfield 106, 3) := by decide +kernel
theorem dX4_ofPerson_99 : decode cX4_ofPerson 99 = .ok (.iload_n 1, 1) := by decide +kernel
theorem dX4_ofPerson_100 : decode cX4_ofPerson 100 = .ok (.iaload, 1) := by decide +kernel
theorem dX4_ofPerson_101 : decode cX4_ofPerson 101 = .ok (.ireturn, 1) := by decide +kernel
theorem dX4_ofPerson_102 : decode cX4_ofPerson 102 = .ok (.aload_n 0, 1) := by decide +kernel
theorem dX4_ofPerson_103 : decode cX4_ofPerson 103 = .ok (.getfield 32, 3) := by decide +kernel
theorem dX4_ofPerson_106 : decode cX4_ofPerson 106 = .ok (.getfield 94, 3) := by decide +kernel
theorem dX4_ofPerson_109 : decode cX4_ofPerson 109 = .ok (.iload_n 1, 1) := by decide +kernel
theorem dX4_ofPerson_110 : decode cX4_ofPerson 110 = .ok (.iaload, 1) := by decide +kernel
theorem dX4_ofPerson_111 : decode cX4_ofPerson 111 = .ok (.aload_n 0, 1) := by decide +kernel
theorem dX4_ofPerson_112 : decode cX4_ofPerson 112 = .ok (.getfield 32, 3) := by decide +kernel
theorem dX4_ofPerson_115 : decode cX4_ofPerson 115 = .ok (.getfield 103, 3) := by decide +kernel
theorem dX4_ofPerson_118 : decode cX4_ofPerson 118 = .ok (.iload_n 1, 1) := by decide +kernel
theorem dX4_ofPerson_119 : decode cX4_ofPerson 119 = .ok (.iaload, 1) := by decide +kernel
theorem dX4_ofPerson_120 : decode cX4_ofPerson 120 = .ok (.invokestatic 109, 3) := by decide +kernel
theorem dX4_ofPerson_123 : decode cX4_ofPerson 123 = .ok (.ireturn, 1) := by decide +kernel
theorem dX4_ofPerson_124 : decode cX4_ofPerson 124 = .ok (.aload_n 0, 1) := by decide +kernel
theorem dX4_ofPerson_125 : decode cX4_ofPerson 125 = .ok (.iload_n 1, 1) := by decide +kernel
theorem dX4_ofPerson_126 : decode cX4_ofPerson 126 = .ok (.invokevirtual 113, 3) := by decide +kernel
theorem dX4_ofPerson_129 : decode cX4_ofPerson 129 = .ok (.ifCond .eq 7, 3) := by decide +kernel
theorem dX4_ofPerson_132 : decode cX4_ofPerson 132 = .ok (.iconst 1, 1) := by decide +kernel
theorem dX4_ofPerson_133 : decode cX4_ofPerson 133 = .ok (.goto 4, 3) := by decide +kernel
theorem dX4_ofPerson_136 : decode cX4_ofPerson 136 = .ok (.iconst 0, 1) := by decide +kernel
theorem dX4_ofPerson_137 : decode cX4_ofPerson 137 = .ok (.ireturn, 1) := by decide +kernel
theorem dX4_ofPerson_138 : decode cX4_ofPerson 138 = .ok (.bipush (-2), 2) := by decide +kernel
theorem dX4_ofPerson_140 : decode cX4_ofPerson 140 = .ok (.ireturn, 1) := by decide +kernel
theorem dX4_seam_0 : decode cX4_seam 0 = .ok (.iload_n 1, 1) := by decide +kernel
theorem dX4_seam_1 : decode cX4_seam 1 = .ok (.iconst 1, 1) := by decide +kernel
theorem dX4_seam_2 : decode cX4_seam 2 = .ok (.if_icmp .lt 9, 3) := by decide +kernel
theorem dX4_seam_5 : decode cX4_seam 5 = .ok (.iload_n 1, 1) := by decide +kernel
theorem dX4_seam_6 : decode cX4_seam 6 = .ok (.bipush 14, 2) := by decide +kernel
theorem dX4_seam_8 : decode cX4_seam 8 = .ok (.if_icmp .lt 6, 3) := by decide +kernel
theorem dX4_seam_11 : decode cX4_seam 11 = .ok (.bipush (-2), 2) := by decide +kernel
theorem dX4_seam_13 : decode cX4_seam 13 = .ok (.ireturn, 1) := by decide +kernel
theorem dX4_seam_14 : decode cX4_seam 14 = .ok (.aload_n 0, 1) := by decide +kernel
theorem dX4_seam_15 : decode cX4_seam 15 = .ok (.getfield 32, 3) := by decide +kernel
theorem dX4_seam_18 : decode cX4_seam 18 = .ok (.getfield 77, 3) := by decide +kernel
theorem dX4_seam_21 : decode cX4_seam 21 = .ok (.ifCond .ne 6, 3) := by decide +kernel
theorem dX4_seam_24 : decode cX4_seam 24 = .ok (.bipush (-3), 2) := by decide +kernel
theorem dX4_seam_26 : decode cX4_seam 26 = .ok (.ireturn, 1) := by decide +kernel
theorem dX4_seam_27 : decode cX4_seam 27 = .ok (.aload_n 0, 1) := by decide +kernel
theorem dX4_seam_28 : decode cX4_seam 28 = .ok (.getfield 32, 3) := by decide +kernel
theorem dX4_seam_31 : decode cX4_seam 31 = .ok (.getfield 116, 3) := by decide +kernel
theorem dX4_seam_34 : decode cX4_seam 34 = .ok (.istore_n 2, 1) := by decide +kernel
theorem dX4_seam_35 : decode cX4_seam 35 = .ok (.aload_n 0, 1) := by decide +kernel
theorem dX4_seam_36 : decode cX4_seam 36 = .ok (.getfield 32, 3) := by decide +kernel
theorem dX4_seam_39 : decode cX4_seam 39 = .ok (.iload_n 1, 1) := by decide +kernel
theorem dX4_seam_40 : decode cX4_seam 40 = .ok (.putfield 116, 3) := by decide +kernel
theorem dX4_seam_43 : decode cX4_seam 43 = .ok (.aload_n 0, 1) := by decide +kernel
theorem dX4_seam_44 : decode cX4_seam 44 = .ok (.iconst 0, 1) := by decide +kernel
theorem dX4_seam_45 : decode cX4_seam 45 = .ok (.putfield 55, 3) := by decide +kernel
theorem dX4_seam_48 : decode cX4_seam 48 = .ok (.iload_n 2, 1) := by decide +kernel
theorem dX4_seam_49 : decode cX4_seam 49 = .ok (.ireturn, 1) := by decide +kernel
theorem dX4_away_0 : decode cX4_away 0 = .ok (.aload_n 0, 1) := by decide +kernel
theorem dX4_away_1 : decode cX4_away 1 = .ok (.iload_n 1, 1) := by decide +kernel
theorem dX4_away_2 : decode cX4_away 2 = .ok (.invokevirtual 91, 3) := by decide +kernel
theorem dX4_away_5 : decode cX4_away 5 = .ok (.ifCond .ne 5, 3) := by decide +kernel
theorem dX4_away_8 : decode cX4_away 8 = .ok (.iconst (-1), 1) := by decide +kernel
theorem dX4_away_9 : decode cX4_away 9 = .ok (.ireturn, 1) := by decide +kernel
theorem dX4_away_10 : decode cX4_away 10 = .ok (.aload_n 0, 1) := by decide +kernel
theorem dX4_away_11 : decode cX4_away 11 = .ok (.iload_n 1, 1) := by decide +kernel
theorem dX4_away_12 : decode cX4_away 12 = .ok (.invokevirtual 113, 3) := by decide +kernel
theorem dX4_away_15 : decode cX4_away 15 = .ok (.iload_n 2, 1) := by decide +kernel
theorem dX4_away_16 : decode cX4_away 16 = .ok (.if_icmp .ne 5, 3) := by decide +kernel
theorem dX4_away_19 : decode cX4_away 19 = .ok (.iconst 0, 1) := by decide +kernel
theorem dX4_away_20 : decode cX4_away 20 = .ok (.ireturn, 1) := by decide +kernel
theorem dX4_away_21 : decode cX4_away 21 = .ok (.aload_n 0, 1) := by decide +kernel
theorem dX4_away_22 : decode cX4_away 22 = .ok (.dup, 1) := by decide +kernel
theorem dX4_away_23 : decode cX4_away 23 = .ok (.getfield 51, 3) := by decide +kernel
theorem dX4_away_26 : decode cX4_away 26 = .ok (.iconst 1, 1) := by decide +kernel
theorem dX4_away_27 : decode cX4_away 27 = .ok (.iload_n 1, 1) := by decide +kernel
theorem dX4_away_28 : decode cX4_away 28 = .ok (.ishl, 1) := by decide +kernel
theorem dX4_away_29 : decode cX4_away 29 = .ok (.ixor, 1) := by decide +kernel
theorem dX4_away_30 : decode cX4_away 30 = .ok (.putfield 51, 3) := by decide +kernel
theorem dX4_away_33 : decode cX4_away 33 = .ok (.aload_n 0, 1) := by decide +kernel
theorem dX4_away_34 : decode cX4_away 34 = .ok (.iconst 0, 1) := by decide +kernel
theorem dX4_away_35 : decode cX4_away 35 = .ok (.putfield 55, 3) := by decide +kernel
theorem dX4_away_38 : decode cX4_away 38 = .ok (.iconst 1, 1) := by decide +kernel
theorem dX4_away_39 : decode cX4_away 39 = .ok (.ireturn, 1) := by decide +kernel
theorem dX4_gift_0 : decode cX4_gift 0 = .ok (.aload_n 0, 1) := by decide +kernel
theorem dX4_gift_1 : decode cX4_gift 1 = .ok (.iload_n 1, 1) := by decide +kernel
theorem dX4_gift_2 : decode cX4_gift 2 = .ok (.invokevirtual 80, 3) := by decide +kernel
theorem dX4_gift_5 : decode cX4_gift 5 = .ok (.ifCond .ne 5, 3) := by decide +kernel
theorem dX4_gift_8 : decode cX4_gift 8 = .ok (.iconst (-1), 1) := by decide +kernel
theorem dX4_gift_9 : decode cX4_gift 9 = .ok (.ireturn, 1) := by decide +kernel
theorem dX4_gift_10 : decode cX4_gift 10 = .ok (.iload_n 2, 1) := by decide +kernel
theorem dX4_gift_11 : decode cX4_gift 11 = .ok (.invokestatic 119, 3) := by decide +kernel
theorem dX4_gift_14 : decode cX4_gift 14 = .ok (.ifCond .eq 14, 3) := by decide +kernel
theorem dX4_gift_17 : decode cX4_gift 17 = .ok (.iload_n 3, 1) := by decide +kernel
theorem dX4_gift_18 : decode cX4_gift 18 = .ok (.iconst 1, 1) := by decide +kernel
theorem dX4_gift_19 : decode cX4_gift 19 = .ok (.if_icmp .lt 9, 3) := by decide +kernel
theorem dX4_gift_22 : decode cX4_gift 22 = .ok (.iload_n 3, 1) := by decide +kernel
theorem dX4_gift_23 : decode cX4_gift 23 = .ok (.bipush 99, 2) := by decide +kernel
theorem dX4_gift_25 : decode cX4_gift 25 = .ok (.if_icmp .le 6, 3) := by decide +kernel
theorem dX4_gift_28 : decode cX4_gift 28 = .ok (.bipush (-2), 2) := by decide +kernel
theorem dX4_gift_30 : decode cX4_gift 30 = .ok (.ireturn, 1) := by decide +kernel
theorem dX4_gift_31 : decode cX4_gift 31 = .ok (.aload_n 0, 1) := by decide +kernel
theorem dX4_gift_32 : decode cX4_gift 32 = .ok (.iconst 0, 1) := by decide +kernel
theorem dX4_gift_33 : decode cX4_gift 33 = .ok (.putfield 55, 3) := by decide +kernel
theorem dX4_gift_36 : decode cX4_gift 36 = .ok (.aload_n 0, 1) := by decide +kernel
theorem dX4_gift_37 : decode cX4_gift 37 = .ok (.getfield 22, 3) := by decide +kernel
theorem dX4_gift_40 : decode cX4_gift 40 = .ok (.iload_n 1, 1) := by decide +kernel
theorem dX4_gift_41 : decode cX4_gift 41 = .ok (.iload_n 2, 1) := by decide +kernel
theorem dX4_gift_42 : decode cX4_gift 42 = .ok (.iload_n 3, 1) := by decide +kernel
theorem dX4_gift_43 : decode cX4_gift 43 = .ok (.invokevirtual 122, 3) := by decide +kernel
theorem dX4_gift_46 : decode cX4_gift 46 = .ok (.ireturn, 1) := by decide +kernel
theorem dX4_undo_0 : decode cX4_undo 0 = .ok (.aload_n 0, 1) := by decide +kernel
theorem dX4_undo_1 : decode cX4_undo 1 = .ok (.iconst 0, 1) := by decide +kernel
theorem dX4_undo_2 : decode cX4_undo 2 = .ok (.putfield 55, 3) := by decide +kernel
theorem dX4_undo_5 : decode cX4_undo 5 = .ok (.aload_n 0, 1) := by decide +kernel
theorem dX4_undo_6 : decode cX4_undo 6 = .ok (.getfield 22, 3) := by decide +kernel
theorem dX4_undo_9 : decode cX4_undo 9 = .ok (.iload_n 1, 1) := by decide +kernel
theorem dX4_undo_10 : decode cX4_undo 10 = .ok (.invokevirtual 126, 3) := by decide +kernel
theorem dX4_undo_13 : decode cX4_undo 13 = .ok (.ireturn, 1) := by decide +kernel
theorem dX4_wood_0 : decode cX4_wood 0 = .ok (.aload_n 0, 1) := by decide +kernel
theorem dX4_wood_1 : decode cX4_wood 1 = .ok (.iload_n 1, 1) := by decide +kernel
theorem dX4_wood_2 : decode cX4_wood 2 = .ok (.invokevirtual 80, 3) := by decide +kernel
theorem dX4_wood_5 : decode cX4_wood 5 = .ok (.ifCond .ne 5, 3) := by decide +kernel
theorem dX4_wood_8 : decode cX4_wood 8 = .ok (.iconst (-1), 1) := by decide +kernel
theorem dX4_wood_9 : decode cX4_wood 9 = .ok (.ireturn, 1) := by decide +kernel
theorem dX4_wood_10 : decode cX4_wood 10 = .ok (.iload_n 2, 1) := by decide +kernel
theorem dX4_wood_11 : decode cX4_wood 11 = .ok (.iload_n 3, 1) := by decide +kernel
theorem dX4_wood_12 : decode cX4_wood 12 = .ok (.invokestatic 130, 3) := by decide +kernel
theorem dX4_wood_15 : decode cX4_wood 15 = .ok (.ifCond .ne 6, 3) := by decide +kernel
theorem dX4_wood_18 : decode cX4_wood 18 = .ok (.bipush (-2), 2) := by decide +kernel
theorem dX4_wood_20 : decode cX4_wood 20 = .ok (.ireturn, 1) := by decide +kernel
theorem dX4_wood_21 : decode cX4_wood 21 = .ok (.aload_n 0, 1) := by decide +kernel
theorem dX4_wood_22 : decode cX4_wood 22 = .ok (.invokevirtual 134, 3) := by decide +kernel
theorem dX4_wood_25 : decode cX4_wood 25 = .ok (.iload_n 1, 1) := by decide +kernel
theorem dX4_wood_26 : decode cX4_wood 26 = .ok (.iload_n 2, 1) := by decide +kernel
theorem dX4_wood_27 : decode cX4_wood 27 = .ok (.iload_n 3, 1) := by decide +kernel
theorem dX4_wood_28 : decode cX4_wood 28 = .ok (.invokestatic 138, 3) := by decide +kernel
theorem dX4_wood_31 : decode cX4_wood 31 = .ok (.invokevirtual 141, 3) := by decide +kernel
theorem dX4_wood_34 : decode cX4_wood 34 = .ok (.ireturn, 1) := by decide +kernel
theorem dX4_wear_0 : decode cX4_wear 0 = .ok (.aload_n 0, 1) := by decide +kernel
theorem dX4_wear_1 : decode cX4_wear 1 = .ok (.iload_n 1, 1) := by decide +kernel
theorem dX4_wear_2 : decode cX4_wear 2 = .ok (.invokevirtual 80, 3) := by decide +kernel
theorem dX4_wear_5 : decode cX4_wear 5 = .ok (.ifCond .ne 5, 3) := by decide +kernel
theorem dX4_wear_8 : decode cX4_wear 8 = .ok (.iconst (-1), 1) := by decide +kernel
theorem dX4_wear_9 : decode cX4_wear 9 = .ok (.ireturn, 1) := by decide +kernel
theorem dX4_wear_10 : decode cX4_wear 10 = .ok (.iload_n 2, 1) := by decide +kernel
theorem dX4_wear_11 : decode cX4_wear 11 = .ok (.iload_n 3, 1) := by decide +kernel
theorem dX4_wear_12 : decode cX4_wear 12 = .ok (.invokestatic 130, 3) := by decide +kernel
theorem dX4_wear_15 : decode cX4_wear 15 = .ok (.ifCond .ne 6, 3) := by decide +kernel
theorem dX4_wear_18 : decode cX4_wear 18 = .ok (.bipush (-2), 2) := by decide +kernel
theorem dX4_wear_20 : decode cX4_wear 20 = .ok (.ireturn, 1) := by decide +kernel
theorem dX4_wear_21 : decode cX4_wear 21 = .ok (.aload_n 0, 1) := by decide +kernel
theorem dX4_wear_22 : decode cX4_wear 22 = .ok (.invokevirtual 134, 3) := by decide +kernel
theorem dX4_wear_25 : decode cX4_wear 25 = .ok (.iload_n 1, 1) := by decide +kernel
theorem dX4_wear_26 : decode cX4_wear 26 = .ok (.iload_n 2, 1) := by decide +kernel
theorem dX4_wear_27 : decode cX4_wear 27 = .ok (.iload_n 3, 1) := by decide +kernel
theorem dX4_wear_28 : decode cX4_wear 28 = .ok (.invokestatic 138, 3) := by decide +kernel
theorem dX4_wear_31 : decode cX4_wear 31 = .ok (.invokevirtual 144, 3) := by decide +kernel
theorem dX4_wear_34 : decode cX4_wear 34 = .ok (.ireturn, 1) := by decide +kernel
theorem dX4_cold_0 : decode cX4_cold 0 = .ok (.iload_n 1, 1) := by decide +kernel
theorem dX4_cold_1 : decode cX4_cold 1 = .ok (.iload_n 2, 1) := by decide +kernel
theorem dX4_cold_2 : decode cX4_cold 2 = .ok (.invokestatic 130, 3) := by decide +kernel
theorem dX4_cold_5 : decode cX4_cold 5 = .ok (.ifCond .ne 6, 3) := by decide +kernel
theorem dX4_cold_8 : decode cX4_cold 8 = .ok (.bipush (-2), 2) := by decide +kernel
theorem dX4_cold_10 : decode cX4_cold 10 = .ok (.ireturn, 1) := by decide +kernel
theorem dX4_cold_11 : decode cX4_cold 11 = .ok (.aload_n 0, 1) := by decide +kernel
theorem dX4_cold_12 : decode cX4_cold 12 = .ok (.getfield 32, 3) := by decide +kernel
theorem dX4_cold_15 : decode cX4_cold 15 = .ok (.getfield 77, 3) := by decide +kernel
theorem dX4_cold_18 : decode cX4_cold 18 = .ok (.ifCond .ne 6, 3) := by decide +kernel
theorem dX4_cold_21 : decode cX4_cold 21 = .ok (.bipush (-3), 2) := by decide +kernel
theorem dX4_cold_23 : decode cX4_cold 23 = .ok (.ireturn, 1) := by decide +kernel
theorem dX4_cold_24 : decode cX4_cold 24 = .ok (.aload_n 0, 1) := by decide +kernel
theorem dX4_cold_25 : decode cX4_cold 25 = .ok (.invokevirtual 134, 3) := by decide +kernel
theorem dX4_cold_28 : decode cX4_cold 28 = .ok (.iload_n 1, 1) := by decide +kernel
theorem dX4_cold_29 : decode cX4_cold 29 = .ok (.iload_n 2, 1) := by decide +kernel
theorem dX4_cold_30 : decode cX4_cold 30 = .ok (.invokestatic 138, 3) := by decide +kernel
theorem dX4_cold_33 : decode cX4_cold 33 = .ok (.invokevirtual 147, 3) := by decide +kernel
theorem dX4_cold_36 : decode cX4_cold 36 = .ok (.ireturn, 1) := by decide +kernel
theorem dX4_chills_0 : decode cX4_chills 0 = .ok (.aload_n 0, 1) := by decide +kernel
theorem dX4_chills_1 : decode cX4_chills 1 = .ok (.iload_n 1, 1) := by decide +kernel
theorem dX4_chills_2 : decode cX4_chills 2 = .ok (.invokevirtual 91, 3) := by decide +kernel
theorem dX4_chills_5 : decode cX4_chills 5 = .ok (.ifCond .ne 5, 3) := by decide +kernel
theorem dX4_chills_8 : decode cX4_chills 8 = .ok (.iconst (-1), 1) := by decide +kernel
theorem dX4_chills_9 : decode cX4_chills 9 = .ok (.ireturn, 1) := by decide +kernel
theorem dX4_chills_10 : decode cX4_chills 10 = .ok (.iload_n 2, 1) := by decide +kernel
theorem dX4_chills_11 : decode cX4_chills 11 = .ok (.invokestatic 119, 3) := by decide +kernel
theorem dX4_chills_14 : decode cX4_chills 14 = .ok (.ifCond .ne 6, 3) := by decide +kernel
theorem dX4_chills_17 : decode cX4_chills 17 = .ok (.bipush (-2), 2) := by decide +kernel
theorem dX4_chills_19 : decode cX4_chills 19 = .ok (.ireturn, 1) := by decide +kernel
theorem dX4_chills_20 : decode cX4_chills 20 = .ok (.aload_n 0, 1) := by decide +kernel
theorem dX4_chills_21 : decode cX4_chills 21 = .ok (.invokevirtual 134, 3) := by decide +kernel
theorem dX4_chills_24 : decode cX4_chills 24 = .ok (.iconst 1, 1) := by decide +kernel
theorem dX4_chills_25 : decode cX4_chills 25 = .ok (.iload_n 1, 1) := by decide +kernel
theorem dX4_chills_26 : decode cX4_chills 26 = .ok (.ishl, 1) := by decide +kernel
theorem dX4_chills_27 : decode cX4_chills 27 = .ok (.iload_n 2, 1) := by decide +kernel
theorem dX4_chills_28 : decode cX4_chills 28 = .ok (.invokevirtual 150, 3) := by decide +kernel
theorem dX4_chills_31 : decode cX4_chills 31 = .ok (.ireturn, 1) := by decide +kernel
theorem dX4_all_0 : decode cX4_all 0 = .ok (.aload_n 0, 1) := by decide +kernel
theorem dX4_all_1 : decode cX4_all 1 = .ok (.getfield 32, 3) := by decide +kernel
theorem dX4_all_4 : decode cX4_all 4 = .ok (.getfield 77, 3) := by decide +kernel
theorem dX4_all_7 : decode cX4_all 7 = .ok (.ifCond .ne 6, 3) := by decide +kernel
theorem dX4_all_10 : decode cX4_all 10 = .ok (.bipush (-3), 2) := by decide +kernel
theorem dX4_all_12 : decode cX4_all 12 = .ok (.ireturn, 1) := by decide +kernel
theorem dX4_all_13 : decode cX4_all 13 = .ok (.aload_n 0, 1) := by decide +kernel
theorem dX4_all_14 : decode cX4_all 14 = .ok (.invokevirtual 134, 3) := by decide +kernel
theorem dX4_all_17 : decode cX4_all 17 = .ok (.aload_n 0, 1) := by decide +kernel
theorem dX4_all_18 : decode cX4_all 18 = .ok (.invokevirtual 153, 3) := by decide +kernel
theorem dX4_all_21 : decode cX4_all 21 = .ok (.bipush 9, 2) := by decide +kernel
theorem dX4_all_23 : decode cX4_all 23 = .ok (.invokevirtual 150, 3) := by decide +kernel
theorem dX4_all_26 : decode cX4_all 26 = .ok (.ireturn, 1) := by decide +kernel
theorem dX4_breaks_0 : decode cX4_breaks 0 = .ok (.aload_n 0, 1) := by decide +kernel
theorem dX4_breaks_1 : decode cX4_breaks 1 = .ok (.iload_n 1, 1) := by decide +kernel
theorem dX4_breaks_2 : decode cX4_breaks 2 = .ok (.invokevirtual 80, 3) := by decide +kernel
theorem dX4_breaks_5 : decode cX4_breaks 5 = .ok (.ifCond .ne 5, 3) := by decide +kernel
theorem dX4_breaks_8 : decode cX4_breaks 8 = .ok (.iconst (-1), 1) := by decide +kernel
theorem dX4_breaks_9 : decode cX4_breaks 9 = .ok (.ireturn, 1) := by decide +kernel
theorem dX4_breaks_10 : decode cX4_breaks 10 = .ok (.aload_n 0, 1) := by decide +kernel
theorem dX4_breaks_11 : decode cX4_breaks 11 = .ok (.invokevirtual 134, 3) := by decide +kernel
theorem dX4_breaks_14 : decode cX4_breaks 14 = .ok (.astore_n 2, 1) := by decide +kernel
theorem dX4_breaks_15 : decode cX4_breaks 15 = .ok (.iconst 0, 1) := by decide +kernel
theorem dX4_breaks_16 : decode cX4_breaks 16 = .ok (.istore_n 3, 1) := by decide +kernel
theorem dX4_breaks_17 : decode cX4_breaks 17 = .ok (.iload_n 3, 1) := by decide +kernel
theorem dX4_breaks_18 : decode cX4_breaks 18 = .ok (.sipush 140, 3) := by decide +kernel
theorem dX4_breaks_21 : decode cX4_breaks 21 = .ok (.if_icmp .ge 28, 3) := by decide +kernel
theorem dX4_breaks_24 : decode cX4_breaks 24 = .ok (.aload_n 0, 1) := by decide +kernel
theorem dX4_breaks_25 : decode cX4_breaks 25 = .ok (.getfield 32, 3) := by decide +kernel
theorem dX4_breaks_28 : decode cX4_breaks 28 = .ok (.iload_n 1, 1) := by decide +kernel
theorem dX4_breaks_29 : decode cX4_breaks 29 = .ok (.aload_n 2, 1) := by decide +kernel
theorem dX4_breaks_30 : decode cX4_breaks 30 = .ok (.iload_n 1, 1) := by decide +kernel
theorem dX4_breaks_31 : decode cX4_breaks 31 = .ok (.iload_n 3, 1) := by decide +kernel
theorem dX4_breaks_32 : decode cX4_breaks 32 = .ok (.invokevirtual 144, 3) := by decide +kernel
theorem dX4_breaks_35 : decode cX4_breaks 35 = .ok (.invokevirtual 157, 3) := by decide +kernel
theorem dX4_breaks_38 : decode cX4_breaks 38 = .ok (.ifCond .eq 5, 3) := by decide +kernel
theorem dX4_breaks_41 : decode cX4_breaks 41 = .ok (.iload_n 3, 1) := by decide +kernel
theorem dX4_breaks_42 : decode cX4_breaks 42 = .ok (.ireturn, 1) := by decide +kernel
theorem dX4_breaks_43 : decode cX4_breaks 43 = .ok (.iinc 3 1, 3) := by decide +kernel
theorem dX4_breaks_46 : decode cX4_breaks 46 = .ok (.goto (-29), 3) := by decide +kernel
theorem dX4_breaks_49 : decode cX4_breaks 49 = .ok (.bipush (-9), 2) := by decide +kernel
theorem dX4_breaks_51 : decode cX4_breaks 51 = .ok (.ireturn, 1) := by decide +kernel
theorem dX4_best_0 : decode cX4_best 0 = .ok (.iload_n 1, 1) := by decide +kernel
theorem dX4_best_1 : decode cX4_best 1 = .ok (.ifCond .lt 8, 3) := by decide +kernel
theorem dX4_best_4 : decode cX4_best 4 = .ok (.iload_n 1, 1) := by decide +kernel
theorem dX4_best_5 : decode cX4_best 5 = .ok (.iconst 1, 1) := by decide +kernel
theorem dX4_best_6 : decode cX4_best 6 = .ok (.if_icmp .le 6, 3) := by decide +kernel
theorem dX4_best_9 : decode cX4_best 9 = .ok (.bipush (-2), 2) := by decide +kernel
theorem dX4_best_11 : decode cX4_best 11 = .ok (.ireturn, 1) := by decide +kernel
theorem dX4_best_12 : decode cX4_best 12 = .ok (.aload_n 0, 1) := by decide +kernel
theorem dX4_best_13 : decode cX4_best 13 = .ok (.getfield 32, 3) := by decide +kernel
theorem dX4_best_16 : decode cX4_best 16 = .ok (.getfield 77, 3) := by decide +kernel
theorem dX4_best_19 : decode cX4_best 19 = .ok (.ifCond .ne 6, 3) := by decide +kernel
theorem dX4_best_22 : decode cX4_best 22 = .ok (.bipush (-3), 2) := by decide +kernel
theorem dX4_best_24 : decode cX4_best 24 = .ok (.ireturn, 1) := by decide +kernel
theorem dX4_best_25 : decode cX4_best 25 = .ok (.iconst 0, 1) := by decide +kernel
theorem dX4_best_26 : decode cX4_best 26 = .ok (.istore_n 2, 1) := by decide +kernel
theorem dX4_best_27 : decode cX4_best 27 = .ok (.iconst 0, 1) := by decide +kernel
theorem dX4_best_28 : decode cX4_best 28 = .ok (.istore_n 3, 1) := by decide +kernel
theorem dX4_best_29 : decode cX4_best 29 = .ok (.iconst 1, 1) := by decide +kernel
theorem dX4_best_30 : decode cX4_best 30 = .ok (.istore 4, 2) := by decide +kernel
theorem dX4_best_32 : decode cX4_best 32 = .ok (.iload 4, 2) := by decide +kernel
theorem dX4_best_34 : decode cX4_best 34 = .ok (.bipush 14, 2) := by decide +kernel
theorem dX4_best_36 : decode cX4_best 36 = .ok (.if_icmp .ge 75, 3) := by decide +kernel
theorem dX4_best_39 : decode cX4_best 39 = .ok (.aload_n 0, 1) := by decide +kernel
theorem dX4_best_40 : decode cX4_best 40 = .ok (.getfield 48, 3) := by decide +kernel
theorem dX4_best_43 : decode cX4_best 43 = .ok (.aload_n 0, 1) := by decide +kernel
theorem dX4_best_44 : decode cX4_best 44 = .ok (.getfield 32, 3) := by decide +kernel
theorem dX4_best_47 : decode cX4_best 47 = .ok (.aload_n 0, 1) := by decide +kernel
theorem dX4_best_48 : decode cX4_best 48 = .ok (.getfield 51, 3) := by decide +kernel
theorem dX4_best_51 : decode cX4_best 51 = .ok (.invokevirtual 160, 3) := by decide +kernel
theorem dX4_best_54 : decode cX4_best 54 = .ok (.aload_n 0, 1) := by decide +kernel
theorem dX4_best_55 : decode cX4_best 55 = .ok (.getfield 48, 3) := by decide +kernel
theorem dX4_best_58 : decode cX4_best 58 = .ok (.iload 4, 2) := by decide +kernel
theorem dX4_best_60 : decode cX4_best 60 = .ok (.putfield 164, 3) := by decide +kernel
theorem dX4_best_63 : decode cX4_best 63 = .ok (.aload_n 0, 1) := by decide +kernel
theorem dX4_best_64 : decode cX4_best 64 = .ok (.getfield 48, 3) := by decide +kernel
theorem dX4_best_67 : decode cX4_best 67 = .ok (.bipush 10, 2) := by decide +kernel
theorem dX4_best_69 : decode cX4_best 69 = .ok (.iconst 0, 1) := by decide +kernel
theorem dX4_best_70 : decode cX4_best 70 = .ok (.invokevirtual 165, 3) := by decide +kernel
theorem dX4_best_73 : decode cX4_best 73 = .ok (.pop, 1) := by decide +kernel
theorem dX4_best_74 : decode cX4_best 74 = .ok (.aload_n 0, 1) := by decide +kernel
theorem dX4_best_75 : decode cX4_best 75 = .ok (.getfield 48, 3) := by decide +kernel
theorem dX4_best_78 : decode cX4_best 78 = .ok (.aload_n 0, 1) := by decide +kernel
theorem dX4_best_79 : decode cX4_best 79 = .ok (.invokevirtual 153, 3) := by decide +kernel
theorem dX4_best_82 : decode cX4_best 82 = .ok (.bipush 9, 2) := by decide +kernel
theorem dX4_best_84 : decode cX4_best 84 = .ok (.invokevirtual 150, 3) := by decide +kernel
theorem dX4_best_87 : decode cX4_best 87 = .ok (.istore 5, 2) := by decide +kernel
theorem dX4_best_89 : decode cX4_best 89 = .ok (.iload_n 2, 1) := by decide +kernel
theorem dX4_best_90 : decode cX4_best 90 = .ok (.ifCond .eq 9, 3) := by decide +kernel
theorem dX4_best_93 : decode cX4_best 93 = .ok (.iload 5, 2) := by decide +kernel
theorem dX4_best_95 : decode cX4_best 95 = .ok (.iload_n 3, 1) := by decide +kernel
theorem dX4_best_96 : decode cX4_best 96 = .ok (.if_icmp .ge 9, 3) := by decide +kernel
theorem dX4_best_99 : decode cX4_best 99 = .ok (.iload 4, 2) := by decide +kernel
theorem dX4_best_101 : decode cX4_best 101 = .ok (.istore_n 2, 1) := by decide +kernel
theorem dX4_best_102 : decode cX4_best 102 = .ok (.iload 5, 2) := by decide +kernel
theorem dX4_best_104 : decode cX4_best 104 = .ok (.istore_n 3, 1) := by decide +kernel
theorem dX4_best_105 : decode cX4_best 105 = .ok (.iinc 4 1, 3) := by decide +kernel
theorem dX4_best_108 : decode cX4_best 108 = .ok (.goto (-76), 3) := by decide +kernel
theorem dX4_best_111 : decode cX4_best 111 = .ok (.iload_n 1, 1) := by decide +kernel
theorem dX4_best_112 : decode cX4_best 112 = .ok (.ifCond .ne 7, 3) := by decide +kernel
theorem dX4_best_115 : decode cX4_best 115 = .ok (.iload_n 2, 1) := by decide +kernel
theorem dX4_best_116 : decode cX4_best 116 = .ok (.goto 4, 3) := by decide +kernel
theorem dX4_best_119 : decode cX4_best 119 = .ok (.iload_n 3, 1) := by decide +kernel
theorem dX4_best_120 : decode cX4_best 120 = .ok (.ireturn, 1) := by decide +kernel
theorem dX4_blame_0 : decode cX4_blame 0 = .ok (.aload_n 0, 1) := by decide +kernel
theorem dX4_blame_1 : decode cX4_blame 1 = .ok (.iload_n 1, 1) := by decide +kernel
theorem dX4_blame_2 : decode cX4_blame 2 = .ok (.invokevirtual 91, 3) := by decide +kernel
theorem dX4_blame_5 : decode cX4_blame 5 = .ok (.ifCond .ne 5, 3) := by decide +kernel
theorem dX4_blame_8 : decode cX4_blame 8 = .ok (.iconst (-1), 1) := by decide +kernel
theorem dX4_blame_9 : decode cX4_blame 9 = .ok (.ireturn, 1) := by decide +kernel
theorem dX4_blame_10 : decode cX4_blame 10 = .ok (.aload_n 0, 1) := by decide +kernel
theorem dX4_blame_11 : decode cX4_blame 11 = .ok (.invokevirtual 153, 3) := by decide +kernel
theorem dX4_blame_14 : decode cX4_blame 14 = .ok (.iconst 1, 1) := by decide +kernel
theorem dX4_blame_15 : decode cX4_blame 15 = .ok (.iload_n 1, 1) := by decide +kernel
theorem dX4_blame_16 : decode cX4_blame 16 = .ok (.ishl, 1) := by decide +kernel
theorem dX4_blame_17 : decode cX4_blame 17 = .ok (.iconst (-1), 1) := by decide +kernel
theorem dX4_blame_18 : decode cX4_blame 18 = .ok (.ixor, 1) := by decide +kernel
theorem dX4_blame_19 : decode cX4_blame 19 = .ok (.iand, 1) := by decide +kernel
theorem dX4_blame_20 : decode cX4_blame 20 = .ok (.istore_n 2, 1) := by decide +kernel
theorem dX4_blame_21 : decode cX4_blame 21 = .ok (.aload_n 0, 1) := by decide +kernel
theorem dX4_blame_22 : decode cX4_blame 22 = .ok (.invokevirtual 134, 3) := by decide +kernel
theorem dX4_blame_25 : decode cX4_blame 25 = .ok (.iload_n 2, 1) := by decide +kernel
theorem dX4_blame_26 : decode cX4_blame 26 = .ok (.bipush 9, 2) := by decide +kernel
theorem dX4_blame_28 : decode cX4_blame 28 = .ok (.invokevirtual 150, 3) := by decide +kernel
theorem dX4_blame_31 : decode cX4_blame 31 = .ok (.istore_n 3, 1) := by decide +kernel
theorem dX4_blame_32 : decode cX4_blame 32 = .ok (.aload_n 0, 1) := by decide +kernel
theorem dX4_blame_33 : decode cX4_blame 33 = .ok (.getfield 48, 3) := by decide +kernel
theorem dX4_blame_36 : decode cX4_blame 36 = .ok (.aload_n 0, 1) := by decide +kernel
theorem dX4_blame_37 : decode cX4_blame 37 = .ok (.getfield 32, 3) := by decide +kernel
theorem dX4_blame_40 : decode cX4_blame 40 = .ok (.aload_n 0, 1) := by decide +kernel
theorem dX4_blame_41 : decode cX4_blame 41 = .ok (.getfield 51, 3) := by decide +kernel
theorem dX4_blame_44 : decode cX4_blame 44 = .ok (.iconst 1, 1) := by decide +kernel
theorem dX4_blame_45 : decode cX4_blame 45 = .ok (.iload_n 1, 1) := by decide +kernel
theorem dX4_blame_46 : decode cX4_blame 46 = .ok (.ishl, 1) := by decide +kernel
theorem dX4_blame_47 : decode cX4_blame 47 = .ok (.ior, 1) := by decide +kernel
theorem dX4_blame_48 : decode cX4_blame 48 = .ok (.invokevirtual 160, 3) := by decide +kernel
theorem dX4_blame_51 : decode cX4_blame 51 = .ok (.aload_n 0, 1) := by decide +kernel
theorem dX4_blame_52 : decode cX4_blame 52 = .ok (.getfield 48, 3) := by decide +kernel
theorem dX4_blame_55 : decode cX4_blame 55 = .ok (.bipush 10, 2) := by decide +kernel
theorem dX4_blame_57 : decode cX4_blame 57 = .ok (.iconst 0, 1) := by decide +kernel
theorem dX4_blame_58 : decode cX4_blame 58 = .ok (.invokevirtual 165, 3) := by decide +kernel
theorem dX4_blame_61 : decode cX4_blame 61 = .ok (.pop, 1) := by decide +kernel
theorem dX4_blame_62 : decode cX4_blame 62 = .ok (.sipush 1000, 3) := by decide +kernel
theorem dX4_blame_65 : decode cX4_blame 65 = .ok (.iload_n 3, 1) := by decide +kernel
theorem dX4_blame_66 : decode cX4_blame 66 = .ok (.iadd, 1) := by decide +kernel
theorem dX4_blame_67 : decode cX4_blame 67 = .ok (.aload_n 0, 1) := by decide +kernel
theorem dX4_blame_68 : decode cX4_blame 68 = .ok (.getfield 48, 3) := by decide +kernel
theorem dX4_blame_71 : decode cX4_blame 71 = .ok (.iload_n 2, 1) := by decide +kernel
theorem dX4_blame_72 : decode cX4_blame 72 = .ok (.bipush 9, 2) := by decide +kernel
theorem dX4_blame_74 : decode cX4_blame 74 = .ok (.invokevirtual 150, 3) := by decide +kernel
theorem dX4_blame_77 : decode cX4_blame 77 = .ok (.isub, 1) := by decide +kernel
theorem dX4_blame_78 : decode cX4_blame 78 = .ok (.ireturn, 1) := by decide +kernel
theorem dX4_warm_0 : decode cX4_warm 0 = .ok (.aload_n 0, 1) := by decide +kernel
theorem dX4_warm_1 : decode cX4_warm 1 = .ok (.iload_n 1, 1) := by decide +kernel
theorem dX4_warm_2 : decode cX4_warm 2 = .ok (.invokevirtual 91, 3) := by decide +kernel
theorem dX4_warm_5 : decode cX4_warm 5 = .ok (.ifCond .ne 5, 3) := by decide +kernel
theorem dX4_warm_8 : decode cX4_warm 8 = .ok (.iconst (-1), 1) := by decide +kernel
theorem dX4_warm_9 : decode cX4_warm 9 = .ok (.ireturn, 1) := by decide +kernel
theorem dX4_warm_10 : decode cX4_warm 10 = .ok (.aload_n 0, 1) := by decide +kernel
theorem dX4_warm_11 : decode cX4_warm 11 = .ok (.getfield 51, 3) := by decide +kernel
theorem dX4_warm_14 : decode cX4_warm 14 = .ok (.iconst 1, 1) := by decide +kernel
theorem dX4_warm_15 : decode cX4_warm 15 = .ok (.iload_n 1, 1) := by decide +kernel
theorem dX4_warm_16 : decode cX4_warm 16 = .ok (.ishl, 1) := by decide +kernel
theorem dX4_warm_17 : decode cX4_warm 17 = .ok (.ior, 1) := by decide +kernel
theorem dX4_warm_18 : decode cX4_warm 18 = .ok (.istore_n 2, 1) := by decide +kernel
theorem dX4_warm_19 : decode cX4_warm 19 = .ok (.bipush (-9), 2) := by decide +kernel
theorem dX4_warm_21 : decode cX4_warm 21 = .ok (.istore_n 3, 1) := by decide +kernel
theorem dX4_warm_22 : decode cX4_warm 22 = .ok (.bipush 6, 2) := by decide +kernel
theorem dX4_warm_24 : decode cX4_warm 24 = .ok (.istore 4, 2) := by decide +kernel
theorem dX4_warm_26 : decode cX4_warm 26 = .ok (.iconst 0, 1) := by decide +kernel
theorem dX4_warm_27 : decode cX4_warm 27 = .ok (.istore 5, 2) := by decide +kernel
theorem dX4_warm_29 : decode cX4_warm 29 = .ok (.iload 5, 2) := by decide +kernel
theorem dX4_warm_31 : decode cX4_warm 31 = .ok (.aload_n 0, 1) := by decide +kernel
theorem dX4_warm_32 : decode cX4_warm 32 = .ok (.invokevirtual 153, 3) := by decide +kernel
theorem dX4_warm_35 : decode cX4_warm 35 = .ok (.if_icmp .gt 72, 3) := by decide +kernel
theorem dX4_warm_38 : decode cX4_warm 38 = .ok (.iload 5, 2) := by decide +kernel
theorem dX4_warm_40 : decode cX4_warm 40 = .ok (.iload_n 2, 1) := by decide +kernel
theorem dX4_warm_41 : decode cX4_warm 41 = .ok (.iand, 1) := by decide +kernel
theorem dX4_warm_42 : decode cX4_warm 42 = .ok (.ifCond .ne 59, 3) := by decide +kernel
theorem dX4_warm_45 : decode cX4_warm 45 = .ok (.iload 5, 2) := by decide +kernel
theorem dX4_warm_47 : decode cX4_warm 47 = .ok (.invokestatic 168, 3) := by decide +kernel
theorem dX4_warm_50 : decode cX4_warm 50 = .ok (.iload 4, 2) := by decide +kernel
theorem dX4_warm_52 : decode cX4_warm 52 = .ok (.if_icmp .lt 6, 3) := by decide +kernel
theorem dX4_warm_55 : decode cX4_warm 55 = .ok (.goto 46, 3) := by decide +kernel
theorem dX4_warm_58 : decode cX4_warm 58 = .ok (.aload_n 0, 1) := by decide +kernel
theorem dX4_warm_59 : decode cX4_warm 59 = .ok (.getfield 48, 3) := by decide +kernel
theorem dX4_warm_62 : decode cX4_warm 62 = .ok (.aload_n 0, 1) := by decide +kernel
theorem dX4_warm_63 : decode cX4_warm 63 = .ok (.getfield 32, 3) := by decide +kernel
theorem dX4_warm_66 : decode cX4_warm 66 = .ok (.aload_n 0, 1) := by decide +kernel
theorem dX4_warm_67 : decode cX4_warm 67 = .ok (.getfield 51, 3) := by decide +kernel
theorem dX4_warm_70 : decode cX4_warm 70 = .ok (.iload 5, 2) := by decide +kernel
theorem dX4_warm_72 : decode cX4_warm 72 = .ok (.ior, 1) := by decide +kernel
theorem dX4_warm_73 : decode cX4_warm 73 = .ok (.invokevirtual 160, 3) := by decide +kernel
theorem dX4_warm_76 : decode cX4_warm 76 = .ok (.aload_n 0, 1) := by decide +kernel
theorem dX4_warm_77 : decode cX4_warm 77 = .ok (.getfield 48, 3) := by decide +kernel
theorem dX4_warm_80 : decode cX4_warm 80 = .ok (.bipush 10, 2) := by decide +kernel
theorem dX4_warm_82 : decode cX4_warm 82 = .ok (.iconst 1, 1) := by decide +kernel
theorem dX4_warm_83 : decode cX4_warm 83 = .ok (.iload_n 1, 1) := by decide +kernel
theorem dX4_warm_84 : decode cX4_warm 84 = .ok (.ishl, 1) := by decide +kernel
theorem dX4_warm_85 : decode cX4_warm 85 = .ok (.invokevirtual 165, 3) := by decide +kernel
theorem dX4_warm_88 : decode cX4_warm 88 = .ok (.ifCond .eq 13, 3) := by decide +kernel
theorem dX4_warm_91 : decode cX4_warm 91 = .ok (.iload 5, 2) := by decide +kernel
theorem dX4_warm_93 : decode cX4_warm 93 = .ok (.istore_n 3, 1) := by decide +kernel
theorem dX4_warm_94 : decode cX4_warm 94 = .ok (.iload 5, 2) := by decide +kernel
theorem dX4_warm_96 : decode cX4_warm 96 = .ok (.invokestatic 168, 3) := by decide +kernel
theorem dX4_warm_99 : decode cX4_warm 99 = .ok (.istore 4, 2) := by decide +kernel
theorem dX4_warm_101 : decode cX4_warm 101 = .ok (.iinc 5 1, 3) := by decide +kernel
theorem dX4_warm_104 : decode cX4_warm 104 = .ok (.goto (-75), 3) := by decide +kernel
theorem dX4_warm_107 : decode cX4_warm 107 = .ok (.iload_n 3, 1) := by decide +kernel
theorem dX4_warm_108 : decode cX4_warm 108 = .ok (.ireturn, 1) := by decide +kernel
theorem dX4_logs_0 : decode cX4_logs 0 = .ok (.aload_n 0, 1) := by decide +kernel
theorem dX4_logs_1 : decode cX4_logs 1 = .ok (.iload_n 1, 1) := by decide +kernel
theorem dX4_logs_2 : decode cX4_logs 2 = .ok (.invokevirtual 80, 3) := by decide +kernel
theorem dX4_logs_5 : decode cX4_logs 5 = .ok (.ifCond .ne 5, 3) := by decide +kernel
theorem dX4_logs_8 : decode cX4_logs 8 = .ok (.iconst (-1), 1) := by decide +kernel
theorem dX4_logs_9 : decode cX4_logs 9 = .ok (.ireturn, 1) := by decide +kernel
theorem dX4_logs_10 : decode cX4_logs 10 = .ok (.aload_n 0, 1) := by decide +kernel
theorem dX4_logs_11 : decode cX4_logs 11 = .ok (.getfield 32, 3) := by decide +kernel
theorem dX4_logs_14 : decode cX4_logs 14 = .ok (.iload_n 1, 1) := by decide +kernel
theorem dX4_logs_15 : decode cX4_logs 15 = .ok (.invokevirtual 173, 3) := by decide +kernel
theorem dX4_logs_18 : decode cX4_logs 18 = .ok (.istore_n 2, 1) := by decide +kernel
theorem dX4_logs_19 : decode cX4_logs 19 = .ok (.iconst 0, 1) := by decide +kernel
theorem dX4_logs_20 : decode cX4_logs 20 = .ok (.istore_n 3, 1) := by decide +kernel
theorem dX4_logs_21 : decode cX4_logs 21 = .ok (.iload_n 3, 1) := by decide +kernel
theorem dX4_logs_22 : decode cX4_logs 22 = .ok (.bipush 99, 2) := by decide +kernel
theorem dX4_logs_24 : decode cX4_logs 24 = .ok (.if_icmp .gt 54, 3) := by decide +kernel
theorem dX4_logs_27 : decode cX4_logs 27 = .ok (.aload_n 0, 1) := by decide +kernel
theorem dX4_logs_28 : decode cX4_logs 28 = .ok (.getfield 48, 3) := by decide +kernel
theorem dX4_logs_31 : decode cX4_logs 31 = .ok (.aload_n 0, 1) := by decide +kernel
theorem dX4_logs_32 : decode cX4_logs 32 = .ok (.getfield 32, 3) := by decide +kernel
theorem dX4_logs_35 : decode cX4_logs 35 = .ok (.aload_n 0, 1) := by decide +kernel
theorem dX4_logs_36 : decode cX4_logs 36 = .ok (.getfield 51, 3) := by decide +kernel
theorem dX4_logs_39 : decode cX4_logs 39 = .ok (.invokevirtual 160, 3) := by decide +kernel
theorem dX4_logs_42 : decode cX4_logs 42 = .ok (.aload_n 0, 1) := by decide +kernel
theorem dX4_logs_43 : decode cX4_logs 43 = .ok (.getfield 48, 3) := by decide +kernel
theorem dX4_logs_46 : decode cX4_logs 46 = .ok (.iload_n 1, 1) := by decide +kernel
theorem dX4_logs_47 : decode cX4_logs 47 = .ok (.putfield 176, 3) := by decide +kernel
theorem dX4_logs_50 : decode cX4_logs 50 = .ok (.aload_n 0, 1) := by decide +kernel
theorem dX4_logs_51 : decode cX4_logs 51 = .ok (.getfield 48, 3) := by decide +kernel
theorem dX4_logs_54 : decode cX4_logs 54 = .ok (.iload_n 3, 1) := by decide +kernel
theorem dX4_logs_55 : decode cX4_logs 55 = .ok (.putfield 179, 3) := by decide +kernel
theorem dX4_logs_58 : decode cX4_logs 58 = .ok (.aload_n 0, 1) := by decide +kernel
theorem dX4_logs_59 : decode cX4_logs 59 = .ok (.getfield 48, 3) := by decide +kernel
theorem dX4_logs_62 : decode cX4_logs 62 = .ok (.iconst 1, 1) := by decide +kernel
theorem dX4_logs_63 : decode cX4_logs 63 = .ok (.iload_n 2, 1) := by decide +kernel
theorem dX4_logs_64 : decode cX4_logs 64 = .ok (.invokevirtual 165, 3) := by decide +kernel
theorem dX4_logs_67 : decode cX4_logs 67 = .ok (.ifCond .eq 5, 3) := by decide +kernel
theorem dX4_logs_70 : decode cX4_logs 70 = .ok (.iload_n 3, 1) := by decide +kernel
theorem dX4_logs_71 : decode cX4_logs 71 = .ok (.ireturn, 1) := by decide +kernel
theorem dX4_logs_72 : decode cX4_logs 72 = .ok (.iinc 3 1, 3) := by decide +kernel
theorem dX4_logs_75 : decode cX4_logs 75 = .ok (.goto (-54), 3) := by decide +kernel
theorem dX4_logs_78 : decode cX4_logs 78 = .ok (.bipush (-9), 2) := by decide +kernel
theorem dX4_logs_80 : decode cX4_logs 80 = .ok (.ireturn, 1) := by decide +kernel
theorem dX4_pays_0 : decode cX4_pays 0 = .ok (.aload_n 0, 1) := by decide +kernel
theorem dX4_pays_1 : decode cX4_pays 1 = .ok (.iload_n 1, 1) := by decide +kernel
theorem dX4_pays_2 : decode cX4_pays 2 = .ok (.invokevirtual 91, 3) := by decide +kernel
theorem dX4_pays_5 : decode cX4_pays 5 = .ok (.ifCond .eq 17, 3) := by decide +kernel
theorem dX4_pays_8 : decode cX4_pays 8 = .ok (.iload_n 2, 1) := by decide +kernel
theorem dX4_pays_9 : decode cX4_pays 9 = .ok (.invokestatic 119, 3) := by decide +kernel
theorem dX4_pays_12 : decode cX4_pays 12 = .ok (.ifCond .eq 10, 3) := by decide +kernel
theorem dX4_pays_15 : decode cX4_pays 15 = .ok (.iload_n 3, 1) := by decide +kernel
theorem dX4_pays_16 : decode cX4_pays 16 = .ok (.invokestatic 182, 3) := by decide +kernel
theorem dX4_pays_19 : decode cX4_pays 19 = .ok (.ifCond .ne 7, 3) := by decide +kernel
theorem dX4_pays_22 : decode cX4_pays 22 = .ok (.ldc2_w 185, 3) := by decide +kernel
theorem dX4_pays_25 : decode cX4_pays 25 = .ok (.lreturn, 1) := by decide +kernel
theorem dX4_pays_26 : decode cX4_pays 26 = .ok (.iconst 0, 1) := by decide +kernel
theorem dX4_pays_27 : decode cX4_pays 27 = .ok (.istore 4, 2) := by decide +kernel
theorem dX4_pays_29 : decode cX4_pays 29 = .ok (.iconst 0, 1) := by decide +kernel
theorem dX4_pays_30 : decode cX4_pays 30 = .ok (.istore 5, 2) := by decide +kernel
theorem dX4_pays_32 : decode cX4_pays 32 = .ok (.iconst 0, 1) := by decide +kernel
theorem dX4_pays_33 : decode cX4_pays 33 = .ok (.istore 6, 2) := by decide +kernel
theorem dX4_pays_35 : decode cX4_pays 35 = .ok (.iload 6, 2) := by decide +kernel
theorem dX4_pays_37 : decode cX4_pays 37 = .ok (.aload_n 0, 1) := by decide +kernel
theorem dX4_pays_38 : decode cX4_pays 38 = .ok (.getfield 32, 3) := by decide +kernel
theorem dX4_pays_41 : decode cX4_pays 41 = .ok (.getfield 187, 3) := by decide +kernel
theorem dX4_pays_44 : decode cX4_pays 44 = .ok (.if_icmp .ge 35, 3) := by decide +kernel
theorem dX4_pays_47 : decode cX4_pays 47 = .ok (.aload_n 0, 1) := by decide +kernel
theorem dX4_pays_48 : decode cX4_pays 48 = .ok (.iload 6, 2) := by decide +kernel
theorem dX4_pays_50 : decode cX4_pays 50 = .ok (.iload_n 2, 1) := by decide +kernel
theorem dX4_pays_51 : decode cX4_pays 51 = .ok (.invokevirtual 190, 3) := by decide +kernel
theorem dX4_pays_54 : decode cX4_pays 54 = .ok (.istore 7, 2) := by decide +kernel
theorem dX4_pays_56 : decode cX4_pays 56 = .ok (.iload 5, 2) := by decide +kernel
theorem dX4_pays_58 : decode cX4_pays 58 = .ok (.iload 7, 2) := by decide +kernel
theorem dX4_pays_60 : decode cX4_pays 60 = .ok (.iadd, 1) := by decide +kernel
theorem dX4_pays_61 : decode cX4_pays 61 = .ok (.istore 5, 2) := by decide +kernel
theorem dX4_pays_63 : decode cX4_pays 63 = .ok (.iload 6, 2) := by decide +kernel
theorem dX4_pays_65 : decode cX4_pays 65 = .ok (.iload_n 1, 1) := by decide +kernel
theorem dX4_pays_66 : decode cX4_pays 66 = .ok (.if_icmp .ne 7, 3) := by decide +kernel
theorem dX4_pays_69 : decode cX4_pays 69 = .ok (.iload 7, 2) := by decide +kernel
theorem dX4_pays_71 : decode cX4_pays 71 = .ok (.istore 4, 2) := by decide +kernel
theorem dX4_pays_73 : decode cX4_pays 73 = .ok (.iinc 6 1, 3) := by decide +kernel
theorem dX4_pays_76 : decode cX4_pays 76 = .ok (.goto (-41), 3) := by decide +kernel
theorem dX4_pays_79 : decode cX4_pays 79 = .ok (.iload 4, 2) := by decide +kernel
theorem dX4_pays_81 : decode cX4_pays 81 = .ok (.iload 5, 2) := by decide +kernel
theorem dX4_pays_83 : decode cX4_pays 83 = .ok (.iload_n 3, 1) := by decide +kernel
theorem dX4_pays_84 : decode cX4_pays 84 = .ok (.invokestatic 193, 3) := by decide +kernel
theorem dX4_pays_87 : decode cX4_pays 87 = .ok (.lreturn, 1) := by decide +kernel
theorem dX4_together_0 : decode cX4_together 0 = .ok (.aload_n 0, 1) := by decide +kernel
theorem dX4_together_1 : decode cX4_together 1 = .ok (.iload_n 1, 1) := by decide +kernel
theorem dX4_together_2 : decode cX4_together 2 = .ok (.invokevirtual 91, 3) := by decide +kernel
theorem dX4_together_5 : decode cX4_together 5 = .ok (.ifCond .eq 16, 3) := by decide +kernel
theorem dX4_together_8 : decode cX4_together 8 = .ok (.aload_n 0, 1) := by decide +kernel
theorem dX4_together_9 : decode cX4_together 9 = .ok (.iload_n 2, 1) := by decide +kernel
theorem dX4_together_10 : decode cX4_together 10 = .ok (.invokevirtual 91, 3) := by decide +kernel
theorem dX4_together_13 : decode cX4_together 13 = .ok (.ifCond .eq 8, 3) := by decide +kernel
theorem dX4_together_16 : decode cX4_together 16 = .ok (.iload_n 1, 1) := by decide +kernel
theorem dX4_together_17 : decode cX4_together 17 = .ok (.iload_n 2, 1) := by decide +kernel
theorem dX4_together_18 : decode cX4_together 18 = .ok (.if_icmp .ne 5, 3) := by decide +kernel
theorem dX4_together_21 : decode cX4_together 21 = .ok (.iconst (-1), 1) := by decide +kernel
theorem dX4_together_22 : decode cX4_together 22 = .ok (.ireturn, 1) := by decide +kernel
theorem dX4_together_23 : decode cX4_together 23 = .ok (.iload_n 3, 1) := by decide +kernel
theorem dX4_together_24 : decode cX4_together 24 = .ok (.ifCond .lt 9, 3) := by decide +kernel
theorem dX4_together_27 : decode cX4_together 27 = .ok (.iload_n 3, 1) := by decide +kernel
theorem dX4_together_28 : decode cX4_together 28 = .ok (.bipush 14, 2) := by decide +kernel
theorem dX4_together_30 : decode cX4_together 30 = .ok (.if_icmp .lt 6, 3) := by decide +kernel
theorem dX4_together_33 : decode cX4_together 33 = .ok (.bipush (-2), 2) := by decide +kernel
theorem dX4_together_35 : decode cX4_together 35 = .ok (.ireturn, 1) := by decide +kernel
theorem dX4_together_36 : decode cX4_together 36 = .ok (.aload_n 0, 1) := by decide +kernel
theorem dX4_together_37 : decode cX4_together 37 = .ok (.getfield 32, 3) := by decide +kernel
theorem dX4_together_40 : decode cX4_together 40 = .ok (.getfield 100, 3) := by decide +kernel
theorem dX4_together_43 : decode cX4_together 43 = .ok (.iload_n 1, 1) := by decide +kernel
theorem dX4_together_44 : decode cX4_together 44 = .ok (.iaload, 1) := by decide +kernel
theorem dX4_together_45 : decode cX4_together 45 = .ok (.aload_n 0, 1) := by decide +kernel
theorem dX4_together_46 : decode cX4_together 46 = .ok (.getfield 32, 3) := by decide +kernel
theorem dX4_together_49 : decode cX4_together 49 = .ok (.getfield 100, 3) := by decide +kernel
theorem dX4_together_52 : decode cX4_together 52 = .ok (.iload_n 2, 1) := by decide +kernel
theorem dX4_together_53 : decode cX4_together 53 = .ok (.iaload, 1) := by decide +kernel
theorem dX4_together_54 : decode cX4_together 54 = .ok (.if_icmp .eq 5, 3) := by decide +kernel
theorem dX4_together_57 : decode cX4_together 57 = .ok (.iconst 0, 1) := by decide +kernel
theorem dX4_together_58 : decode cX4_together 58 = .ok (.ireturn, 1) := by decide +kernel
theorem dX4_together_59 : decode cX4_together 59 = .ok (.aload_n 0, 1) := by decide +kernel
theorem dX4_together_60 : decode cX4_together 60 = .ok (.getfield 32, 3) := by decide +kernel
theorem dX4_together_63 : decode cX4_together 63 = .ok (.getfield 97, 3) := by decide +kernel
theorem dX4_together_66 : decode cX4_together 66 = .ok (.iload_n 2, 1) := by decide +kernel
theorem dX4_together_67 : decode cX4_together 67 = .ok (.iaload, 1) := by decide +kernel
theorem dX4_together_68 : decode cX4_together 68 = .ok (.ifCond .ne 13, 3) := by decide +kernel
theorem dX4_together_71 : decode cX4_together 71 = .ok (.aload_n 0, 1) := by decide +kernel
theorem dX4_together_72 : decode cX4_together 72 = .ok (.getfield 32, 3) := by decide +kernel
theorem dX4_together_75 : decode cX4_together 75 = .ok (.getfield 116, 3) := by decide +kernel
theorem dX4_together_78 : decode cX4_together 78 = .ok (.goto 13, 3) := by decide +kernel
theorem dX4_together_81 : decode cX4_together 81 = .ok (.bipush 14, 2) := by decide +kernel
theorem dX4_together_83 : decode cX4_together 83 = .ok (.aload_n 0, 1) := by decide +kernel
theorem dX4_together_84 : decode cX4_together 84 = .ok (.getfield 32, 3) := by decide +kernel
theorem dX4_together_87 : decode cX4_together 87 = .ok (.getfield 116, 3) := by decide +kernel
theorem dX4_together_90 : decode cX4_together 90 = .ok (.isub, 1) := by decide +kernel
theorem dX4_together_91 : decode cX4_together 91 = .ok (.istore 4, 2) := by decide +kernel
theorem dX4_together_93 : decode cX4_together 93 = .ok (.aload_n 0, 1) := by decide +kernel
theorem dX4_together_94 : decode cX4_together 94 = .ok (.getfield 32, 3) := by decide +kernel
theorem dX4_together_97 : decode cX4_together 97 = .ok (.getfield 97, 3) := by decide +kernel
theorem dX4_together_100 : decode cX4_together 100 = .ok (.iload_n 1, 1) := by decide +kernel
theorem dX4_together_101 : decode cX4_together 101 = .ok (.iaload, 1) := by decide +kernel
theorem dX4_together_102 : decode cX4_together 102 = .ok (.aload_n 0, 1) := by decide +kernel
theorem dX4_together_103 : decode cX4_together 103 = .ok (.getfield 32, 3) := by decide +kernel
theorem dX4_together_106 : decode cX4_together 106 = .ok (.getfield 97, 3) := by decide +kernel
theorem dX4_together_109 : decode cX4_together 109 = .ok (.iload_n 2, 1) := by decide +kernel
theorem dX4_together_110 : decode cX4_together 110 = .ok (.iaload, 1) := by decide +kernel
theorem dX4_together_111 : decode cX4_together 111 = .ok (.if_icmp .ne 6, 3) := by decide +kernel
theorem dX4_together_114 : decode cX4_together 114 = .ok (.iload 4, 2) := by decide +kernel
theorem dX4_together_116 : decode cX4_together 116 = .ok (.ireturn, 1) := by decide +kernel
theorem dX4_together_117 : decode cX4_together 117 = .ok (.iload_n 3, 1) := by decide +kernel
theorem dX4_together_118 : decode cX4_together 118 = .ok (.iload 4, 2) := by decide +kernel
theorem dX4_together_120 : decode cX4_together 120 = .ok (.invokestatic 197, 3) := by decide +kernel
theorem dX4_together_123 : decode cX4_together 123 = .ok (.ireturn, 1) := by decide +kernel
theorem dX4_third_0 : decode cX4_third 0 = .ok (.aload_n 0, 1) := by decide +kernel
theorem dX4_third_1 : decode cX4_third 1 = .ok (.iload_n 1, 1) := by decide +kernel
theorem dX4_third_2 : decode cX4_third 2 = .ok (.invokevirtual 80, 3) := by decide +kernel
theorem dX4_third_5 : decode cX4_third 5 = .ok (.ifCond .ne 5, 3) := by decide +kernel
theorem dX4_third_8 : decode cX4_third 8 = .ok (.iconst (-1), 1) := by decide +kernel
theorem dX4_third_9 : decode cX4_third 9 = .ok (.ireturn, 1) := by decide +kernel
theorem dX4_third_10 : decode cX4_third 10 = .ok (.iconst 0, 1) := by decide +kernel
theorem dX4_third_11 : decode cX4_third 11 = .ok (.istore_n 2, 1) := by decide +kernel
theorem dX4_third_12 : decode cX4_third 12 = .ok (.iconst 0, 1) := by decide +kernel
theorem dX4_third_13 : decode cX4_third 13 = .ok (.istore_n 3, 1) := by decide +kernel
theorem dX4_third_14 : decode cX4_third 14 = .ok (.iload_n 3, 1) := by decide +kernel
theorem dX4_third_15 : decode cX4_third 15 = .ok (.bipush 14, 2) := by decide +kernel
theorem dX4_third_17 : decode cX4_third 17 = .ok (.if_icmp .ge 32, 3) := by decide +kernel
theorem dX4_third_20 : decode cX4_third 20 = .ok (.aload_n 0, 1) := by decide +kernel
theorem dX4_third_21 : decode cX4_third 21 = .ok (.iload_n 3, 1) := by decide +kernel
theorem dX4_third_22 : decode cX4_third 22 = .ok (.invokevirtual 202, 3) := by decide +kernel
theorem dX4_third_25 : decode cX4_third 25 = .ok (.aload_n 0, 1) := by decide +kernel
theorem dX4_third_26 : decode cX4_third 26 = .ok (.getfield 32, 3) := by decide +kernel
theorem dX4_third_29 : decode cX4_third 29 = .ok (.iload_n 1, 1) := by decide +kernel
theorem dX4_third_30 : decode cX4_third 30 = .ok (.invokevirtual 173, 3) := by decide +kernel
theorem dX4_third_33 : decode cX4_third 33 = .ok (.iand, 1) := by decide +kernel
theorem dX4_third_34 : decode cX4_third 34 = .ok (.ifCond .ne 9, 3) := by decide +kernel
theorem dX4_third_37 : decode cX4_third 37 = .ok (.iload_n 2, 1) := by decide +kernel
theorem dX4_third_38 : decode cX4_third 38 = .ok (.iconst 1, 1) := by decide +kernel
theorem dX4_third_39 : decode cX4_third 39 = .ok (.iload_n 3, 1) := by decide +kernel
theorem dX4_third_40 : decode cX4_third 40 = .ok (.ishl, 1) := by decide +kernel
theorem dX4_third_41 : decode cX4_third 41 = .ok (.ior, 1) := by decide +kernel
theorem dX4_third_42 : decode cX4_third 42 = .ok (.istore_n 2, 1) := by decide +kernel
theorem dX4_third_43 : decode cX4_third 43 = .ok (.iinc 3 1, 3) := by decide +kernel
theorem dX4_third_46 : decode cX4_third 46 = .ok (.goto (-32), 3) := by decide +kernel
theorem dX4_third_49 : decode cX4_third 49 = .ok (.iload_n 2, 1) := by decide +kernel
theorem dX4_third_50 : decode cX4_third 50 = .ok (.ireturn, 1) := by decide +kernel
theorem dX4_row_0 : decode cX4_row 0 = .ok (.aload_n 0, 1) := by decide +kernel
theorem dX4_row_1 : decode cX4_row 1 = .ok (.iload_n 1, 1) := by decide +kernel
theorem dX4_row_2 : decode cX4_row 2 = .ok (.iload_n 2, 1) := by decide +kernel
theorem dX4_row_3 : decode cX4_row 3 = .ok (.iload_n 3, 1) := by decide +kernel
theorem dX4_row_4 : decode cX4_row 4 = .ok (.iload 4, 2) := by decide +kernel
theorem dX4_row_6 : decode cX4_row 6 = .ok (.invokevirtual 66, 3) := by decide +kernel
theorem dX4_row_9 : decode cX4_row 9 = .ok (.istore 5, 2) := by decide +kernel
theorem dX4_row_11 : decode cX4_row 11 = .ok (.iload 5, 2) := by decide +kernel
theorem dX4_row_13 : decode cX4_row 13 = .ok (.ifCond .eq 6, 3) := by decide +kernel
theorem dX4_row_16 : decode cX4_row 16 = .ok (.iload 5, 2) := by decide +kernel
theorem dX4_row_18 : decode cX4_row 18 = .ok (.ireturn, 1) := by decide +kernel
theorem dX4_row_19 : decode cX4_row 19 = .ok (.aload_n 0, 1) := by decide +kernel
theorem dX4_row_20 : decode cX4_row 20 = .ok (.getfield 32, 3) := by decide +kernel
theorem dX4_row_23 : decode cX4_row 23 = .ok (.getfield 77, 3) := by decide +kernel
theorem dX4_row_26 : decode cX4_row 26 = .ok (.ifCond .ne 6, 3) := by decide +kernel
theorem dX4_row_29 : decode cX4_row 29 = .ok (.bipush (-3), 2) := by decide +kernel
theorem dX4_row_31 : decode cX4_row 31 = .ok (.ireturn, 1) := by decide +kernel
theorem dX4_row_32 : decode cX4_row 32 = .ok (.iload 4, 2) := by decide +kernel
theorem dX4_row_34 : decode cX4_row 34 = .ok (.bipush 14, 2) := by decide +kernel
theorem dX4_row_36 : decode cX4_row 36 = .ok (.if_icmp .le 6, 3) := by decide +kernel
theorem dX4_row_39 : decode cX4_row 39 = .ok (.bipush (-2), 2) := by decide +kernel
theorem dX4_row_41 : decode cX4_row 41 = .ok (.ireturn, 1) := by decide +kernel
theorem dX4_row_42 : decode cX4_row 42 = .ok (.aload_n 0, 1) := by decide +kernel
theorem dX4_row_43 : decode cX4_row 43 = .ok (.getfield 13, 3) := by decide +kernel
theorem dX4_row_46 : decode cX4_row 46 = .ok (.iload_n 1, 1) := by decide +kernel
theorem dX4_row_47 : decode cX4_row 47 = .ok (.aaload, 1) := by decide +kernel
theorem dX4_row_48 : decode cX4_row 48 = .ok (.astore 6, 2) := by decide +kernel
theorem dX4_row_50 : decode cX4_row 50 = .ok (.iconst 0, 1) := by decide +kernel
theorem dX4_row_51 : decode cX4_row 51 = .ok (.istore 7, 2) := by decide +kernel
theorem dX4_row_53 : decode cX4_row 53 = .ok (.iload 7, 2) := by decide +kernel
theorem dX4_row_55 : decode cX4_row 55 = .ok (.iload 4, 2) := by decide +kernel
theorem dX4_row_57 : decode cX4_row 57 = .ok (.if_icmp .ge 27, 3) := by decide +kernel
theorem dX4_row_60 : decode cX4_row 60 = .ok (.aload_n 0, 1) := by decide +kernel
theorem dX4_row_61 : decode cX4_row 61 = .ok (.aload 6, 2) := by decide +kernel
theorem dX4_row_63 : decode cX4_row 63 = .ok (.iload_n 3, 1) := by decide +kernel
theorem dX4_row_64 : decode cX4_row 64 = .ok (.iload 7, 2) := by decide +kernel
theorem dX4_row_66 : decode cX4_row 66 = .ok (.iadd, 1) := by decide +kernel
theorem dX4_row_67 : decode cX4_row 67 = .ok (.invokevirtual 205, 3) := by decide +kernel
theorem dX4_row_70 : decode cX4_row 70 = .ok (.invokevirtual 91, 3) := by decide +kernel
theorem dX4_row_73 : decode cX4_row 73 = .ok (.ifCond .ne 5, 3) := by decide +kernel
theorem dX4_row_76 : decode cX4_row 76 = .ok (.iconst (-1), 1) := by decide +kernel
theorem dX4_row_77 : decode cX4_row 77 = .ok (.ireturn, 1) := by decide +kernel
theorem dX4_row_78 : decode cX4_row 78 = .ok (.iinc 7 1, 3) := by decide +kernel
theorem dX4_row_81 : decode cX4_row 81 = .ok (.goto (-28), 3) := by decide +kernel
theorem dX4_row_84 : decode cX4_row 84 = .ok (.iconst 0, 1) := by decide +kernel
theorem dX4_row_85 : decode cX4_row 85 = .ok (.istore 7, 2) := by decide +kernel
theorem dX4_row_87 : decode cX4_row 87 = .ok (.iload 7, 2) := by decide +kernel
theorem dX4_row_89 : decode cX4_row 89 = .ok (.iload 4, 2) := by decide +kernel
theorem dX4_row_91 : decode cX4_row 91 = .ok (.if_icmp .ge 31, 3) := by decide +kernel
theorem dX4_row_94 : decode cX4_row 94 = .ok (.aload_n 0, 1) := by decide +kernel
theorem dX4_row_95 : decode cX4_row 95 = .ok (.iload 7, 2) := by decide +kernel
theorem dX4_row_97 : decode cX4_row 97 = .ok (.invokevirtual 202, 3) := by decide +kernel
theorem dX4_row_100 : decode cX4_row 100 = .ok (.aload 6, 2) := by decide +kernel
theorem dX4_row_102 : decode cX4_row 102 = .ok (.iload_n 3, 1) := by decide +kernel
theorem dX4_row_103 : decode cX4_row 103 = .ok (.iload 7, 2) := by decide +kernel
theorem dX4_row_105 : decode cX4_row 105 = .ok (.iadd, 1) := by decide +kernel
theorem dX4_row_106 : decode cX4_row 106 = .ok (.invokevirtual 205, 3) := by decide +kernel
theorem dX4_row_109 : decode cX4_row 109 = .ok (.ishr, 1) := by decide +kernel
theorem dX4_row_110 : decode cX4_row 110 = .ok (.iconst 1, 1) := by decide +kernel
theorem dX4_row_111 : decode cX4_row 111 = .ok (.iand, 1) := by decide +kernel
theorem dX4_row_112 : decode cX4_row 112 = .ok (.iconst 1, 1) := by decide +kernel
theorem dX4_row_113 : decode cX4_row 113 = .ok (.if_icmp .ne 9, 3) := by decide +kernel
theorem dX4_row_116 : decode cX4_row 116 = .ok (.iinc 7 1, 3) := by decide +kernel
theorem dX4_row_119 : decode cX4_row 119 = .ok (.goto (-32), 3) := by decide +kernel
theorem dX4_row_122 : decode cX4_row 122 = .ok (.iload 7, 2) := by decide +kernel
theorem dX4_row_124 : decode cX4_row 124 = .ok (.ireturn, 1) := by decide +kernel
theorem dX4_reading_0 : decode cX4_reading 0 = .ok (.aload_n 0, 1) := by decide +kernel
theorem dX4_reading_1 : decode cX4_reading 1 = .ok (.iload_n 1, 1) := by decide +kernel
theorem dX4_reading_2 : decode cX4_reading 2 = .ok (.invokevirtual 80, 3) := by decide +kernel
theorem dX4_reading_5 : decode cX4_reading 5 = .ok (.ifCond .ne 5, 3) := by decide +kernel
theorem dX4_reading_8 : decode cX4_reading 8 = .ok (.iconst (-1), 1) := by decide +kernel
theorem dX4_reading_9 : decode cX4_reading 9 = .ok (.ireturn, 1) := by decide +kernel
theorem dX4_reading_10 : decode cX4_reading 10 = .ok (.iload_n 2, 1) := by decide +kernel
theorem dX4_reading_11 : decode cX4_reading 11 = .ok (.iload_n 3, 1) := by decide +kernel
theorem dX4_reading_12 : decode cX4_reading 12 = .ok (.invokestatic 130, 3) := by decide +kernel
theorem dX4_reading_15 : decode cX4_reading 15 = .ok (.ifCond .eq 15, 3) := by decide +kernel
theorem dX4_reading_18 : decode cX4_reading 18 = .ok (.iload 4, 2) := by decide +kernel
theorem dX4_reading_20 : decode cX4_reading 20 = .ok (.ifCond .lt 10, 3) := by decide +kernel
theorem dX4_reading_23 : decode cX4_reading 23 = .ok (.iload 4, 2) := by decide +kernel
theorem dX4_reading_25 : decode cX4_reading 25 = .ok (.bipush 99, 2) := by decide +kernel
theorem dX4_reading_27 : decode cX4_reading 27 = .ok (.if_icmp .le 6, 3) := by decide +kernel
theorem dX4_reading_30 : decode cX4_reading 30 = .ok (.bipush (-2), 2) := by decide +kernel
theorem dX4_reading_32 : decode cX4_reading 32 = .ok (.ireturn, 1) := by decide +kernel
theorem dX4_reading_33 : decode cX4_reading 33 = .ok (.aload_n 0, 1) := by decide +kernel
theorem dX4_reading_34 : decode cX4_reading 34 = .ok (.getfield 26, 3) := by decide +kernel
theorem dX4_reading_37 : decode cX4_reading 37 = .ok (.iload_n 1, 1) := by decide +kernel
theorem dX4_reading_38 : decode cX4_reading 38 = .ok (.iload_n 2, 1) := by decide +kernel
theorem dX4_reading_39 : decode cX4_reading 39 = .ok (.iload_n 3, 1) := by decide +kernel
theorem dX4_reading_40 : decode cX4_reading 40 = .ok (.invokestatic 138, 3) := by decide +kernel
theorem dX4_reading_43 : decode cX4_reading 43 = .ok (.iload 4, 2) := by decide +kernel
theorem dX4_reading_45 : decode cX4_reading 45 = .ok (.invokevirtual 122, 3) := by decide +kernel
theorem dX4_reading_48 : decode cX4_reading 48 = .ok (.ireturn, 1) := by decide +kernel
theorem dX4_back_0 : decode cX4_back 0 = .ok (.aload_n 0, 1) := by decide +kernel
theorem dX4_back_1 : decode cX4_back 1 = .ok (.getfield 26, 3) := by decide +kernel
theorem dX4_back_4 : decode cX4_back 4 = .ok (.iload_n 1, 1) := by decide +kernel
theorem dX4_back_5 : decode cX4_back 5 = .ok (.invokevirtual 126, 3) := by decide +kernel
theorem dX4_back_8 : decode cX4_back 8 = .ok (.ireturn, 1) := by decide +kernel
theorem dX4_gone_0 : decode cX4_gone 0 = .ok (.aload_n 0, 1) := by decide +kernel
theorem dX4_gone_1 : decode cX4_gone 1 = .ok (.getfield 32, 3) := by decide +kernel
theorem dX4_gone_4 : decode cX4_gone 4 = .ok (.getfield 77, 3) := by decide +kernel
theorem dX4_gone_7 : decode cX4_gone 7 = .ok (.ifCond .ne 6, 3) := by decide +kernel
theorem dX4_gone_10 : decode cX4_gone 10 = .ok (.bipush (-3), 2) := by decide +kernel
theorem dX4_gone_12 : decode cX4_gone 12 = .ok (.ireturn, 1) := by decide +kernel
theorem dX4_gone_13 : decode cX4_gone 13 = .ok (.iconst 0, 1) := by decide +kernel
theorem dX4_gone_14 : decode cX4_gone 14 = .ok (.istore_n 1, 1) := by decide +kernel
theorem dX4_gone_15 : decode cX4_gone 15 = .ok (.iconst 0, 1) := by decide +kernel
theorem dX4_gone_16 : decode cX4_gone 16 = .ok (.istore_n 2, 1) := by decide +kernel
theorem dX4_gone_17 : decode cX4_gone 17 = .ok (.iload_n 2, 1) := by decide +kernel
theorem dX4_gone_18 : decode cX4_gone 18 = .ok (.aload_n 0, 1) := by decide +kernel
theorem dX4_gone_19 : decode cX4_gone 19 = .ok (.getfield 32, 3) := by decide +kernel
theorem dX4_gone_22 : decode cX4_gone 22 = .ok (.getfield 187, 3) := by decide +kernel
theorem dX4_gone_25 : decode cX4_gone 25 = .ok (.if_icmp .ge 41, 3) := by decide +kernel
theorem dX4_gone_28 : decode cX4_gone 28 = .ok (.aload_n 0, 1) := by decide +kernel
theorem dX4_gone_29 : decode cX4_gone 29 = .ok (.getfield 48, 3) := by decide +kernel
theorem dX4_gone_32 : decode cX4_gone 32 = .ok (.aload_n 0, 1) := by decide +kernel
theorem dX4_gone_33 : decode cX4_gone 33 = .ok (.getfield 32, 3) := by decide +kernel
theorem dX4_gone_36 : decode cX4_gone 36 = .ok (.aload_n 0, 1) := by decide +kernel
theorem dX4_gone_37 : decode cX4_gone 37 = .ok (.getfield 51, 3) := by decide +kernel
theorem dX4_gone_40 : decode cX4_gone 40 = .ok (.iconst 1, 1) := by decide +kernel
theorem dX4_gone_41 : decode cX4_gone 41 = .ok (.iload_n 2, 1) := by decide +kernel
theorem dX4_gone_42 : decode cX4_gone 42 = .ok (.ishl, 1) := by decide +kernel
theorem dX4_gone_43 : decode cX4_gone 43 = .ok (.ior, 1) := by decide +kernel
theorem dX4_gone_44 : decode cX4_gone 44 = .ok (.invokevirtual 160, 3) := by decide +kernel
theorem dX4_gone_47 : decode cX4_gone 47 = .ok (.aload_n 0, 1) := by decide +kernel
theorem dX4_gone_48 : decode cX4_gone 48 = .ok (.invokevirtual 208, 3) := by decide +kernel
theorem dX4_gone_51 : decode cX4_gone 51 = .ok (.ifCond .eq 9, 3) := by decide +kernel
theorem dX4_gone_54 : decode cX4_gone 54 = .ok (.iload_n 1, 1) := by decide +kernel
theorem dX4_gone_55 : decode cX4_gone 55 = .ok (.iconst 1, 1) := by decide +kernel
theorem dX4_gone_56 : decode cX4_gone 56 = .ok (.iload_n 2, 1) := by decide +kernel
theorem dX4_gone_57 : decode cX4_gone 57 = .ok (.ishl, 1) := by decide +kernel
theorem dX4_gone_58 : decode cX4_gone 58 = .ok (.ior, 1) := by decide +kernel
theorem dX4_gone_59 : decode cX4_gone 59 = .ok (.istore_n 1, 1) := by decide +kernel
theorem dX4_gone_60 : decode cX4_gone 60 = .ok (.iinc 2 1, 3) := by decide +kernel
theorem dX4_gone_63 : decode cX4_gone 63 = .ok (.goto (-46), 3) := by decide +kernel
theorem dX4_gone_66 : decode cX4_gone 66 = .ok (.iload_n 1, 1) := by decide +kernel
theorem dX4_gone_67 : decode cX4_gone 67 = .ok (.ireturn, 1) := by decide +kernel
theorem dX4_seams_0 : decode cX4_seams 0 = .ok (.aload_n 0, 1) := by decide +kernel
theorem dX4_seams_1 : decode cX4_seams 1 = .ok (.getfield 32, 3) := by decide +kernel
theorem dX4_seams_4 : decode cX4_seams 4 = .ok (.getfield 77, 3) := by decide +kernel
theorem dX4_seams_7 : decode cX4_seams 7 = .ok (.ifCond .ne 6, 3) := by decide +kernel
theorem dX4_seams_10 : decode cX4_seams 10 = .ok (.bipush (-3), 2) := by decide +kernel
theorem dX4_seams_12 : decode cX4_seams 12 = .ok (.ireturn, 1) := by decide +kernel
theorem dX4_seams_13 : decode cX4_seams 13 = .ok (.iconst 0, 1) := by decide +kernel
theorem dX4_seams_14 : decode cX4_seams 14 = .ok (.istore_n 1, 1) := by decide +kernel
theorem dX4_seams_15 : decode cX4_seams 15 = .ok (.iconst 1, 1) := by decide +kernel
theorem dX4_seams_16 : decode cX4_seams 16 = .ok (.istore_n 2, 1) := by decide +kernel
theorem dX4_seams_17 : decode cX4_seams 17 = .ok (.iload_n 2, 1) := by decide +kernel
theorem dX4_seams_18 : decode cX4_seams 18 = .ok (.bipush 14, 2) := by decide +kernel
theorem dX4_seams_20 : decode cX4_seams 20 = .ok (.if_icmp .ge 45, 3) := by decide +kernel
theorem dX4_seams_23 : decode cX4_seams 23 = .ok (.aload_n 0, 1) := by decide +kernel
theorem dX4_seams_24 : decode cX4_seams 24 = .ok (.getfield 48, 3) := by decide +kernel
theorem dX4_seams_27 : decode cX4_seams 27 = .ok (.aload_n 0, 1) := by decide +kernel
theorem dX4_seams_28 : decode cX4_seams 28 = .ok (.getfield 32, 3) := by decide +kernel
theorem dX4_seams_31 : decode cX4_seams 31 = .ok (.aload_n 0, 1) := by decide +kernel
theorem dX4_seams_32 : decode cX4_seams 32 = .ok (.getfield 51, 3) := by decide +kernel
theorem dX4_seams_35 : decode cX4_seams 35 = .ok (.invokevirtual 160, 3) := by decide +kernel
theorem dX4_seams_38 : decode cX4_seams 38 = .ok (.aload_n 0, 1) := by decide +kernel
theorem dX4_seams_39 : decode cX4_seams 39 = .ok (.getfield 48, 3) := by decide +kernel
theorem dX4_seams_42 : decode cX4_seams 42 = .ok (.iload_n 2, 1) := by decide +kernel
theorem dX4_seams_43 : decode cX4_seams 43 = .ok (.putfield 164, 3) := by decide +kernel
theorem dX4_seams_46 : decode cX4_seams 46 = .ok (.aload_n 0, 1) := by decide +kernel
theorem dX4_seams_47 : decode cX4_seams 47 = .ok (.invokevirtual 208, 3) := by decide +kernel
theorem dX4_seams_50 : decode cX4_seams 50 = .ok (.ifCond .eq 9, 3) := by decide +kernel
theorem dX4_seams_53 : decode cX4_seams 53 = .ok (.iload_n 1, 1) := by decide +kernel
theorem dX4_seams_54 : decode cX4_seams 54 = .ok (.iconst 1, 1) := by decide +kernel
theorem dX4_seams_55 : decode cX4_seams 55 = .ok (.iload_n 2, 1) := by decide +kernel
theorem dX4_seams_56 : decode cX4_seams 56 = .ok (.ishl, 1) := by decide +kernel
theorem dX4_seams_57 : decode cX4_seams 57 = .ok (.ior, 1) := by decide +kernel
theorem dX4_seams_58 : decode cX4_seams 58 = .ok (.istore_n 1, 1) := by decide +kernel
theorem dX4_seams_59 : decode cX4_seams 59 = .ok (.iinc 2 1, 3) := by decide +kernel
theorem dX4_seams_62 : decode cX4_seams 62 = .ok (.goto (-45), 3) := by decide +kernel
theorem dX4_seams_65 : decode cX4_seams 65 = .ok (.iload_n 1, 1) := by decide +kernel
theorem dX4_seams_66 : decode cX4_seams 66 = .ok (.ireturn, 1) := by decide +kernel
theorem dX4_kinds_0 : decode cX4_kinds 0 = .ok (.aload_n 0, 1) := by decide +kernel
theorem dX4_kinds_1 : decode cX4_kinds 1 = .ok (.iload_n 1, 1) := by decide +kernel
theorem dX4_kinds_2 : decode cX4_kinds 2 = .ok (.invokevirtual 91, 3) := by decide +kernel
theorem dX4_kinds_5 : decode cX4_kinds 5 = .ok (.ifCond .ne 5, 3) := by decide +kernel
theorem dX4_kinds_8 : decode cX4_kinds 8 = .ok (.iconst (-1), 1) := by decide +kernel
theorem dX4_kinds_9 : decode cX4_kinds 9 = .ok (.ireturn, 1) := by decide +kernel
theorem dX4_kinds_10 : decode cX4_kinds 10 = .ok (.iconst 0, 1) := by decide +kernel
theorem dX4_kinds_11 : decode cX4_kinds 11 = .ok (.istore_n 2, 1) := by decide +kernel
theorem dX4_kinds_12 : decode cX4_kinds 12 = .ok (.iconst 0, 1) := by decide +kernel
theorem dX4_kinds_13 : decode cX4_kinds 13 = .ok (.istore_n 3, 1) := by decide +kernel
theorem dX4_kinds_14 : decode cX4_kinds 14 = .ok (.iload_n 3, 1) := by decide +kernel
theorem dX4_kinds_15 : decode cX4_kinds 15 = .ok (.iconst 3, 1) := by decide +kernel
theorem dX4_kinds_16 : decode cX4_kinds 16 = .ok (.if_icmp .ge 59, 3) := by decide +kernel
theorem dX4_kinds_19 : decode cX4_kinds 19 = .ok (.aload_n 0, 1) := by decide +kernel
theorem dX4_kinds_20 : decode cX4_kinds 20 = .ok (.getfield 48, 3) := by decide +kernel
theorem dX4_kinds_23 : decode cX4_kinds 23 = .ok (.aload_n 0, 1) := by decide +kernel
theorem dX4_kinds_24 : decode cX4_kinds 24 = .ok (.getfield 32, 3) := by decide +kernel
theorem dX4_kinds_27 : decode cX4_kinds 27 = .ok (.aload_n 0, 1) := by decide +kernel
theorem dX4_kinds_28 : decode cX4_kinds 28 = .ok (.getfield 51, 3) := by decide +kernel
theorem dX4_kinds_31 : decode cX4_kinds 31 = .ok (.invokevirtual 160, 3) := by decide +kernel
theorem dX4_kinds_34 : decode cX4_kinds 34 = .ok (.aload_n 0, 1) := by decide +kernel
theorem dX4_kinds_35 : decode cX4_kinds 35 = .ok (.getfield 48, 3) := by decide +kernel
theorem dX4_kinds_38 : decode cX4_kinds 38 = .ok (.getfield 212, 3) := by decide +kernel
theorem dX4_kinds_41 : decode cX4_kinds 41 = .ok (.iload_n 1, 1) := by decide +kernel
theorem dX4_kinds_42 : decode cX4_kinds 42 = .ok (.iload_n 3, 1) := by decide +kernel
theorem dX4_kinds_43 : decode cX4_kinds 43 = .ok (.aload_n 0, 1) := by decide +kernel
theorem dX4_kinds_44 : decode cX4_kinds 44 = .ok (.getfield 32, 3) := by decide +kernel
theorem dX4_kinds_47 : decode cX4_kinds 47 = .ok (.getfield 103, 3) := by decide +kernel
theorem dX4_kinds_50 : decode cX4_kinds 50 = .ok (.iload_n 1, 1) := by decide +kernel
theorem dX4_kinds_51 : decode cX4_kinds 51 = .ok (.iaload, 1) := by decide +kernel
theorem dX4_kinds_52 : decode cX4_kinds 52 = .ok (.invokestatic 109, 3) := by decide +kernel
theorem dX4_kinds_55 : decode cX4_kinds 55 = .ok (.iastore, 1) := by decide +kernel
theorem dX4_kinds_56 : decode cX4_kinds 56 = .ok (.aload_n 0, 1) := by decide +kernel
theorem dX4_kinds_57 : decode cX4_kinds 57 = .ok (.invokevirtual 208, 3) := by decide +kernel
theorem dX4_kinds_60 : decode cX4_kinds 60 = .ok (.ifCond .eq 9, 3) := by decide +kernel
theorem dX4_kinds_63 : decode cX4_kinds 63 = .ok (.iload_n 2, 1) := by decide +kernel
theorem dX4_kinds_64 : decode cX4_kinds 64 = .ok (.iconst 1, 1) := by decide +kernel
theorem dX4_kinds_65 : decode cX4_kinds 65 = .ok (.iload_n 3, 1) := by decide +kernel
theorem dX4_kinds_66 : decode cX4_kinds 66 = .ok (.ishl, 1) := by decide +kernel
theorem dX4_kinds_67 : decode cX4_kinds 67 = .ok (.ior, 1) := by decide +kernel
theorem dX4_kinds_68 : decode cX4_kinds 68 = .ok (.istore_n 2, 1) := by decide +kernel
theorem dX4_kinds_69 : decode cX4_kinds 69 = .ok (.iinc 3 1, 3) := by decide +kernel
theorem dX4_kinds_72 : decode cX4_kinds 72 = .ok (.goto (-58), 3) := by decide +kernel
theorem dX4_kinds_75 : decode cX4_kinds 75 = .ok (.iload_n 2, 1) := by decide +kernel
theorem dX4_kinds_76 : decode cX4_kinds 76 = .ok (.ireturn, 1) := by decide +kernel
theorem dX4_odds_0 : decode cX4_odds 0 = .ok (.iload_n 1, 1) := by decide +kernel
theorem dX4_odds_1 : decode cX4_odds 1 = .ok (.invokestatic 119, 3) := by decide +kernel
theorem dX4_odds_4 : decode cX4_odds 4 = .ok (.ifCond .eq 20, 3) := by decide +kernel
theorem dX4_odds_7 : decode cX4_odds 7 = .ok (.iload_n 2, 1) := by decide +kernel
theorem dX4_odds_8 : decode cX4_odds 8 = .ok (.invokestatic 182, 3) := by decide +kernel
theorem dX4_odds_11 : decode cX4_odds 11 = .ok (.ifCond .eq 13, 3) := by decide +kernel
theorem dX4_odds_14 : decode cX4_odds 14 = .ok (.aload_n 0, 1) := by decide +kernel
theorem dX4_odds_15 : decode cX4_odds 15 = .ok (.getfield 32, 3) := by decide +kernel
theorem dX4_odds_18 : decode cX4_odds 18 = .ok (.getfield 77, 3) := by decide +kernel
theorem dX4_odds_21 : decode cX4_odds 21 = .ok (.ifCond .ne 7, 3) := by decide +kernel
theorem dX4_odds_24 : decode cX4_odds 24 = .ok (.ldc2_w 185, 3) := by decide +kernel
theorem dX4_odds_27 : decode cX4_odds 27 = .ok (.lreturn, 1) := by decide +kernel
theorem dX4_odds_28 : decode cX4_odds 28 = .ok (.iconst 0, 1) := by decide +kernel
theorem dX4_odds_29 : decode cX4_odds 29 = .ok (.istore_n 3, 1) := by decide +kernel
theorem dX4_odds_30 : decode cX4_odds 30 = .ok (.iconst 0, 1) := by decide +kernel
theorem dX4_odds_31 : decode cX4_odds 31 = .ok (.istore 4, 2) := by decide +kernel
theorem dX4_odds_33 : decode cX4_odds 33 = .ok (.iload 4, 2) := by decide +kernel
theorem dX4_odds_35 : decode cX4_odds 35 = .ok (.aload_n 0, 1) := by decide +kernel
theorem dX4_odds_36 : decode cX4_odds 36 = .ok (.invokevirtual 153, 3) := by decide +kernel
theorem dX4_odds_39 : decode cX4_odds 39 = .ok (.if_icmp .gt 42, 3) := by decide +kernel
theorem dX4_odds_42 : decode cX4_odds 42 = .ok (.aload_n 0, 1) := by decide +kernel
theorem dX4_odds_43 : decode cX4_odds 43 = .ok (.getfield 48, 3) := by decide +kernel
theorem dX4_odds_46 : decode cX4_odds 46 = .ok (.aload_n 0, 1) := by decide +kernel
theorem dX4_odds_47 : decode cX4_odds 47 = .ok (.getfield 32, 3) := by decide +kernel
theorem dX4_odds_50 : decode cX4_odds 50 = .ok (.iload 4, 2) := by decide +kernel
theorem dX4_odds_52 : decode cX4_odds 52 = .ok (.invokevirtual 160, 3) := by decide +kernel
theorem dX4_odds_55 : decode cX4_odds 55 = .ok (.aload_n 0, 1) := by decide +kernel
theorem dX4_odds_56 : decode cX4_odds 56 = .ok (.getfield 48, 3) := by decide +kernel
theorem dX4_odds_59 : decode cX4_odds 59 = .ok (.iload_n 1, 1) := by decide +kernel
theorem dX4_odds_60 : decode cX4_odds 60 = .ok (.iconst 1, 1) := by decide +kernel
theorem dX4_odds_61 : decode cX4_odds 61 = .ok (.iadd, 1) := by decide +kernel
theorem dX4_odds_62 : decode cX4_odds 62 = .ok (.aload_n 0, 1) := by decide +kernel
theorem dX4_odds_63 : decode cX4_odds 63 = .ok (.invokevirtual 153, 3) := by decide +kernel
theorem dX4_odds_66 : decode cX4_odds 66 = .ok (.invokevirtual 165, 3) := by decide +kernel
theorem dX4_odds_69 : decode cX4_odds 69 = .ok (.ifCond .eq 6, 3) := by decide +kernel
theorem dX4_odds_72 : decode cX4_odds 72 = .ok (.iinc 3 1, 3) := by decide +kernel
theorem dX4_odds_75 : decode cX4_odds 75 = .ok (.iinc 4 1, 3) := by decide +kernel
theorem dX4_odds_78 : decode cX4_odds 78 = .ok (.goto (-45), 3) := by decide +kernel
theorem dX4_odds_81 : decode cX4_odds 81 = .ok (.iload_n 3, 1) := by decide +kernel
theorem dX4_odds_82 : decode cX4_odds 82 = .ok (.aload_n 0, 1) := by decide +kernel
theorem dX4_odds_83 : decode cX4_odds 83 = .ok (.invokevirtual 153, 3) := by decide +kernel
theorem dX4_odds_86 : decode cX4_odds 86 = .ok (.iconst 1, 1) := by decide +kernel
theorem dX4_odds_87 : decode cX4_odds 87 = .ok (.iadd, 1) := by decide +kernel
theorem dX4_odds_88 : decode cX4_odds 88 = .ok (.iload_n 2, 1) := by decide +kernel
theorem dX4_odds_89 : decode cX4_odds 89 = .ok (.invokestatic 193, 3) := by decide +kernel
theorem dX4_odds_92 : decode cX4_odds 92 = .ok (.lreturn, 1) := by decide +kernel
theorem dX4_sheet_0 : decode cX4_sheet 0 = .ok (.aload_n 0, 1) := by decide +kernel
theorem dX4_sheet_1 : decode cX4_sheet 1 = .ok (.iconst 0, 1) := by decide +kernel
theorem dX4_sheet_2 : decode cX4_sheet 2 = .ok (.putfield 62, 3) := by decide +kernel
theorem dX4_sheet_5 : decode cX4_sheet 5 = .ok (.iload_n 1, 1) := by decide +kernel
theorem dX4_sheet_6 : decode cX4_sheet 6 = .ok (.invokestatic 215, 3) := by decide +kernel
theorem dX4_sheet_9 : decode cX4_sheet 9 = .ok (.ifCond .ne 5, 3) := by decide +kernel
theorem dX4_sheet_12 : decode cX4_sheet 12 = .ok (.iconst (-1), 1) := by decide +kernel
theorem dX4_sheet_13 : decode cX4_sheet 13 = .ok (.ireturn, 1) := by decide +kernel
theorem dX4_sheet_14 : decode cX4_sheet 14 = .ok (.iload_n 2, 1) := by decide +kernel
theorem dX4_sheet_15 : decode cX4_sheet 15 = .ok (.invokestatic 218, 3) := by decide +kernel
theorem dX4_sheet_18 : decode cX4_sheet 18 = .ok (.ifCond .eq 9, 3) := by decide +kernel
theorem dX4_sheet_21 : decode cX4_sheet 21 = .ok (.iload_n 3, 1) := by decide +kernel
theorem dX4_sheet_22 : decode cX4_sheet 22 = .ok (.bipush 60, 2) := by decide +kernel
theorem dX4_sheet_24 : decode cX4_sheet 24 = .ok (.if_icmp .le 6, 3) := by decide +kernel
theorem dX4_sheet_27 : decode cX4_sheet 27 = .ok (.bipush (-2), 2) := by decide +kernel
theorem dX4_sheet_29 : decode cX4_sheet 29 = .ok (.ireturn, 1) := by decide +kernel
theorem dX4_sheet_30 : decode cX4_sheet 30 = .ok (.iload_n 3, 1) := by decide +kernel
theorem dX4_sheet_31 : decode cX4_sheet 31 = .ok (.ifCond .ge 9, 3) := by decide +kernel
theorem dX4_sheet_34 : decode cX4_sheet 34 = .ok (.aload_n 0, 1) := by decide +kernel
theorem dX4_sheet_35 : decode cX4_sheet 35 = .ok (.iconst 4, 1) := by decide +kernel
theorem dX4_sheet_36 : decode cX4_sheet 36 = .ok (.invokevirtual 221, 3) := by decide +kernel
theorem dX4_sheet_39 : decode cX4_sheet 39 = .ok (.ireturn, 1) := by decide +kernel
theorem dX4_sheet_40 : decode cX4_sheet 40 = .ok (.aload_n 0, 1) := by decide +kernel
theorem dX4_sheet_41 : decode cX4_sheet 41 = .ok (.getfield 13, 3) := by decide +kernel
theorem dX4_sheet_44 : decode cX4_sheet 44 = .ok (.iload_n 1, 1) := by decide +kernel
theorem dX4_sheet_45 : decode cX4_sheet 45 = .ok (.aaload, 1) := by decide +kernel
theorem dX4_sheet_46 : decode cX4_sheet 46 = .ok (.iload_n 2, 1) := by decide +kernel
theorem dX4_sheet_47 : decode cX4_sheet 47 = .ok (.iload_n 3, 1) := by decide +kernel
theorem dX4_sheet_48 : decode cX4_sheet 48 = .ok (.invokevirtual 224, 3) := by decide +kernel
theorem dX4_sheet_51 : decode cX4_sheet 51 = .ok (.iconst 1, 1) := by decide +kernel
theorem dX4_sheet_52 : decode cX4_sheet 52 = .ok (.ireturn, 1) := by decide +kernel
theorem dX4_lose_0 : decode cX4_lose 0 = .ok (.iload_n 1, 1) := by decide +kernel
theorem dX4_lose_1 : decode cX4_lose 1 = .ok (.invokestatic 215, 3) := by decide +kernel
theorem dX4_lose_4 : decode cX4_lose 4 = .ok (.ifCond .ne 5, 3) := by decide +kernel
theorem dX4_lose_7 : decode cX4_lose 7 = .ok (.iconst (-1), 1) := by decide +kernel
theorem dX4_lose_8 : decode cX4_lose 8 = .ok (.ireturn, 1) := by decide +kernel
theorem dX4_lose_9 : decode cX4_lose 9 = .ok (.aload_n 0, 1) := by decide +kernel
theorem dX4_lose_10 : decode cX4_lose 10 = .ok (.getfield 13, 3) := by decide +kernel
theorem dX4_lose_13 : decode cX4_lose 13 = .ok (.iload_n 1, 1) := by decide +kernel
theorem dX4_lose_14 : decode cX4_lose 14 = .ok (.aaload, 1) := by decide +kernel
theorem dX4_lose_15 : decode cX4_lose 15 = .ok (.invokevirtual 228, 3) := by decide +kernel
theorem dX4_lose_18 : decode cX4_lose 18 = .ok (.ifCond .eq 5, 3) := by decide +kernel
theorem dX4_lose_21 : decode cX4_lose 21 = .ok (.iconst 0, 1) := by decide +kernel
theorem dX4_lose_22 : decode cX4_lose 22 = .ok (.ireturn, 1) := by decide +kernel
theorem dX4_lose_23 : decode cX4_lose 23 = .ok (.aload_n 0, 1) := by decide +kernel
theorem dX4_lose_24 : decode cX4_lose 24 = .ok (.getfield 13, 3) := by decide +kernel
theorem dX4_lose_27 : decode cX4_lose 27 = .ok (.iload_n 1, 1) := by decide +kernel
theorem dX4_lose_28 : decode cX4_lose 28 = .ok (.aaload, 1) := by decide +kernel
theorem dX4_lose_29 : decode cX4_lose 29 = .ok (.iconst (-1), 1) := by decide +kernel
theorem dX4_lose_30 : decode cX4_lose 30 = .ok (.iconst 0, 1) := by decide +kernel
theorem dX4_lose_31 : decode cX4_lose 31 = .ok (.invokevirtual 224, 3) := by decide +kernel
theorem dX4_lose_34 : decode cX4_lose 34 = .ok (.iconst 1, 1) := by decide +kernel
theorem dX4_lose_35 : decode cX4_lose 35 = .ok (.ireturn, 1) := by decide +kernel
theorem dX4_put_0 : decode cX4_put 0 = .ok (.aload_n 0, 1) := by decide +kernel
theorem dX4_put_1 : decode cX4_put 1 = .ok (.iconst 0, 1) := by decide +kernel
theorem dX4_put_2 : decode cX4_put 2 = .ok (.putfield 62, 3) := by decide +kernel
theorem dX4_put_5 : decode cX4_put 5 = .ok (.iload_n 1, 1) := by decide +kernel
theorem dX4_put_6 : decode cX4_put 6 = .ok (.invokestatic 215, 3) := by decide +kernel
theorem dX4_put_9 : decode cX4_put 9 = .ok (.ifCond .ne 5, 3) := by decide +kernel
theorem dX4_put_12 : decode cX4_put 12 = .ok (.iconst (-1), 1) := by decide +kernel
theorem dX4_put_13 : decode cX4_put 13 = .ok (.ireturn, 1) := by decide +kernel
theorem dX4_put_14 : decode cX4_put 14 = .ok (.aload_n 0, 1) := by decide +kernel
theorem dX4_put_15 : decode cX4_put 15 = .ok (.getfield 13, 3) := by decide +kernel
theorem dX4_put_18 : decode cX4_put 18 = .ok (.iload_n 1, 1) := by decide +kernel
theorem dX4_put_19 : decode cX4_put 19 = .ok (.aaload, 1) := by decide +kernel
theorem dX4_put_20 : decode cX4_put 20 = .ok (.invokevirtual 228, 3) := by decide +kernel
theorem dX4_put_23 : decode cX4_put 23 = .ok (.ifCond .eq 9, 3) := by decide +kernel
theorem dX4_put_26 : decode cX4_put 26 = .ok (.aload_n 0, 1) := by decide +kernel
theorem dX4_put_27 : decode cX4_put 27 = .ok (.iconst 1, 1) := by decide +kernel
theorem dX4_put_28 : decode cX4_put 28 = .ok (.invokevirtual 221, 3) := by decide +kernel
theorem dX4_put_31 : decode cX4_put 31 = .ok (.ireturn, 1) := by decide +kernel
theorem dX4_put_32 : decode cX4_put 32 = .ok (.aload_n 0, 1) := by decide +kernel
theorem dX4_put_33 : decode cX4_put 33 = .ok (.getfield 13, 3) := by decide +kernel
theorem dX4_put_36 : decode cX4_put 36 = .ok (.iload_n 1, 1) := by decide +kernel
theorem dX4_put_37 : decode cX4_put 37 = .ok (.aaload, 1) := by decide +kernel
theorem dX4_put_38 : decode cX4_put 38 = .ok (.iload_n 2, 1) := by decide +kernel
theorem dX4_put_39 : decode cX4_put 39 = .ok (.invokevirtual 231, 3) := by decide +kernel
theorem dX4_put_42 : decode cX4_put 42 = .ok (.ifCond .ne 9, 3) := by decide +kernel
theorem dX4_put_45 : decode cX4_put 45 = .ok (.aload_n 0, 1) := by decide +kernel
theorem dX4_put_46 : decode cX4_put 46 = .ok (.iconst 3, 1) := by decide +kernel
theorem dX4_put_47 : decode cX4_put 47 = .ok (.invokevirtual 221, 3) := by decide +kernel
theorem dX4_put_50 : decode cX4_put 50 = .ok (.ireturn, 1) := by decide +kernel
theorem dX4_put_51 : decode cX4_put 51 = .ok (.aload_n 0, 1) := by decide +kernel
theorem dX4_put_52 : decode cX4_put 52 = .ok (.getfield 13, 3) := by decide +kernel
theorem dX4_put_55 : decode cX4_put 55 = .ok (.iload_n 1, 1) := by decide +kernel
theorem dX4_put_56 : decode cX4_put 56 = .ok (.aaload, 1) := by decide +kernel
theorem dX4_put_57 : decode cX4_put 57 = .ok (.iload_n 2, 1) := by decide +kernel
theorem dX4_put_58 : decode cX4_put 58 = .ok (.iload_n 3, 1) := by decide +kernel
theorem dX4_put_59 : decode cX4_put 59 = .ok (.invokevirtual 234, 3) := by decide +kernel
theorem dX4_put_62 : decode cX4_put 62 = .ok (.iconst 1, 1) := by decide +kernel
theorem dX4_put_63 : decode cX4_put 63 = .ok (.ireturn, 1) := by decide +kernel
theorem dX4_cell_0 : decode cX4_cell 0 = .ok (.aload_n 0, 1) := by decide +kernel
theorem dX4_cell_1 : decode cX4_cell 1 = .ok (.iload_n 1, 1) := by decide +kernel
theorem dX4_cell_2 : decode cX4_cell 2 = .ok (.iload_n 3, 1) := by decide +kernel
theorem dX4_cell_3 : decode cX4_cell 3 = .ok (.invokevirtual 237, 3) := by decide +kernel
theorem dX4_cell_6 : decode cX4_cell 6 = .ok (.ifCond .eq 7, 3) := by decide +kernel
theorem dX4_cell_9 : decode cX4_cell 9 = .ok (.ldc2_w 185, 3) := by decide +kernel
theorem dX4_cell_12 : decode cX4_cell 12 = .ok (.lreturn, 1) := by decide +kernel
theorem dX4_cell_13 : decode cX4_cell 13 = .ok (.aload_n 0, 1) := by decide +kernel
theorem dX4_cell_14 : decode cX4_cell 14 = .ok (.getfield 13, 3) := by decide +kernel
theorem dX4_cell_17 : decode cX4_cell 17 = .ok (.iload_n 1, 1) := by decide +kernel
theorem dX4_cell_18 : decode cX4_cell 18 = .ok (.aaload, 1) := by decide +kernel
theorem dX4_cell_19 : decode cX4_cell 19 = .ok (.iload_n 2, 1) := by decide +kernel
theorem dX4_cell_20 : decode cX4_cell 20 = .ok (.invokevirtual 231, 3) := by decide +kernel
theorem dX4_cell_23 : decode cX4_cell 23 = .ok (.ifCond .ne 13, 3) := by decide +kernel
theorem dX4_cell_26 : decode cX4_cell 26 = .ok (.aload_n 0, 1) := by decide +kernel
theorem dX4_cell_27 : decode cX4_cell 27 = .ok (.iconst 3, 1) := by decide +kernel
theorem dX4_cell_28 : decode cX4_cell 28 = .ok (.invokevirtual 221, 3) := by decide +kernel
theorem dX4_cell_31 : decode cX4_cell 31 = .ok (.pop, 1) := by decide +kernel
theorem dX4_cell_32 : decode cX4_cell 32 = .ok (.ldc2_w 185, 3) := by decide +kernel
theorem dX4_cell_35 : decode cX4_cell 35 = .ok (.lreturn, 1) := by decide +kernel
theorem dX4_cell_36 : decode cX4_cell 36 = .ok (.aload_n 0, 1) := by decide +kernel
theorem dX4_cell_37 : decode cX4_cell 37 = .ok (.getfield 13, 3) := by decide +kernel
theorem dX4_cell_40 : decode cX4_cell 40 = .ok (.iload_n 1, 1) := by decide +kernel
theorem dX4_cell_41 : decode cX4_cell 41 = .ok (.aaload, 1) := by decide +kernel
theorem dX4_cell_42 : decode cX4_cell 42 = .ok (.iload_n 2, 1) := by decide +kernel
theorem dX4_cell_43 : decode cX4_cell 43 = .ok (.invokevirtual 205, 3) := by decide +kernel
theorem dX4_cell_46 : decode cX4_cell 46 = .ok (.i2l, 1) := by decide +kernel
theorem dX4_cell_47 : decode cX4_cell 47 = .ok (.lreturn, 1) := by decide +kernel
theorem dX4_copy_0 : decode cX4_copy 0 = .ok (.aload_n 0, 1) := by decide +kernel
theorem dX4_copy_1 : decode cX4_copy 1 = .ok (.iconst 0, 1) := by decide +kernel
theorem dX4_copy_2 : decode cX4_copy 2 = .ok (.putfield 62, 3) := by decide +kernel
theorem dX4_copy_5 : decode cX4_copy 5 = .ok (.iload_n 1, 1) := by decide +kernel
theorem dX4_copy_6 : decode cX4_copy 6 = .ok (.invokestatic 215, 3) := by decide +kernel
theorem dX4_copy_9 : decode cX4_copy 9 = .ok (.ifCond .eq 10, 3) := by decide +kernel
theorem dX4_copy_12 : decode cX4_copy 12 = .ok (.iload_n 3, 1) := by decide +kernel
theorem dX4_copy_13 : decode cX4_copy 13 = .ok (.invokestatic 215, 3) := by decide +kernel
theorem dX4_copy_16 : decode cX4_copy 16 = .ok (.ifCond .ne 5, 3) := by decide +kernel
theorem dX4_copy_19 : decode cX4_copy 19 = .ok (.iconst (-1), 1) := by decide +kernel
theorem dX4_copy_20 : decode cX4_copy 20 = .ok (.ireturn, 1) := by decide +kernel
theorem dX4_copy_21 : decode cX4_copy 21 = .ok (.aload_n 0, 1) := by decide +kernel
theorem dX4_copy_22 : decode cX4_copy 22 = .ok (.getfield 13, 3) := by decide +kernel
theorem dX4_copy_25 : decode cX4_copy 25 = .ok (.iload_n 1, 1) := by decide +kernel
theorem dX4_copy_26 : decode cX4_copy 26 = .ok (.aaload, 1) := by decide +kernel
theorem dX4_copy_27 : decode cX4_copy 27 = .ok (.astore 6, 2) := by decide +kernel
theorem dX4_copy_29 : decode cX4_copy 29 = .ok (.aload_n 0, 1) := by decide +kernel
theorem dX4_copy_30 : decode cX4_copy 30 = .ok (.getfield 13, 3) := by decide +kernel
theorem dX4_copy_33 : decode cX4_copy 33 = .ok (.iload_n 3, 1) := by decide +kernel
theorem dX4_copy_34 : decode cX4_copy 34 = .ok (.aaload, 1) := by decide +kernel
theorem dX4_copy_35 : decode cX4_copy 35 = .ok (.astore 7, 2) := by decide +kernel
theorem dX4_copy_37 : decode cX4_copy 37 = .ok (.aload 6, 2) := by decide +kernel
theorem dX4_copy_39 : decode cX4_copy 39 = .ok (.invokevirtual 228, 3) := by decide +kernel
theorem dX4_copy_42 : decode cX4_copy 42 = .ok (.ifCond .ne 11, 3) := by decide +kernel
theorem dX4_copy_45 : decode cX4_copy 45 = .ok (.aload 7, 2) := by decide +kernel
theorem dX4_copy_47 : decode cX4_copy 47 = .ok (.invokevirtual 228, 3) := by decide +kernel
theorem dX4_copy_50 : decode cX4_copy 50 = .ok (.ifCond .eq 9, 3) := by decide +kernel
theorem dX4_copy_53 : decode cX4_copy 53 = .ok (.aload_n 0, 1) := by decide +kernel
theorem dX4_copy_54 : decode cX4_copy 54 = .ok (.iconst 1, 1) := by decide +kernel
theorem dX4_copy_55 : decode cX4_copy 55 = .ok (.invokevirtual 221, 3) := by decide +kernel
theorem dX4_copy_58 : decode cX4_copy 58 = .ok (.ireturn, 1) := by decide +kernel
theorem dX4_copy_59 : decode cX4_copy 59 = .ok (.aload 6, 2) := by decide +kernel
theorem dX4_copy_61 : decode cX4_copy 61 = .ok (.getfield 240, 3) := by decide +kernel
theorem dX4_copy_64 : decode cX4_copy 64 = .ok (.aload 7, 2) := by decide +kernel
theorem dX4_copy_66 : decode cX4_copy 66 = .ok (.getfield 240, 3) := by decide +kernel
theorem dX4_copy_69 : decode cX4_copy 69 = .ok (.if_icmp .eq 9, 3) := by decide +kernel
theorem dX4_copy_72 : decode cX4_copy 72 = .ok (.aload_n 0, 1) := by decide +kernel
theorem dX4_copy_73 : decode cX4_copy 73 = .ok (.iconst 2, 1) := by decide +kernel
theorem dX4_copy_74 : decode cX4_copy 74 = .ok (.invokevirtual 221, 3) := by decide +kernel
theorem dX4_copy_77 : decode cX4_copy 77 = .ok (.ireturn, 1) := by decide +kernel
theorem dX4_copy_78 : decode cX4_copy 78 = .ok (.aload 6, 2) := by decide +kernel
theorem dX4_copy_80 : decode cX4_copy 80 = .ok (.iload_n 2, 1) := by decide +kernel
theorem dX4_copy_81 : decode cX4_copy 81 = .ok (.iload 5, 2) := by decide +kernel
theorem dX4_copy_83 : decode cX4_copy 83 = .ok (.invokevirtual 243, 3) := by decide +kernel
theorem dX4_copy_86 : decode cX4_copy 86 = .ok (.ifCond .eq 15, 3) := by decide +kernel
theorem dX4_copy_89 : decode cX4_copy 89 = .ok (.aload 7, 2) := by decide +kernel
theorem dX4_copy_91 : decode cX4_copy 91 = .ok (.iload 4, 2) := by decide +kernel
theorem dX4_copy_93 : decode cX4_copy 93 = .ok (.iload 5, 2) := by decide +kernel
theorem dX4_copy_95 : decode cX4_copy 95 = .ok (.invokevirtual 243, 3) := by decide +kernel
theorem dX4_copy_98 : decode cX4_copy 98 = .ok (.ifCond .ne 9, 3) := by decide +kernel
theorem dX4_copy_101 : decode cX4_copy 101 = .ok (.aload_n 0, 1) := by decide +kernel
theorem dX4_copy_102 : decode cX4_copy 102 = .ok (.iconst 3, 1) := by decide +kernel
theorem dX4_copy_103 : decode cX4_copy 103 = .ok (.invokevirtual 221, 3) := by decide +kernel
theorem dX4_copy_106 : decode cX4_copy 106 = .ok (.ireturn, 1) := by decide +kernel
theorem dX4_copy_107 : decode cX4_copy 107 = .ok (.aload 6, 2) := by decide +kernel
theorem dX4_copy_109 : decode cX4_copy 109 = .ok (.getfield 246, 3) := by decide +kernel
theorem dX4_copy_112 : decode cX4_copy 112 = .ok (.iload_n 2, 1) := by decide +kernel
theorem dX4_copy_113 : decode cX4_copy 113 = .ok (.aload 7, 2) := by decide +kernel
theorem dX4_copy_115 : decode cX4_copy 115 = .ok (.getfield 246, 3) := by decide +kernel
theorem dX4_copy_118 : decode cX4_copy 118 = .ok (.iload 4, 2) := by decide +kernel
theorem dX4_copy_120 : decode cX4_copy 120 = .ok (.iload 5, 2) := by decide +kernel
theorem dX4_copy_122 : decode cX4_copy 122 = .ok (.invokestatic 249, 3) := by decide +kernel
theorem dX4_copy_125 : decode cX4_copy 125 = .ok (.iload 5, 2) := by decide +kernel
theorem dX4_copy_127 : decode cX4_copy 127 = .ok (.ireturn, 1) := by decide +kernel
theorem dX4_tell_0 : decode cX4_tell 0 = .ok (.aload_n 0, 1) := by decide +kernel
theorem dX4_tell_1 : decode cX4_tell 1 = .ok (.iload_n 1, 1) := by decide +kernel
theorem dX4_tell_2 : decode cX4_tell 2 = .ok (.invokevirtual 91, 3) := by decide +kernel
theorem dX4_tell_5 : decode cX4_tell 5 = .ok (.ifCond .ne 5, 3) := by decide +kernel
theorem dX4_tell_8 : decode cX4_tell 8 = .ok (.iconst (-1), 1) := by decide +kernel
theorem dX4_tell_9 : decode cX4_tell 9 = .ok (.ireturn, 1) := by decide +kernel
theorem dX4_tell_10 : decode cX4_tell 10 = .ok (.aload_n 0, 1) := by decide +kernel
theorem dX4_tell_11 : decode cX4_tell 11 = .ok (.getfield 32, 3) := by decide +kernel
theorem dX4_tell_14 : decode cX4_tell 14 = .ok (.getfield 94, 3) := by decide +kernel
theorem dX4_tell_17 : decode cX4_tell 17 = .ok (.iload_n 1, 1) := by decide +kernel
theorem dX4_tell_18 : decode cX4_tell 18 = .ok (.iaload, 1) := by decide +kernel
theorem dX4_tell_19 : decode cX4_tell 19 = .ok (.lookupswitch 37 #[(0, 25), (1, 31)], 25) := by decide +kernel
theorem dX4_tell_44 : decode cX4_tell 44 = .ok (.aload_n 0, 1) := by decide +kernel
theorem dX4_tell_45 : decode cX4_tell 45 = .ok (.iload_n 1, 1) := by decide +kernel
theorem dX4_tell_46 : decode cX4_tell 46 = .ok (.invokevirtual 255, 3) := by decide +kernel
theorem dX4_tell_49 : decode cX4_tell 49 = .ok (.ireturn, 1) := by decide +kernel
theorem dX4_tell_50 : decode cX4_tell 50 = .ok (.aload_n 0, 1) := by decide +kernel
theorem dX4_tell_51 : decode cX4_tell 51 = .ok (.iload_n 1, 1) := by decide +kernel
theorem dX4_tell_52 : decode cX4_tell 52 = .ok (.invokevirtual 258, 3) := by decide +kernel
theorem dX4_tell_55 : decode cX4_tell 55 = .ok (.ireturn, 1) := by decide +kernel
theorem dX4_tell_56 : decode cX4_tell 56 = .ok (.aload_n 0, 1) := by decide +kernel
theorem dX4_tell_57 : decode cX4_tell 57 = .ok (.iload_n 1, 1) := by decide +kernel
theorem dX4_tell_58 : decode cX4_tell 58 = .ok (.invokevirtual 261, 3) := by decide +kernel
theorem dX4_tell_61 : decode cX4_tell 61 = .ok (.ireturn, 1) := by decide +kernel
theorem dX4_knock_0 : decode cX4_knock 0 = .ok (.aload_n 0, 1) := by decide +kernel
theorem dX4_knock_1 : decode cX4_knock 1 = .ok (.iload_n 1, 1) := by decide +kernel
theorem dX4_knock_2 : decode cX4_knock 2 = .ok (.invokevirtual 91, 3) := by decide +kernel
theorem dX4_knock_5 : decode cX4_knock 5 = .ok (.ifCond .ne 5, 3) := by decide +kernel
theorem dX4_knock_8 : decode cX4_knock 8 = .ok (.iconst (-1), 1) := by decide +kernel
theorem dX4_knock_9 : decode cX4_knock 9 = .ok (.ireturn, 1) := by decide +kernel
theorem dX4_knock_10 : decode cX4_knock 10 = .ok (.aload_n 0, 1) := by decide +kernel
theorem dX4_knock_11 : decode cX4_knock 11 = .ok (.getfield 32, 3) := by decide +kernel
theorem dX4_knock_14 : decode cX4_knock 14 = .ok (.getfield 94, 3) := by decide +kernel
theorem dX4_knock_17 : decode cX4_knock 17 = .ok (.iload_n 1, 1) := by decide +kernel
theorem dX4_knock_18 : decode cX4_knock 18 = .ok (.iaload, 1) := by decide +kernel
theorem dX4_knock_19 : decode cX4_knock 19 = .ok (.iconst 2, 1) := by decide +kernel
theorem dX4_knock_20 : decode cX4_knock 20 = .ok (.if_icmp .ne 11, 3) := by decide +kernel
theorem dX4_knock_23 : decode cX4_knock 23 = .ok (.aload_n 0, 1) := by decide +kernel
theorem dX4_knock_24 : decode cX4_knock 24 = .ok (.iconst 5, 1) := by decide +kernel
theorem dX4_knock_25 : decode cX4_knock 25 = .ok (.invokevirtual 264, 3) := by decide +kernel
theorem dX4_knock_28 : decode cX4_knock 28 = .ok (.bipush 50, 2) := by decide +kernel
theorem dX4_knock_30 : decode cX4_knock 30 = .ok (.ireturn, 1) := by decide +kernel
theorem dX4_knock_31 : decode cX4_knock 31 = .ok (.aload_n 0, 1) := by decide +kernel
theorem dX4_knock_32 : decode cX4_knock 32 = .ok (.iconst 4, 1) := by decide +kernel
theorem dX4_knock_33 : decode cX4_knock 33 = .ok (.invokevirtual 264, 3) := by decide +kernel
theorem dX4_knock_36 : decode cX4_knock 36 = .ok (.iload_n 1, 1) := by decide +kernel
theorem dX4_knock_37 : decode cX4_knock 37 = .ok (.ireturn, 1) := by decide +kernel
theorem dX4_as_0 : decode cX4_as 0 = .ok (.aload_n 0, 1) := by decide +kernel
theorem dX4_as_1 : decode cX4_as 1 = .ok (.iconst 0, 1) := by decide +kernel
theorem dX4_as_2 : decode cX4_as 2 = .ok (.putfield 62, 3) := by decide +kernel
theorem dX4_as_5 : decode cX4_as 5 = .ok (.aload_n 0, 1) := by decide +kernel
theorem dX4_as_6 : decode cX4_as 6 = .ok (.iload_n 1, 1) := by decide +kernel
theorem dX4_as_7 : decode cX4_as 7 = .ok (.invokevirtual 91, 3) := by decide +kernel
theorem dX4_as_10 : decode cX4_as 10 = .ok (.ifCond .ne 5, 3) := by decide +kernel
theorem dX4_as_13 : decode cX4_as 13 = .ok (.iconst (-1), 1) := by decide +kernel
theorem dX4_as_14 : decode cX4_as 14 = .ok (.ireturn, 1) := by decide +kernel
theorem dX4_as_15 : decode cX4_as 15 = .ok (.iload_n 2, 1) := by decide +kernel
theorem dX4_as_16 : decode cX4_as 16 = .ok (.ifCond .lt 8, 3) := by decide +kernel
theorem dX4_as_19 : decode cX4_as 19 = .ok (.iload_n 2, 1) := by decide +kernel
theorem dX4_as_20 : decode cX4_as 20 = .ok (.iconst 3, 1) := by decide +kernel
theorem dX4_as_21 : decode cX4_as 21 = .ok (.if_icmp .lt 6, 3) := by decide +kernel
theorem dX4_as_24 : decode cX4_as 24 = .ok (.bipush (-2), 2) := by decide +kernel
theorem dX4_as_26 : decode cX4_as 26 = .ok (.ireturn, 1) := by decide +kernel
theorem dX4_as_27 : decode cX4_as 27 = .ok (.aload_n 0, 1) := by decide +kernel
theorem dX4_as_28 : decode cX4_as 28 = .ok (.getfield 32, 3) := by decide +kernel
theorem dX4_as_31 : decode cX4_as 31 = .ok (.getfield 94, 3) := by decide +kernel
theorem dX4_as_34 : decode cX4_as 34 = .ok (.iload_n 1, 1) := by decide +kernel
theorem dX4_as_35 : decode cX4_as 35 = .ok (.iaload, 1) := by decide +kernel
theorem dX4_as_36 : decode cX4_as 36 = .ok (.iload_n 2, 1) := by decide +kernel
theorem dX4_as_37 : decode cX4_as 37 = .ok (.if_icmp .ge 11, 3) := by decide +kernel
theorem dX4_as_40 : decode cX4_as 40 = .ok (.aload_n 0, 1) := by decide +kernel
theorem dX4_as_41 : decode cX4_as 41 = .ok (.iconst 2, 1) := by decide +kernel
theorem dX4_as_42 : decode cX4_as 42 = .ok (.invokevirtual 221, 3) := by decide +kernel
theorem dX4_as_45 : decode cX4_as 45 = .ok (.goto 4, 3) := by decide +kernel
theorem dX4_as_48 : decode cX4_as 48 = .ok (.iconst 1, 1) := by decide +kernel
theorem dX4_as_49 : decode cX4_as 49 = .ok (.ireturn, 1) := by decide +kernel
theorem dX4_trace_0 : decode cX4_trace 0 = .ok (.aload_n 0, 1) := by decide +kernel
theorem dX4_trace_1 : decode cX4_trace 1 = .ok (.getfield 59, 3) := by decide +kernel
theorem dX4_trace_4 : decode cX4_trace 4 = .ok (.ireturn, 1) := by decide +kernel
theorem dX4_fault_0 : decode cX4_fault 0 = .ok (.aload_n 0, 1) := by decide +kernel
theorem dX4_fault_1 : decode cX4_fault 1 = .ok (.getfield 62, 3) := by decide +kernel
theorem dX4_fault_4 : decode cX4_fault 4 = .ok (.ireturn, 1) := by decide +kernel
theorem dX4_many_0 : decode cX4_many 0 = .ok (.iload_n 1, 1) := by decide +kernel
theorem dX4_many_1 : decode cX4_many 1 = .ok (.tableswitch 75 0 4 #[35, 43, 51, 59, 67], 35) := by decide +kernel
theorem dX4_many_36 : decode cX4_many 36 = .ok (.aload_n 0, 1) := by decide +kernel
theorem dX4_many_37 : decode cX4_many 37 = .ok (.getfield 32, 3) := by decide +kernel
theorem dX4_many_40 : decode cX4_many 40 = .ok (.getfield 77, 3) := by decide +kernel
theorem dX4_many_43 : decode cX4_many 43 = .ok (.ireturn, 1) := by decide +kernel
theorem dX4_many_44 : decode cX4_many 44 = .ok (.aload_n 0, 1) := by decide +kernel
theorem dX4_many_45 : decode cX4_many 45 = .ok (.getfield 32, 3) := by decide +kernel
theorem dX4_many_48 : decode cX4_many 48 = .ok (.getfield 187, 3) := by decide +kernel
theorem dX4_many_51 : decode cX4_many 51 = .ok (.ireturn, 1) := by decide +kernel
theorem dX4_many_52 : decode cX4_many 52 = .ok (.aload_n 0, 1) := by decide +kernel
theorem dX4_many_53 : decode cX4_many 53 = .ok (.getfield 32, 3) := by decide +kernel
theorem dX4_many_56 : decode cX4_many 56 = .ok (.getfield 116, 3) := by decide +kernel
theorem dX4_many_59 : decode cX4_many 59 = .ok (.ireturn, 1) := by decide +kernel
theorem dX4_many_60 : decode cX4_many 60 = .ok (.aload_n 0, 1) := by decide +kernel
theorem dX4_many_61 : decode cX4_many 61 = .ok (.getfield 22, 3) := by decide +kernel
theorem dX4_many_64 : decode cX4_many 64 = .ok (.getfield 74, 3) := by decide +kernel
theorem dX4_many_67 : decode cX4_many 67 = .ok (.ireturn, 1) := by decide +kernel
theorem dX4_many_68 : decode cX4_many 68 = .ok (.aload_n 0, 1) := by decide +kernel
theorem dX4_many_69 : decode cX4_many 69 = .ok (.getfield 26, 3) := by decide +kernel
theorem dX4_many_72 : decode cX4_many 72 = .ok (.getfield 74, 3) := by decide +kernel
theorem dX4_many_75 : decode cX4_many 75 = .ok (.ireturn, 1) := by decide +kernel
theorem dX4_many_76 : decode cX4_many 76 = .ok (.bipush (-2), 2) := by decide +kernel
theorem dX4_many_78 : decode cX4_many 78 = .ok (.ireturn, 1) := by decide +kernel
theorem dX4_isHouse_0 : decode cX4_isHouse 0 = .ok (.iload_n 1, 1) := by decide +kernel
theorem dX4_isHouse_1 : decode cX4_isHouse 1 = .ok (.ifCond .lt 18, 3) := by decide +kernel
theorem dX4_isHouse_4 : decode cX4_isHouse 4 = .ok (.iload_n 1, 1) := by decide +kernel
theorem dX4_isHouse_5 : decode cX4_isHouse 5 = .ok (.aload_n 0, 1) := by decide +kernel
theorem dX4_isHouse_6 : decode cX4_isHouse 6 = .ok (.getfield 32, 3) := by decide +kernel
theorem dX4_isHouse_9 : decode cX4_isHouse 9 = .ok (.getfield 77, 3) := by decide +kernel
theorem dX4_isHouse_12 : decode cX4_isHouse 12 = .ok (.if_icmp .ge 7, 3) := by decide +kernel
theorem dX4_isHouse_15 : decode cX4_isHouse 15 = .ok (.iconst 1, 1) := by decide +kernel
theorem dX4_isHouse_16 : decode cX4_isHouse 16 = .ok (.goto 4, 3) := by decide +kernel
theorem dX4_isHouse_19 : decode cX4_isHouse 19 = .ok (.iconst 0, 1) := by decide +kernel
theorem dX4_isHouse_20 : decode cX4_isHouse 20 = .ok (.ireturn, 1) := by decide +kernel
theorem dX4_isPerson_0 : decode cX4_isPerson 0 = .ok (.iload_n 1, 1) := by decide +kernel
theorem dX4_isPerson_1 : decode cX4_isPerson 1 = .ok (.ifCond .lt 18, 3) := by decide +kernel
theorem dX4_isPerson_4 : decode cX4_isPerson 4 = .ok (.iload_n 1, 1) := by decide +kernel
theorem dX4_isPerson_5 : decode cX4_isPerson 5 = .ok (.aload_n 0, 1) := by decide +kernel
theorem dX4_isPerson_6 : decode cX4_isPerson 6 = .ok (.getfield 32, 3) := by decide +kernel
theorem dX4_isPerson_9 : decode cX4_isPerson 9 = .ok (.getfield 187, 3) := by decide +kernel
theorem dX4_isPerson_12 : decode cX4_isPerson 12 = .ok (.if_icmp .ge 7, 3) := by decide +kernel
theorem dX4_isPerson_15 : decode cX4_isPerson 15 = .ok (.iconst 1, 1) := by decide +kernel
theorem dX4_isPerson_16 : decode cX4_isPerson 16 = .ok (.goto 4, 3) := by decide +kernel
theorem dX4_isPerson_19 : decode cX4_isPerson 19 = .ok (.iconst 0, 1) := by decide +kernel
theorem dX4_isPerson_20 : decode cX4_isPerson 20 = .ok (.ireturn, 1) := by decide +kernel
theorem dX4_isAway_0 : decode cX4_isAway 0 = .ok (.aload_n 0, 1) := by decide +kernel
theorem dX4_isAway_1 : decode cX4_isAway 1 = .ok (.getfield 51, 3) := by decide +kernel
theorem dX4_isAway_4 : decode cX4_isAway 4 = .ok (.iload_n 1, 1) := by decide +kernel
theorem dX4_isAway_5 : decode cX4_isAway 5 = .ok (.ishr, 1) := by decide +kernel
theorem dX4_isAway_6 : decode cX4_isAway 6 = .ok (.iconst 1, 1) := by decide +kernel
theorem dX4_isAway_7 : decode cX4_isAway 7 = .ok (.iand, 1) := by decide +kernel
theorem dX4_isAway_8 : decode cX4_isAway 8 = .ok (.iconst 1, 1) := by decide +kernel
theorem dX4_isAway_9 : decode cX4_isAway 9 = .ok (.if_icmp .ne 7, 3) := by decide +kernel
theorem dX4_isAway_12 : decode cX4_isAway 12 = .ok (.iconst 1, 1) := by decide +kernel
theorem dX4_isAway_13 : decode cX4_isAway 13 = .ok (.goto 4, 3) := by decide +kernel
theorem dX4_isAway_16 : decode cX4_isAway 16 = .ok (.iconst 0, 1) := by decide +kernel
theorem dX4_isAway_17 : decode cX4_isAway 17 = .ok (.ireturn, 1) := by decide +kernel
theorem dX4_isSheet_0 : decode cX4_isSheet 0 = .ok (.iload_n 0, 1) := by decide +kernel
theorem dX4_isSheet_1 : decode cX4_isSheet 1 = .ok (.ifCond .lt 12, 3) := by decide +kernel
theorem dX4_isSheet_4 : decode cX4_isSheet 4 = .ok (.iload_n 0, 1) := by decide +kernel
theorem dX4_isSheet_5 : decode cX4_isSheet 5 = .ok (.iconst 4, 1) := by decide +kernel
theorem dX4_isSheet_6 : decode cX4_isSheet 6 = .ok (.if_icmp .ge 7, 3) := by decide +kernel
theorem dX4_isSheet_9 : decode cX4_isSheet 9 = .ok (.iconst 1, 1) := by decide +kernel
theorem dX4_isSheet_10 : decode cX4_isSheet 10 = .ok (.goto 4, 3) := by decide +kernel
theorem dX4_isSheet_13 : decode cX4_isSheet 13 = .ok (.iconst 0, 1) := by decide +kernel
theorem dX4_isSheet_14 : decode cX4_isSheet 14 = .ok (.ireturn, 1) := by decide +kernel
theorem dX4_isLane_0 : decode cX4_isLane 0 = .ok (.iload_n 0, 1) := by decide +kernel
theorem dX4_isLane_1 : decode cX4_isLane 1 = .ok (.ifCond .lt 12, 3) := by decide +kernel
theorem dX4_isLane_4 : decode cX4_isLane 4 = .ok (.iload_n 0, 1) := by decide +kernel
theorem dX4_isLane_5 : decode cX4_isLane 5 = .ok (.iconst 3, 1) := by decide +kernel
theorem dX4_isLane_6 : decode cX4_isLane 6 = .ok (.if_icmp .ge 7, 3) := by decide +kernel
theorem dX4_isLane_9 : decode cX4_isLane 9 = .ok (.iconst 1, 1) := by decide +kernel
theorem dX4_isLane_10 : decode cX4_isLane 10 = .ok (.goto 4, 3) := by decide +kernel
theorem dX4_isLane_13 : decode cX4_isLane 13 = .ok (.iconst 0, 1) := by decide +kernel
theorem dX4_isLane_14 : decode cX4_isLane 14 = .ok (.ireturn, 1) := by decide +kernel
theorem dX4_isWeek_0 : decode cX4_isWeek 0 = .ok (.iload_n 0, 1) := by decide +kernel
theorem dX4_isWeek_1 : decode cX4_isWeek 1 = .ok (.ifCond .lt 13, 3) := by decide +kernel
theorem dX4_isWeek_4 : decode cX4_isWeek 4 = .ok (.iload_n 0, 1) := by decide +kernel
theorem dX4_isWeek_5 : decode cX4_isWeek 5 = .ok (.bipush 10, 2) := by decide +kernel
theorem dX4_isWeek_7 : decode cX4_isWeek 7 = .ok (.if_icmp .ge 7, 3) := by decide +kernel
theorem dX4_isWeek_10 : decode cX4_isWeek 10 = .ok (.iconst 1, 1) := by decide +kernel
theorem dX4_isWeek_11 : decode cX4_isWeek 11 = .ok (.goto 4, 3) := by decide +kernel
theorem dX4_isWeek_14 : decode cX4_isWeek 14 = .ok (.iconst 0, 1) := by decide +kernel
theorem dX4_isWeek_15 : decode cX4_isWeek 15 = .ok (.ireturn, 1) := by decide +kernel
theorem dX4_isTime_0 : decode cX4_isTime 0 = .ok (.iload_n 0, 1) := by decide +kernel
theorem dX4_isTime_1 : decode cX4_isTime 1 = .ok (.invokestatic 119, 3) := by decide +kernel
theorem dX4_isTime_4 : decode cX4_isTime 4 = .ok (.ifCond .eq 17, 3) := by decide +kernel
theorem dX4_isTime_7 : decode cX4_isTime 7 = .ok (.iload_n 1, 1) := by decide +kernel
theorem dX4_isTime_8 : decode cX4_isTime 8 = .ok (.ifCond .lt 13, 3) := by decide +kernel
theorem dX4_isTime_11 : decode cX4_isTime 11 = .ok (.iload_n 1, 1) := by decide +kernel
theorem dX4_isTime_12 : decode cX4_isTime 12 = .ok (.bipush 14, 2) := by decide +kernel
theorem dX4_isTime_14 : decode cX4_isTime 14 = .ok (.if_icmp .ge 7, 3) := by decide +kernel
theorem dX4_isTime_17 : decode cX4_isTime 17 = .ok (.iconst 1, 1) := by decide +kernel
theorem dX4_isTime_18 : decode cX4_isTime 18 = .ok (.goto 4, 3) := by decide +kernel
theorem dX4_isTime_21 : decode cX4_isTime 21 = .ok (.iconst 0, 1) := by decide +kernel
theorem dX4_isTime_22 : decode cX4_isTime 22 = .ok (.ireturn, 1) := by decide +kernel
theorem dX4_isWhich_0 : decode cX4_isWhich 0 = .ok (.iload_n 0, 1) := by decide +kernel
theorem dX4_isWhich_1 : decode cX4_isWhich 1 = .ok (.ifCond .eq 8, 3) := by decide +kernel
theorem dX4_isWhich_4 : decode cX4_isWhich 4 = .ok (.iload_n 0, 1) := by decide +kernel
theorem dX4_isWhich_5 : decode cX4_isWhich 5 = .ok (.iconst 1, 1) := by decide +kernel
theorem dX4_isWhich_6 : decode cX4_isWhich 6 = .ok (.if_icmp .ne 7, 3) := by decide +kernel
theorem dX4_isWhich_9 : decode cX4_isWhich 9 = .ok (.iconst 1, 1) := by decide +kernel
theorem dX4_isWhich_10 : decode cX4_isWhich 10 = .ok (.goto 4, 3) := by decide +kernel
theorem dX4_isWhich_13 : decode cX4_isWhich 13 = .ok (.iconst 0, 1) := by decide +kernel
theorem dX4_isWhich_14 : decode cX4_isWhich 14 = .ok (.ireturn, 1) := by decide +kernel
theorem dX4_timeOf_0 : decode cX4_timeOf 0 = .ok (.iload_n 0, 1) := by decide +kernel
theorem dX4_timeOf_1 : decode cX4_timeOf 1 = .ok (.bipush 14, 2) := by decide +kernel
theorem dX4_timeOf_3 : decode cX4_timeOf 3 = .ok (.imul, 1) := by decide +kernel
theorem dX4_timeOf_4 : decode cX4_timeOf 4 = .ok (.iload_n 1, 1) := by decide +kernel
theorem dX4_timeOf_5 : decode cX4_timeOf 5 = .ok (.iadd, 1) := by decide +kernel
theorem dX4_timeOf_6 : decode cX4_timeOf 6 = .ok (.ireturn, 1) := by decide +kernel
theorem dX4_everybody_0 : decode cX4_everybody 0 = .ok (.iconst 1, 1) := by decide +kernel
theorem dX4_everybody_1 : decode cX4_everybody 1 = .ok (.aload_n 0, 1) := by decide +kernel
theorem dX4_everybody_2 : decode cX4_everybody 2 = .ok (.getfield 32, 3) := by decide +kernel
theorem dX4_everybody_5 : decode cX4_everybody 5 = .ok (.getfield 187, 3) := by decide +kernel
theorem dX4_everybody_8 : decode cX4_everybody 8 = .ok (.ishl, 1) := by decide +kernel
theorem dX4_everybody_9 : decode cX4_everybody 9 = .ok (.iconst 1, 1) := by decide +kernel
theorem dX4_everybody_10 : decode cX4_everybody 10 = .ok (.isub, 1) := by decide +kernel
theorem dX4_everybody_11 : decode cX4_everybody 11 = .ok (.ireturn, 1) := by decide +kernel
theorem dX4_whoIsIn_0 : decode cX4_whoIsIn 0 = .ok (.aload_n 0, 1) := by decide +kernel
theorem dX4_whoIsIn_1 : decode cX4_whoIsIn 1 = .ok (.getfield 32, 3) := by decide +kernel
theorem dX4_whoIsIn_4 : decode cX4_whoIsIn 4 = .ok (.iload_n 1, 1) := by decide +kernel
theorem dX4_whoIsIn_5 : decode cX4_whoIsIn 5 = .ok (.aload_n 0, 1) := by decide +kernel
theorem dX4_whoIsIn_6 : decode cX4_whoIsIn 6 = .ok (.getfield 32, 3) := by decide +kernel
theorem dX4_whoIsIn_9 : decode cX4_whoIsIn 9 = .ok (.getfield 116, 3) := by decide +kernel
theorem dX4_whoIsIn_12 : decode cX4_whoIsIn 12 = .ok (.invokevirtual 267, 3) := by decide +kernel
theorem dX4_whoIsIn_15 : decode cX4_whoIsIn 15 = .ok (.aload_n 0, 1) := by decide +kernel
theorem dX4_whoIsIn_16 : decode cX4_whoIsIn 16 = .ok (.getfield 51, 3) := by decide +kernel
theorem dX4_whoIsIn_19 : decode cX4_whoIsIn 19 = .ok (.iconst (-1), 1) := by decide +kernel
theorem dX4_whoIsIn_20 : decode cX4_whoIsIn 20 = .ok (.ixor, 1) := by decide +kernel
theorem dX4_whoIsIn_21 : decode cX4_whoIsIn 21 = .ok (.iand, 1) := by decide +kernel
theorem dX4_whoIsIn_22 : decode cX4_whoIsIn 22 = .ok (.ireturn, 1) := by decide +kernel
theorem dX4_faultBy_0 : decode cX4_faultBy 0 = .ok (.aload_n 0, 1) := by decide +kernel
theorem dX4_faultBy_1 : decode cX4_faultBy 1 = .ok (.iload_n 1, 1) := by decide +kernel
theorem dX4_faultBy_2 : decode cX4_faultBy 2 = .ok (.putfield 62, 3) := by decide +kernel
theorem dX4_faultBy_5 : decode cX4_faultBy 5 = .ok (.bipush (-10), 2) := by decide +kernel
theorem dX4_faultBy_7 : decode cX4_faultBy 7 = .ok (.iload_n 1, 1) := by decide +kernel
theorem dX4_faultBy_8 : decode cX4_faultBy 8 = .ok (.isub, 1) := by decide +kernel
theorem dX4_faultBy_9 : decode cX4_faultBy 9 = .ok (.ireturn, 1) := by decide +kernel
theorem dX4_refusalOfLane_0 : decode cX4_refusalOfLane 0 = .ok (.aload_n 0, 1) := by decide +kernel
theorem dX4_refusalOfLane_1 : decode cX4_refusalOfLane 1 = .ok (.iconst 0, 1) := by decide +kernel
theorem dX4_refusalOfLane_2 : decode cX4_refusalOfLane 2 = .ok (.putfield 62, 3) := by decide +kernel
theorem dX4_refusalOfLane_5 : decode cX4_refusalOfLane 5 = .ok (.iload_n 1, 1) := by decide +kernel
theorem dX4_refusalOfLane_6 : decode cX4_refusalOfLane 6 = .ok (.invokestatic 215, 3) := by decide +kernel
theorem dX4_refusalOfLane_9 : decode cX4_refusalOfLane 9 = .ok (.ifCond .ne 5, 3) := by decide +kernel
theorem dX4_refusalOfLane_12 : decode cX4_refusalOfLane 12 = .ok (.iconst (-1), 1) := by decide +kernel
theorem dX4_refusalOfLane_13 : decode cX4_refusalOfLane 13 = .ok (.ireturn, 1) := by decide +kernel
theorem dX4_refusalOfLane_14 : decode cX4_refusalOfLane 14 = .ok (.iload_n 2, 1) := by decide +kernel
theorem dX4_refusalOfLane_15 : decode cX4_refusalOfLane 15 = .ok (.invokestatic 218, 3) := by decide +kernel
theorem dX4_refusalOfLane_18 : decode cX4_refusalOfLane 18 = .ok (.ifCond .ne 6, 3) := by decide +kernel
theorem dX4_refusalOfLane_21 : decode cX4_refusalOfLane 21 = .ok (.bipush (-2), 2) := by decide +kernel
theorem dX4_refusalOfLane_23 : decode cX4_refusalOfLane 23 = .ok (.ireturn, 1) := by decide +kernel
theorem dX4_refusalOfLane_24 : decode cX4_refusalOfLane 24 = .ok (.aload_n 0, 1) := by decide +kernel
theorem dX4_refusalOfLane_25 : decode cX4_refusalOfLane 25 = .ok (.getfield 13, 3) := by decide +kernel
theorem dX4_refusalOfLane_28 : decode cX4_refusalOfLane 28 = .ok (.iload_n 1, 1) := by decide +kernel
theorem dX4_refusalOfLane_29 : decode cX4_refusalOfLane 29 = .ok (.aaload, 1) := by decide +kernel
theorem dX4_refusalOfLane_30 : decode cX4_refusalOfLane 30 = .ok (.invokevirtual 228, 3) := by decide +kernel
theorem dX4_refusalOfLane_33 : decode cX4_refusalOfLane 33 = .ok (.ifCond .eq 9, 3) := by decide +kernel
theorem dX4_refusalOfLane_36 : decode cX4_refusalOfLane 36 = .ok (.aload_n 0, 1) := by decide +kernel
theorem dX4_refusalOfLane_37 : decode cX4_refusalOfLane 37 = .ok (.iconst 1, 1) := by decide +kernel
theorem dX4_refusalOfLane_38 : decode cX4_refusalOfLane 38 = .ok (.invokevirtual 221, 3) := by decide +kernel
theorem dX4_refusalOfLane_41 : decode cX4_refusalOfLane 41 = .ok (.ireturn, 1) := by decide +kernel
theorem dX4_refusalOfLane_42 : decode cX4_refusalOfLane 42 = .ok (.aload_n 0, 1) := by decide +kernel
theorem dX4_refusalOfLane_43 : decode cX4_refusalOfLane 43 = .ok (.getfield 13, 3) := by decide +kernel
theorem dX4_refusalOfLane_46 : decode cX4_refusalOfLane 46 = .ok (.iload_n 1, 1) := by decide +kernel
theorem dX4_refusalOfLane_47 : decode cX4_refusalOfLane 47 = .ok (.aaload, 1) := by decide +kernel
theorem dX4_refusalOfLane_48 : decode cX4_refusalOfLane 48 = .ok (.getfield 240, 3) := by decide +kernel
theorem dX4_refusalOfLane_51 : decode cX4_refusalOfLane 51 = .ok (.iload_n 2, 1) := by decide +kernel
theorem dX4_refusalOfLane_52 : decode cX4_refusalOfLane 52 = .ok (.if_icmp .ne 7, 3) := by decide +kernel
theorem dX4_refusalOfLane_55 : decode cX4_refusalOfLane 55 = .ok (.iconst 0, 1) := by decide +kernel
theorem dX4_refusalOfLane_56 : decode cX4_refusalOfLane 56 = .ok (.goto 8, 3) := by decide +kernel
theorem dX4_refusalOfLane_59 : decode cX4_refusalOfLane 59 = .ok (.aload_n 0, 1) := by decide +kernel
theorem dX4_refusalOfLane_60 : decode cX4_refusalOfLane 60 = .ok (.iconst 2, 1) := by decide +kernel
theorem dX4_refusalOfLane_61 : decode cX4_refusalOfLane 61 = .ok (.invokevirtual 221, 3) := by decide +kernel
theorem dX4_refusalOfLane_64 : decode cX4_refusalOfLane 64 = .ok (.ireturn, 1) := by decide +kernel
theorem dX4_refusalOfCells_0 : decode cX4_refusalOfCells 0 = .ok (.aload_n 0, 1) := by decide +kernel
theorem dX4_refusalOfCells_1 : decode cX4_refusalOfCells 1 = .ok (.iload_n 1, 1) := by decide +kernel
theorem dX4_refusalOfCells_2 : decode cX4_refusalOfCells 2 = .ok (.iload_n 2, 1) := by decide +kernel
theorem dX4_refusalOfCells_3 : decode cX4_refusalOfCells 3 = .ok (.invokevirtual 237, 3) := by decide +kernel
theorem dX4_refusalOfCells_6 : decode cX4_refusalOfCells 6 = .ok (.istore 5, 2) := by decide +kernel
theorem dX4_refusalOfCells_8 : decode cX4_refusalOfCells 8 = .ok (.iload 5, 2) := by decide +kernel
theorem dX4_refusalOfCells_10 : decode cX4_refusalOfCells 10 = .ok (.ifCond .eq 6, 3) := by decide +kernel
theorem dX4_refusalOfCells_13 : decode cX4_refusalOfCells 13 = .ok (.iload 5, 2) := by decide +kernel
theorem dX4_refusalOfCells_15 : decode cX4_refusalOfCells 15 = .ok (.ireturn, 1) := by decide +kernel
theorem dX4_refusalOfCells_16 : decode cX4_refusalOfCells 16 = .ok (.iload 4, 2) := by decide +kernel
theorem dX4_refusalOfCells_18 : decode cX4_refusalOfCells 18 = .ok (.ifCond .ge 9, 3) := by decide +kernel
theorem dX4_refusalOfCells_21 : decode cX4_refusalOfCells 21 = .ok (.aload_n 0, 1) := by decide +kernel
theorem dX4_refusalOfCells_22 : decode cX4_refusalOfCells 22 = .ok (.iconst 4, 1) := by decide +kernel
theorem dX4_refusalOfCells_23 : decode cX4_refusalOfCells 23 = .ok (.invokevirtual 221, 3) := by decide +kernel
theorem dX4_refusalOfCells_26 : decode cX4_refusalOfCells 26 = .ok (.ireturn, 1) := by decide +kernel
theorem dX4_refusalOfCells_27 : decode cX4_refusalOfCells 27 = .ok (.aload_n 0, 1) := by decide +kernel
theorem dX4_refusalOfCells_28 : decode cX4_refusalOfCells 28 = .ok (.getfield 13, 3) := by decide +kernel
theorem dX4_refusalOfCells_31 : decode cX4_refusalOfCells 31 = .ok (.iload_n 1, 1) := by decide +kernel
theorem dX4_refusalOfCells_32 : decode cX4_refusalOfCells 32 = .ok (.aaload, 1) := by decide +kernel
theorem dX4_refusalOfCells_33 : decode cX4_refusalOfCells 33 = .ok (.iload_n 3, 1) := by decide +kernel
theorem dX4_refusalOfCells_34 : decode cX4_refusalOfCells 34 = .ok (.iload 4, 2) := by decide +kernel
theorem dX4_refusalOfCells_36 : decode cX4_refusalOfCells 36 = .ok (.invokevirtual 243, 3) := by decide +kernel
theorem dX4_refusalOfCells_39 : decode cX4_refusalOfCells 39 = .ok (.ifCond .eq 7, 3) := by decide +kernel
end
section
theorem dX4_refusalOfCells_42 : decode cX4_refusalOfCells 42 = .ok (.iconst 0, 1) := by decide +kernel
theorem dX4_refusalOfCells_43 : decode cX4_refusalOfCells 43 = .ok (.goto 8, 3) := by decide +kernel
theorem dX4_refusalOfCells_46 : decode cX4_refusalOfCells 46 = .ok (.aload_n 0, 1) := by decide +kernel
theorem dX4_refusalOfCells_47 : decode cX4_refusalOfCells 47 = .ok (.iconst 3, 1) := by decide +kernel
theorem dX4_refusalOfCells_48 : decode cX4_refusalOfCells 48 = .ok (.invokevirtual 221, 3) := by decide +kernel
theorem dX4_refusalOfCells_51 : decode cX4_refusalOfCells 51 = .ok (.ireturn, 1) := by decide +kernel
theorem dX4_firstFault_0 : decode cX4_firstFault 0 = .ok (.aload_n 0, 1) := by decide +kernel
theorem dX4_firstFault_1 : decode cX4_firstFault 1 = .ok (.getfield 36, 3) := by decide +kernel
theorem dX4_firstFault_4 : decode cX4_firstFault 4 = .ok (.invokevirtual 270, 3) := by decide +kernel
theorem dX4_firstFault_7 : decode cX4_firstFault 7 = .ok (.iconst 0, 1) := by decide +kernel
theorem dX4_firstFault_8 : decode cX4_firstFault 8 = .ok (.istore 4, 2) := by decide +kernel
theorem dX4_firstFault_10 : decode cX4_firstFault 10 = .ok (.iload 4, 2) := by decide +kernel
theorem dX4_firstFault_12 : decode cX4_firstFault 12 = .ok (.iload_n 3, 1) := by decide +kernel
theorem dX4_firstFault_13 : decode cX4_firstFault 13 = .ok (.if_icmp .ge 30, 3) := by decide +kernel
theorem dX4_firstFault_16 : decode cX4_firstFault 16 = .ok (.aload_n 0, 1) := by decide +kernel
theorem dX4_firstFault_17 : decode cX4_firstFault 17 = .ok (.getfield 36, 3) := by decide +kernel
theorem dX4_firstFault_20 : decode cX4_firstFault 20 = .ok (.aload_n 1, 1) := by decide +kernel
theorem dX4_firstFault_21 : decode cX4_firstFault 21 = .ok (.iload_n 2, 1) := by decide +kernel
theorem dX4_firstFault_22 : decode cX4_firstFault 22 = .ok (.iload 4, 2) := by decide +kernel
theorem dX4_firstFault_24 : decode cX4_firstFault 24 = .ok (.iadd, 1) := by decide +kernel
theorem dX4_firstFault_25 : decode cX4_firstFault 25 = .ok (.invokevirtual 205, 3) := by decide +kernel
theorem dX4_firstFault_28 : decode cX4_firstFault 28 = .ok (.invokevirtual 273, 3) := by decide +kernel
theorem dX4_firstFault_31 : decode cX4_firstFault 31 = .ok (.ifCond .ne 6, 3) := by decide +kernel
theorem dX4_firstFault_34 : decode cX4_firstFault 34 = .ok (.iload 4, 2) := by decide +kernel
theorem dX4_firstFault_36 : decode cX4_firstFault 36 = .ok (.ireturn, 1) := by decide +kernel
theorem dX4_firstFault_37 : decode cX4_firstFault 37 = .ok (.iinc 4 1, 3) := by decide +kernel
theorem dX4_firstFault_40 : decode cX4_firstFault 40 = .ok (.goto (-30), 3) := by decide +kernel
theorem dX4_firstFault_43 : decode cX4_firstFault 43 = .ok (.aload_n 0, 1) := by decide +kernel
theorem dX4_firstFault_44 : decode cX4_firstFault 44 = .ok (.getfield 36, 3) := by decide +kernel
theorem dX4_firstFault_47 : decode cX4_firstFault 47 = .ok (.invokevirtual 276, 3) := by decide +kernel
theorem dX4_firstFault_50 : decode cX4_firstFault 50 = .ok (.ifCond .eq 8, 3) := by decide +kernel
theorem dX4_firstFault_53 : decode cX4_firstFault 53 = .ok (.bipush (-9), 2) := by decide +kernel
theorem dX4_firstFault_55 : decode cX4_firstFault 55 = .ok (.goto 4, 3) := by decide +kernel
theorem dX4_firstFault_58 : decode cX4_firstFault 58 = .ok (.iload_n 3, 1) := by decide +kernel
theorem dX4_firstFault_59 : decode cX4_firstFault 59 = .ok (.ireturn, 1) := by decide +kernel
theorem dX4_freshWeeks_0 : decode cX4_freshWeeks 0 = .ok (.aload_n 0, 1) := by decide +kernel
theorem dX4_freshWeeks_1 : decode cX4_freshWeeks 1 = .ok (.getfield 55, 3) := by decide +kernel
theorem dX4_freshWeeks_4 : decode cX4_freshWeeks 4 = .ok (.ifCond .ne 34, 3) := by decide +kernel
theorem dX4_freshWeeks_7 : decode cX4_freshWeeks 7 = .ok (.aload_n 0, 1) := by decide +kernel
theorem dX4_freshWeeks_8 : decode cX4_freshWeeks 8 = .ok (.getfield 44, 3) := by decide +kernel
theorem dX4_freshWeeks_11 : decode cX4_freshWeeks 11 = .ok (.aload_n 0, 1) := by decide +kernel
theorem dX4_freshWeeks_12 : decode cX4_freshWeeks 12 = .ok (.getfield 32, 3) := by decide +kernel
theorem dX4_freshWeeks_15 : decode cX4_freshWeeks 15 = .ok (.aload_n 0, 1) := by decide +kernel
theorem dX4_freshWeeks_16 : decode cX4_freshWeeks 16 = .ok (.getfield 51, 3) := by decide +kernel
theorem dX4_freshWeeks_19 : decode cX4_freshWeeks 19 = .ok (.invokevirtual 160, 3) := by decide +kernel
theorem dX4_freshWeeks_22 : decode cX4_freshWeeks 22 = .ok (.aload_n 0, 1) := by decide +kernel
theorem dX4_freshWeeks_23 : decode cX4_freshWeeks 23 = .ok (.getfield 44, 3) := by decide +kernel
theorem dX4_freshWeeks_26 : decode cX4_freshWeeks 26 = .ok (.bipush 10, 2) := by decide +kernel
theorem dX4_freshWeeks_28 : decode cX4_freshWeeks 28 = .ok (.iconst 0, 1) := by decide +kernel
theorem dX4_freshWeeks_29 : decode cX4_freshWeeks 29 = .ok (.invokevirtual 165, 3) := by decide +kernel
theorem dX4_freshWeeks_32 : decode cX4_freshWeeks 32 = .ok (.pop, 1) := by decide +kernel
theorem dX4_freshWeeks_33 : decode cX4_freshWeeks 33 = .ok (.aload_n 0, 1) := by decide +kernel
theorem dX4_freshWeeks_34 : decode cX4_freshWeeks 34 = .ok (.iconst 1, 1) := by decide +kernel
theorem dX4_freshWeeks_35 : decode cX4_freshWeeks 35 = .ok (.putfield 55, 3) := by decide +kernel
theorem dX4_freshWeeks_38 : decode cX4_freshWeeks 38 = .ok (.aload_n 0, 1) := by decide +kernel
theorem dX4_freshWeeks_39 : decode cX4_freshWeeks 39 = .ok (.getfield 44, 3) := by decide +kernel
theorem dX4_freshWeeks_42 : decode cX4_freshWeeks 42 = .ok (.areturn, 1) := by decide +kernel
theorem dX4_lessWearWithout_0 : decode cX4_lessWearWithout 0 = .ok (.iload_n 2, 1) := by decide +kernel
theorem dX4_lessWearWithout_1 : decode cX4_lessWearWithout 1 = .ok (.bipush 13, 2) := by decide +kernel
theorem dX4_lessWearWithout_3 : decode cX4_lessWearWithout 3 = .ok (.invokestatic 138, 3) := by decide +kernel
theorem dX4_lessWearWithout_6 : decode cX4_lessWearWithout 6 = .ok (.istore_n 3, 1) := by decide +kernel
theorem dX4_lessWearWithout_7 : decode cX4_lessWearWithout 7 = .ok (.aload_n 0, 1) := by decide +kernel
theorem dX4_lessWearWithout_8 : decode cX4_lessWearWithout 8 = .ok (.getfield 48, 3) := by decide +kernel
theorem dX4_lessWearWithout_11 : decode cX4_lessWearWithout 11 = .ok (.aload_n 0, 1) := by decide +kernel
theorem dX4_lessWearWithout_12 : decode cX4_lessWearWithout 12 = .ok (.getfield 32, 3) := by decide +kernel
theorem dX4_lessWearWithout_15 : decode cX4_lessWearWithout 15 = .ok (.aload_n 0, 1) := by decide +kernel
theorem dX4_lessWearWithout_16 : decode cX4_lessWearWithout 16 = .ok (.getfield 51, 3) := by decide +kernel
theorem dX4_lessWearWithout_19 : decode cX4_lessWearWithout 19 = .ok (.iconst 1, 1) := by decide +kernel
theorem dX4_lessWearWithout_20 : decode cX4_lessWearWithout 20 = .ok (.iload_n 1, 1) := by decide +kernel
theorem dX4_lessWearWithout_21 : decode cX4_lessWearWithout 21 = .ok (.ishl, 1) := by decide +kernel
theorem dX4_lessWearWithout_22 : decode cX4_lessWearWithout 22 = .ok (.ior, 1) := by decide +kernel
theorem dX4_lessWearWithout_23 : decode cX4_lessWearWithout 23 = .ok (.invokevirtual 160, 3) := by decide +kernel
theorem dX4_lessWearWithout_26 : decode cX4_lessWearWithout 26 = .ok (.aload_n 0, 1) := by decide +kernel
theorem dX4_lessWearWithout_27 : decode cX4_lessWearWithout 27 = .ok (.getfield 48, 3) := by decide +kernel
theorem dX4_lessWearWithout_30 : decode cX4_lessWearWithout 30 = .ok (.iload_n 2, 1) := by decide +kernel
theorem dX4_lessWearWithout_31 : decode cX4_lessWearWithout 31 = .ok (.iconst 1, 1) := by decide +kernel
theorem dX4_lessWearWithout_32 : decode cX4_lessWearWithout 32 = .ok (.iadd, 1) := by decide +kernel
theorem dX4_lessWearWithout_33 : decode cX4_lessWearWithout 33 = .ok (.iconst 0, 1) := by decide +kernel
theorem dX4_lessWearWithout_34 : decode cX4_lessWearWithout 34 = .ok (.invokevirtual 165, 3) := by decide +kernel
theorem dX4_lessWearWithout_37 : decode cX4_lessWearWithout 37 = .ok (.pop, 1) := by decide +kernel
theorem dX4_lessWearWithout_38 : decode cX4_lessWearWithout 38 = .ok (.iconst 0, 1) := by decide +kernel
theorem dX4_lessWearWithout_39 : decode cX4_lessWearWithout 39 = .ok (.aload_n 0, 1) := by decide +kernel
theorem dX4_lessWearWithout_40 : decode cX4_lessWearWithout 40 = .ok (.invokevirtual 134, 3) := by decide +kernel
theorem dX4_lessWearWithout_43 : decode cX4_lessWearWithout 43 = .ok (.iload_n 3, 1) := by decide +kernel
theorem dX4_lessWearWithout_44 : decode cX4_lessWearWithout 44 = .ok (.invokevirtual 279, 3) := by decide +kernel
theorem dX4_lessWearWithout_47 : decode cX4_lessWearWithout 47 = .ok (.aload_n 0, 1) := by decide +kernel
theorem dX4_lessWearWithout_48 : decode cX4_lessWearWithout 48 = .ok (.getfield 48, 3) := by decide +kernel
theorem dX4_lessWearWithout_51 : decode cX4_lessWearWithout 51 = .ok (.iload_n 3, 1) := by decide +kernel
theorem dX4_lessWearWithout_52 : decode cX4_lessWearWithout 52 = .ok (.invokevirtual 279, 3) := by decide +kernel
theorem dX4_lessWearWithout_55 : decode cX4_lessWearWithout 55 = .ok (.isub, 1) := by decide +kernel
theorem dX4_lessWearWithout_56 : decode cX4_lessWearWithout 56 = .ok (.invokestatic 282, 3) := by decide +kernel
theorem dX4_lessWearWithout_59 : decode cX4_lessWearWithout 59 = .ok (.ireturn, 1) := by decide +kernel
theorem dX4_readingsAreSoInTrial_0 : decode cX4_readingsAreSoInTrial 0 = .ok (.aload_n 0, 1) := by decide +kernel
theorem dX4_readingsAreSoInTrial_1 : decode cX4_readingsAreSoInTrial 1 = .ok (.getfield 48, 3) := by decide +kernel
theorem dX4_readingsAreSoInTrial_4 : decode cX4_readingsAreSoInTrial 4 = .ok (.bipush 10, 2) := by decide +kernel
theorem dX4_readingsAreSoInTrial_6 : decode cX4_readingsAreSoInTrial 6 = .ok (.iconst 0, 1) := by decide +kernel
theorem dX4_readingsAreSoInTrial_7 : decode cX4_readingsAreSoInTrial 7 = .ok (.invokevirtual 165, 3) := by decide +kernel
theorem dX4_readingsAreSoInTrial_10 : decode cX4_readingsAreSoInTrial 10 = .ok (.pop, 1) := by decide +kernel
theorem dX4_readingsAreSoInTrial_11 : decode cX4_readingsAreSoInTrial 11 = .ok (.aload_n 0, 1) := by decide +kernel
theorem dX4_readingsAreSoInTrial_12 : decode cX4_readingsAreSoInTrial 12 = .ok (.getfield 26, 3) := by decide +kernel
theorem dX4_readingsAreSoInTrial_15 : decode cX4_readingsAreSoInTrial 15 = .ok (.aload_n 0, 1) := by decide +kernel
theorem dX4_readingsAreSoInTrial_16 : decode cX4_readingsAreSoInTrial 16 = .ok (.getfield 48, 3) := by decide +kernel
theorem dX4_readingsAreSoInTrial_19 : decode cX4_readingsAreSoInTrial 19 = .ok (.invokevirtual 285, 3) := by decide +kernel
theorem dX4_readingsAreSoInTrial_22 : decode cX4_readingsAreSoInTrial 22 = .ok (.ireturn, 1) := by decide +kernel
theorem dX4_ofShare_0 : decode cX4_ofShare 0 = .ok (.iload_n 0, 1) := by decide +kernel
theorem dX4_ofShare_1 : decode cX4_ofShare 1 = .ok (.iload_n 1, 1) := by decide +kernel
theorem dX4_ofShare_2 : decode cX4_ofShare 2 = .ok (.invokestatic 289, 3) := by decide +kernel
theorem dX4_ofShare_5 : decode cX4_ofShare 5 = .ok (.istore_n 3, 1) := by decide +kernel
theorem dX4_ofShare_6 : decode cX4_ofShare 6 = .ok (.iload_n 3, 1) := by decide +kernel
theorem dX4_ofShare_7 : decode cX4_ofShare 7 = .ok (.ifCond .eq 7, 3) := by decide +kernel
theorem dX4_ofShare_10 : decode cX4_ofShare 10 = .ok (.iload_n 1, 1) := by decide +kernel
theorem dX4_ofShare_11 : decode cX4_ofShare 11 = .ok (.ifCond .ne 6, 3) := by decide +kernel
theorem dX4_ofShare_14 : decode cX4_ofShare 14 = .ok (.iload_n 2, 1) := by decide +kernel
theorem dX4_ofShare_15 : decode cX4_ofShare 15 = .ok (.i2l, 1) := by decide +kernel
theorem dX4_ofShare_16 : decode cX4_ofShare 16 = .ok (.lreturn, 1) := by decide +kernel
theorem dX4_ofShare_17 : decode cX4_ofShare 17 = .ok (.iload_n 2, 1) := by decide +kernel
theorem dX4_ofShare_18 : decode cX4_ofShare 18 = .ok (.ifCond .ne 10, 3) := by decide +kernel
theorem dX4_ofShare_21 : decode cX4_ofShare 21 = .ok (.iload_n 0, 1) := by decide +kernel
theorem dX4_ofShare_22 : decode cX4_ofShare 22 = .ok (.iload_n 3, 1) := by decide +kernel
theorem dX4_ofShare_23 : decode cX4_ofShare 23 = .ok (.idiv, 1) := by decide +kernel
theorem dX4_ofShare_24 : decode cX4_ofShare 24 = .ok (.i2l, 1) := by decide +kernel
theorem dX4_ofShare_25 : decode cX4_ofShare 25 = .ok (.goto 7, 3) := by decide +kernel
theorem dX4_ofShare_28 : decode cX4_ofShare 28 = .ok (.iload_n 1, 1) := by decide +kernel
theorem dX4_ofShare_29 : decode cX4_ofShare 29 = .ok (.iload_n 3, 1) := by decide +kernel
theorem dX4_ofShare_30 : decode cX4_ofShare 30 = .ok (.idiv, 1) := by decide +kernel
theorem dX4_ofShare_31 : decode cX4_ofShare 31 = .ok (.i2l, 1) := by decide +kernel
theorem dX4_ofShare_32 : decode cX4_ofShare 32 = .ok (.lreturn, 1) := by decide +kernel
theorem dX4_commonDivisor_0 : decode cX4_commonDivisor 0 = .ok (.iload_n 0, 1) := by decide +kernel
theorem dX4_commonDivisor_1 : decode cX4_commonDivisor 1 = .ok (.istore_n 2, 1) := by decide +kernel
theorem dX4_commonDivisor_2 : decode cX4_commonDivisor 2 = .ok (.iload_n 1, 1) := by decide +kernel
theorem dX4_commonDivisor_3 : decode cX4_commonDivisor 3 = .ok (.istore_n 3, 1) := by decide +kernel
theorem dX4_commonDivisor_4 : decode cX4_commonDivisor 4 = .ok (.iconst 0, 1) := by decide +kernel
theorem dX4_commonDivisor_5 : decode cX4_commonDivisor 5 = .ok (.istore 4, 2) := by decide +kernel
theorem dX4_commonDivisor_7 : decode cX4_commonDivisor 7 = .ok (.iload 4, 2) := by decide +kernel
theorem dX4_commonDivisor_9 : decode cX4_commonDivisor 9 = .ok (.bipush 64, 2) := by decide +kernel
theorem dX4_commonDivisor_11 : decode cX4_commonDivisor 11 = .ok (.if_icmp .ge 23, 3) := by decide +kernel
theorem dX4_commonDivisor_14 : decode cX4_commonDivisor 14 = .ok (.iload_n 3, 1) := by decide +kernel
theorem dX4_commonDivisor_15 : decode cX4_commonDivisor 15 = .ok (.ifCond .eq 19, 3) := by decide +kernel
theorem dX4_commonDivisor_18 : decode cX4_commonDivisor 18 = .ok (.iload_n 2, 1) := by decide +kernel
theorem dX4_commonDivisor_19 : decode cX4_commonDivisor 19 = .ok (.iload_n 3, 1) := by decide +kernel
theorem dX4_commonDivisor_20 : decode cX4_commonDivisor 20 = .ok (.irem, 1) := by decide +kernel
theorem dX4_commonDivisor_21 : decode cX4_commonDivisor 21 = .ok (.istore 5, 2) := by decide +kernel
theorem dX4_commonDivisor_23 : decode cX4_commonDivisor 23 = .ok (.iload_n 3, 1) := by decide +kernel
theorem dX4_commonDivisor_24 : decode cX4_commonDivisor 24 = .ok (.istore_n 2, 1) := by decide +kernel
theorem dX4_commonDivisor_25 : decode cX4_commonDivisor 25 = .ok (.iload 5, 2) := by decide +kernel
theorem dX4_commonDivisor_27 : decode cX4_commonDivisor 27 = .ok (.istore_n 3, 1) := by decide +kernel
theorem dX4_commonDivisor_28 : decode cX4_commonDivisor 28 = .ok (.iinc 4 1, 3) := by decide +kernel
theorem dX4_commonDivisor_31 : decode cX4_commonDivisor 31 = .ok (.goto (-24), 3) := by decide +kernel
theorem dX4_commonDivisor_34 : decode cX4_commonDivisor 34 = .ok (.iload_n 2, 1) := by decide +kernel
theorem dX4_commonDivisor_35 : decode cX4_commonDivisor 35 = .ok (.ireturn, 1) := by decide +kernel
theorem dX4_wantsOf_0 : decode cX4_wantsOf 0 = .ok (.iload_n 0, 1) := by decide +kernel
theorem dX4_wantsOf_1 : decode cX4_wantsOf 1 = .ok (.lookupswitch 33 #[(0, 27), (1, 29)], 27) := by decide +kernel
theorem dX4_wantsOf_28 : decode cX4_wantsOf 28 = .ok (.iload_n 1, 1) := by decide +kernel
theorem dX4_wantsOf_29 : decode cX4_wantsOf 29 = .ok (.ireturn, 1) := by decide +kernel
theorem dX4_wantsOf_30 : decode cX4_wantsOf 30 = .ok (.iload_n 1, 1) := by decide +kernel
theorem dX4_wantsOf_31 : decode cX4_wantsOf 31 = .ok (.iconst 1, 1) := by decide +kernel
theorem dX4_wantsOf_32 : decode cX4_wantsOf 32 = .ok (.iadd, 1) := by decide +kernel
theorem dX4_wantsOf_33 : decode cX4_wantsOf 33 = .ok (.ireturn, 1) := by decide +kernel
theorem dX4_wantsOf_34 : decode cX4_wantsOf 34 = .ok (.iconst 2, 1) := by decide +kernel
theorem dX4_wantsOf_35 : decode cX4_wantsOf 35 = .ok (.iload_n 1, 1) := by decide +kernel
theorem dX4_wantsOf_36 : decode cX4_wantsOf 36 = .ok (.iconst 1, 1) := by decide +kernel
theorem dX4_wantsOf_37 : decode cX4_wantsOf 37 = .ok (.iadd, 1) := by decide +kernel
theorem dX4_wantsOf_38 : decode cX4_wantsOf 38 = .ok (.imul, 1) := by decide +kernel
theorem dX4_wantsOf_39 : decode cX4_wantsOf 39 = .ok (.ireturn, 1) := by decide +kernel
theorem dX4_leaveInTrace_0 : decode cX4_leaveInTrace 0 = .ok (.aload_n 0, 1) := by decide +kernel
theorem dX4_leaveInTrace_1 : decode cX4_leaveInTrace 1 = .ok (.bipush 31, 2) := by decide +kernel
theorem dX4_leaveInTrace_3 : decode cX4_leaveInTrace 3 = .ok (.aload_n 0, 1) := by decide +kernel
theorem dX4_leaveInTrace_4 : decode cX4_leaveInTrace 4 = .ok (.getfield 59, 3) := by decide +kernel
theorem dX4_leaveInTrace_7 : decode cX4_leaveInTrace 7 = .ok (.imul, 1) := by decide +kernel
theorem dX4_leaveInTrace_8 : decode cX4_leaveInTrace 8 = .ok (.iload_n 1, 1) := by decide +kernel
theorem dX4_leaveInTrace_9 : decode cX4_leaveInTrace 9 = .ok (.iadd, 1) := by decide +kernel
theorem dX4_leaveInTrace_10 : decode cX4_leaveInTrace 10 = .ok (.putfield 59, 3) := by decide +kernel
theorem dX4_leaveInTrace_13 : decode cX4_leaveInTrace 13 = .ok (.return_, 1) := by decide +kernel
theorem dX4_tellDweller_0 : decode cX4_tellDweller 0 = .ok (.aload_n 0, 1) := by decide +kernel
theorem dX4_tellDweller_1 : decode cX4_tellDweller 1 = .ok (.iconst 1, 1) := by decide +kernel
theorem dX4_tellDweller_2 : decode cX4_tellDweller 2 = .ok (.invokevirtual 264, 3) := by decide +kernel
theorem dX4_tellDweller_5 : decode cX4_tellDweller 5 = .ok (.aload_n 0, 1) := by decide +kernel
theorem dX4_tellDweller_6 : decode cX4_tellDweller 6 = .ok (.getfield 32, 3) := by decide +kernel
theorem dX4_tellDweller_9 : decode cX4_tellDweller 9 = .ok (.getfield 103, 3) := by decide +kernel
theorem dX4_tellDweller_12 : decode cX4_tellDweller 12 = .ok (.iload_n 1, 1) := by decide +kernel
theorem dX4_tellDweller_13 : decode cX4_tellDweller 13 = .ok (.iaload, 1) := by decide +kernel
theorem dX4_tellDweller_14 : decode cX4_tellDweller 14 = .ok (.ireturn, 1) := by decide +kernel
theorem dX4_tellHearty_0 : decode cX4_tellHearty 0 = .ok (.aload_n 0, 1) := by decide +kernel
theorem dX4_tellHearty_1 : decode cX4_tellHearty 1 = .ok (.iconst 2, 1) := by decide +kernel
theorem dX4_tellHearty_2 : decode cX4_tellHearty 2 = .ok (.invokevirtual 264, 3) := by decide +kernel
theorem dX4_tellHearty_5 : decode cX4_tellHearty 5 = .ok (.aload_n 0, 1) := by decide +kernel
theorem dX4_tellHearty_6 : decode cX4_tellHearty 6 = .ok (.iload_n 1, 1) := by decide +kernel
theorem dX4_tellHearty_7 : decode cX4_tellHearty 7 = .ok (.invokevirtual 255, 3) := by decide +kernel
theorem dX4_tellHearty_10 : decode cX4_tellHearty 10 = .ok (.bipush 100, 2) := by decide +kernel
theorem dX4_tellHearty_12 : decode cX4_tellHearty 12 = .ok (.iadd, 1) := by decide +kernel
theorem dX4_tellHearty_13 : decode cX4_tellHearty 13 = .ok (.ireturn, 1) := by decide +kernel
theorem dX4_tellFroward_0 : decode cX4_tellFroward 0 = .ok (.aload_n 0, 1) := by decide +kernel
theorem dX4_tellFroward_1 : decode cX4_tellFroward 1 = .ok (.iconst 3, 1) := by decide +kernel
theorem dX4_tellFroward_2 : decode cX4_tellFroward 2 = .ok (.invokevirtual 264, 3) := by decide +kernel
theorem dX4_tellFroward_5 : decode cX4_tellFroward 5 = .ok (.aload_n 0, 1) := by decide +kernel
theorem dX4_tellFroward_6 : decode cX4_tellFroward 6 = .ok (.iload_n 1, 1) := by decide +kernel
theorem dX4_tellFroward_7 : decode cX4_tellFroward 7 = .ok (.invokevirtual 258, 3) := by decide +kernel
theorem dX4_tellFroward_10 : decode cX4_tellFroward 10 = .ok (.aload_n 0, 1) := by decide +kernel
theorem dX4_tellFroward_11 : decode cX4_tellFroward 11 = .ok (.iload_n 1, 1) := by decide +kernel
theorem dX4_tellFroward_12 : decode cX4_tellFroward 12 = .ok (.invokevirtual 255, 3) := by decide +kernel
theorem dX4_tellFroward_15 : decode cX4_tellFroward 15 = .ok (.iadd, 1) := by decide +kernel
theorem dX4_tellFroward_16 : decode cX4_tellFroward 16 = .ok (.ireturn, 1) := by decide +kernel
end
section
theorem dX5_init_0 : decode cX5_init 0 = .ok (.aload_n 0, 1) := by decide +kernel
theorem dX5_init_1 : decode cX5_init 1 = .ok (.invokespecial 1, 3) := by decide +kernel
theorem dX5_init_4 : decode cX5_init 4 = .ok (.aload_n 0, 1) := by decide +kernel
theorem dX5_init_5 : decode cX5_init 5 = .ok (.iconst 4, 1) := by decide +kernel
theorem dX5_init_6 : decode cX5_init 6 = .ok (.newarray .int, 2) := by decide +kernel
theorem dX5_init_8 : decode cX5_init 8 = .ok (.dup, 1) := by decide +kernel
theorem dX5_init_9 : decode cX5_init 9 = .ok (.iconst 0, 1) := by decide +kernel
theorem dX5_init_10 : decode cX5_init 10 = .ok (.bipush (-9), 2) := by decide +kernel
theorem dX5_init_12 : decode cX5_init 12 = .ok (.iastore, 1) := by decide +kernel
theorem dX5_init_13 : decode cX5_init 13 = .ok (.dup, 1) := by decide +kernel
theorem dX5_init_14 : decode cX5_init 14 = .ok (.iconst 1, 1) := by decide +kernel
theorem dX5_init_15 : decode cX5_init 15 = .ok (.bipush (-9), 2) := by decide +kernel
theorem dX5_init_17 : decode cX5_init 17 = .ok (.iastore, 1) := by decide +kernel
theorem dX5_init_18 : decode cX5_init 18 = .ok (.dup, 1) := by decide +kernel
theorem dX5_init_19 : decode cX5_init 19 = .ok (.iconst 2, 1) := by decide +kernel
theorem dX5_init_20 : decode cX5_init 20 = .ok (.bipush (-9), 2) := by decide +kernel
theorem dX5_init_22 : decode cX5_init 22 = .ok (.iastore, 1) := by decide +kernel
theorem dX5_init_23 : decode cX5_init 23 = .ok (.dup, 1) := by decide +kernel
theorem dX5_init_24 : decode cX5_init 24 = .ok (.iconst 3, 1) := by decide +kernel
theorem dX5_init_25 : decode cX5_init 25 = .ok (.bipush (-9), 2) := by decide +kernel
theorem dX5_init_27 : decode cX5_init 27 = .ok (.iastore, 1) := by decide +kernel
theorem dX5_init_28 : decode cX5_init 28 = .ok (.putfield 9, 3) := by decide +kernel
theorem dX5_init_31 : decode cX5_init 31 = .ok (.aload_n 0, 1) := by decide +kernel
theorem dX5_init_32 : decode cX5_init 32 = .ok (.iconst 4, 1) := by decide +kernel
theorem dX5_init_33 : decode cX5_init 33 = .ok (.newarray .int, 2) := by decide +kernel
theorem dX5_init_35 : decode cX5_init 35 = .ok (.putfield 13, 3) := by decide +kernel
theorem dX5_init_38 : decode cX5_init 38 = .ok (.aload_n 0, 1) := by decide +kernel
theorem dX5_init_39 : decode cX5_init 39 = .ok (.sipush 240, 3) := by decide +kernel
theorem dX5_init_42 : decode cX5_init 42 = .ok (.newarray .int, 2) := by decide +kernel
theorem dX5_init_44 : decode cX5_init 44 = .ok (.putfield 16, 3) := by decide +kernel
theorem dX5_init_47 : decode cX5_init 47 = .ok (.aload_n 0, 1) := by decide +kernel
theorem dX5_init_48 : decode cX5_init 48 = .ok (.iconst 4, 1) := by decide +kernel
theorem dX5_init_49 : decode cX5_init 49 = .ok (.newarray .int, 2) := by decide +kernel
theorem dX5_init_51 : decode cX5_init 51 = .ok (.putfield 19, 3) := by decide +kernel
theorem dX5_init_54 : decode cX5_init 54 = .ok (.aload_n 0, 1) := by decide +kernel
theorem dX5_init_55 : decode cX5_init 55 = .ok (.iconst 4, 1) := by decide +kernel
theorem dX5_init_56 : decode cX5_init 56 = .ok (.newarray .int, 2) := by decide +kernel
theorem dX5_init_58 : decode cX5_init 58 = .ok (.putfield 22, 3) := by decide +kernel
theorem dX5_init_61 : decode cX5_init 61 = .ok (.aload_n 0, 1) := by decide +kernel
theorem dX5_init_62 : decode cX5_init 62 = .ok (.bipush 6, 2) := by decide +kernel
theorem dX5_init_64 : decode cX5_init 64 = .ok (.newarray .int, 2) := by decide +kernel
theorem dX5_init_66 : decode cX5_init 66 = .ok (.putfield 25, 3) := by decide +kernel
theorem dX5_init_69 : decode cX5_init 69 = .ok (.aload_n 0, 1) := by decide +kernel
theorem dX5_init_70 : decode cX5_init 70 = .ok (.bipush 6, 2) := by decide +kernel
theorem dX5_init_72 : decode cX5_init 72 = .ok (.newarray .int, 2) := by decide +kernel
theorem dX5_init_74 : decode cX5_init 74 = .ok (.putfield 28, 3) := by decide +kernel
theorem dX5_init_77 : decode cX5_init 77 = .ok (.aload_n 0, 1) := by decide +kernel
theorem dX5_init_78 : decode cX5_init 78 = .ok (.bipush 6, 2) := by decide +kernel
theorem dX5_init_80 : decode cX5_init 80 = .ok (.newarray .int, 2) := by decide +kernel
theorem dX5_init_82 : decode cX5_init 82 = .ok (.putfield 31, 3) := by decide +kernel
theorem dX5_init_85 : decode cX5_init 85 = .ok (.aload_n 0, 1) := by decide +kernel
theorem dX5_init_86 : decode cX5_init 86 = .ok (.bipush 6, 2) := by decide +kernel
theorem dX5_init_88 : decode cX5_init 88 = .ok (.newarray .int, 2) := by decide +kernel
theorem dX5_init_90 : decode cX5_init 90 = .ok (.putfield 34, 3) := by decide +kernel
theorem dX5_init_93 : decode cX5_init 93 = .ok (.aload_n 0, 1) := by decide +kernel
theorem dX5_init_94 : decode cX5_init 94 = .ok (.bipush 6, 2) := by decide +kernel
theorem dX5_init_96 : decode cX5_init 96 = .ok (.newarray .int, 2) := by decide +kernel
theorem dX5_init_98 : decode cX5_init 98 = .ok (.putfield 37, 3) := by decide +kernel
theorem dX5_init_101 : decode cX5_init 101 = .ok (.aload_n 0, 1) := by decide +kernel
theorem dX5_init_102 : decode cX5_init 102 = .ok (.bipush 6, 2) := by decide +kernel
theorem dX5_init_104 : decode cX5_init 104 = .ok (.newarray .boolean, 2) := by decide +kernel
theorem dX5_init_106 : decode cX5_init 106 = .ok (.putfield 40, 3) := by decide +kernel
theorem dX5_init_109 : decode cX5_init 109 = .ok (.aload_n 0, 1) := by decide +kernel
theorem dX5_init_110 : decode cX5_init 110 = .ok (.bipush 8, 2) := by decide +kernel
theorem dX5_init_112 : decode cX5_init 112 = .ok (.newarray .int, 2) := by decide +kernel
theorem dX5_init_114 : decode cX5_init 114 = .ok (.putfield 44, 3) := by decide +kernel
theorem dX5_init_117 : decode cX5_init 117 = .ok (.aload_n 0, 1) := by decide +kernel
theorem dX5_init_118 : decode cX5_init 118 = .ok (.bipush 30, 2) := by decide +kernel
theorem dX5_init_120 : decode cX5_init 120 = .ok (.newarray .int, 2) := by decide +kernel
theorem dX5_init_122 : decode cX5_init 122 = .ok (.putfield 47, 3) := by decide +kernel
theorem dX5_init_125 : decode cX5_init 125 = .ok (.aload_n 0, 1) := by decide +kernel
theorem dX5_init_126 : decode cX5_init 126 = .ok (.bipush 7, 2) := by decide +kernel
theorem dX5_init_128 : decode cX5_init 128 = .ok (.newarray .int, 2) := by decide +kernel
theorem dX5_init_130 : decode cX5_init 130 = .ok (.putfield 50, 3) := by decide +kernel
theorem dX5_init_133 : decode cX5_init 133 = .ok (.aload_n 0, 1) := by decide +kernel
theorem dX5_init_134 : decode cX5_init 134 = .ok (.bipush 7, 2) := by decide +kernel
theorem dX5_init_136 : decode cX5_init 136 = .ok (.newarray .int, 2) := by decide +kernel
theorem dX5_init_138 : decode cX5_init 138 = .ok (.putfield 53, 3) := by decide +kernel
theorem dX5_init_141 : decode cX5_init 141 = .ok (.aload_n 0, 1) := by decide +kernel
theorem dX5_init_142 : decode cX5_init 142 = .ok (.bipush 7, 2) := by decide +kernel
theorem dX5_init_144 : decode cX5_init 144 = .ok (.newarray .int, 2) := by decide +kernel
theorem dX5_init_146 : decode cX5_init 146 = .ok (.putfield 56, 3) := by decide +kernel
theorem dX5_init_149 : decode cX5_init 149 = .ok (.aload_n 0, 1) := by decide +kernel
theorem dX5_init_150 : decode cX5_init 150 = .ok (.iconst 4, 1) := by decide +kernel
theorem dX5_init_151 : decode cX5_init 151 = .ok (.newarray .int, 2) := by decide +kernel
theorem dX5_init_153 : decode cX5_init 153 = .ok (.putfield 59, 3) := by decide +kernel
theorem dX5_init_156 : decode cX5_init 156 = .ok (.aload_n 0, 1) := by decide +kernel
theorem dX5_init_157 : decode cX5_init 157 = .ok (.iconst 4, 1) := by decide +kernel
theorem dX5_init_158 : decode cX5_init 158 = .ok (.newarray .int, 2) := by decide +kernel
theorem dX5_init_160 : decode cX5_init 160 = .ok (.putfield 62, 3) := by decide +kernel
theorem dX5_init_163 : decode cX5_init 163 = .ok (.aload_n 0, 1) := by decide +kernel
theorem dX5_init_164 : decode cX5_init 164 = .ok (.bipush 6, 2) := by decide +kernel
theorem dX5_init_166 : decode cX5_init 166 = .ok (.newarray .int, 2) := by decide +kernel
theorem dX5_init_168 : decode cX5_init 168 = .ok (.putfield 65, 3) := by decide +kernel
theorem dX5_init_171 : decode cX5_init 171 = .ok (.aload_n 0, 1) := by decide +kernel
theorem dX5_init_172 : decode cX5_init 172 = .ok (.iconst 4, 1) := by decide +kernel
theorem dX5_init_173 : decode cX5_init 173 = .ok (.newarray .int, 2) := by decide +kernel
theorem dX5_init_175 : decode cX5_init 175 = .ok (.putfield 68, 3) := by decide +kernel
theorem dX5_init_178 : decode cX5_init 178 = .ok (.aload_n 0, 1) := by decide +kernel
theorem dX5_init_179 : decode cX5_init 179 = .ok (.bipush 8, 2) := by decide +kernel
theorem dX5_init_181 : decode cX5_init 181 = .ok (.newarray .int, 2) := by decide +kernel
theorem dX5_init_183 : decode cX5_init 183 = .ok (.putfield 71, 3) := by decide +kernel
theorem dX5_init_186 : decode cX5_init 186 = .ok (.aload_n 0, 1) := by decide +kernel
theorem dX5_init_187 : decode cX5_init 187 = .ok (.bipush 8, 2) := by decide +kernel
theorem dX5_init_189 : decode cX5_init 189 = .ok (.newarray .int, 2) := by decide +kernel
theorem dX5_init_191 : decode cX5_init 191 = .ok (.putfield 74, 3) := by decide +kernel
theorem dX5_init_194 : decode cX5_init 194 = .ok (.aload_n 0, 1) := by decide +kernel
theorem dX5_init_195 : decode cX5_init 195 = .ok (.bipush 8, 2) := by decide +kernel
theorem dX5_init_197 : decode cX5_init 197 = .ok (.newarray .int, 2) := by decide +kernel
theorem dX5_init_199 : decode cX5_init 199 = .ok (.putfield 77, 3) := by decide +kernel
theorem dX5_init_202 : decode cX5_init 202 = .ok (.aload_n 0, 1) := by decide +kernel
theorem dX5_init_203 : decode cX5_init 203 = .ok (.bipush 8, 2) := by decide +kernel
theorem dX5_init_205 : decode cX5_init 205 = .ok (.newarray .int, 2) := by decide +kernel
theorem dX5_init_207 : decode cX5_init 207 = .ok (.putfield 80, 3) := by decide +kernel
theorem dX5_init_210 : decode cX5_init 210 = .ok (.return_, 1) := by decide +kernel
theorem dX5_fails_0 : decode cX5_fails 0 = .ok (.aload_n 0, 1) := by decide +kernel
theorem dX5_fails_1 : decode cX5_fails 1 = .ok (.iload_n 1, 1) := by decide +kernel
theorem dX5_fails_2 : decode cX5_fails 2 = .ok (.putfield 83, 3) := by decide +kernel
theorem dX5_fails_5 : decode cX5_fails 5 = .ok (.bipush (-10), 2) := by decide +kernel
theorem dX5_fails_7 : decode cX5_fails 7 = .ok (.iload_n 1, 1) := by decide +kernel
theorem dX5_fails_8 : decode cX5_fails 8 = .ok (.isub, 1) := by decide +kernel
theorem dX5_fails_9 : decode cX5_fails 9 = .ok (.ireturn, 1) := by decide +kernel
theorem dX5_lost_0 : decode cX5_lost 0 = .ok (.aload_n 0, 1) := by decide +kernel
theorem dX5_lost_1 : decode cX5_lost 1 = .ok (.iload_n 1, 1) := by decide +kernel
theorem dX5_lost_2 : decode cX5_lost 2 = .ok (.putfield 83, 3) := by decide +kernel
theorem dX5_lost_5 : decode cX5_lost 5 = .ok (.ldc2_w 87, 3) := by decide +kernel
theorem dX5_lost_8 : decode cX5_lost 8 = .ok (.lreturn, 1) := by decide +kernel
theorem dX5_within_0 : decode cX5_within 0 = .ok (.iload_n 0, 1) := by decide +kernel
theorem dX5_within_1 : decode cX5_within 1 = .ok (.iload_n 1, 1) := by decide +kernel
theorem dX5_within_2 : decode cX5_within 2 = .ok (.if_icmp .lt 12, 3) := by decide +kernel
theorem dX5_within_5 : decode cX5_within 5 = .ok (.iload_n 0, 1) := by decide +kernel
theorem dX5_within_6 : decode cX5_within 6 = .ok (.iload_n 2, 1) := by decide +kernel
theorem dX5_within_7 : decode cX5_within 7 = .ok (.if_icmp .gt 7, 3) := by decide +kernel
theorem dX5_within_10 : decode cX5_within 10 = .ok (.iconst 1, 1) := by decide +kernel
theorem dX5_within_11 : decode cX5_within 11 = .ok (.goto 4, 3) := by decide +kernel
theorem dX5_within_14 : decode cX5_within 14 = .ok (.iconst 0, 1) := by decide +kernel
theorem dX5_within_15 : decode cX5_within 15 = .ok (.ireturn, 1) := by decide +kernel
theorem dX5_isSheet_0 : decode cX5_isSheet 0 = .ok (.iload_n 0, 1) := by decide +kernel
theorem dX5_isSheet_1 : decode cX5_isSheet 1 = .ok (.iconst 0, 1) := by decide +kernel
theorem dX5_isSheet_2 : decode cX5_isSheet 2 = .ok (.iconst 3, 1) := by decide +kernel
theorem dX5_isSheet_3 : decode cX5_isSheet 3 = .ok (.invokestatic 89, 3) := by decide +kernel
theorem dX5_isSheet_6 : decode cX5_isSheet 6 = .ok (.ireturn, 1) := by decide +kernel
theorem dX5_isSort_0 : decode cX5_isSort 0 = .ok (.iload_n 0, 1) := by decide +kernel
theorem dX5_isSort_1 : decode cX5_isSort 1 = .ok (.iconst 0, 1) := by decide +kernel
theorem dX5_isSort_2 : decode cX5_isSort 2 = .ok (.iconst 2, 1) := by decide +kernel
theorem dX5_isSort_3 : decode cX5_isSort 3 = .ok (.invokestatic 89, 3) := by decide +kernel
theorem dX5_isSort_6 : decode cX5_isSort 6 = .ok (.ireturn, 1) := by decide +kernel
theorem dX5_against_0 : decode cX5_against 0 = .ok (.aload_n 0, 1) := by decide +kernel
theorem dX5_against_1 : decode cX5_against 1 = .ok (.getfield 9, 3) := by decide +kernel
theorem dX5_against_4 : decode cX5_against 4 = .ok (.iload_n 1, 1) := by decide +kernel
theorem dX5_against_5 : decode cX5_against 5 = .ok (.iaload, 1) := by decide +kernel
theorem dX5_against_6 : decode cX5_against 6 = .ok (.bipush (-9), 2) := by decide +kernel
theorem dX5_against_8 : decode cX5_against 8 = .ok (.if_icmp .eq 15, 3) := by decide +kernel
theorem dX5_against_11 : decode cX5_against 11 = .ok (.aload_n 0, 1) := by decide +kernel
theorem dX5_against_12 : decode cX5_against 12 = .ok (.getfield 9, 3) := by decide +kernel
theorem dX5_against_15 : decode cX5_against 15 = .ok (.iload_n 1, 1) := by decide +kernel
theorem dX5_against_16 : decode cX5_against 16 = .ok (.iaload, 1) := by decide +kernel
theorem dX5_against_17 : decode cX5_against 17 = .ok (.iload_n 2, 1) := by decide +kernel
theorem dX5_against_18 : decode cX5_against 18 = .ok (.if_icmp .eq 5, 3) := by decide +kernel
theorem dX5_against_21 : decode cX5_against 21 = .ok (.iconst 2, 1) := by decide +kernel
theorem dX5_against_22 : decode cX5_against 22 = .ok (.ireturn, 1) := by decide +kernel
theorem dX5_against_23 : decode cX5_against 23 = .ok (.aload_n 0, 1) := by decide +kernel
theorem dX5_against_24 : decode cX5_against 24 = .ok (.getfield 9, 3) := by decide +kernel
theorem dX5_against_27 : decode cX5_against 27 = .ok (.iload_n 1, 1) := by decide +kernel
theorem dX5_against_28 : decode cX5_against 28 = .ok (.iaload, 1) := by decide +kernel
theorem dX5_against_29 : decode cX5_against 29 = .ok (.bipush (-9), 2) := by decide +kernel
theorem dX5_against_31 : decode cX5_against 31 = .ok (.if_icmp .ne 5, 3) := by decide +kernel
theorem dX5_against_34 : decode cX5_against 34 = .ok (.iconst 1, 1) := by decide +kernel
theorem dX5_against_35 : decode cX5_against 35 = .ok (.ireturn, 1) := by decide +kernel
theorem dX5_against_36 : decode cX5_against 36 = .ok (.iload 4, 2) := by decide +kernel
theorem dX5_against_38 : decode cX5_against 38 = .ok (.ifCond .ge 5, 3) := by decide +kernel
theorem dX5_against_41 : decode cX5_against 41 = .ok (.iconst 4, 1) := by decide +kernel
theorem dX5_against_42 : decode cX5_against 42 = .ok (.ireturn, 1) := by decide +kernel
theorem dX5_against_43 : decode cX5_against 43 = .ok (.iload_n 3, 1) := by decide +kernel
theorem dX5_against_44 : decode cX5_against 44 = .ok (.ifCond .lt 26, 3) := by decide +kernel
theorem dX5_against_47 : decode cX5_against 47 = .ok (.iload_n 3, 1) := by decide +kernel
theorem dX5_against_48 : decode cX5_against 48 = .ok (.aload_n 0, 1) := by decide +kernel
theorem dX5_against_49 : decode cX5_against 49 = .ok (.getfield 13, 3) := by decide +kernel
theorem dX5_against_52 : decode cX5_against 52 = .ok (.iload_n 1, 1) := by decide +kernel
theorem dX5_against_53 : decode cX5_against 53 = .ok (.iaload, 1) := by decide +kernel
theorem dX5_against_54 : decode cX5_against 54 = .ok (.if_icmp .gt 16, 3) := by decide +kernel
theorem dX5_against_57 : decode cX5_against 57 = .ok (.iload 4, 2) := by decide +kernel
theorem dX5_against_59 : decode cX5_against 59 = .ok (.aload_n 0, 1) := by decide +kernel
theorem dX5_against_60 : decode cX5_against 60 = .ok (.getfield 13, 3) := by decide +kernel
theorem dX5_against_63 : decode cX5_against 63 = .ok (.iload_n 1, 1) := by decide +kernel
theorem dX5_against_64 : decode cX5_against 64 = .ok (.iaload, 1) := by decide +kernel
theorem dX5_against_65 : decode cX5_against 65 = .ok (.iload_n 3, 1) := by decide +kernel
theorem dX5_against_66 : decode cX5_against 66 = .ok (.isub, 1) := by decide +kernel
theorem dX5_against_67 : decode cX5_against 67 = .ok (.if_icmp .le 7, 3) := by decide +kernel
theorem dX5_against_70 : decode cX5_against 70 = .ok (.iconst 3, 1) := by decide +kernel
theorem dX5_against_71 : decode cX5_against 71 = .ok (.goto 4, 3) := by decide +kernel
theorem dX5_against_74 : decode cX5_against 74 = .ok (.iconst 0, 1) := by decide +kernel
theorem dX5_against_75 : decode cX5_against 75 = .ok (.ireturn, 1) := by decide +kernel
theorem dX5_isHouse_0 : decode cX5_isHouse 0 = .ok (.iload_n 1, 1) := by decide +kernel
theorem dX5_isHouse_1 : decode cX5_isHouse 1 = .ok (.ifCond .lt 15, 3) := by decide +kernel
theorem dX5_isHouse_4 : decode cX5_isHouse 4 = .ok (.iload_n 1, 1) := by decide +kernel
theorem dX5_isHouse_5 : decode cX5_isHouse 5 = .ok (.aload_n 0, 1) := by decide +kernel
theorem dX5_isHouse_6 : decode cX5_isHouse 6 = .ok (.getfield 93, 3) := by decide +kernel
theorem dX5_isHouse_9 : decode cX5_isHouse 9 = .ok (.if_icmp .ge 7, 3) := by decide +kernel
theorem dX5_isHouse_12 : decode cX5_isHouse 12 = .ok (.iconst 1, 1) := by decide +kernel
theorem dX5_isHouse_13 : decode cX5_isHouse 13 = .ok (.goto 4, 3) := by decide +kernel
theorem dX5_isHouse_16 : decode cX5_isHouse 16 = .ok (.iconst 0, 1) := by decide +kernel
theorem dX5_isHouse_17 : decode cX5_isHouse 17 = .ok (.ireturn, 1) := by decide +kernel
theorem dX5_isPerson_0 : decode cX5_isPerson 0 = .ok (.iload_n 1, 1) := by decide +kernel
theorem dX5_isPerson_1 : decode cX5_isPerson 1 = .ok (.ifCond .lt 15, 3) := by decide +kernel
theorem dX5_isPerson_4 : decode cX5_isPerson 4 = .ok (.iload_n 1, 1) := by decide +kernel
theorem dX5_isPerson_5 : decode cX5_isPerson 5 = .ok (.aload_n 0, 1) := by decide +kernel
theorem dX5_isPerson_6 : decode cX5_isPerson 6 = .ok (.getfield 96, 3) := by decide +kernel
theorem dX5_isPerson_9 : decode cX5_isPerson 9 = .ok (.if_icmp .ge 7, 3) := by decide +kernel
theorem dX5_isPerson_12 : decode cX5_isPerson 12 = .ok (.iconst 1, 1) := by decide +kernel
theorem dX5_isPerson_13 : decode cX5_isPerson 13 = .ok (.goto 4, 3) := by decide +kernel
theorem dX5_isPerson_16 : decode cX5_isPerson 16 = .ok (.iconst 0, 1) := by decide +kernel
theorem dX5_isPerson_17 : decode cX5_isPerson 17 = .ok (.ireturn, 1) := by decide +kernel
theorem dX5_isWeek_0 : decode cX5_isWeek 0 = .ok (.iload_n 0, 1) := by decide +kernel
theorem dX5_isWeek_1 : decode cX5_isWeek 1 = .ok (.iconst 0, 1) := by decide +kernel
theorem dX5_isWeek_2 : decode cX5_isWeek 2 = .ok (.bipush 9, 2) := by decide +kernel
theorem dX5_isWeek_4 : decode cX5_isWeek 4 = .ok (.invokestatic 89, 3) := by decide +kernel
theorem dX5_isWeek_7 : decode cX5_isWeek 7 = .ok (.ireturn, 1) := by decide +kernel
theorem dX5_isHalf_0 : decode cX5_isHalf 0 = .ok (.iload_n 0, 1) := by decide +kernel
theorem dX5_isHalf_1 : decode cX5_isHalf 1 = .ok (.iconst 0, 1) := by decide +kernel
theorem dX5_isHalf_2 : decode cX5_isHalf 2 = .ok (.bipush 13, 2) := by decide +kernel
theorem dX5_isHalf_4 : decode cX5_isHalf 4 = .ok (.invokestatic 89, 3) := by decide +kernel
theorem dX5_isHalf_7 : decode cX5_isHalf 7 = .ok (.ireturn, 1) := by decide +kernel
theorem dX5_digit_0 : decode cX5_digit 0 = .ok (.aload_n 0, 1) := by decide +kernel
theorem dX5_digit_1 : decode cX5_digit 1 = .ok (.getfield 99, 3) := by decide +kernel
theorem dX5_digit_4 : decode cX5_digit 4 = .ok (.iload_n 1, 1) := by decide +kernel
theorem dX5_digit_5 : decode cX5_digit 5 = .ok (.if_icmp .ge 26, 3) := by decide +kernel
theorem dX5_digit_8 : decode cX5_digit 8 = .ok (.aload_n 0, 1) := by decide +kernel
theorem dX5_digit_9 : decode cX5_digit 9 = .ok (.getfield 16, 3) := by decide +kernel
theorem dX5_digit_12 : decode cX5_digit 12 = .ok (.aload_n 0, 1) := by decide +kernel
theorem dX5_digit_13 : decode cX5_digit 13 = .ok (.getfield 99, 3) := by decide +kernel
theorem dX5_digit_16 : decode cX5_digit 16 = .ok (.iaload, 1) := by decide +kernel
theorem dX5_digit_17 : decode cX5_digit 17 = .ok (.bipush 48, 2) := by decide +kernel
theorem dX5_digit_19 : decode cX5_digit 19 = .ok (.iload_n 2, 1) := by decide +kernel
theorem dX5_digit_20 : decode cX5_digit 20 = .ok (.iadd, 1) := by decide +kernel
theorem dX5_digit_21 : decode cX5_digit 21 = .ok (.bipush 48, 2) := by decide +kernel
theorem dX5_digit_23 : decode cX5_digit 23 = .ok (.iload_n 3, 1) := by decide +kernel
theorem dX5_digit_24 : decode cX5_digit 24 = .ok (.iadd, 1) := by decide +kernel
theorem dX5_digit_25 : decode cX5_digit 25 = .ok (.invokestatic 89, 3) := by decide +kernel
theorem dX5_digit_28 : decode cX5_digit 28 = .ok (.ifCond .ne 6, 3) := by decide +kernel
theorem dX5_digit_31 : decode cX5_digit 31 = .ok (.bipush (-9), 2) := by decide +kernel
theorem dX5_digit_33 : decode cX5_digit 33 = .ok (.ireturn, 1) := by decide +kernel
theorem dX5_digit_34 : decode cX5_digit 34 = .ok (.aload_n 0, 1) := by decide +kernel
theorem dX5_digit_35 : decode cX5_digit 35 = .ok (.dup, 1) := by decide +kernel
theorem dX5_digit_36 : decode cX5_digit 36 = .ok (.getfield 99, 3) := by decide +kernel
theorem dX5_digit_39 : decode cX5_digit 39 = .ok (.iconst 1, 1) := by decide +kernel
theorem dX5_digit_40 : decode cX5_digit 40 = .ok (.iadd, 1) := by decide +kernel
theorem dX5_digit_41 : decode cX5_digit 41 = .ok (.putfield 99, 3) := by decide +kernel
theorem dX5_digit_44 : decode cX5_digit 44 = .ok (.aload_n 0, 1) := by decide +kernel
theorem dX5_digit_45 : decode cX5_digit 45 = .ok (.getfield 16, 3) := by decide +kernel
theorem dX5_digit_48 : decode cX5_digit 48 = .ok (.aload_n 0, 1) := by decide +kernel
theorem dX5_digit_49 : decode cX5_digit 49 = .ok (.getfield 99, 3) := by decide +kernel
theorem dX5_digit_52 : decode cX5_digit 52 = .ok (.iconst 1, 1) := by decide +kernel
theorem dX5_digit_53 : decode cX5_digit 53 = .ok (.isub, 1) := by decide +kernel
theorem dX5_digit_54 : decode cX5_digit 54 = .ok (.iaload, 1) := by decide +kernel
theorem dX5_digit_55 : decode cX5_digit 55 = .ok (.bipush 48, 2) := by decide +kernel
theorem dX5_digit_57 : decode cX5_digit 57 = .ok (.isub, 1) := by decide +kernel
theorem dX5_digit_58 : decode cX5_digit 58 = .ok (.ireturn, 1) := by decide +kernel
theorem dX5_isSign_0 : decode cX5_isSign 0 = .ok (.aload_n 0, 1) := by decide +kernel
theorem dX5_isSign_1 : decode cX5_isSign 1 = .ok (.getfield 99, 3) := by decide +kernel
theorem dX5_isSign_4 : decode cX5_isSign 4 = .ok (.iload_n 1, 1) := by decide +kernel
theorem dX5_isSign_5 : decode cX5_isSign 5 = .ok (.if_icmp .ge 16, 3) := by decide +kernel
theorem dX5_isSign_8 : decode cX5_isSign 8 = .ok (.aload_n 0, 1) := by decide +kernel
theorem dX5_isSign_9 : decode cX5_isSign 9 = .ok (.getfield 16, 3) := by decide +kernel
theorem dX5_isSign_12 : decode cX5_isSign 12 = .ok (.aload_n 0, 1) := by decide +kernel
theorem dX5_isSign_13 : decode cX5_isSign 13 = .ok (.getfield 99, 3) := by decide +kernel
theorem dX5_isSign_16 : decode cX5_isSign 16 = .ok (.iaload, 1) := by decide +kernel
theorem dX5_isSign_17 : decode cX5_isSign 17 = .ok (.iload_n 2, 1) := by decide +kernel
theorem dX5_isSign_18 : decode cX5_isSign 18 = .ok (.if_icmp .eq 5, 3) := by decide +kernel
theorem dX5_isSign_21 : decode cX5_isSign 21 = .ok (.iconst 0, 1) := by decide +kernel
theorem dX5_isSign_22 : decode cX5_isSign 22 = .ok (.ireturn, 1) := by decide +kernel
theorem dX5_isSign_23 : decode cX5_isSign 23 = .ok (.aload_n 0, 1) := by decide +kernel
theorem dX5_isSign_24 : decode cX5_isSign 24 = .ok (.dup, 1) := by decide +kernel
theorem dX5_isSign_25 : decode cX5_isSign 25 = .ok (.getfield 99, 3) := by decide +kernel
theorem dX5_isSign_28 : decode cX5_isSign 28 = .ok (.iconst 1, 1) := by decide +kernel
theorem dX5_isSign_29 : decode cX5_isSign 29 = .ok (.iadd, 1) := by decide +kernel
theorem dX5_isSign_30 : decode cX5_isSign 30 = .ok (.putfield 99, 3) := by decide +kernel
theorem dX5_isSign_33 : decode cX5_isSign 33 = .ok (.iconst 1, 1) := by decide +kernel
theorem dX5_isSign_34 : decode cX5_isSign 34 = .ok (.ireturn, 1) := by decide +kernel
theorem dX5_houses_0 : decode cX5_houses 0 = .ok (.aload_n 0, 1) := by decide +kernel
theorem dX5_houses_1 : decode cX5_houses 1 = .ok (.iconst 0, 1) := by decide +kernel
theorem dX5_houses_2 : decode cX5_houses 2 = .ok (.putfield 83, 3) := by decide +kernel
theorem dX5_houses_5 : decode cX5_houses 5 = .ok (.iload_n 1, 1) := by decide +kernel
theorem dX5_houses_6 : decode cX5_houses 6 = .ok (.invokestatic 102, 3) := by decide +kernel
theorem dX5_houses_9 : decode cX5_houses 9 = .ok (.ifCond .ne 5, 3) := by decide +kernel
theorem dX5_houses_12 : decode cX5_houses 12 = .ok (.iconst (-1), 1) := by decide +kernel
theorem dX5_houses_13 : decode cX5_houses 13 = .ok (.ireturn, 1) := by decide +kernel
theorem dX5_houses_14 : decode cX5_houses 14 = .ok (.iload_n 2, 1) := by decide +kernel
theorem dX5_houses_15 : decode cX5_houses 15 = .ok (.invokestatic 106, 3) := by decide +kernel
theorem dX5_houses_18 : decode cX5_houses 18 = .ok (.ifCond .ne 6, 3) := by decide +kernel
theorem dX5_houses_21 : decode cX5_houses 21 = .ok (.bipush (-2), 2) := by decide +kernel
theorem dX5_houses_23 : decode cX5_houses 23 = .ok (.ireturn, 1) := by decide +kernel
theorem dX5_houses_24 : decode cX5_houses 24 = .ok (.aload_n 0, 1) := by decide +kernel
theorem dX5_houses_25 : decode cX5_houses 25 = .ok (.iload_n 1, 1) := by decide +kernel
theorem dX5_houses_26 : decode cX5_houses 26 = .ok (.iload_n 2, 1) := by decide +kernel
theorem dX5_houses_27 : decode cX5_houses 27 = .ok (.iload_n 3, 1) := by decide +kernel
theorem dX5_houses_28 : decode cX5_houses 28 = .ok (.iload 4, 2) := by decide +kernel
theorem dX5_houses_30 : decode cX5_houses 30 = .ok (.invokevirtual 109, 3) := by decide +kernel
theorem dX5_houses_33 : decode cX5_houses 33 = .ok (.istore 5, 2) := by decide +kernel
theorem dX5_houses_35 : decode cX5_houses 35 = .ok (.iload 5, 2) := by decide +kernel
theorem dX5_houses_37 : decode cX5_houses 37 = .ok (.ifCond .eq 10, 3) := by decide +kernel
theorem dX5_houses_40 : decode cX5_houses 40 = .ok (.aload_n 0, 1) := by decide +kernel
theorem dX5_houses_41 : decode cX5_houses 41 = .ok (.iload 5, 2) := by decide +kernel
theorem dX5_houses_43 : decode cX5_houses 43 = .ok (.invokevirtual 113, 3) := by decide +kernel
theorem dX5_houses_46 : decode cX5_houses 46 = .ok (.ireturn, 1) := by decide +kernel
theorem dX5_houses_47 : decode cX5_houses 47 = .ok (.bipush 60, 2) := by decide +kernel
theorem dX5_houses_49 : decode cX5_houses 49 = .ok (.iload_n 1, 1) := by decide +kernel
theorem dX5_houses_50 : decode cX5_houses 50 = .ok (.imul, 1) := by decide +kernel
theorem dX5_houses_51 : decode cX5_houses 51 = .ok (.iload_n 3, 1) := by decide +kernel
theorem dX5_houses_52 : decode cX5_houses 52 = .ok (.iadd, 1) := by decide +kernel
theorem dX5_houses_53 : decode cX5_houses 53 = .ok (.istore 6, 2) := by decide +kernel
theorem dX5_houses_55 : decode cX5_houses 55 = .ok (.aload_n 0, 1) := by decide +kernel
theorem dX5_houses_56 : decode cX5_houses 56 = .ok (.iload 6, 2) := by decide +kernel
theorem dX5_houses_58 : decode cX5_houses 58 = .ok (.putfield 99, 3) := by decide +kernel
theorem dX5_houses_61 : decode cX5_houses 61 = .ok (.aload_n 0, 1) := by decide +kernel
theorem dX5_houses_62 : decode cX5_houses 62 = .ok (.iload 6, 2) := by decide +kernel
theorem dX5_houses_64 : decode cX5_houses 64 = .ok (.iload 4, 2) := by decide +kernel
theorem dX5_houses_66 : decode cX5_houses 66 = .ok (.iadd, 1) := by decide +kernel
theorem dX5_houses_67 : decode cX5_houses 67 = .ok (.invokevirtual 117, 3) := by decide +kernel
theorem dX5_houses_70 : decode cX5_houses 70 = .ok (.ifCond .ne 14, 3) := by decide +kernel
theorem dX5_houses_73 : decode cX5_houses 73 = .ok (.bipush (-100), 2) := by decide +kernel
theorem dX5_houses_75 : decode cX5_houses 75 = .ok (.aload_n 0, 1) := by decide +kernel
theorem dX5_houses_76 : decode cX5_houses 76 = .ok (.getfield 99, 3) := by decide +kernel
theorem dX5_houses_79 : decode cX5_houses 79 = .ok (.iload 6, 2) := by decide +kernel
theorem dX5_houses_81 : decode cX5_houses 81 = .ok (.isub, 1) := by decide +kernel
theorem dX5_houses_82 : decode cX5_houses 82 = .ok (.isub, 1) := by decide +kernel
theorem dX5_houses_83 : decode cX5_houses 83 = .ok (.ireturn, 1) := by decide +kernel
theorem dX5_houses_84 : decode cX5_houses 84 = .ok (.aload_n 0, 1) := by decide +kernel
theorem dX5_houses_85 : decode cX5_houses 85 = .ok (.aload_n 0, 1) := by decide +kernel
theorem dX5_houses_86 : decode cX5_houses 86 = .ok (.getfield 120, 3) := by decide +kernel
theorem dX5_houses_89 : decode cX5_houses 89 = .ok (.putfield 123, 3) := by decide +kernel
theorem dX5_houses_92 : decode cX5_houses 92 = .ok (.aload_n 0, 1) := by decide +kernel
theorem dX5_houses_93 : decode cX5_houses 93 = .ok (.aload_n 0, 1) := by decide +kernel
theorem dX5_houses_94 : decode cX5_houses 94 = .ok (.getfield 126, 3) := by decide +kernel
theorem dX5_houses_97 : decode cX5_houses 97 = .ok (.putfield 93, 3) := by decide +kernel
theorem dX5_houses_100 : decode cX5_houses 100 = .ok (.aload_n 0, 1) := by decide +kernel
theorem dX5_houses_101 : decode cX5_houses 101 = .ok (.aload_n 0, 1) := by decide +kernel
theorem dX5_houses_102 : decode cX5_houses 102 = .ok (.getfield 129, 3) := by decide +kernel
theorem dX5_houses_105 : decode cX5_houses 105 = .ok (.putfield 96, 3) := by decide +kernel
theorem dX5_houses_108 : decode cX5_houses 108 = .ok (.iconst 0, 1) := by decide +kernel
theorem dX5_houses_109 : decode cX5_houses 109 = .ok (.istore 7, 2) := by decide +kernel
theorem dX5_houses_111 : decode cX5_houses 111 = .ok (.iload 7, 2) := by decide +kernel
theorem dX5_houses_113 : decode cX5_houses 113 = .ok (.aload_n 0, 1) := by decide +kernel
theorem dX5_houses_114 : decode cX5_houses 114 = .ok (.getfield 93, 3) := by decide +kernel
theorem dX5_houses_117 : decode cX5_houses 117 = .ok (.if_icmp .ge 43, 3) := by decide +kernel
theorem dX5_houses_120 : decode cX5_houses 120 = .ok (.aload_n 0, 1) := by decide +kernel
theorem dX5_houses_121 : decode cX5_houses 121 = .ok (.getfield 19, 3) := by decide +kernel
theorem dX5_houses_124 : decode cX5_houses 124 = .ok (.iload 7, 2) := by decide +kernel
theorem dX5_houses_126 : decode cX5_houses 126 = .ok (.aload_n 0, 1) := by decide +kernel
theorem dX5_houses_127 : decode cX5_houses 127 = .ok (.getfield 44, 3) := by decide +kernel
theorem dX5_houses_130 : decode cX5_houses 130 = .ok (.iconst 2, 1) := by decide +kernel
theorem dX5_houses_131 : decode cX5_houses 131 = .ok (.iload 7, 2) := by decide +kernel
theorem dX5_houses_133 : decode cX5_houses 133 = .ok (.imul, 1) := by decide +kernel
theorem dX5_houses_134 : decode cX5_houses 134 = .ok (.iaload, 1) := by decide +kernel
theorem dX5_houses_135 : decode cX5_houses 135 = .ok (.iastore, 1) := by decide +kernel
theorem dX5_houses_136 : decode cX5_houses 136 = .ok (.aload_n 0, 1) := by decide +kernel
theorem dX5_houses_137 : decode cX5_houses 137 = .ok (.getfield 22, 3) := by decide +kernel
theorem dX5_houses_140 : decode cX5_houses 140 = .ok (.iload 7, 2) := by decide +kernel
theorem dX5_houses_142 : decode cX5_houses 142 = .ok (.aload_n 0, 1) := by decide +kernel
theorem dX5_houses_143 : decode cX5_houses 143 = .ok (.getfield 44, 3) := by decide +kernel
theorem dX5_houses_146 : decode cX5_houses 146 = .ok (.iconst 2, 1) := by decide +kernel
theorem dX5_houses_147 : decode cX5_houses 147 = .ok (.iload 7, 2) := by decide +kernel
theorem dX5_houses_149 : decode cX5_houses 149 = .ok (.imul, 1) := by decide +kernel
theorem dX5_houses_150 : decode cX5_houses 150 = .ok (.iconst 1, 1) := by decide +kernel
theorem dX5_houses_151 : decode cX5_houses 151 = .ok (.iadd, 1) := by decide +kernel
theorem dX5_houses_152 : decode cX5_houses 152 = .ok (.iaload, 1) := by decide +kernel
theorem dX5_houses_153 : decode cX5_houses 153 = .ok (.iastore, 1) := by decide +kernel
theorem dX5_houses_154 : decode cX5_houses 154 = .ok (.iinc 7 1, 3) := by decide +kernel
theorem dX5_houses_157 : decode cX5_houses 157 = .ok (.goto (-46), 3) := by decide +kernel
theorem dX5_houses_160 : decode cX5_houses 160 = .ok (.iconst 0, 1) := by decide +kernel
theorem dX5_houses_161 : decode cX5_houses 161 = .ok (.istore 7, 2) := by decide +kernel
theorem dX5_houses_163 : decode cX5_houses 163 = .ok (.iload 7, 2) := by decide +kernel
theorem dX5_houses_165 : decode cX5_houses 165 = .ok (.aload_n 0, 1) := by decide +kernel
theorem dX5_houses_166 : decode cX5_houses 166 = .ok (.getfield 96, 3) := by decide +kernel
theorem dX5_houses_169 : decode cX5_houses 169 = .ok (.if_icmp .ge 105, 3) := by decide +kernel
theorem dX5_houses_172 : decode cX5_houses 172 = .ok (.aload_n 0, 1) := by decide +kernel
theorem dX5_houses_173 : decode cX5_houses 173 = .ok (.getfield 25, 3) := by decide +kernel
theorem dX5_houses_176 : decode cX5_houses 176 = .ok (.iload 7, 2) := by decide +kernel
theorem dX5_houses_178 : decode cX5_houses 178 = .ok (.aload_n 0, 1) := by decide +kernel
theorem dX5_houses_179 : decode cX5_houses 179 = .ok (.getfield 47, 3) := by decide +kernel
theorem dX5_houses_182 : decode cX5_houses 182 = .ok (.iconst 5, 1) := by decide +kernel
theorem dX5_houses_183 : decode cX5_houses 183 = .ok (.iload 7, 2) := by decide +kernel
theorem dX5_houses_185 : decode cX5_houses 185 = .ok (.imul, 1) := by decide +kernel
theorem dX5_houses_186 : decode cX5_houses 186 = .ok (.iaload, 1) := by decide +kernel
theorem dX5_houses_187 : decode cX5_houses 187 = .ok (.iastore, 1) := by decide +kernel
theorem dX5_houses_188 : decode cX5_houses 188 = .ok (.aload_n 0, 1) := by decide +kernel
theorem dX5_houses_189 : decode cX5_houses 189 = .ok (.getfield 28, 3) := by decide +kernel
theorem dX5_houses_192 : decode cX5_houses 192 = .ok (.iload 7, 2) := by decide +kernel
theorem dX5_houses_194 : decode cX5_houses 194 = .ok (.aload_n 0, 1) := by decide +kernel
theorem dX5_houses_195 : decode cX5_houses 195 = .ok (.getfield 47, 3) := by decide +kernel
theorem dX5_houses_198 : decode cX5_houses 198 = .ok (.iconst 5, 1) := by decide +kernel
theorem dX5_houses_199 : decode cX5_houses 199 = .ok (.iload 7, 2) := by decide +kernel
theorem dX5_houses_201 : decode cX5_houses 201 = .ok (.imul, 1) := by decide +kernel
theorem dX5_houses_202 : decode cX5_houses 202 = .ok (.iconst 1, 1) := by decide +kernel
theorem dX5_houses_203 : decode cX5_houses 203 = .ok (.iadd, 1) := by decide +kernel
theorem dX5_houses_204 : decode cX5_houses 204 = .ok (.iaload, 1) := by decide +kernel
theorem dX5_houses_205 : decode cX5_houses 205 = .ok (.iastore, 1) := by decide +kernel
theorem dX5_houses_206 : decode cX5_houses 206 = .ok (.aload_n 0, 1) := by decide +kernel
theorem dX5_houses_207 : decode cX5_houses 207 = .ok (.getfield 31, 3) := by decide +kernel
theorem dX5_houses_210 : decode cX5_houses 210 = .ok (.iload 7, 2) := by decide +kernel
theorem dX5_houses_212 : decode cX5_houses 212 = .ok (.aload_n 0, 1) := by decide +kernel
theorem dX5_houses_213 : decode cX5_houses 213 = .ok (.getfield 47, 3) := by decide +kernel
theorem dX5_houses_216 : decode cX5_houses 216 = .ok (.iconst 5, 1) := by decide +kernel
theorem dX5_houses_217 : decode cX5_houses 217 = .ok (.iload 7, 2) := by decide +kernel
theorem dX5_houses_219 : decode cX5_houses 219 = .ok (.imul, 1) := by decide +kernel
theorem dX5_houses_220 : decode cX5_houses 220 = .ok (.iconst 2, 1) := by decide +kernel
theorem dX5_houses_221 : decode cX5_houses 221 = .ok (.iadd, 1) := by decide +kernel
theorem dX5_houses_222 : decode cX5_houses 222 = .ok (.iaload, 1) := by decide +kernel
theorem dX5_houses_223 : decode cX5_houses 223 = .ok (.iastore, 1) := by decide +kernel
theorem dX5_houses_224 : decode cX5_houses 224 = .ok (.aload_n 0, 1) := by decide +kernel
theorem dX5_houses_225 : decode cX5_houses 225 = .ok (.getfield 34, 3) := by decide +kernel
theorem dX5_houses_228 : decode cX5_houses 228 = .ok (.iload 7, 2) := by decide +kernel
theorem dX5_houses_230 : decode cX5_houses 230 = .ok (.aload_n 0, 1) := by decide +kernel
theorem dX5_houses_231 : decode cX5_houses 231 = .ok (.getfield 47, 3) := by decide +kernel
theorem dX5_houses_234 : decode cX5_houses 234 = .ok (.iconst 5, 1) := by decide +kernel
theorem dX5_houses_235 : decode cX5_houses 235 = .ok (.iload 7, 2) := by decide +kernel
theorem dX5_houses_237 : decode cX5_houses 237 = .ok (.imul, 1) := by decide +kernel
theorem dX5_houses_238 : decode cX5_houses 238 = .ok (.iconst 3, 1) := by decide +kernel
theorem dX5_houses_239 : decode cX5_houses 239 = .ok (.iadd, 1) := by decide +kernel
theorem dX5_houses_240 : decode cX5_houses 240 = .ok (.iaload, 1) := by decide +kernel
theorem dX5_houses_241 : decode cX5_houses 241 = .ok (.iastore, 1) := by decide +kernel
theorem dX5_houses_242 : decode cX5_houses 242 = .ok (.aload_n 0, 1) := by decide +kernel
theorem dX5_houses_243 : decode cX5_houses 243 = .ok (.getfield 37, 3) := by decide +kernel
theorem dX5_houses_246 : decode cX5_houses 246 = .ok (.iload 7, 2) := by decide +kernel
theorem dX5_houses_248 : decode cX5_houses 248 = .ok (.aload_n 0, 1) := by decide +kernel
theorem dX5_houses_249 : decode cX5_houses 249 = .ok (.getfield 47, 3) := by decide +kernel
theorem dX5_houses_252 : decode cX5_houses 252 = .ok (.iconst 5, 1) := by decide +kernel
theorem dX5_houses_253 : decode cX5_houses 253 = .ok (.iload 7, 2) := by decide +kernel
theorem dX5_houses_255 : decode cX5_houses 255 = .ok (.imul, 1) := by decide +kernel
theorem dX5_houses_256 : decode cX5_houses 256 = .ok (.iconst 4, 1) := by decide +kernel
theorem dX5_houses_257 : decode cX5_houses 257 = .ok (.iadd, 1) := by decide +kernel
theorem dX5_houses_258 : decode cX5_houses 258 = .ok (.iaload, 1) := by decide +kernel
theorem dX5_houses_259 : decode cX5_houses 259 = .ok (.iastore, 1) := by decide +kernel
theorem dX5_houses_260 : decode cX5_houses 260 = .ok (.aload_n 0, 1) := by decide +kernel
theorem dX5_houses_261 : decode cX5_houses 261 = .ok (.getfield 40, 3) := by decide +kernel
theorem dX5_houses_264 : decode cX5_houses 264 = .ok (.iload 7, 2) := by decide +kernel
theorem dX5_houses_266 : decode cX5_houses 266 = .ok (.iconst 0, 1) := by decide +kernel
theorem dX5_houses_267 : decode cX5_houses 267 = .ok (.bastore, 1) := by decide +kernel
theorem dX5_houses_268 : decode cX5_houses 268 = .ok (.iinc 7 1, 3) := by decide +kernel
theorem dX5_houses_271 : decode cX5_houses 271 = .ok (.goto (-108), 3) := by decide +kernel
theorem dX5_houses_274 : decode cX5_houses 274 = .ok (.aload_n 0, 1) := by decide +kernel
theorem dX5_houses_275 : decode cX5_houses 275 = .ok (.iconst 0, 1) := by decide +kernel
theorem dX5_houses_276 : decode cX5_houses 276 = .ok (.putfield 132, 3) := by decide +kernel
theorem dX5_houses_279 : decode cX5_houses 279 = .ok (.aload_n 0, 1) := by decide +kernel
theorem dX5_houses_280 : decode cX5_houses 280 = .ok (.iconst 0, 1) := by decide +kernel
theorem dX5_houses_281 : decode cX5_houses 281 = .ok (.putfield 135, 3) := by decide +kernel
theorem dX5_houses_284 : decode cX5_houses 284 = .ok (.aload_n 0, 1) := by decide +kernel
theorem dX5_houses_285 : decode cX5_houses 285 = .ok (.getfield 93, 3) := by decide +kernel
theorem dX5_houses_288 : decode cX5_houses 288 = .ok (.ireturn, 1) := by decide +kernel
theorem dX5_readAll_0 : decode cX5_readAll 0 = .ok (.aload_n 0, 1) := by decide +kernel
theorem dX5_readAll_1 : decode cX5_readAll 1 = .ok (.iconst 0, 1) := by decide +kernel
theorem dX5_readAll_2 : decode cX5_readAll 2 = .ok (.putfield 126, 3) := by decide +kernel
theorem dX5_readAll_5 : decode cX5_readAll 5 = .ok (.aload_n 0, 1) := by decide +kernel
theorem dX5_readAll_6 : decode cX5_readAll 6 = .ok (.iconst 0, 1) := by decide +kernel
theorem dX5_readAll_7 : decode cX5_readAll 7 = .ok (.putfield 129, 3) := by decide +kernel
theorem dX5_readAll_10 : decode cX5_readAll 10 = .ok (.aload_n 0, 1) := by decide +kernel
theorem dX5_readAll_11 : decode cX5_readAll 11 = .ok (.iload_n 1, 1) := by decide +kernel
theorem dX5_readAll_12 : decode cX5_readAll 12 = .ok (.bipush 117, 2) := by decide +kernel
theorem dX5_readAll_14 : decode cX5_readAll 14 = .ok (.invokevirtual 138, 3) := by decide +kernel
theorem dX5_readAll_17 : decode cX5_readAll 17 = .ok (.ifCond .eq 29, 3) := by decide +kernel
theorem dX5_readAll_20 : decode cX5_readAll 20 = .ok (.aload_n 0, 1) := by decide +kernel
theorem dX5_readAll_21 : decode cX5_readAll 21 = .ok (.iload_n 1, 1) := by decide +kernel
theorem dX5_readAll_22 : decode cX5_readAll 22 = .ok (.invokevirtual 142, 3) := by decide +kernel
theorem dX5_readAll_25 : decode cX5_readAll 25 = .ok (.ifCond .eq 21, 3) := by decide +kernel
theorem dX5_readAll_28 : decode cX5_readAll 28 = .ok (.aload_n 0, 1) := by decide +kernel
theorem dX5_readAll_29 : decode cX5_readAll 29 = .ok (.iload_n 1, 1) := by decide +kernel
theorem dX5_readAll_30 : decode cX5_readAll 30 = .ok (.bipush 59, 2) := by decide +kernel
theorem dX5_readAll_32 : decode cX5_readAll 32 = .ok (.invokevirtual 138, 3) := by decide +kernel
theorem dX5_readAll_35 : decode cX5_readAll 35 = .ok (.ifCond .eq 11, 3) := by decide +kernel
theorem dX5_readAll_38 : decode cX5_readAll 38 = .ok (.aload_n 0, 1) := by decide +kernel
theorem dX5_readAll_39 : decode cX5_readAll 39 = .ok (.iload_n 1, 1) := by decide +kernel
theorem dX5_readAll_40 : decode cX5_readAll 40 = .ok (.invokevirtual 145, 3) := by decide +kernel
theorem dX5_readAll_43 : decode cX5_readAll 43 = .ok (.ifCond .ne 5, 3) := by decide +kernel
theorem dX5_readAll_46 : decode cX5_readAll 46 = .ok (.iconst 0, 1) := by decide +kernel
theorem dX5_readAll_47 : decode cX5_readAll 47 = .ok (.ireturn, 1) := by decide +kernel
theorem dX5_readAll_48 : decode cX5_readAll 48 = .ok (.aload_n 0, 1) := by decide +kernel
theorem dX5_readAll_49 : decode cX5_readAll 49 = .ok (.getfield 126, 3) := by decide +kernel
theorem dX5_readAll_52 : decode cX5_readAll 52 = .ok (.iconst 4, 1) := by decide +kernel
theorem dX5_readAll_53 : decode cX5_readAll 53 = .ok (.if_icmp .ge 23, 3) := by decide +kernel
theorem dX5_readAll_56 : decode cX5_readAll 56 = .ok (.aload_n 0, 1) := by decide +kernel
theorem dX5_readAll_57 : decode cX5_readAll 57 = .ok (.iload_n 1, 1) := by decide +kernel
theorem dX5_readAll_58 : decode cX5_readAll 58 = .ok (.bipush 59, 2) := by decide +kernel
theorem dX5_readAll_60 : decode cX5_readAll 60 = .ok (.invokevirtual 138, 3) := by decide +kernel
theorem dX5_readAll_63 : decode cX5_readAll 63 = .ok (.ifCond .eq 13, 3) := by decide +kernel
theorem dX5_readAll_66 : decode cX5_readAll 66 = .ok (.aload_n 0, 1) := by decide +kernel
theorem dX5_readAll_67 : decode cX5_readAll 67 = .ok (.iload_n 1, 1) := by decide +kernel
theorem dX5_readAll_68 : decode cX5_readAll 68 = .ok (.invokevirtual 145, 3) := by decide +kernel
theorem dX5_readAll_71 : decode cX5_readAll 71 = .ok (.ifCond .ne (-23), 3) := by decide +kernel
theorem dX5_readAll_74 : decode cX5_readAll 74 = .ok (.iconst 0, 1) := by decide +kernel
theorem dX5_readAll_75 : decode cX5_readAll 75 = .ok (.ireturn, 1) := by decide +kernel
theorem dX5_readAll_76 : decode cX5_readAll 76 = .ok (.aload_n 0, 1) := by decide +kernel
theorem dX5_readAll_77 : decode cX5_readAll 77 = .ok (.iload_n 1, 1) := by decide +kernel
theorem dX5_readAll_78 : decode cX5_readAll 78 = .ok (.bipush 44, 2) := by decide +kernel
theorem dX5_readAll_80 : decode cX5_readAll 80 = .ok (.invokevirtual 138, 3) := by decide +kernel
theorem dX5_readAll_83 : decode cX5_readAll 83 = .ok (.ifCond .eq 11, 3) := by decide +kernel
theorem dX5_readAll_86 : decode cX5_readAll 86 = .ok (.aload_n 0, 1) := by decide +kernel
theorem dX5_readAll_87 : decode cX5_readAll 87 = .ok (.iload_n 1, 1) := by decide +kernel
theorem dX5_readAll_88 : decode cX5_readAll 88 = .ok (.invokevirtual 148, 3) := by decide +kernel
theorem dX5_readAll_91 : decode cX5_readAll 91 = .ok (.ifCond .ne 5, 3) := by decide +kernel
theorem dX5_readAll_94 : decode cX5_readAll 94 = .ok (.iconst 0, 1) := by decide +kernel
theorem dX5_readAll_95 : decode cX5_readAll 95 = .ok (.ireturn, 1) := by decide +kernel
theorem dX5_readAll_96 : decode cX5_readAll 96 = .ok (.aload_n 0, 1) := by decide +kernel
theorem dX5_readAll_97 : decode cX5_readAll 97 = .ok (.getfield 129, 3) := by decide +kernel
theorem dX5_readAll_100 : decode cX5_readAll 100 = .ok (.bipush 6, 2) := by decide +kernel
theorem dX5_readAll_102 : decode cX5_readAll 102 = .ok (.if_icmp .ge 23, 3) := by decide +kernel
theorem dX5_readAll_105 : decode cX5_readAll 105 = .ok (.aload_n 0, 1) := by decide +kernel
theorem dX5_readAll_106 : decode cX5_readAll 106 = .ok (.iload_n 1, 1) := by decide +kernel
theorem dX5_readAll_107 : decode cX5_readAll 107 = .ok (.bipush 44, 2) := by decide +kernel
theorem dX5_readAll_109 : decode cX5_readAll 109 = .ok (.invokevirtual 138, 3) := by decide +kernel
theorem dX5_readAll_112 : decode cX5_readAll 112 = .ok (.ifCond .eq 13, 3) := by decide +kernel
theorem dX5_readAll_115 : decode cX5_readAll 115 = .ok (.aload_n 0, 1) := by decide +kernel
theorem dX5_readAll_116 : decode cX5_readAll 116 = .ok (.iload_n 1, 1) := by decide +kernel
theorem dX5_readAll_117 : decode cX5_readAll 117 = .ok (.invokevirtual 148, 3) := by decide +kernel
theorem dX5_readAll_120 : decode cX5_readAll 120 = .ok (.ifCond .ne (-24), 3) := by decide +kernel
theorem dX5_readAll_123 : decode cX5_readAll 123 = .ok (.iconst 0, 1) := by decide +kernel
theorem dX5_readAll_124 : decode cX5_readAll 124 = .ok (.ireturn, 1) := by decide +kernel
theorem dX5_readAll_125 : decode cX5_readAll 125 = .ok (.aload_n 0, 1) := by decide +kernel
theorem dX5_readAll_126 : decode cX5_readAll 126 = .ok (.getfield 99, 3) := by decide +kernel
theorem dX5_readAll_129 : decode cX5_readAll 129 = .ok (.iload_n 1, 1) := by decide +kernel
theorem dX5_readAll_130 : decode cX5_readAll 130 = .ok (.if_icmp .ne 7, 3) := by decide +kernel
theorem dX5_readAll_133 : decode cX5_readAll 133 = .ok (.iconst 1, 1) := by decide +kernel
theorem dX5_readAll_134 : decode cX5_readAll 134 = .ok (.goto 4, 3) := by decide +kernel
theorem dX5_readAll_137 : decode cX5_readAll 137 = .ok (.iconst 0, 1) := by decide +kernel
theorem dX5_readAll_138 : decode cX5_readAll 138 = .ok (.ireturn, 1) := by decide +kernel
theorem dX5_readTheSeam_0 : decode cX5_readTheSeam 0 = .ok (.aload_n 0, 1) := by decide +kernel
theorem dX5_readTheSeam_1 : decode cX5_readTheSeam 1 = .ok (.iload_n 1, 1) := by decide +kernel
theorem dX5_readTheSeam_2 : decode cX5_readTheSeam 2 = .ok (.iconst 0, 1) := by decide +kernel
theorem dX5_readTheSeam_3 : decode cX5_readTheSeam 3 = .ok (.iconst 1, 1) := by decide +kernel
theorem dX5_readTheSeam_4 : decode cX5_readTheSeam 4 = .ok (.invokevirtual 151, 3) := by decide +kernel
theorem dX5_readTheSeam_7 : decode cX5_readTheSeam 7 = .ok (.istore_n 2, 1) := by decide +kernel
theorem dX5_readTheSeam_8 : decode cX5_readTheSeam 8 = .ok (.iload_n 2, 1) := by decide +kernel
theorem dX5_readTheSeam_9 : decode cX5_readTheSeam 9 = .ok (.bipush (-9), 2) := by decide +kernel
theorem dX5_readTheSeam_11 : decode cX5_readTheSeam 11 = .ok (.if_icmp .ne 5, 3) := by decide +kernel
theorem dX5_readTheSeam_14 : decode cX5_readTheSeam 14 = .ok (.iconst 0, 1) := by decide +kernel
theorem dX5_readTheSeam_15 : decode cX5_readTheSeam 15 = .ok (.ireturn, 1) := by decide +kernel
theorem dX5_readTheSeam_16 : decode cX5_readTheSeam 16 = .ok (.aload_n 0, 1) := by decide +kernel
theorem dX5_readTheSeam_17 : decode cX5_readTheSeam 17 = .ok (.iload_n 1, 1) := by decide +kernel
theorem dX5_readTheSeam_18 : decode cX5_readTheSeam 18 = .ok (.iload_n 2, 1) := by decide +kernel
theorem dX5_readTheSeam_19 : decode cX5_readTheSeam 19 = .ok (.ifCond .ne 7, 3) := by decide +kernel
theorem dX5_readTheSeam_22 : decode cX5_readTheSeam 22 = .ok (.iconst 1, 1) := by decide +kernel
theorem dX5_readTheSeam_23 : decode cX5_readTheSeam 23 = .ok (.goto 4, 3) := by decide +kernel
theorem dX5_readTheSeam_26 : decode cX5_readTheSeam 26 = .ok (.iconst 0, 1) := by decide +kernel
theorem dX5_readTheSeam_27 : decode cX5_readTheSeam 27 = .ok (.iload_n 2, 1) := by decide +kernel
theorem dX5_readTheSeam_28 : decode cX5_readTheSeam 28 = .ok (.ifCond .ne 8, 3) := by decide +kernel
theorem dX5_readTheSeam_31 : decode cX5_readTheSeam 31 = .ok (.bipush 9, 2) := by decide +kernel
theorem dX5_readTheSeam_33 : decode cX5_readTheSeam 33 = .ok (.goto 4, 3) := by decide +kernel
theorem dX5_readTheSeam_36 : decode cX5_readTheSeam 36 = .ok (.iconst 3, 1) := by decide +kernel
theorem dX5_readTheSeam_37 : decode cX5_readTheSeam 37 = .ok (.invokevirtual 151, 3) := by decide +kernel
theorem dX5_readTheSeam_40 : decode cX5_readTheSeam 40 = .ok (.istore_n 3, 1) := by decide +kernel
theorem dX5_readTheSeam_41 : decode cX5_readTheSeam 41 = .ok (.aload_n 0, 1) := by decide +kernel
theorem dX5_readTheSeam_42 : decode cX5_readTheSeam 42 = .ok (.bipush 10, 2) := by decide +kernel
theorem dX5_readTheSeam_44 : decode cX5_readTheSeam 44 = .ok (.iload_n 2, 1) := by decide +kernel
theorem dX5_readTheSeam_45 : decode cX5_readTheSeam 45 = .ok (.imul, 1) := by decide +kernel
theorem dX5_readTheSeam_46 : decode cX5_readTheSeam 46 = .ok (.iload_n 3, 1) := by decide +kernel
theorem dX5_readTheSeam_47 : decode cX5_readTheSeam 47 = .ok (.iadd, 1) := by decide +kernel
theorem dX5_readTheSeam_48 : decode cX5_readTheSeam 48 = .ok (.putfield 120, 3) := by decide +kernel
theorem dX5_readTheSeam_51 : decode cX5_readTheSeam 51 = .ok (.iload_n 3, 1) := by decide +kernel
theorem dX5_readTheSeam_52 : decode cX5_readTheSeam 52 = .ok (.bipush (-9), 2) := by decide +kernel
theorem dX5_readTheSeam_54 : decode cX5_readTheSeam 54 = .ok (.if_icmp .eq 7, 3) := by decide +kernel
theorem dX5_readTheSeam_57 : decode cX5_readTheSeam 57 = .ok (.iconst 1, 1) := by decide +kernel
theorem dX5_readTheSeam_58 : decode cX5_readTheSeam 58 = .ok (.goto 4, 3) := by decide +kernel
theorem dX5_readTheSeam_61 : decode cX5_readTheSeam 61 = .ok (.iconst 0, 1) := by decide +kernel
theorem dX5_readTheSeam_62 : decode cX5_readTheSeam 62 = .ok (.ireturn, 1) := by decide +kernel
theorem dX5_readOneHouse_0 : decode cX5_readOneHouse 0 = .ok (.aload_n 0, 1) := by decide +kernel
theorem dX5_readOneHouse_1 : decode cX5_readOneHouse 1 = .ok (.iload_n 1, 1) := by decide +kernel
theorem dX5_readOneHouse_2 : decode cX5_readOneHouse 2 = .ok (.iconst 0, 1) := by decide +kernel
theorem dX5_readOneHouse_3 : decode cX5_readOneHouse 3 = .ok (.bipush 9, 2) := by decide +kernel
theorem dX5_readOneHouse_5 : decode cX5_readOneHouse 5 = .ok (.invokevirtual 151, 3) := by decide +kernel
theorem dX5_readOneHouse_8 : decode cX5_readOneHouse 8 = .ok (.istore_n 2, 1) := by decide +kernel
theorem dX5_readOneHouse_9 : decode cX5_readOneHouse 9 = .ok (.iload_n 2, 1) := by decide +kernel
theorem dX5_readOneHouse_10 : decode cX5_readOneHouse 10 = .ok (.bipush (-9), 2) := by decide +kernel
theorem dX5_readOneHouse_12 : decode cX5_readOneHouse 12 = .ok (.if_icmp .ne 5, 3) := by decide +kernel
theorem dX5_readOneHouse_15 : decode cX5_readOneHouse 15 = .ok (.iconst 0, 1) := by decide +kernel
theorem dX5_readOneHouse_16 : decode cX5_readOneHouse 16 = .ok (.ireturn, 1) := by decide +kernel
theorem dX5_readOneHouse_17 : decode cX5_readOneHouse 17 = .ok (.aload_n 0, 1) := by decide +kernel
theorem dX5_readOneHouse_18 : decode cX5_readOneHouse 18 = .ok (.iload_n 1, 1) := by decide +kernel
theorem dX5_readOneHouse_19 : decode cX5_readOneHouse 19 = .ok (.iconst 0, 1) := by decide +kernel
theorem dX5_readOneHouse_20 : decode cX5_readOneHouse 20 = .ok (.bipush 9, 2) := by decide +kernel
theorem dX5_readOneHouse_22 : decode cX5_readOneHouse 22 = .ok (.invokevirtual 151, 3) := by decide +kernel
theorem dX5_readOneHouse_25 : decode cX5_readOneHouse 25 = .ok (.istore_n 3, 1) := by decide +kernel
theorem dX5_readOneHouse_26 : decode cX5_readOneHouse 26 = .ok (.iload_n 3, 1) := by decide +kernel
theorem dX5_readOneHouse_27 : decode cX5_readOneHouse 27 = .ok (.bipush (-9), 2) := by decide +kernel
theorem dX5_readOneHouse_29 : decode cX5_readOneHouse 29 = .ok (.if_icmp .ne 5, 3) := by decide +kernel
theorem dX5_readOneHouse_32 : decode cX5_readOneHouse 32 = .ok (.iconst 0, 1) := by decide +kernel
theorem dX5_readOneHouse_33 : decode cX5_readOneHouse 33 = .ok (.ireturn, 1) := by decide +kernel
theorem dX5_readOneHouse_34 : decode cX5_readOneHouse 34 = .ok (.aload_n 0, 1) := by decide +kernel
theorem dX5_readOneHouse_35 : decode cX5_readOneHouse 35 = .ok (.iload_n 1, 1) := by decide +kernel
theorem dX5_readOneHouse_36 : decode cX5_readOneHouse 36 = .ok (.iconst 1, 1) := by decide +kernel
theorem dX5_readOneHouse_37 : decode cX5_readOneHouse 37 = .ok (.bipush 9, 2) := by decide +kernel
theorem dX5_readOneHouse_39 : decode cX5_readOneHouse 39 = .ok (.invokevirtual 151, 3) := by decide +kernel
theorem dX5_readOneHouse_42 : decode cX5_readOneHouse 42 = .ok (.istore 4, 2) := by decide +kernel
theorem dX5_readOneHouse_44 : decode cX5_readOneHouse 44 = .ok (.iload 4, 2) := by decide +kernel
theorem dX5_readOneHouse_46 : decode cX5_readOneHouse 46 = .ok (.bipush (-9), 2) := by decide +kernel
theorem dX5_readOneHouse_48 : decode cX5_readOneHouse 48 = .ok (.if_icmp .ne 5, 3) := by decide +kernel
theorem dX5_readOneHouse_51 : decode cX5_readOneHouse 51 = .ok (.iconst 0, 1) := by decide +kernel
theorem dX5_readOneHouse_52 : decode cX5_readOneHouse 52 = .ok (.ireturn, 1) := by decide +kernel
theorem dX5_readOneHouse_53 : decode cX5_readOneHouse 53 = .ok (.aload_n 0, 1) := by decide +kernel
theorem dX5_readOneHouse_54 : decode cX5_readOneHouse 54 = .ok (.getfield 44, 3) := by decide +kernel
theorem dX5_readOneHouse_57 : decode cX5_readOneHouse 57 = .ok (.iconst 2, 1) := by decide +kernel
theorem dX5_readOneHouse_58 : decode cX5_readOneHouse 58 = .ok (.aload_n 0, 1) := by decide +kernel
theorem dX5_readOneHouse_59 : decode cX5_readOneHouse 59 = .ok (.getfield 126, 3) := by decide +kernel
theorem dX5_readOneHouse_62 : decode cX5_readOneHouse 62 = .ok (.imul, 1) := by decide +kernel
theorem dX5_readOneHouse_63 : decode cX5_readOneHouse 63 = .ok (.bipush 10, 2) := by decide +kernel
theorem dX5_readOneHouse_65 : decode cX5_readOneHouse 65 = .ok (.iload_n 2, 1) := by decide +kernel
theorem dX5_readOneHouse_66 : decode cX5_readOneHouse 66 = .ok (.imul, 1) := by decide +kernel
theorem dX5_readOneHouse_67 : decode cX5_readOneHouse 67 = .ok (.iload_n 3, 1) := by decide +kernel
theorem dX5_readOneHouse_68 : decode cX5_readOneHouse 68 = .ok (.iadd, 1) := by decide +kernel
theorem dX5_readOneHouse_69 : decode cX5_readOneHouse 69 = .ok (.iastore, 1) := by decide +kernel
theorem dX5_readOneHouse_70 : decode cX5_readOneHouse 70 = .ok (.aload_n 0, 1) := by decide +kernel
theorem dX5_readOneHouse_71 : decode cX5_readOneHouse 71 = .ok (.getfield 44, 3) := by decide +kernel
theorem dX5_readOneHouse_74 : decode cX5_readOneHouse 74 = .ok (.iconst 2, 1) := by decide +kernel
theorem dX5_readOneHouse_75 : decode cX5_readOneHouse 75 = .ok (.aload_n 0, 1) := by decide +kernel
theorem dX5_readOneHouse_76 : decode cX5_readOneHouse 76 = .ok (.getfield 126, 3) := by decide +kernel
theorem dX5_readOneHouse_79 : decode cX5_readOneHouse 79 = .ok (.imul, 1) := by decide +kernel
theorem dX5_readOneHouse_80 : decode cX5_readOneHouse 80 = .ok (.iconst 1, 1) := by decide +kernel
theorem dX5_readOneHouse_81 : decode cX5_readOneHouse 81 = .ok (.iadd, 1) := by decide +kernel
theorem dX5_readOneHouse_82 : decode cX5_readOneHouse 82 = .ok (.iload 4, 2) := by decide +kernel
theorem dX5_readOneHouse_84 : decode cX5_readOneHouse 84 = .ok (.iastore, 1) := by decide +kernel
theorem dX5_readOneHouse_85 : decode cX5_readOneHouse 85 = .ok (.aload_n 0, 1) := by decide +kernel
theorem dX5_readOneHouse_86 : decode cX5_readOneHouse 86 = .ok (.dup, 1) := by decide +kernel
theorem dX5_readOneHouse_87 : decode cX5_readOneHouse 87 = .ok (.getfield 126, 3) := by decide +kernel
theorem dX5_readOneHouse_90 : decode cX5_readOneHouse 90 = .ok (.iconst 1, 1) := by decide +kernel
theorem dX5_readOneHouse_91 : decode cX5_readOneHouse 91 = .ok (.iadd, 1) := by decide +kernel
theorem dX5_readOneHouse_92 : decode cX5_readOneHouse 92 = .ok (.putfield 126, 3) := by decide +kernel
theorem dX5_readOneHouse_95 : decode cX5_readOneHouse 95 = .ok (.iconst 1, 1) := by decide +kernel
theorem dX5_readOneHouse_96 : decode cX5_readOneHouse 96 = .ok (.ireturn, 1) := by decide +kernel
theorem dX5_readPerson_0 : decode cX5_readPerson 0 = .ok (.iconst 5, 1) := by decide +kernel
theorem dX5_readPerson_1 : decode cX5_readPerson 1 = .ok (.aload_n 0, 1) := by decide +kernel
theorem dX5_readPerson_2 : decode cX5_readPerson 2 = .ok (.getfield 129, 3) := by decide +kernel
theorem dX5_readPerson_5 : decode cX5_readPerson 5 = .ok (.imul, 1) := by decide +kernel
theorem dX5_readPerson_6 : decode cX5_readPerson 6 = .ok (.istore_n 2, 1) := by decide +kernel
theorem dX5_readPerson_7 : decode cX5_readPerson 7 = .ok (.aload_n 0, 1) := by decide +kernel
theorem dX5_readPerson_8 : decode cX5_readPerson 8 = .ok (.getfield 99, 3) := by decide +kernel
theorem dX5_readPerson_11 : decode cX5_readPerson 11 = .ok (.iload_n 1, 1) := by decide +kernel
theorem dX5_readPerson_12 : decode cX5_readPerson 12 = .ok (.if_icmp .ge 15, 3) := by decide +kernel
theorem dX5_readPerson_15 : decode cX5_readPerson 15 = .ok (.aload_n 0, 1) := by decide +kernel
theorem dX5_readPerson_16 : decode cX5_readPerson 16 = .ok (.getfield 16, 3) := by decide +kernel
theorem dX5_readPerson_19 : decode cX5_readPerson 19 = .ok (.aload_n 0, 1) := by decide +kernel
theorem dX5_readPerson_20 : decode cX5_readPerson 20 = .ok (.getfield 99, 3) := by decide +kernel
theorem dX5_readPerson_23 : decode cX5_readPerson 23 = .ok (.iaload, 1) := by decide +kernel
theorem dX5_readPerson_24 : decode cX5_readPerson 24 = .ok (.goto 4, 3) := by decide +kernel
theorem dX5_readPerson_27 : decode cX5_readPerson 27 = .ok (.iconst 0, 1) := by decide +kernel
theorem dX5_readPerson_28 : decode cX5_readPerson 28 = .ok (.istore_n 3, 1) := by decide +kernel
theorem dX5_readPerson_29 : decode cX5_readPerson 29 = .ok (.aload_n 0, 1) := by decide +kernel
theorem dX5_readPerson_30 : decode cX5_readPerson 30 = .ok (.getfield 47, 3) := by decide +kernel
theorem dX5_readPerson_33 : decode cX5_readPerson 33 = .ok (.iload_n 2, 1) := by decide +kernel
theorem dX5_readPerson_34 : decode cX5_readPerson 34 = .ok (.iload_n 3, 1) := by decide +kernel
theorem dX5_readPerson_35 : decode cX5_readPerson 35 = .ok (.bipush 100, 2) := by decide +kernel
theorem dX5_readPerson_37 : decode cX5_readPerson 37 = .ok (.if_icmp .ne 7, 3) := by decide +kernel
theorem dX5_readPerson_40 : decode cX5_readPerson 40 = .ok (.iconst 0, 1) := by decide +kernel
theorem dX5_readPerson_41 : decode cX5_readPerson 41 = .ok (.goto 25, 3) := by decide +kernel
theorem dX5_readPerson_44 : decode cX5_readPerson 44 = .ok (.iload_n 3, 1) := by decide +kernel
theorem dX5_readPerson_45 : decode cX5_readPerson 45 = .ok (.bipush 104, 2) := by decide +kernel
theorem dX5_readPerson_47 : decode cX5_readPerson 47 = .ok (.if_icmp .ne 7, 3) := by decide +kernel
theorem dX5_readPerson_50 : decode cX5_readPerson 50 = .ok (.iconst 1, 1) := by decide +kernel
theorem dX5_readPerson_51 : decode cX5_readPerson 51 = .ok (.goto 15, 3) := by decide +kernel
theorem dX5_readPerson_54 : decode cX5_readPerson 54 = .ok (.iload_n 3, 1) := by decide +kernel
theorem dX5_readPerson_55 : decode cX5_readPerson 55 = .ok (.bipush 102, 2) := by decide +kernel
theorem dX5_readPerson_57 : decode cX5_readPerson 57 = .ok (.if_icmp .ne 7, 3) := by decide +kernel
theorem dX5_readPerson_60 : decode cX5_readPerson 60 = .ok (.iconst 2, 1) := by decide +kernel
theorem dX5_readPerson_61 : decode cX5_readPerson 61 = .ok (.goto 5, 3) := by decide +kernel
theorem dX5_readPerson_64 : decode cX5_readPerson 64 = .ok (.bipush (-9), 2) := by decide +kernel
theorem dX5_readPerson_66 : decode cX5_readPerson 66 = .ok (.iastore, 1) := by decide +kernel
theorem dX5_readPerson_67 : decode cX5_readPerson 67 = .ok (.aload_n 0, 1) := by decide +kernel
theorem dX5_readPerson_68 : decode cX5_readPerson 68 = .ok (.getfield 47, 3) := by decide +kernel
theorem dX5_readPerson_71 : decode cX5_readPerson 71 = .ok (.iload_n 2, 1) := by decide +kernel
theorem dX5_readPerson_72 : decode cX5_readPerson 72 = .ok (.iaload, 1) := by decide +kernel
theorem dX5_readPerson_73 : decode cX5_readPerson 73 = .ok (.bipush (-9), 2) := by decide +kernel
theorem dX5_readPerson_75 : decode cX5_readPerson 75 = .ok (.if_icmp .ne 5, 3) := by decide +kernel
theorem dX5_readPerson_78 : decode cX5_readPerson 78 = .ok (.iconst 0, 1) := by decide +kernel
theorem dX5_readPerson_79 : decode cX5_readPerson 79 = .ok (.ireturn, 1) := by decide +kernel
theorem dX5_readPerson_80 : decode cX5_readPerson 80 = .ok (.aload_n 0, 1) := by decide +kernel
theorem dX5_readPerson_81 : decode cX5_readPerson 81 = .ok (.dup, 1) := by decide +kernel
theorem dX5_readPerson_82 : decode cX5_readPerson 82 = .ok (.getfield 99, 3) := by decide +kernel
theorem dX5_readPerson_85 : decode cX5_readPerson 85 = .ok (.iconst 1, 1) := by decide +kernel
theorem dX5_readPerson_86 : decode cX5_readPerson 86 = .ok (.iadd, 1) := by decide +kernel
theorem dX5_readPerson_87 : decode cX5_readPerson 87 = .ok (.putfield 99, 3) := by decide +kernel
theorem dX5_readPerson_90 : decode cX5_readPerson 90 = .ok (.iconst 1, 1) := by decide +kernel
theorem dX5_readPerson_91 : decode cX5_readPerson 91 = .ok (.istore 4, 2) := by decide +kernel
theorem dX5_readPerson_93 : decode cX5_readPerson 93 = .ok (.iload 4, 2) := by decide +kernel
theorem dX5_readPerson_95 : decode cX5_readPerson 95 = .ok (.iconst 5, 1) := by decide +kernel
theorem dX5_readPerson_96 : decode cX5_readPerson 96 = .ok (.if_icmp .ge 81, 3) := by decide +kernel
theorem dX5_readPerson_99 : decode cX5_readPerson 99 = .ok (.iload 4, 2) := by decide +kernel
theorem dX5_readPerson_101 : decode cX5_readPerson 101 = .ok (.iconst 1, 1) := by decide +kernel
theorem dX5_readPerson_102 : decode cX5_readPerson 102 = .ok (.if_icmp .ne 7, 3) := by decide +kernel
theorem dX5_readPerson_105 : decode cX5_readPerson 105 = .ok (.iconst 1, 1) := by decide +kernel
theorem dX5_readPerson_106 : decode cX5_readPerson 106 = .ok (.goto 30, 3) := by decide +kernel
theorem dX5_readPerson_109 : decode cX5_readPerson 109 = .ok (.iload 4, 2) := by decide +kernel
theorem dX5_readPerson_111 : decode cX5_readPerson 111 = .ok (.iconst 2, 1) := by decide +kernel
theorem dX5_readPerson_112 : decode cX5_readPerson 112 = .ok (.if_icmp .ne 12, 3) := by decide +kernel
theorem dX5_readPerson_115 : decode cX5_readPerson 115 = .ok (.aload_n 0, 1) := by decide +kernel
theorem dX5_readPerson_116 : decode cX5_readPerson 116 = .ok (.getfield 126, 3) := by decide +kernel
theorem dX5_readPerson_119 : decode cX5_readPerson 119 = .ok (.iconst 1, 1) := by decide +kernel
theorem dX5_readPerson_120 : decode cX5_readPerson 120 = .ok (.isub, 1) := by decide +kernel
theorem dX5_readPerson_121 : decode cX5_readPerson 121 = .ok (.goto 15, 3) := by decide +kernel
theorem dX5_readPerson_124 : decode cX5_readPerson 124 = .ok (.iload 4, 2) := by decide +kernel
theorem dX5_readPerson_126 : decode cX5_readPerson 126 = .ok (.iconst 3, 1) := by decide +kernel
theorem dX5_readPerson_127 : decode cX5_readPerson 127 = .ok (.if_icmp .ne 7, 3) := by decide +kernel
theorem dX5_readPerson_130 : decode cX5_readPerson 130 = .ok (.iconst 5, 1) := by decide +kernel
theorem dX5_readPerson_131 : decode cX5_readPerson 131 = .ok (.goto 5, 3) := by decide +kernel
theorem dX5_readPerson_134 : decode cX5_readPerson 134 = .ok (.bipush 9, 2) := by decide +kernel
theorem dX5_readPerson_136 : decode cX5_readPerson 136 = .ok (.istore 5, 2) := by decide +kernel
theorem dX5_readPerson_138 : decode cX5_readPerson 138 = .ok (.aload_n 0, 1) := by decide +kernel
theorem dX5_readPerson_139 : decode cX5_readPerson 139 = .ok (.getfield 47, 3) := by decide +kernel
theorem dX5_readPerson_142 : decode cX5_readPerson 142 = .ok (.iload_n 2, 1) := by decide +kernel
theorem dX5_readPerson_143 : decode cX5_readPerson 143 = .ok (.iload 4, 2) := by decide +kernel
theorem dX5_readPerson_145 : decode cX5_readPerson 145 = .ok (.iadd, 1) := by decide +kernel
theorem dX5_readPerson_146 : decode cX5_readPerson 146 = .ok (.aload_n 0, 1) := by decide +kernel
theorem dX5_readPerson_147 : decode cX5_readPerson 147 = .ok (.iload_n 1, 1) := by decide +kernel
theorem dX5_readPerson_148 : decode cX5_readPerson 148 = .ok (.iconst 0, 1) := by decide +kernel
theorem dX5_readPerson_149 : decode cX5_readPerson 149 = .ok (.iload 5, 2) := by decide +kernel
theorem dX5_readPerson_151 : decode cX5_readPerson 151 = .ok (.invokevirtual 151, 3) := by decide +kernel
theorem dX5_readPerson_154 : decode cX5_readPerson 154 = .ok (.iastore, 1) := by decide +kernel
theorem dX5_readPerson_155 : decode cX5_readPerson 155 = .ok (.aload_n 0, 1) := by decide +kernel
theorem dX5_readPerson_156 : decode cX5_readPerson 156 = .ok (.getfield 47, 3) := by decide +kernel
theorem dX5_readPerson_159 : decode cX5_readPerson 159 = .ok (.iload_n 2, 1) := by decide +kernel
theorem dX5_readPerson_160 : decode cX5_readPerson 160 = .ok (.iload 4, 2) := by decide +kernel
theorem dX5_readPerson_162 : decode cX5_readPerson 162 = .ok (.iadd, 1) := by decide +kernel
theorem dX5_readPerson_163 : decode cX5_readPerson 163 = .ok (.iaload, 1) := by decide +kernel
theorem dX5_readPerson_164 : decode cX5_readPerson 164 = .ok (.bipush (-9), 2) := by decide +kernel
theorem dX5_readPerson_166 : decode cX5_readPerson 166 = .ok (.if_icmp .ne 5, 3) := by decide +kernel
theorem dX5_readPerson_169 : decode cX5_readPerson 169 = .ok (.iconst 0, 1) := by decide +kernel
theorem dX5_readPerson_170 : decode cX5_readPerson 170 = .ok (.ireturn, 1) := by decide +kernel
theorem dX5_readPerson_171 : decode cX5_readPerson 171 = .ok (.iinc 4 1, 3) := by decide +kernel
theorem dX5_readPerson_174 : decode cX5_readPerson 174 = .ok (.goto (-81), 3) := by decide +kernel
theorem dX5_readPerson_177 : decode cX5_readPerson 177 = .ok (.aload_n 0, 1) := by decide +kernel
theorem dX5_readPerson_178 : decode cX5_readPerson 178 = .ok (.dup, 1) := by decide +kernel
theorem dX5_readPerson_179 : decode cX5_readPerson 179 = .ok (.getfield 129, 3) := by decide +kernel
theorem dX5_readPerson_182 : decode cX5_readPerson 182 = .ok (.iconst 1, 1) := by decide +kernel
theorem dX5_readPerson_183 : decode cX5_readPerson 183 = .ok (.iadd, 1) := by decide +kernel
theorem dX5_readPerson_184 : decode cX5_readPerson 184 = .ok (.putfield 129, 3) := by decide +kernel
theorem dX5_readPerson_187 : decode cX5_readPerson 187 = .ok (.iconst 1, 1) := by decide +kernel
theorem dX5_readPerson_188 : decode cX5_readPerson 188 = .ok (.ireturn, 1) := by decide +kernel
theorem dX5_ofHouse_0 : decode cX5_ofHouse 0 = .ok (.aload_n 0, 1) := by decide +kernel
theorem dX5_ofHouse_1 : decode cX5_ofHouse 1 = .ok (.iload_n 1, 1) := by decide +kernel
theorem dX5_ofHouse_2 : decode cX5_ofHouse 2 = .ok (.invokevirtual 155, 3) := by decide +kernel
theorem dX5_ofHouse_5 : decode cX5_ofHouse 5 = .ok (.ifCond .ne 5, 3) := by decide +kernel
theorem dX5_ofHouse_8 : decode cX5_ofHouse 8 = .ok (.iconst (-1), 1) := by decide +kernel
theorem dX5_ofHouse_9 : decode cX5_ofHouse 9 = .ok (.ireturn, 1) := by decide +kernel
theorem dX5_ofHouse_10 : decode cX5_ofHouse 10 = .ok (.iload_n 2, 1) := by decide +kernel
theorem dX5_ofHouse_11 : decode cX5_ofHouse 11 = .ok (.ifCond .ne 12, 3) := by decide +kernel
theorem dX5_ofHouse_14 : decode cX5_ofHouse 14 = .ok (.aload_n 0, 1) := by decide +kernel
theorem dX5_ofHouse_15 : decode cX5_ofHouse 15 = .ok (.getfield 19, 3) := by decide +kernel
theorem dX5_ofHouse_18 : decode cX5_ofHouse 18 = .ok (.iload_n 1, 1) := by decide +kernel
theorem dX5_ofHouse_19 : decode cX5_ofHouse 19 = .ok (.iaload, 1) := by decide +kernel
theorem dX5_ofHouse_20 : decode cX5_ofHouse 20 = .ok (.goto 19, 3) := by decide +kernel
theorem dX5_ofHouse_23 : decode cX5_ofHouse 23 = .ok (.iload_n 2, 1) := by decide +kernel
theorem dX5_ofHouse_24 : decode cX5_ofHouse 24 = .ok (.iconst 1, 1) := by decide +kernel
theorem dX5_ofHouse_25 : decode cX5_ofHouse 25 = .ok (.if_icmp .ne 12, 3) := by decide +kernel
theorem dX5_ofHouse_28 : decode cX5_ofHouse 28 = .ok (.aload_n 0, 1) := by decide +kernel
theorem dX5_ofHouse_29 : decode cX5_ofHouse 29 = .ok (.getfield 22, 3) := by decide +kernel
theorem dX5_ofHouse_32 : decode cX5_ofHouse 32 = .ok (.iload_n 1, 1) := by decide +kernel
theorem dX5_ofHouse_33 : decode cX5_ofHouse 33 = .ok (.iaload, 1) := by decide +kernel
theorem dX5_ofHouse_34 : decode cX5_ofHouse 34 = .ok (.goto 5, 3) := by decide +kernel
theorem dX5_ofHouse_37 : decode cX5_ofHouse 37 = .ok (.bipush (-2), 2) := by decide +kernel
theorem dX5_ofHouse_39 : decode cX5_ofHouse 39 = .ok (.ireturn, 1) := by decide +kernel
theorem dX5_wants_0 : decode cX5_wants 0 = .ok (.aload_n 0, 1) := by decide +kernel
theorem dX5_wants_1 : decode cX5_wants 1 = .ok (.getfield 25, 3) := by decide +kernel
theorem dX5_wants_4 : decode cX5_wants 4 = .ok (.iload_n 1, 1) := by decide +kernel
theorem dX5_wants_5 : decode cX5_wants 5 = .ok (.iaload, 1) := by decide +kernel
theorem dX5_wants_6 : decode cX5_wants 6 = .ok (.ifCond .ne 12, 3) := by decide +kernel
theorem dX5_wants_9 : decode cX5_wants 9 = .ok (.aload_n 0, 1) := by decide +kernel
theorem dX5_wants_10 : decode cX5_wants 10 = .ok (.getfield 34, 3) := by decide +kernel
theorem dX5_wants_13 : decode cX5_wants 13 = .ok (.iload_n 1, 1) := by decide +kernel
theorem dX5_wants_14 : decode cX5_wants 14 = .ok (.iaload, 1) := by decide +kernel
theorem dX5_wants_15 : decode cX5_wants 15 = .ok (.goto 11, 3) := by decide +kernel
theorem dX5_wants_18 : decode cX5_wants 18 = .ok (.aload_n 0, 1) := by decide +kernel
theorem dX5_wants_19 : decode cX5_wants 19 = .ok (.getfield 34, 3) := by decide +kernel
theorem dX5_wants_22 : decode cX5_wants 22 = .ok (.iload_n 1, 1) := by decide +kernel
theorem dX5_wants_23 : decode cX5_wants 23 = .ok (.iaload, 1) := by decide +kernel
theorem dX5_wants_24 : decode cX5_wants 24 = .ok (.iconst 1, 1) := by decide +kernel
theorem dX5_wants_25 : decode cX5_wants 25 = .ok (.iadd, 1) := by decide +kernel
theorem dX5_wants_26 : decode cX5_wants 26 = .ok (.istore_n 2, 1) := by decide +kernel
theorem dX5_wants_27 : decode cX5_wants 27 = .ok (.aload_n 0, 1) := by decide +kernel
theorem dX5_wants_28 : decode cX5_wants 28 = .ok (.getfield 25, 3) := by decide +kernel
theorem dX5_wants_31 : decode cX5_wants 31 = .ok (.iload_n 1, 1) := by decide +kernel
theorem dX5_wants_32 : decode cX5_wants 32 = .ok (.iaload, 1) := by decide +kernel
theorem dX5_wants_33 : decode cX5_wants 33 = .ok (.iconst 2, 1) := by decide +kernel
theorem dX5_wants_34 : decode cX5_wants 34 = .ok (.if_icmp .ne 9, 3) := by decide +kernel
theorem dX5_wants_37 : decode cX5_wants 37 = .ok (.iconst 2, 1) := by decide +kernel
theorem dX5_wants_38 : decode cX5_wants 38 = .ok (.iload_n 2, 1) := by decide +kernel
theorem dX5_wants_39 : decode cX5_wants 39 = .ok (.imul, 1) := by decide +kernel
theorem dX5_wants_40 : decode cX5_wants 40 = .ok (.goto 4, 3) := by decide +kernel
theorem dX5_wants_43 : decode cX5_wants 43 = .ok (.iload_n 2, 1) := by decide +kernel
theorem dX5_wants_44 : decode cX5_wants 44 = .ok (.ireturn, 1) := by decide +kernel
theorem dX5_ofPerson_0 : decode cX5_ofPerson 0 = .ok (.aload_n 0, 1) := by decide +kernel
theorem dX5_ofPerson_1 : decode cX5_ofPerson 1 = .ok (.iload_n 1, 1) := by decide +kernel
theorem dX5_ofPerson_2 : decode cX5_ofPerson 2 = .ok (.invokevirtual 158, 3) := by decide +kernel
theorem dX5_ofPerson_5 : decode cX5_ofPerson 5 = .ok (.ifCond .ne 5, 3) := by decide +kernel
theorem dX5_ofPerson_8 : decode cX5_ofPerson 8 = .ok (.iconst (-1), 1) := by decide +kernel
theorem dX5_ofPerson_9 : decode cX5_ofPerson 9 = .ok (.ireturn, 1) := by decide +kernel
theorem dX5_ofPerson_10 : decode cX5_ofPerson 10 = .ok (.iload_n 2, 1) := by decide +kernel
theorem dX5_ofPerson_11 : decode cX5_ofPerson 11 = .ok (.tableswitch 97 0 6 #[41, 48, 55, 62, 69, 76, 82], 41) := by decide +kernel
theorem dX5_ofPerson_52 : decode cX5_ofPerson 52 = .ok (.aload_n 0, 1) := by decide +kernel
theorem dX5_ofPerson_53 : decode cX5_ofPerson 53 = .ok (.getfield 25, 3) := by decide +kernel
theorem dX5_ofPerson_56 : decode cX5_ofPerson 56 = .ok (.iload_n 1, 1) := by decide +kernel
theorem dX5_ofPerson_57 : decode cX5_ofPerson 57 = .ok (.iaload, 1) := by decide +kernel
theorem dX5_ofPerson_58 : decode cX5_ofPerson 58 = .ok (.ireturn, 1) := by decide +kernel
theorem dX5_ofPerson_59 : decode cX5_ofPerson 59 = .ok (.aload_n 0, 1) := by decide +kernel
theorem dX5_ofPerson_60 : decode cX5_ofPerson 60 = .ok (.getfield 28, 3) := by decide +kernel
theorem dX5_ofPerson_63 : decode cX5_ofPerson 63 = .ok (.iload_n 1, 1) := by decide +kernel
theorem dX5_ofPerson_64 : decode cX5_ofPerson 64 = .ok (.iaload, 1) := by decide +kernel
theorem dX5_ofPerson_65 : decode cX5_ofPerson 65 = .ok (.ireturn, 1) := by decide +kernel
theorem dX5_ofPerson_66 : decode cX5_ofPerson 66 = .ok (.aload_n 0, 1) := by decide +kernel
theorem dX5_ofPerson_67 : decode cX5_ofPerson 67 = .ok (.getfield 31, 3) := by decide +kernel
theorem dX5_ofPerson_70 : decode cX5_ofPerson 70 = .ok (.iload_n 1, 1) := by decide +kernel
theorem dX5_ofPerson_71 : decode cX5_ofPerson 71 = .ok (.iaload, 1) := by decide +kernel
theorem dX5_ofPerson_72 : decode cX5_ofPerson 72 = .ok (.ireturn, 1) := by decide +kernel
theorem dX5_ofPerson_73 : decode cX5_ofPerson 73 = .ok (.aload_n 0, 1) := by decide +kernel
theorem dX5_ofPerson_74 : decode cX5_ofPerson 74 = .ok (.getfield 34, 3) := by decide +kernel
theorem dX5_ofPerson_77 : decode cX5_ofPerson 77 = .ok (.iload_n 1, 1) := by decide +kernel
theorem dX5_ofPerson_78 : decode cX5_ofPerson 78 = .ok (.iaload, 1) := by decide +kernel
theorem dX5_ofPerson_79 : decode cX5_ofPerson 79 = .ok (.ireturn, 1) := by decide +kernel
theorem dX5_ofPerson_80 : decode cX5_ofPerson 80 = .ok (.aload_n 0, 1) := by decide +kernel
theorem dX5_ofPerson_81 : decode cX5_ofPerson 81 = .ok (.getfield 37, 3) := by decide +kernel
theorem dX5_ofPerson_84 : decode cX5_ofPerson 84 = .ok (.iload_n 1, 1) := by decide +kernel
theorem dX5_ofPerson_85 : decode cX5_ofPerson 85 = .ok (.iaload, 1) := by decide +kernel
theorem dX5_ofPerson_86 : decode cX5_ofPerson 86 = .ok (.ireturn, 1) := by decide +kernel
theorem dX5_ofPerson_87 : decode cX5_ofPerson 87 = .ok (.aload_n 0, 1) := by decide +kernel
theorem dX5_ofPerson_88 : decode cX5_ofPerson 88 = .ok (.iload_n 1, 1) := by decide +kernel
theorem dX5_ofPerson_89 : decode cX5_ofPerson 89 = .ok (.invokevirtual 161, 3) := by decide +kernel
theorem dX5_ofPerson_92 : decode cX5_ofPerson 92 = .ok (.ireturn, 1) := by decide +kernel
theorem dX5_ofPerson_93 : decode cX5_ofPerson 93 = .ok (.aload_n 0, 1) := by decide +kernel
theorem dX5_ofPerson_94 : decode cX5_ofPerson 94 = .ok (.getfield 40, 3) := by decide +kernel
theorem dX5_ofPerson_97 : decode cX5_ofPerson 97 = .ok (.iload_n 1, 1) := by decide +kernel
theorem dX5_ofPerson_98 : decode cX5_ofPerson 98 = .ok (.baload, 1) := by decide +kernel
theorem dX5_ofPerson_99 : decode cX5_ofPerson 99 = .ok (.ifCond .eq 7, 3) := by decide +kernel
theorem dX5_ofPerson_102 : decode cX5_ofPerson 102 = .ok (.iconst 1, 1) := by decide +kernel
theorem dX5_ofPerson_103 : decode cX5_ofPerson 103 = .ok (.goto 4, 3) := by decide +kernel
theorem dX5_ofPerson_106 : decode cX5_ofPerson 106 = .ok (.iconst 0, 1) := by decide +kernel
theorem dX5_ofPerson_107 : decode cX5_ofPerson 107 = .ok (.ireturn, 1) := by decide +kernel
theorem dX5_ofPerson_108 : decode cX5_ofPerson 108 = .ok (.bipush (-2), 2) := by decide +kernel
theorem dX5_ofPerson_110 : decode cX5_ofPerson 110 = .ok (.ireturn, 1) := by decide +kernel
theorem dX5_seam_0 : decode cX5_seam 0 = .ok (.iload_n 1, 1) := by decide +kernel
theorem dX5_seam_1 : decode cX5_seam 1 = .ok (.iconst 1, 1) := by decide +kernel
theorem dX5_seam_2 : decode cX5_seam 2 = .ok (.bipush 13, 2) := by decide +kernel
theorem dX5_seam_4 : decode cX5_seam 4 = .ok (.invokestatic 89, 3) := by decide +kernel
theorem dX5_seam_7 : decode cX5_seam 7 = .ok (.ifCond .ne 6, 3) := by decide +kernel
theorem dX5_seam_10 : decode cX5_seam 10 = .ok (.bipush (-2), 2) := by decide +kernel
theorem dX5_seam_12 : decode cX5_seam 12 = .ok (.ireturn, 1) := by decide +kernel
theorem dX5_seam_13 : decode cX5_seam 13 = .ok (.aload_n 0, 1) := by decide +kernel
theorem dX5_seam_14 : decode cX5_seam 14 = .ok (.getfield 96, 3) := by decide +kernel
theorem dX5_seam_17 : decode cX5_seam 17 = .ok (.ifCond .ne 6, 3) := by decide +kernel
theorem dX5_seam_20 : decode cX5_seam 20 = .ok (.bipush (-3), 2) := by decide +kernel
theorem dX5_seam_22 : decode cX5_seam 22 = .ok (.ireturn, 1) := by decide +kernel
theorem dX5_seam_23 : decode cX5_seam 23 = .ok (.aload_n 0, 1) := by decide +kernel
theorem dX5_seam_24 : decode cX5_seam 24 = .ok (.getfield 123, 3) := by decide +kernel
theorem dX5_seam_27 : decode cX5_seam 27 = .ok (.istore_n 2, 1) := by decide +kernel
theorem dX5_seam_28 : decode cX5_seam 28 = .ok (.aload_n 0, 1) := by decide +kernel
theorem dX5_seam_29 : decode cX5_seam 29 = .ok (.iload_n 1, 1) := by decide +kernel
theorem dX5_seam_30 : decode cX5_seam 30 = .ok (.putfield 123, 3) := by decide +kernel
theorem dX5_seam_33 : decode cX5_seam 33 = .ok (.iload_n 2, 1) := by decide +kernel
theorem dX5_seam_34 : decode cX5_seam 34 = .ok (.ireturn, 1) := by decide +kernel
theorem dX5_away_0 : decode cX5_away 0 = .ok (.aload_n 0, 1) := by decide +kernel
theorem dX5_away_1 : decode cX5_away 1 = .ok (.iload_n 1, 1) := by decide +kernel
theorem dX5_away_2 : decode cX5_away 2 = .ok (.invokevirtual 158, 3) := by decide +kernel
theorem dX5_away_5 : decode cX5_away 5 = .ok (.ifCond .ne 5, 3) := by decide +kernel
theorem dX5_away_8 : decode cX5_away 8 = .ok (.iconst (-1), 1) := by decide +kernel
theorem dX5_away_9 : decode cX5_away 9 = .ok (.ireturn, 1) := by decide +kernel
theorem dX5_away_10 : decode cX5_away 10 = .ok (.aload_n 0, 1) := by decide +kernel
theorem dX5_away_11 : decode cX5_away 11 = .ok (.getfield 40, 3) := by decide +kernel
theorem dX5_away_14 : decode cX5_away 14 = .ok (.iload_n 1, 1) := by decide +kernel
theorem dX5_away_15 : decode cX5_away 15 = .ok (.baload, 1) := by decide +kernel
theorem dX5_away_16 : decode cX5_away 16 = .ok (.istore_n 3, 1) := by decide +kernel
theorem dX5_away_17 : decode cX5_away 17 = .ok (.aload_n 0, 1) := by decide +kernel
theorem dX5_away_18 : decode cX5_away 18 = .ok (.getfield 40, 3) := by decide +kernel
theorem dX5_away_21 : decode cX5_away 21 = .ok (.iload_n 1, 1) := by decide +kernel
theorem dX5_away_22 : decode cX5_away 22 = .ok (.iload_n 2, 1) := by decide +kernel
theorem dX5_away_23 : decode cX5_away 23 = .ok (.bastore, 1) := by decide +kernel
theorem dX5_away_24 : decode cX5_away 24 = .ok (.iload_n 3, 1) := by decide +kernel
theorem dX5_away_25 : decode cX5_away 25 = .ok (.iload_n 2, 1) := by decide +kernel
theorem dX5_away_26 : decode cX5_away 26 = .ok (.if_icmp .ne 7, 3) := by decide +kernel
theorem dX5_away_29 : decode cX5_away 29 = .ok (.iconst 0, 1) := by decide +kernel
theorem dX5_away_30 : decode cX5_away 30 = .ok (.goto 4, 3) := by decide +kernel
theorem dX5_away_33 : decode cX5_away 33 = .ok (.iconst 1, 1) := by decide +kernel
theorem dX5_away_34 : decode cX5_away 34 = .ok (.ireturn, 1) := by decide +kernel
theorem dX5_layGift_0 : decode cX5_layGift 0 = .ok (.aload_n 0, 1) := by decide +kernel
theorem dX5_layGift_1 : decode cX5_layGift 1 = .ok (.getfield 50, 3) := by decide +kernel
theorem dX5_layGift_4 : decode cX5_layGift 4 = .ok (.iload_n 1, 1) := by decide +kernel
theorem dX5_layGift_5 : decode cX5_layGift 5 = .ok (.iload_n 2, 1) := by decide +kernel
theorem dX5_layGift_6 : decode cX5_layGift 6 = .ok (.iastore, 1) := by decide +kernel
theorem dX5_layGift_7 : decode cX5_layGift 7 = .ok (.aload_n 0, 1) := by decide +kernel
theorem dX5_layGift_8 : decode cX5_layGift 8 = .ok (.getfield 53, 3) := by decide +kernel
theorem dX5_layGift_11 : decode cX5_layGift 11 = .ok (.iload_n 1, 1) := by decide +kernel
theorem dX5_layGift_12 : decode cX5_layGift 12 = .ok (.iload_n 3, 1) := by decide +kernel
theorem dX5_layGift_13 : decode cX5_layGift 13 = .ok (.iastore, 1) := by decide +kernel
theorem dX5_layGift_14 : decode cX5_layGift 14 = .ok (.aload_n 0, 1) := by decide +kernel
theorem dX5_layGift_15 : decode cX5_layGift 15 = .ok (.getfield 56, 3) := by decide +kernel
theorem dX5_layGift_18 : decode cX5_layGift 18 = .ok (.iload_n 1, 1) := by decide +kernel
theorem dX5_layGift_19 : decode cX5_layGift 19 = .ok (.iload 4, 2) := by decide +kernel
theorem dX5_layGift_21 : decode cX5_layGift 21 = .ok (.iastore, 1) := by decide +kernel
theorem dX5_layGift_22 : decode cX5_layGift 22 = .ok (.return_, 1) := by decide +kernel
theorem dX5_gift_0 : decode cX5_gift 0 = .ok (.aload_n 0, 1) := by decide +kernel
theorem dX5_gift_1 : decode cX5_gift 1 = .ok (.iload_n 1, 1) := by decide +kernel
theorem dX5_gift_2 : decode cX5_gift 2 = .ok (.invokevirtual 155, 3) := by decide +kernel
theorem dX5_gift_5 : decode cX5_gift 5 = .ok (.ifCond .ne 5, 3) := by decide +kernel
theorem dX5_gift_8 : decode cX5_gift 8 = .ok (.iconst (-1), 1) := by decide +kernel
theorem dX5_gift_9 : decode cX5_gift 9 = .ok (.ireturn, 1) := by decide +kernel
theorem dX5_gift_10 : decode cX5_gift 10 = .ok (.iload_n 2, 1) := by decide +kernel
theorem dX5_gift_11 : decode cX5_gift 11 = .ok (.invokestatic 164, 3) := by decide +kernel
theorem dX5_gift_14 : decode cX5_gift 14 = .ok (.ifCond .eq 13, 3) := by decide +kernel
theorem dX5_gift_17 : decode cX5_gift 17 = .ok (.iload_n 3, 1) := by decide +kernel
theorem dX5_gift_18 : decode cX5_gift 18 = .ok (.iconst 1, 1) := by decide +kernel
theorem dX5_gift_19 : decode cX5_gift 19 = .ok (.bipush 99, 2) := by decide +kernel
theorem dX5_gift_21 : decode cX5_gift 21 = .ok (.invokestatic 89, 3) := by decide +kernel
theorem dX5_gift_24 : decode cX5_gift 24 = .ok (.ifCond .ne 6, 3) := by decide +kernel
theorem dX5_gift_27 : decode cX5_gift 27 = .ok (.bipush (-2), 2) := by decide +kernel
theorem dX5_gift_29 : decode cX5_gift 29 = .ok (.ireturn, 1) := by decide +kernel
theorem dX5_gift_30 : decode cX5_gift 30 = .ok (.aload_n 0, 1) := by decide +kernel
theorem dX5_gift_31 : decode cX5_gift 31 = .ok (.getfield 132, 3) := by decide +kernel
theorem dX5_gift_34 : decode cX5_gift 34 = .ok (.bipush 6, 2) := by decide +kernel
theorem dX5_gift_36 : decode cX5_gift 36 = .ok (.if_icmp .ne 6, 3) := by decide +kernel
theorem dX5_gift_39 : decode cX5_gift 39 = .ok (.bipush (-4), 2) := by decide +kernel
theorem dX5_gift_41 : decode cX5_gift 41 = .ok (.ireturn, 1) := by decide +kernel
theorem dX5_gift_42 : decode cX5_gift 42 = .ok (.aload_n 0, 1) := by decide +kernel
theorem dX5_gift_43 : decode cX5_gift 43 = .ok (.aload_n 0, 1) := by decide +kernel
theorem dX5_gift_44 : decode cX5_gift 44 = .ok (.getfield 132, 3) := by decide +kernel
theorem dX5_gift_47 : decode cX5_gift 47 = .ok (.iload_n 1, 1) := by decide +kernel
theorem dX5_gift_48 : decode cX5_gift 48 = .ok (.iload_n 2, 1) := by decide +kernel
theorem dX5_gift_49 : decode cX5_gift 49 = .ok (.iload_n 3, 1) := by decide +kernel
theorem dX5_gift_50 : decode cX5_gift 50 = .ok (.invokevirtual 167, 3) := by decide +kernel
theorem dX5_gift_53 : decode cX5_gift 53 = .ok (.aload_n 0, 1) := by decide +kernel
theorem dX5_gift_54 : decode cX5_gift 54 = .ok (.dup, 1) := by decide +kernel
theorem dX5_gift_55 : decode cX5_gift 55 = .ok (.getfield 132, 3) := by decide +kernel
theorem dX5_gift_58 : decode cX5_gift 58 = .ok (.iconst 1, 1) := by decide +kernel
theorem dX5_gift_59 : decode cX5_gift 59 = .ok (.iadd, 1) := by decide +kernel
theorem dX5_gift_60 : decode cX5_gift 60 = .ok (.putfield 132, 3) := by decide +kernel
theorem dX5_gift_63 : decode cX5_gift 63 = .ok (.aload_n 0, 1) := by decide +kernel
theorem dX5_gift_64 : decode cX5_gift 64 = .ok (.getfield 132, 3) := by decide +kernel
theorem dX5_gift_67 : decode cX5_gift 67 = .ok (.iconst 1, 1) := by decide +kernel
theorem dX5_gift_68 : decode cX5_gift 68 = .ok (.isub, 1) := by decide +kernel
theorem dX5_gift_69 : decode cX5_gift 69 = .ok (.ireturn, 1) := by decide +kernel
theorem dX5_undo_0 : decode cX5_undo 0 = .ok (.iload_n 1, 1) := by decide +kernel
theorem dX5_undo_1 : decode cX5_undo 1 = .ok (.iconst 0, 1) := by decide +kernel
theorem dX5_undo_2 : decode cX5_undo 2 = .ok (.aload_n 0, 1) := by decide +kernel
theorem dX5_undo_3 : decode cX5_undo 3 = .ok (.getfield 132, 3) := by decide +kernel
theorem dX5_undo_6 : decode cX5_undo 6 = .ok (.invokestatic 89, 3) := by decide +kernel
theorem dX5_undo_9 : decode cX5_undo 9 = .ok (.ifCond .ne 6, 3) := by decide +kernel
theorem dX5_undo_12 : decode cX5_undo 12 = .ok (.bipush (-2), 2) := by decide +kernel
theorem dX5_undo_14 : decode cX5_undo 14 = .ok (.ireturn, 1) := by decide +kernel
theorem dX5_undo_15 : decode cX5_undo 15 = .ok (.aload_n 0, 1) := by decide +kernel
theorem dX5_undo_16 : decode cX5_undo 16 = .ok (.dup, 1) := by decide +kernel
theorem dX5_undo_17 : decode cX5_undo 17 = .ok (.getfield 132, 3) := by decide +kernel
theorem dX5_undo_20 : decode cX5_undo 20 = .ok (.iload_n 1, 1) := by decide +kernel
theorem dX5_undo_21 : decode cX5_undo 21 = .ok (.isub, 1) := by decide +kernel
theorem dX5_undo_22 : decode cX5_undo 22 = .ok (.putfield 132, 3) := by decide +kernel
theorem dX5_undo_25 : decode cX5_undo 25 = .ok (.aload_n 0, 1) := by decide +kernel
theorem dX5_undo_26 : decode cX5_undo 26 = .ok (.getfield 132, 3) := by decide +kernel
theorem dX5_undo_29 : decode cX5_undo 29 = .ok (.ireturn, 1) := by decide +kernel
theorem dX5_isBroken_0 : decode cX5_isBroken 0 = .ok (.aload_n 0, 1) := by decide +kernel
theorem dX5_isBroken_1 : decode cX5_isBroken 1 = .ok (.getfield 62, 3) := by decide +kernel
theorem dX5_isBroken_4 : decode cX5_isBroken 4 = .ok (.iload_n 1, 1) := by decide +kernel
theorem dX5_isBroken_5 : decode cX5_isBroken 5 = .ok (.iaload, 1) := by decide +kernel
theorem dX5_isBroken_6 : decode cX5_isBroken 6 = .ok (.bipush 10, 2) := by decide +kernel
theorem dX5_isBroken_8 : decode cX5_isBroken 8 = .ok (.aload_n 0, 1) := by decide +kernel
theorem dX5_isBroken_9 : decode cX5_isBroken 9 = .ok (.getfield 22, 3) := by decide +kernel
theorem dX5_isBroken_12 : decode cX5_isBroken 12 = .ok (.iload_n 1, 1) := by decide +kernel
theorem dX5_isBroken_13 : decode cX5_isBroken 13 = .ok (.iaload, 1) := by decide +kernel
theorem dX5_isBroken_14 : decode cX5_isBroken 14 = .ok (.imul, 1) := by decide +kernel
theorem dX5_isBroken_15 : decode cX5_isBroken 15 = .ok (.if_icmp .lt 7, 3) := by decide +kernel
theorem dX5_isBroken_18 : decode cX5_isBroken 18 = .ok (.iconst 1, 1) := by decide +kernel
theorem dX5_isBroken_19 : decode cX5_isBroken 19 = .ok (.goto 4, 3) := by decide +kernel
theorem dX5_isBroken_22 : decode cX5_isBroken 22 = .ok (.iconst 0, 1) := by decide +kernel
theorem dX5_isBroken_23 : decode cX5_isBroken 23 = .ok (.ireturn, 1) := by decide +kernel
theorem dX5_townIn_0 : decode cX5_townIn 0 = .ok (.iload_n 1, 1) := by decide +kernel
theorem dX5_townIn_1 : decode cX5_townIn 1 = .ok (.aload_n 0, 1) := by decide +kernel
theorem dX5_townIn_2 : decode cX5_townIn 2 = .ok (.getfield 123, 3) := by decide +kernel
theorem dX5_townIn_5 : decode cX5_townIn 5 = .ok (.if_icmp .ge 7, 3) := by decide +kernel
theorem dX5_townIn_8 : decode cX5_townIn 8 = .ok (.iconst 0, 1) := by decide +kernel
theorem dX5_townIn_9 : decode cX5_townIn 9 = .ok (.goto 4, 3) := by decide +kernel
theorem dX5_townIn_12 : decode cX5_townIn 12 = .ok (.iconst 1, 1) := by decide +kernel
theorem dX5_townIn_13 : decode cX5_townIn 13 = .ok (.ireturn, 1) := by decide +kernel
theorem dX5_beginWeek_0 : decode cX5_beginWeek 0 = .ok (.iconst 0, 1) := by decide +kernel
theorem dX5_beginWeek_1 : decode cX5_beginWeek 1 = .ok (.istore_n 2, 1) := by decide +kernel
theorem dX5_beginWeek_2 : decode cX5_beginWeek 2 = .ok (.iload_n 2, 1) := by decide +kernel
theorem dX5_beginWeek_3 : decode cX5_beginWeek 3 = .ok (.aload_n 0, 1) := by decide +kernel
theorem dX5_beginWeek_4 : decode cX5_beginWeek 4 = .ok (.getfield 93, 3) := by decide +kernel
theorem dX5_beginWeek_7 : decode cX5_beginWeek 7 = .ok (.if_icmp .ge 24, 3) := by decide +kernel
theorem dX5_beginWeek_10 : decode cX5_beginWeek 10 = .ok (.aload_n 0, 1) := by decide +kernel
theorem dX5_beginWeek_11 : decode cX5_beginWeek 11 = .ok (.getfield 59, 3) := by decide +kernel
theorem dX5_beginWeek_14 : decode cX5_beginWeek 14 = .ok (.iload_n 2, 1) := by decide +kernel
theorem dX5_beginWeek_15 : decode cX5_beginWeek 15 = .ok (.dup2, 1) := by decide +kernel
theorem dX5_beginWeek_16 : decode cX5_beginWeek 16 = .ok (.iaload, 1) := by decide +kernel
theorem dX5_beginWeek_17 : decode cX5_beginWeek 17 = .ok (.aload_n 0, 1) := by decide +kernel
theorem dX5_beginWeek_18 : decode cX5_beginWeek 18 = .ok (.getfield 19, 3) := by decide +kernel
theorem dX5_beginWeek_21 : decode cX5_beginWeek 21 = .ok (.iload_n 2, 1) := by decide +kernel
theorem dX5_beginWeek_22 : decode cX5_beginWeek 22 = .ok (.iaload, 1) := by decide +kernel
theorem dX5_beginWeek_23 : decode cX5_beginWeek 23 = .ok (.iadd, 1) := by decide +kernel
theorem dX5_beginWeek_24 : decode cX5_beginWeek 24 = .ok (.iastore, 1) := by decide +kernel
theorem dX5_beginWeek_25 : decode cX5_beginWeek 25 = .ok (.iinc 2 1, 3) := by decide +kernel
theorem dX5_beginWeek_28 : decode cX5_beginWeek 28 = .ok (.goto (-26), 3) := by decide +kernel
theorem dX5_beginWeek_31 : decode cX5_beginWeek 31 = .ok (.iconst 0, 1) := by decide +kernel
theorem dX5_beginWeek_32 : decode cX5_beginWeek 32 = .ok (.istore_n 2, 1) := by decide +kernel
theorem dX5_beginWeek_33 : decode cX5_beginWeek 33 = .ok (.iload_n 2, 1) := by decide +kernel
theorem dX5_beginWeek_34 : decode cX5_beginWeek 34 = .ok (.aload_n 0, 1) := by decide +kernel
theorem dX5_beginWeek_35 : decode cX5_beginWeek 35 = .ok (.getfield 132, 3) := by decide +kernel
theorem dX5_beginWeek_38 : decode cX5_beginWeek 38 = .ok (.if_icmp .ge 43, 3) := by decide +kernel
theorem dX5_beginWeek_41 : decode cX5_beginWeek 41 = .ok (.aload_n 0, 1) := by decide +kernel
theorem dX5_beginWeek_42 : decode cX5_beginWeek 42 = .ok (.getfield 59, 3) := by decide +kernel
theorem dX5_beginWeek_45 : decode cX5_beginWeek 45 = .ok (.aload_n 0, 1) := by decide +kernel
theorem dX5_beginWeek_46 : decode cX5_beginWeek 46 = .ok (.getfield 50, 3) := by decide +kernel
theorem dX5_beginWeek_49 : decode cX5_beginWeek 49 = .ok (.iload_n 2, 1) := by decide +kernel
theorem dX5_beginWeek_50 : decode cX5_beginWeek 50 = .ok (.iaload, 1) := by decide +kernel
theorem dX5_beginWeek_51 : decode cX5_beginWeek 51 = .ok (.dup2, 1) := by decide +kernel
theorem dX5_beginWeek_52 : decode cX5_beginWeek 52 = .ok (.iaload, 1) := by decide +kernel
theorem dX5_beginWeek_53 : decode cX5_beginWeek 53 = .ok (.aload_n 0, 1) := by decide +kernel
theorem dX5_beginWeek_54 : decode cX5_beginWeek 54 = .ok (.getfield 53, 3) := by decide +kernel
theorem dX5_beginWeek_57 : decode cX5_beginWeek 57 = .ok (.iload_n 2, 1) := by decide +kernel
theorem dX5_beginWeek_58 : decode cX5_beginWeek 58 = .ok (.iaload, 1) := by decide +kernel
theorem dX5_beginWeek_59 : decode cX5_beginWeek 59 = .ok (.iload_n 1, 1) := by decide +kernel
theorem dX5_beginWeek_60 : decode cX5_beginWeek 60 = .ok (.if_icmp .ne 12, 3) := by decide +kernel
theorem dX5_beginWeek_63 : decode cX5_beginWeek 63 = .ok (.aload_n 0, 1) := by decide +kernel
theorem dX5_beginWeek_64 : decode cX5_beginWeek 64 = .ok (.getfield 56, 3) := by decide +kernel
theorem dX5_beginWeek_67 : decode cX5_beginWeek 67 = .ok (.iload_n 2, 1) := by decide +kernel
theorem dX5_beginWeek_68 : decode cX5_beginWeek 68 = .ok (.iaload, 1) := by decide +kernel
theorem dX5_beginWeek_69 : decode cX5_beginWeek 69 = .ok (.goto 4, 3) := by decide +kernel
theorem dX5_beginWeek_72 : decode cX5_beginWeek 72 = .ok (.iconst 0, 1) := by decide +kernel
theorem dX5_beginWeek_73 : decode cX5_beginWeek 73 = .ok (.iadd, 1) := by decide +kernel
theorem dX5_beginWeek_74 : decode cX5_beginWeek 74 = .ok (.iastore, 1) := by decide +kernel
theorem dX5_beginWeek_75 : decode cX5_beginWeek 75 = .ok (.iinc 2 1, 3) := by decide +kernel
theorem dX5_beginWeek_78 : decode cX5_beginWeek 78 = .ok (.goto (-45), 3) := by decide +kernel
theorem dX5_beginWeek_81 : decode cX5_beginWeek 81 = .ok (.iconst 0, 1) := by decide +kernel
theorem dX5_beginWeek_82 : decode cX5_beginWeek 82 = .ok (.istore_n 2, 1) := by decide +kernel
theorem dX5_beginWeek_83 : decode cX5_beginWeek 83 = .ok (.iload_n 2, 1) := by decide +kernel
theorem dX5_beginWeek_84 : decode cX5_beginWeek 84 = .ok (.aload_n 0, 1) := by decide +kernel
theorem dX5_beginWeek_85 : decode cX5_beginWeek 85 = .ok (.getfield 93, 3) := by decide +kernel
theorem dX5_beginWeek_88 : decode cX5_beginWeek 88 = .ok (.if_icmp .ge 37, 3) := by decide +kernel
theorem dX5_beginWeek_91 : decode cX5_beginWeek 91 = .ok (.aload_n 0, 1) := by decide +kernel
theorem dX5_beginWeek_92 : decode cX5_beginWeek 92 = .ok (.getfield 59, 3) := by decide +kernel
theorem dX5_beginWeek_95 : decode cX5_beginWeek 95 = .ok (.iload_n 2, 1) := by decide +kernel
theorem dX5_beginWeek_96 : decode cX5_beginWeek 96 = .ok (.aload_n 0, 1) := by decide +kernel
theorem dX5_beginWeek_97 : decode cX5_beginWeek 97 = .ok (.getfield 59, 3) := by decide +kernel
theorem dX5_beginWeek_100 : decode cX5_beginWeek 100 = .ok (.iload_n 2, 1) := by decide +kernel
theorem dX5_beginWeek_101 : decode cX5_beginWeek 101 = .ok (.iaload, 1) := by decide +kernel
theorem dX5_beginWeek_102 : decode cX5_beginWeek 102 = .ok (.bipush 99, 2) := by decide +kernel
theorem dX5_beginWeek_104 : decode cX5_beginWeek 104 = .ok (.if_icmp .le 8, 3) := by decide +kernel
theorem dX5_beginWeek_107 : decode cX5_beginWeek 107 = .ok (.bipush 99, 2) := by decide +kernel
theorem dX5_beginWeek_109 : decode cX5_beginWeek 109 = .ok (.goto 9, 3) := by decide +kernel
theorem dX5_beginWeek_112 : decode cX5_beginWeek 112 = .ok (.aload_n 0, 1) := by decide +kernel
theorem dX5_beginWeek_113 : decode cX5_beginWeek 113 = .ok (.getfield 59, 3) := by decide +kernel
theorem dX5_beginWeek_116 : decode cX5_beginWeek 116 = .ok (.iload_n 2, 1) := by decide +kernel
theorem dX5_beginWeek_117 : decode cX5_beginWeek 117 = .ok (.iaload, 1) := by decide +kernel
theorem dX5_beginWeek_118 : decode cX5_beginWeek 118 = .ok (.iastore, 1) := by decide +kernel
theorem dX5_beginWeek_119 : decode cX5_beginWeek 119 = .ok (.iinc 2 1, 3) := by decide +kernel
theorem dX5_beginWeek_122 : decode cX5_beginWeek 122 = .ok (.goto (-39), 3) := by decide +kernel
theorem dX5_beginWeek_125 : decode cX5_beginWeek 125 = .ok (.return_, 1) := by decide +kernel
theorem dX5_turn_0 : decode cX5_turn 0 = .ok (.aload_n 0, 1) := by decide +kernel
theorem dX5_turn_1 : decode cX5_turn 1 = .ok (.getfield 31, 3) := by decide +kernel
theorem dX5_turn_4 : decode cX5_turn 4 = .ok (.iload_n 1, 1) := by decide +kernel
theorem dX5_turn_5 : decode cX5_turn 5 = .ok (.iaload, 1) := by decide +kernel
theorem dX5_turn_6 : decode cX5_turn 6 = .ok (.istore_n 2, 1) := by decide +kernel
theorem dX5_turn_7 : decode cX5_turn 7 = .ok (.aload_n 0, 1) := by decide +kernel
theorem dX5_turn_8 : decode cX5_turn 8 = .ok (.iload_n 2, 1) := by decide +kernel
theorem dX5_turn_9 : decode cX5_turn 9 = .ok (.invokevirtual 171, 3) := by decide +kernel
theorem dX5_turn_12 : decode cX5_turn 12 = .ok (.istore_n 3, 1) := by decide +kernel
theorem dX5_turn_13 : decode cX5_turn 13 = .ok (.iload_n 3, 1) := by decide +kernel
theorem dX5_turn_14 : decode cX5_turn 14 = .ok (.ifCond .ne 17, 3) := by decide +kernel
theorem dX5_turn_17 : decode cX5_turn 17 = .ok (.aload_n 0, 1) := by decide +kernel
theorem dX5_turn_18 : decode cX5_turn 18 = .ok (.getfield 59, 3) := by decide +kernel
theorem dX5_turn_21 : decode cX5_turn 21 = .ok (.iload_n 2, 1) := by decide +kernel
theorem dX5_turn_22 : decode cX5_turn 22 = .ok (.iaload, 1) := by decide +kernel
theorem dX5_turn_23 : decode cX5_turn 23 = .ok (.aload_n 0, 1) := by decide +kernel
theorem dX5_turn_24 : decode cX5_turn 24 = .ok (.iload_n 1, 1) := by decide +kernel
theorem dX5_turn_25 : decode cX5_turn 25 = .ok (.invokevirtual 161, 3) := by decide +kernel
theorem dX5_turn_28 : decode cX5_turn 28 = .ok (.if_icmp .ge 28, 3) := by decide +kernel
theorem dX5_turn_31 : decode cX5_turn 31 = .ok (.aload_n 0, 1) := by decide +kernel
theorem dX5_turn_32 : decode cX5_turn 32 = .ok (.dup, 1) := by decide +kernel
theorem dX5_turn_33 : decode cX5_turn 33 = .ok (.getfield 174, 3) := by decide +kernel
theorem dX5_turn_36 : decode cX5_turn 36 = .ok (.iconst 1, 1) := by decide +kernel
theorem dX5_turn_37 : decode cX5_turn 37 = .ok (.iload_n 1, 1) := by decide +kernel
theorem dX5_turn_38 : decode cX5_turn 38 = .ok (.ishl, 1) := by decide +kernel
theorem dX5_turn_39 : decode cX5_turn 39 = .ok (.ior, 1) := by decide +kernel
theorem dX5_turn_40 : decode cX5_turn 40 = .ok (.putfield 174, 3) := by decide +kernel
theorem dX5_turn_43 : decode cX5_turn 43 = .ok (.aload_n 0, 1) := by decide +kernel
theorem dX5_turn_44 : decode cX5_turn 44 = .ok (.getfield 65, 3) := by decide +kernel
theorem dX5_turn_47 : decode cX5_turn 47 = .ok (.iload_n 1, 1) := by decide +kernel
theorem dX5_turn_48 : decode cX5_turn 48 = .ok (.dup2, 1) := by decide +kernel
theorem dX5_turn_49 : decode cX5_turn 49 = .ok (.iaload, 1) := by decide +kernel
theorem dX5_turn_50 : decode cX5_turn 50 = .ok (.iconst 1, 1) := by decide +kernel
theorem dX5_turn_51 : decode cX5_turn 51 = .ok (.iadd, 1) := by decide +kernel
theorem dX5_turn_52 : decode cX5_turn 52 = .ok (.iastore, 1) := by decide +kernel
theorem dX5_turn_53 : decode cX5_turn 53 = .ok (.goto 17, 3) := by decide +kernel
theorem dX5_turn_56 : decode cX5_turn 56 = .ok (.aload_n 0, 1) := by decide +kernel
theorem dX5_turn_57 : decode cX5_turn 57 = .ok (.getfield 59, 3) := by decide +kernel
theorem dX5_turn_60 : decode cX5_turn 60 = .ok (.iload_n 2, 1) := by decide +kernel
theorem dX5_turn_61 : decode cX5_turn 61 = .ok (.dup2, 1) := by decide +kernel
theorem dX5_turn_62 : decode cX5_turn 62 = .ok (.iaload, 1) := by decide +kernel
theorem dX5_turn_63 : decode cX5_turn 63 = .ok (.aload_n 0, 1) := by decide +kernel
theorem dX5_turn_64 : decode cX5_turn 64 = .ok (.iload_n 1, 1) := by decide +kernel
theorem dX5_turn_65 : decode cX5_turn 65 = .ok (.invokevirtual 161, 3) := by decide +kernel
theorem dX5_turn_68 : decode cX5_turn 68 = .ok (.isub, 1) := by decide +kernel
theorem dX5_turn_69 : decode cX5_turn 69 = .ok (.iastore, 1) := by decide +kernel
theorem dX5_turn_70 : decode cX5_turn 70 = .ok (.aload_n 0, 1) := by decide +kernel
theorem dX5_turn_71 : decode cX5_turn 71 = .ok (.getfield 62, 3) := by decide +kernel
theorem dX5_turn_74 : decode cX5_turn 74 = .ok (.iload_n 2, 1) := by decide +kernel
theorem dX5_turn_75 : decode cX5_turn 75 = .ok (.dup2, 1) := by decide +kernel
theorem dX5_turn_76 : decode cX5_turn 76 = .ok (.iaload, 1) := by decide +kernel
theorem dX5_turn_77 : decode cX5_turn 77 = .ok (.iload_n 3, 1) := by decide +kernel
theorem dX5_turn_78 : decode cX5_turn 78 = .ok (.ifCond .eq 7, 3) := by decide +kernel
theorem dX5_turn_81 : decode cX5_turn 81 = .ok (.iconst 0, 1) := by decide +kernel
theorem dX5_turn_82 : decode cX5_turn 82 = .ok (.goto 4, 3) := by decide +kernel
theorem dX5_turn_85 : decode cX5_turn 85 = .ok (.iconst 1, 1) := by decide +kernel
theorem dX5_turn_86 : decode cX5_turn 86 = .ok (.iadd, 1) := by decide +kernel
theorem dX5_turn_87 : decode cX5_turn 87 = .ok (.iastore, 1) := by decide +kernel
theorem dX5_turn_88 : decode cX5_turn 88 = .ok (.return_, 1) := by decide +kernel
theorem dX5_mend_0 : decode cX5_mend 0 = .ok (.aload_n 0, 1) := by decide +kernel
theorem dX5_mend_1 : decode cX5_mend 1 = .ok (.getfield 31, 3) := by decide +kernel
theorem dX5_mend_4 : decode cX5_mend 4 = .ok (.iload_n 1, 1) := by decide +kernel
theorem dX5_mend_5 : decode cX5_mend 5 = .ok (.iaload, 1) := by decide +kernel
theorem dX5_mend_6 : decode cX5_mend 6 = .ok (.istore_n 2, 1) := by decide +kernel
theorem dX5_mend_7 : decode cX5_mend 7 = .ok (.aload_n 0, 1) := by decide +kernel
theorem dX5_mend_8 : decode cX5_mend 8 = .ok (.iload_n 2, 1) := by decide +kernel
theorem dX5_mend_9 : decode cX5_mend 9 = .ok (.invokevirtual 171, 3) := by decide +kernel
theorem dX5_mend_12 : decode cX5_mend 12 = .ok (.ifCond .ne 41, 3) := by decide +kernel
theorem dX5_mend_15 : decode cX5_mend 15 = .ok (.aload_n 0, 1) := by decide +kernel
theorem dX5_mend_16 : decode cX5_mend 16 = .ok (.getfield 62, 3) := by decide +kernel
theorem dX5_mend_19 : decode cX5_mend 19 = .ok (.iload_n 2, 1) := by decide +kernel
theorem dX5_mend_20 : decode cX5_mend 20 = .ok (.aload_n 0, 1) := by decide +kernel
theorem dX5_mend_21 : decode cX5_mend 21 = .ok (.getfield 62, 3) := by decide +kernel
theorem dX5_mend_24 : decode cX5_mend 24 = .ok (.iload_n 2, 1) := by decide +kernel
theorem dX5_mend_25 : decode cX5_mend 25 = .ok (.iaload, 1) := by decide +kernel
theorem dX5_mend_26 : decode cX5_mend 26 = .ok (.aload_n 0, 1) := by decide +kernel
theorem dX5_mend_27 : decode cX5_mend 27 = .ok (.getfield 37, 3) := by decide +kernel
theorem dX5_mend_30 : decode cX5_mend 30 = .ok (.iload_n 1, 1) := by decide +kernel
theorem dX5_mend_31 : decode cX5_mend 31 = .ok (.iaload, 1) := by decide +kernel
theorem dX5_mend_32 : decode cX5_mend 32 = .ok (.if_icmp .le 19, 3) := by decide +kernel
theorem dX5_mend_35 : decode cX5_mend 35 = .ok (.aload_n 0, 1) := by decide +kernel
theorem dX5_mend_36 : decode cX5_mend 36 = .ok (.getfield 62, 3) := by decide +kernel
theorem dX5_mend_39 : decode cX5_mend 39 = .ok (.iload_n 2, 1) := by decide +kernel
theorem dX5_mend_40 : decode cX5_mend 40 = .ok (.iaload, 1) := by decide +kernel
theorem dX5_mend_41 : decode cX5_mend 41 = .ok (.aload_n 0, 1) := by decide +kernel
theorem dX5_mend_42 : decode cX5_mend 42 = .ok (.getfield 37, 3) := by decide +kernel
theorem dX5_mend_45 : decode cX5_mend 45 = .ok (.iload_n 1, 1) := by decide +kernel
theorem dX5_mend_46 : decode cX5_mend 46 = .ok (.iaload, 1) := by decide +kernel
theorem dX5_mend_47 : decode cX5_mend 47 = .ok (.isub, 1) := by decide +kernel
theorem dX5_mend_48 : decode cX5_mend 48 = .ok (.goto 4, 3) := by decide +kernel
theorem dX5_mend_51 : decode cX5_mend 51 = .ok (.iconst 0, 1) := by decide +kernel
theorem dX5_mend_52 : decode cX5_mend 52 = .ok (.iastore, 1) := by decide +kernel
theorem dX5_mend_53 : decode cX5_mend 53 = .ok (.return_, 1) := by decide +kernel
theorem dX5_goHalf_0 : decode cX5_goHalf 0 = .ok (.aload_n 0, 1) := by decide +kernel
theorem dX5_goHalf_1 : decode cX5_goHalf 1 = .ok (.iconst 0, 1) := by decide +kernel
theorem dX5_goHalf_2 : decode cX5_goHalf 2 = .ok (.putfield 174, 3) := by decide +kernel
theorem dX5_goHalf_5 : decode cX5_goHalf 5 = .ok (.aload_n 0, 1) := by decide +kernel
theorem dX5_goHalf_6 : decode cX5_goHalf 6 = .ok (.iload_n 2, 1) := by decide +kernel
theorem dX5_goHalf_7 : decode cX5_goHalf 7 = .ok (.invokevirtual 177, 3) := by decide +kernel
theorem dX5_goHalf_10 : decode cX5_goHalf 10 = .ok (.istore_n 3, 1) := by decide +kernel
theorem dX5_goHalf_11 : decode cX5_goHalf 11 = .ok (.iconst 0, 1) := by decide +kernel
theorem dX5_goHalf_12 : decode cX5_goHalf 12 = .ok (.istore 4, 2) := by decide +kernel
theorem dX5_goHalf_14 : decode cX5_goHalf 14 = .ok (.iload 4, 2) := by decide +kernel
theorem dX5_goHalf_16 : decode cX5_goHalf 16 = .ok (.aload_n 0, 1) := by decide +kernel
theorem dX5_goHalf_17 : decode cX5_goHalf 17 = .ok (.getfield 96, 3) := by decide +kernel
theorem dX5_goHalf_20 : decode cX5_goHalf 20 = .ok (.if_icmp .ge 36, 3) := by decide +kernel
theorem dX5_goHalf_23 : decode cX5_goHalf 23 = .ok (.aload_n 0, 1) := by decide +kernel
theorem dX5_goHalf_24 : decode cX5_goHalf 24 = .ok (.getfield 28, 3) := by decide +kernel
theorem dX5_goHalf_27 : decode cX5_goHalf 27 = .ok (.iload 4, 2) := by decide +kernel
theorem dX5_goHalf_29 : decode cX5_goHalf 29 = .ok (.iaload, 1) := by decide +kernel
theorem dX5_goHalf_30 : decode cX5_goHalf 30 = .ok (.iload_n 3, 1) := by decide +kernel
theorem dX5_goHalf_31 : decode cX5_goHalf 31 = .ok (.if_icmp .ne 19, 3) := by decide +kernel
theorem dX5_goHalf_34 : decode cX5_goHalf 34 = .ok (.aload_n 0, 1) := by decide +kernel
theorem dX5_goHalf_35 : decode cX5_goHalf 35 = .ok (.getfield 40, 3) := by decide +kernel
theorem dX5_goHalf_38 : decode cX5_goHalf 38 = .ok (.iload 4, 2) := by decide +kernel
theorem dX5_goHalf_40 : decode cX5_goHalf 40 = .ok (.baload, 1) := by decide +kernel
theorem dX5_goHalf_41 : decode cX5_goHalf 41 = .ok (.ifCond .ne 9, 3) := by decide +kernel
theorem dX5_goHalf_44 : decode cX5_goHalf 44 = .ok (.aload_n 0, 1) := by decide +kernel
theorem dX5_goHalf_45 : decode cX5_goHalf 45 = .ok (.iload 4, 2) := by decide +kernel
theorem dX5_goHalf_47 : decode cX5_goHalf 47 = .ok (.invokevirtual 180, 3) := by decide +kernel
theorem dX5_goHalf_50 : decode cX5_goHalf 50 = .ok (.iinc 4 1, 3) := by decide +kernel
theorem dX5_goHalf_53 : decode cX5_goHalf 53 = .ok (.goto (-39), 3) := by decide +kernel
theorem dX5_goHalf_56 : decode cX5_goHalf 56 = .ok (.iload_n 2, 1) := by decide +kernel
theorem dX5_goHalf_57 : decode cX5_goHalf 57 = .ok (.aload_n 0, 1) := by decide +kernel
theorem dX5_goHalf_58 : decode cX5_goHalf 58 = .ok (.getfield 123, 3) := by decide +kernel
theorem dX5_goHalf_61 : decode cX5_goHalf 61 = .ok (.iconst 1, 1) := by decide +kernel
theorem dX5_goHalf_62 : decode cX5_goHalf 62 = .ok (.isub, 1) := by decide +kernel
theorem dX5_goHalf_63 : decode cX5_goHalf 63 = .ok (.if_icmp .eq 9, 3) := by decide +kernel
theorem dX5_goHalf_66 : decode cX5_goHalf 66 = .ok (.iload_n 2, 1) := by decide +kernel
theorem dX5_goHalf_67 : decode cX5_goHalf 67 = .ok (.bipush 13, 2) := by decide +kernel
theorem dX5_goHalf_69 : decode cX5_goHalf 69 = .ok (.if_icmp .ne 7, 3) := by decide +kernel
theorem dX5_goHalf_72 : decode cX5_goHalf 72 = .ok (.iconst 1, 1) := by decide +kernel
theorem dX5_goHalf_73 : decode cX5_goHalf 73 = .ok (.goto 4, 3) := by decide +kernel
theorem dX5_goHalf_76 : decode cX5_goHalf 76 = .ok (.iconst 0, 1) := by decide +kernel
theorem dX5_goHalf_77 : decode cX5_goHalf 77 = .ok (.istore 4, 2) := by decide +kernel
theorem dX5_goHalf_79 : decode cX5_goHalf 79 = .ok (.iconst 0, 1) := by decide +kernel
theorem dX5_goHalf_80 : decode cX5_goHalf 80 = .ok (.istore 5, 2) := by decide +kernel
theorem dX5_goHalf_82 : decode cX5_goHalf 82 = .ok (.iload 5, 2) := by decide +kernel
theorem dX5_goHalf_84 : decode cX5_goHalf 84 = .ok (.aload_n 0, 1) := by decide +kernel
theorem dX5_goHalf_85 : decode cX5_goHalf 85 = .ok (.getfield 96, 3) := by decide +kernel
theorem dX5_goHalf_88 : decode cX5_goHalf 88 = .ok (.if_icmp .ge 53, 3) := by decide +kernel
theorem dX5_goHalf_91 : decode cX5_goHalf 91 = .ok (.iload 4, 2) := by decide +kernel
theorem dX5_goHalf_93 : decode cX5_goHalf 93 = .ok (.ifCond .eq 48, 3) := by decide +kernel
theorem dX5_goHalf_96 : decode cX5_goHalf 96 = .ok (.aload_n 0, 1) := by decide +kernel
theorem dX5_goHalf_97 : decode cX5_goHalf 97 = .ok (.getfield 28, 3) := by decide +kernel
theorem dX5_goHalf_100 : decode cX5_goHalf 100 = .ok (.iload 5, 2) := by decide +kernel
theorem dX5_goHalf_102 : decode cX5_goHalf 102 = .ok (.iaload, 1) := by decide +kernel
theorem dX5_goHalf_103 : decode cX5_goHalf 103 = .ok (.iload_n 3, 1) := by decide +kernel
theorem dX5_goHalf_104 : decode cX5_goHalf 104 = .ok (.if_icmp .ne 31, 3) := by decide +kernel
theorem dX5_goHalf_107 : decode cX5_goHalf 107 = .ok (.aload_n 0, 1) := by decide +kernel
theorem dX5_goHalf_108 : decode cX5_goHalf 108 = .ok (.getfield 40, 3) := by decide +kernel
theorem dX5_goHalf_111 : decode cX5_goHalf 111 = .ok (.iload 5, 2) := by decide +kernel
theorem dX5_goHalf_113 : decode cX5_goHalf 113 = .ok (.baload, 1) := by decide +kernel
theorem dX5_goHalf_114 : decode cX5_goHalf 114 = .ok (.ifCond .ne 21, 3) := by decide +kernel
theorem dX5_goHalf_117 : decode cX5_goHalf 117 = .ok (.aload_n 0, 1) := by decide +kernel
theorem dX5_goHalf_118 : decode cX5_goHalf 118 = .ok (.getfield 174, 3) := by decide +kernel
theorem dX5_goHalf_121 : decode cX5_goHalf 121 = .ok (.iload 5, 2) := by decide +kernel
theorem dX5_goHalf_123 : decode cX5_goHalf 123 = .ok (.ishr, 1) := by decide +kernel
theorem dX5_goHalf_124 : decode cX5_goHalf 124 = .ok (.iconst 1, 1) := by decide +kernel
theorem dX5_goHalf_125 : decode cX5_goHalf 125 = .ok (.iand, 1) := by decide +kernel
theorem dX5_goHalf_126 : decode cX5_goHalf 126 = .ok (.ifCond .ne 9, 3) := by decide +kernel
theorem dX5_goHalf_129 : decode cX5_goHalf 129 = .ok (.aload_n 0, 1) := by decide +kernel
theorem dX5_goHalf_130 : decode cX5_goHalf 130 = .ok (.iload 5, 2) := by decide +kernel
theorem dX5_goHalf_132 : decode cX5_goHalf 132 = .ok (.invokevirtual 184, 3) := by decide +kernel
theorem dX5_goHalf_135 : decode cX5_goHalf 135 = .ok (.iinc 5 1, 3) := by decide +kernel
theorem dX5_goHalf_138 : decode cX5_goHalf 138 = .ok (.goto (-56), 3) := by decide +kernel
theorem dX5_goHalf_141 : decode cX5_goHalf 141 = .ok (.iconst 0, 1) := by decide +kernel
theorem dX5_goHalf_142 : decode cX5_goHalf 142 = .ok (.istore 5, 2) := by decide +kernel
theorem dX5_goHalf_144 : decode cX5_goHalf 144 = .ok (.iload 5, 2) := by decide +kernel
theorem dX5_goHalf_146 : decode cX5_goHalf 146 = .ok (.aload_n 0, 1) := by decide +kernel
theorem dX5_goHalf_147 : decode cX5_goHalf 147 = .ok (.getfield 93, 3) := by decide +kernel
theorem dX5_goHalf_150 : decode cX5_goHalf 150 = .ok (.if_icmp .ge 53, 3) := by decide +kernel
theorem dX5_goHalf_153 : decode cX5_goHalf 153 = .ok (.aload_n 0, 1) := by decide +kernel
theorem dX5_goHalf_154 : decode cX5_goHalf 154 = .ok (.getfield 68, 3) := by decide +kernel
theorem dX5_goHalf_157 : decode cX5_goHalf 157 = .ok (.iload 5, 2) := by decide +kernel
theorem dX5_goHalf_159 : decode cX5_goHalf 159 = .ok (.aload_n 0, 1) := by decide +kernel
theorem dX5_goHalf_160 : decode cX5_goHalf 160 = .ok (.getfield 68, 3) := by decide +kernel
theorem dX5_goHalf_163 : decode cX5_goHalf 163 = .ok (.iload 5, 2) := by decide +kernel
theorem dX5_goHalf_165 : decode cX5_goHalf 165 = .ok (.iaload, 1) := by decide +kernel
theorem dX5_goHalf_166 : decode cX5_goHalf 166 = .ok (.bipush (-9), 2) := by decide +kernel
theorem dX5_goHalf_168 : decode cX5_goHalf 168 = .ok (.if_icmp .ne 21, 3) := by decide +kernel
theorem dX5_goHalf_171 : decode cX5_goHalf 171 = .ok (.aload_n 0, 1) := by decide +kernel
theorem dX5_goHalf_172 : decode cX5_goHalf 172 = .ok (.iload 5, 2) := by decide +kernel
theorem dX5_goHalf_174 : decode cX5_goHalf 174 = .ok (.invokevirtual 171, 3) := by decide +kernel
theorem dX5_goHalf_177 : decode cX5_goHalf 177 = .ok (.ifCond .eq 12, 3) := by decide +kernel
theorem dX5_goHalf_180 : decode cX5_goHalf 180 = .ok (.bipush 14, 2) := by decide +kernel
theorem dX5_goHalf_182 : decode cX5_goHalf 182 = .ok (.iload_n 1, 1) := by decide +kernel
theorem dX5_goHalf_183 : decode cX5_goHalf 183 = .ok (.imul, 1) := by decide +kernel
theorem dX5_goHalf_184 : decode cX5_goHalf 184 = .ok (.iload_n 2, 1) := by decide +kernel
theorem dX5_goHalf_185 : decode cX5_goHalf 185 = .ok (.iadd, 1) := by decide +kernel
theorem dX5_goHalf_186 : decode cX5_goHalf 186 = .ok (.goto 10, 3) := by decide +kernel
theorem dX5_goHalf_189 : decode cX5_goHalf 189 = .ok (.aload_n 0, 1) := by decide +kernel
theorem dX5_goHalf_190 : decode cX5_goHalf 190 = .ok (.getfield 68, 3) := by decide +kernel
theorem dX5_goHalf_193 : decode cX5_goHalf 193 = .ok (.iload 5, 2) := by decide +kernel
theorem dX5_goHalf_195 : decode cX5_goHalf 195 = .ok (.iaload, 1) := by decide +kernel
theorem dX5_goHalf_196 : decode cX5_goHalf 196 = .ok (.iastore, 1) := by decide +kernel
theorem dX5_goHalf_197 : decode cX5_goHalf 197 = .ok (.iinc 5 1, 3) := by decide +kernel
theorem dX5_goHalf_200 : decode cX5_goHalf 200 = .ok (.goto (-56), 3) := by decide +kernel
theorem dX5_goHalf_203 : decode cX5_goHalf 203 = .ok (.return_, 1) := by decide +kernel
theorem dX5_goTo_0 : decode cX5_goTo 0 = .ok (.iconst 0, 1) := by decide +kernel
theorem dX5_goTo_1 : decode cX5_goTo 1 = .ok (.istore_n 3, 1) := by decide +kernel
theorem dX5_goTo_2 : decode cX5_goTo 2 = .ok (.iload_n 3, 1) := by decide +kernel
theorem dX5_goTo_3 : decode cX5_goTo 3 = .ok (.aload_n 0, 1) := by decide +kernel
theorem dX5_goTo_4 : decode cX5_goTo 4 = .ok (.getfield 93, 3) := by decide +kernel
theorem dX5_goTo_7 : decode cX5_goTo 7 = .ok (.if_icmp .ge 31, 3) := by decide +kernel
theorem dX5_goTo_10 : decode cX5_goTo 10 = .ok (.aload_n 0, 1) := by decide +kernel
theorem dX5_goTo_11 : decode cX5_goTo 11 = .ok (.getfield 59, 3) := by decide +kernel
theorem dX5_goTo_14 : decode cX5_goTo 14 = .ok (.iload_n 3, 1) := by decide +kernel
theorem dX5_goTo_15 : decode cX5_goTo 15 = .ok (.iconst 0, 1) := by decide +kernel
theorem dX5_goTo_16 : decode cX5_goTo 16 = .ok (.iastore, 1) := by decide +kernel
theorem dX5_goTo_17 : decode cX5_goTo 17 = .ok (.aload_n 0, 1) := by decide +kernel
theorem dX5_goTo_18 : decode cX5_goTo 18 = .ok (.getfield 62, 3) := by decide +kernel
theorem dX5_goTo_21 : decode cX5_goTo 21 = .ok (.iload_n 3, 1) := by decide +kernel
theorem dX5_goTo_22 : decode cX5_goTo 22 = .ok (.iconst 0, 1) := by decide +kernel
theorem dX5_goTo_23 : decode cX5_goTo 23 = .ok (.iastore, 1) := by decide +kernel
theorem dX5_goTo_24 : decode cX5_goTo 24 = .ok (.aload_n 0, 1) := by decide +kernel
theorem dX5_goTo_25 : decode cX5_goTo 25 = .ok (.getfield 68, 3) := by decide +kernel
theorem dX5_goTo_28 : decode cX5_goTo 28 = .ok (.iload_n 3, 1) := by decide +kernel
theorem dX5_goTo_29 : decode cX5_goTo 29 = .ok (.bipush (-9), 2) := by decide +kernel
theorem dX5_goTo_31 : decode cX5_goTo 31 = .ok (.iastore, 1) := by decide +kernel
theorem dX5_goTo_32 : decode cX5_goTo 32 = .ok (.iinc 3 1, 3) := by decide +kernel
theorem dX5_goTo_35 : decode cX5_goTo 35 = .ok (.goto (-33), 3) := by decide +kernel
theorem dX5_goTo_38 : decode cX5_goTo 38 = .ok (.iconst 0, 1) := by decide +kernel
theorem dX5_goTo_39 : decode cX5_goTo 39 = .ok (.istore_n 3, 1) := by decide +kernel
theorem dX5_goTo_40 : decode cX5_goTo 40 = .ok (.iload_n 3, 1) := by decide +kernel
theorem dX5_goTo_41 : decode cX5_goTo 41 = .ok (.aload_n 0, 1) := by decide +kernel
theorem dX5_goTo_42 : decode cX5_goTo 42 = .ok (.getfield 96, 3) := by decide +kernel
theorem dX5_goTo_45 : decode cX5_goTo 45 = .ok (.if_icmp .ge 16, 3) := by decide +kernel
theorem dX5_goTo_48 : decode cX5_goTo 48 = .ok (.aload_n 0, 1) := by decide +kernel
theorem dX5_goTo_49 : decode cX5_goTo 49 = .ok (.getfield 65, 3) := by decide +kernel
theorem dX5_goTo_52 : decode cX5_goTo 52 = .ok (.iload_n 3, 1) := by decide +kernel
theorem dX5_goTo_53 : decode cX5_goTo 53 = .ok (.iconst 0, 1) := by decide +kernel
theorem dX5_goTo_54 : decode cX5_goTo 54 = .ok (.iastore, 1) := by decide +kernel
theorem dX5_goTo_55 : decode cX5_goTo 55 = .ok (.iinc 3 1, 3) := by decide +kernel
theorem dX5_goTo_58 : decode cX5_goTo 58 = .ok (.goto (-18), 3) := by decide +kernel
theorem dX5_goTo_61 : decode cX5_goTo 61 = .ok (.aload_n 0, 1) := by decide +kernel
theorem dX5_goTo_62 : decode cX5_goTo 62 = .ok (.iconst 0, 1) := by decide +kernel
theorem dX5_goTo_63 : decode cX5_goTo 63 = .ok (.putfield 174, 3) := by decide +kernel
theorem dX5_goTo_66 : decode cX5_goTo 66 = .ok (.iconst 0, 1) := by decide +kernel
theorem dX5_goTo_67 : decode cX5_goTo 67 = .ok (.istore_n 3, 1) := by decide +kernel
theorem dX5_goTo_68 : decode cX5_goTo 68 = .ok (.iload_n 3, 1) := by decide +kernel
theorem dX5_goTo_69 : decode cX5_goTo 69 = .ok (.iload_n 1, 1) := by decide +kernel
theorem dX5_goTo_70 : decode cX5_goTo 70 = .ok (.if_icmp .gt 48, 3) := by decide +kernel
theorem dX5_goTo_73 : decode cX5_goTo 73 = .ok (.aload_n 0, 1) := by decide +kernel
theorem dX5_goTo_74 : decode cX5_goTo 74 = .ok (.iload_n 3, 1) := by decide +kernel
theorem dX5_goTo_75 : decode cX5_goTo 75 = .ok (.invokevirtual 187, 3) := by decide +kernel
theorem dX5_goTo_78 : decode cX5_goTo 78 = .ok (.iconst 0, 1) := by decide +kernel
theorem dX5_goTo_79 : decode cX5_goTo 79 = .ok (.istore 4, 2) := by decide +kernel
theorem dX5_goTo_81 : decode cX5_goTo 81 = .ok (.iload 4, 2) := by decide +kernel
theorem dX5_goTo_83 : decode cX5_goTo 83 = .ok (.bipush 14, 2) := by decide +kernel
theorem dX5_goTo_85 : decode cX5_goTo 85 = .ok (.if_icmp .ge 27, 3) := by decide +kernel
theorem dX5_goTo_88 : decode cX5_goTo 88 = .ok (.iload_n 3, 1) := by decide +kernel
theorem dX5_goTo_89 : decode cX5_goTo 89 = .ok (.iload_n 1, 1) := by decide +kernel
theorem dX5_goTo_90 : decode cX5_goTo 90 = .ok (.if_icmp .lt 9, 3) := by decide +kernel
theorem dX5_goTo_93 : decode cX5_goTo 93 = .ok (.iload 4, 2) := by decide +kernel
theorem dX5_goTo_95 : decode cX5_goTo 95 = .ok (.iload_n 2, 1) := by decide +kernel
theorem dX5_goTo_96 : decode cX5_goTo 96 = .ok (.if_icmp .gt 16, 3) := by decide +kernel
theorem dX5_goTo_99 : decode cX5_goTo 99 = .ok (.aload_n 0, 1) := by decide +kernel
theorem dX5_goTo_100 : decode cX5_goTo 100 = .ok (.iload_n 3, 1) := by decide +kernel
theorem dX5_goTo_101 : decode cX5_goTo 101 = .ok (.iload 4, 2) := by decide +kernel
theorem dX5_goTo_103 : decode cX5_goTo 103 = .ok (.invokevirtual 190, 3) := by decide +kernel
theorem dX5_goTo_106 : decode cX5_goTo 106 = .ok (.iinc 4 1, 3) := by decide +kernel
theorem dX5_goTo_109 : decode cX5_goTo 109 = .ok (.goto (-28), 3) := by decide +kernel
theorem dX5_goTo_112 : decode cX5_goTo 112 = .ok (.iinc 3 1, 3) := by decide +kernel
theorem dX5_goTo_115 : decode cX5_goTo 115 = .ok (.goto (-47), 3) := by decide +kernel
theorem dX5_goTo_118 : decode cX5_goTo 118 = .ok (.return_, 1) := by decide +kernel
theorem dX5_goWeeks_0 : decode cX5_goWeeks 0 = .ok (.aload_n 0, 1) := by decide +kernel
theorem dX5_goWeeks_1 : decode cX5_goWeeks 1 = .ok (.iload_n 1, 1) := by decide +kernel
theorem dX5_goWeeks_2 : decode cX5_goWeeks 2 = .ok (.bipush 13, 2) := by decide +kernel
theorem dX5_goWeeks_4 : decode cX5_goWeeks 4 = .ok (.invokevirtual 194, 3) := by decide +kernel
theorem dX5_goWeeks_7 : decode cX5_goWeeks 7 = .ok (.return_, 1) := by decide +kernel
theorem dX5_allChills_0 : decode cX5_allChills 0 = .ok (.iconst 0, 1) := by decide +kernel
theorem dX5_allChills_1 : decode cX5_allChills 1 = .ok (.istore_n 1, 1) := by decide +kernel
theorem dX5_allChills_2 : decode cX5_allChills 2 = .ok (.iconst 0, 1) := by decide +kernel
theorem dX5_allChills_3 : decode cX5_allChills 3 = .ok (.istore_n 2, 1) := by decide +kernel
theorem dX5_allChills_4 : decode cX5_allChills 4 = .ok (.iload_n 2, 1) := by decide +kernel
theorem dX5_allChills_5 : decode cX5_allChills 5 = .ok (.aload_n 0, 1) := by decide +kernel
theorem dX5_allChills_6 : decode cX5_allChills 6 = .ok (.getfield 96, 3) := by decide +kernel
theorem dX5_allChills_9 : decode cX5_allChills 9 = .ok (.if_icmp .ge 18, 3) := by decide +kernel
theorem dX5_allChills_12 : decode cX5_allChills 12 = .ok (.iload_n 1, 1) := by decide +kernel
theorem dX5_allChills_13 : decode cX5_allChills 13 = .ok (.aload_n 0, 1) := by decide +kernel
theorem dX5_allChills_14 : decode cX5_allChills 14 = .ok (.getfield 65, 3) := by decide +kernel
theorem dX5_allChills_17 : decode cX5_allChills 17 = .ok (.iload_n 2, 1) := by decide +kernel
theorem dX5_allChills_18 : decode cX5_allChills 18 = .ok (.iaload, 1) := by decide +kernel
theorem dX5_allChills_19 : decode cX5_allChills 19 = .ok (.iadd, 1) := by decide +kernel
theorem dX5_allChills_20 : decode cX5_allChills 20 = .ok (.istore_n 1, 1) := by decide +kernel
theorem dX5_allChills_21 : decode cX5_allChills 21 = .ok (.iinc 2 1, 3) := by decide +kernel
theorem dX5_allChills_24 : decode cX5_allChills 24 = .ok (.goto (-20), 3) := by decide +kernel
theorem dX5_allChills_27 : decode cX5_allChills 27 = .ok (.iload_n 1, 1) := by decide +kernel
theorem dX5_allChills_28 : decode cX5_allChills 28 = .ok (.ireturn, 1) := by decide +kernel
theorem dX5_wood_0 : decode cX5_wood 0 = .ok (.aload_n 0, 1) := by decide +kernel
theorem dX5_wood_1 : decode cX5_wood 1 = .ok (.iload_n 1, 1) := by decide +kernel
theorem dX5_wood_2 : decode cX5_wood 2 = .ok (.invokevirtual 155, 3) := by decide +kernel
theorem dX5_wood_5 : decode cX5_wood 5 = .ok (.ifCond .ne 5, 3) := by decide +kernel
theorem dX5_wood_8 : decode cX5_wood 8 = .ok (.iconst (-1), 1) := by decide +kernel
theorem dX5_wood_9 : decode cX5_wood 9 = .ok (.ireturn, 1) := by decide +kernel
theorem dX5_wood_10 : decode cX5_wood 10 = .ok (.iload_n 2, 1) := by decide +kernel
theorem dX5_wood_11 : decode cX5_wood 11 = .ok (.invokestatic 164, 3) := by decide +kernel
theorem dX5_wood_14 : decode cX5_wood 14 = .ok (.ifCond .eq 10, 3) := by decide +kernel
theorem dX5_wood_17 : decode cX5_wood 17 = .ok (.iload_n 3, 1) := by decide +kernel
theorem dX5_wood_18 : decode cX5_wood 18 = .ok (.invokestatic 197, 3) := by decide +kernel
theorem dX5_wood_21 : decode cX5_wood 21 = .ok (.ifCond .ne 6, 3) := by decide +kernel
theorem dX5_wood_24 : decode cX5_wood 24 = .ok (.bipush (-2), 2) := by decide +kernel
theorem dX5_wood_26 : decode cX5_wood 26 = .ok (.ireturn, 1) := by decide +kernel
theorem dX5_wood_27 : decode cX5_wood 27 = .ok (.aload_n 0, 1) := by decide +kernel
theorem dX5_wood_28 : decode cX5_wood 28 = .ok (.iload_n 2, 1) := by decide +kernel
theorem dX5_wood_29 : decode cX5_wood 29 = .ok (.iload_n 3, 1) := by decide +kernel
theorem dX5_wood_30 : decode cX5_wood 30 = .ok (.invokevirtual 194, 3) := by decide +kernel
theorem dX5_wood_33 : decode cX5_wood 33 = .ok (.aload_n 0, 1) := by decide +kernel
theorem dX5_wood_34 : decode cX5_wood 34 = .ok (.getfield 59, 3) := by decide +kernel
theorem dX5_wood_37 : decode cX5_wood 37 = .ok (.iload_n 1, 1) := by decide +kernel
theorem dX5_wood_38 : decode cX5_wood 38 = .ok (.iaload, 1) := by decide +kernel
theorem dX5_wood_39 : decode cX5_wood 39 = .ok (.ireturn, 1) := by decide +kernel
theorem dX5_wear_0 : decode cX5_wear 0 = .ok (.aload_n 0, 1) := by decide +kernel
theorem dX5_wear_1 : decode cX5_wear 1 = .ok (.iload_n 1, 1) := by decide +kernel
theorem dX5_wear_2 : decode cX5_wear 2 = .ok (.invokevirtual 155, 3) := by decide +kernel
theorem dX5_wear_5 : decode cX5_wear 5 = .ok (.ifCond .ne 5, 3) := by decide +kernel
theorem dX5_wear_8 : decode cX5_wear 8 = .ok (.iconst (-1), 1) := by decide +kernel
theorem dX5_wear_9 : decode cX5_wear 9 = .ok (.ireturn, 1) := by decide +kernel
theorem dX5_wear_10 : decode cX5_wear 10 = .ok (.iload_n 2, 1) := by decide +kernel
theorem dX5_wear_11 : decode cX5_wear 11 = .ok (.invokestatic 164, 3) := by decide +kernel
theorem dX5_wear_14 : decode cX5_wear 14 = .ok (.ifCond .eq 10, 3) := by decide +kernel
theorem dX5_wear_17 : decode cX5_wear 17 = .ok (.iload_n 3, 1) := by decide +kernel
theorem dX5_wear_18 : decode cX5_wear 18 = .ok (.invokestatic 197, 3) := by decide +kernel
theorem dX5_wear_21 : decode cX5_wear 21 = .ok (.ifCond .ne 6, 3) := by decide +kernel
theorem dX5_wear_24 : decode cX5_wear 24 = .ok (.bipush (-2), 2) := by decide +kernel
theorem dX5_wear_26 : decode cX5_wear 26 = .ok (.ireturn, 1) := by decide +kernel
theorem dX5_wear_27 : decode cX5_wear 27 = .ok (.aload_n 0, 1) := by decide +kernel
theorem dX5_wear_28 : decode cX5_wear 28 = .ok (.iload_n 2, 1) := by decide +kernel
theorem dX5_wear_29 : decode cX5_wear 29 = .ok (.iload_n 3, 1) := by decide +kernel
theorem dX5_wear_30 : decode cX5_wear 30 = .ok (.invokevirtual 194, 3) := by decide +kernel
theorem dX5_wear_33 : decode cX5_wear 33 = .ok (.aload_n 0, 1) := by decide +kernel
theorem dX5_wear_34 : decode cX5_wear 34 = .ok (.getfield 62, 3) := by decide +kernel
theorem dX5_wear_37 : decode cX5_wear 37 = .ok (.iload_n 1, 1) := by decide +kernel
theorem dX5_wear_38 : decode cX5_wear 38 = .ok (.iaload, 1) := by decide +kernel
theorem dX5_wear_39 : decode cX5_wear 39 = .ok (.ireturn, 1) := by decide +kernel
theorem dX5_cold_0 : decode cX5_cold 0 = .ok (.iload_n 1, 1) := by decide +kernel
theorem dX5_cold_1 : decode cX5_cold 1 = .ok (.invokestatic 164, 3) := by decide +kernel
theorem dX5_cold_4 : decode cX5_cold 4 = .ok (.ifCond .eq 10, 3) := by decide +kernel
theorem dX5_cold_7 : decode cX5_cold 7 = .ok (.iload_n 2, 1) := by decide +kernel
theorem dX5_cold_8 : decode cX5_cold 8 = .ok (.invokestatic 197, 3) := by decide +kernel
theorem dX5_cold_11 : decode cX5_cold 11 = .ok (.ifCond .ne 6, 3) := by decide +kernel
theorem dX5_cold_14 : decode cX5_cold 14 = .ok (.bipush (-2), 2) := by decide +kernel
theorem dX5_cold_16 : decode cX5_cold 16 = .ok (.ireturn, 1) := by decide +kernel
theorem dX5_cold_17 : decode cX5_cold 17 = .ok (.aload_n 0, 1) := by decide +kernel
theorem dX5_cold_18 : decode cX5_cold 18 = .ok (.getfield 96, 3) := by decide +kernel
theorem dX5_cold_21 : decode cX5_cold 21 = .ok (.ifCond .ne 6, 3) := by decide +kernel
theorem dX5_cold_24 : decode cX5_cold 24 = .ok (.bipush (-3), 2) := by decide +kernel
theorem dX5_cold_26 : decode cX5_cold 26 = .ok (.ireturn, 1) := by decide +kernel
theorem dX5_cold_27 : decode cX5_cold 27 = .ok (.aload_n 0, 1) := by decide +kernel
theorem dX5_cold_28 : decode cX5_cold 28 = .ok (.iload_n 1, 1) := by decide +kernel
theorem dX5_cold_29 : decode cX5_cold 29 = .ok (.iload_n 2, 1) := by decide +kernel
theorem dX5_cold_30 : decode cX5_cold 30 = .ok (.invokevirtual 194, 3) := by decide +kernel
theorem dX5_cold_33 : decode cX5_cold 33 = .ok (.aload_n 0, 1) := by decide +kernel
theorem dX5_cold_34 : decode cX5_cold 34 = .ok (.getfield 174, 3) := by decide +kernel
theorem dX5_cold_37 : decode cX5_cold 37 = .ok (.ireturn, 1) := by decide +kernel
theorem dX5_chills_0 : decode cX5_chills 0 = .ok (.aload_n 0, 1) := by decide +kernel
theorem dX5_chills_1 : decode cX5_chills 1 = .ok (.iload_n 1, 1) := by decide +kernel
theorem dX5_chills_2 : decode cX5_chills 2 = .ok (.invokevirtual 158, 3) := by decide +kernel
theorem dX5_chills_5 : decode cX5_chills 5 = .ok (.ifCond .ne 5, 3) := by decide +kernel
theorem dX5_chills_8 : decode cX5_chills 8 = .ok (.iconst (-1), 1) := by decide +kernel
theorem dX5_chills_9 : decode cX5_chills 9 = .ok (.ireturn, 1) := by decide +kernel
theorem dX5_chills_10 : decode cX5_chills 10 = .ok (.iload_n 2, 1) := by decide +kernel
theorem dX5_chills_11 : decode cX5_chills 11 = .ok (.invokestatic 164, 3) := by decide +kernel
theorem dX5_chills_14 : decode cX5_chills 14 = .ok (.ifCond .ne 6, 3) := by decide +kernel
theorem dX5_chills_17 : decode cX5_chills 17 = .ok (.bipush (-2), 2) := by decide +kernel
theorem dX5_chills_19 : decode cX5_chills 19 = .ok (.ireturn, 1) := by decide +kernel
theorem dX5_chills_20 : decode cX5_chills 20 = .ok (.aload_n 0, 1) := by decide +kernel
theorem dX5_chills_21 : decode cX5_chills 21 = .ok (.iload_n 2, 1) := by decide +kernel
theorem dX5_chills_22 : decode cX5_chills 22 = .ok (.invokevirtual 200, 3) := by decide +kernel
theorem dX5_chills_25 : decode cX5_chills 25 = .ok (.aload_n 0, 1) := by decide +kernel
theorem dX5_chills_26 : decode cX5_chills 26 = .ok (.getfield 65, 3) := by decide +kernel
theorem dX5_chills_29 : decode cX5_chills 29 = .ok (.iload_n 1, 1) := by decide +kernel
theorem dX5_chills_30 : decode cX5_chills 30 = .ok (.iaload, 1) := by decide +kernel
theorem dX5_chills_31 : decode cX5_chills 31 = .ok (.ireturn, 1) := by decide +kernel
theorem dX5_allNow_0 : decode cX5_allNow 0 = .ok (.aload_n 0, 1) := by decide +kernel
theorem dX5_allNow_1 : decode cX5_allNow 1 = .ok (.bipush 9, 2) := by decide +kernel
theorem dX5_allNow_3 : decode cX5_allNow 3 = .ok (.invokevirtual 200, 3) := by decide +kernel
theorem dX5_allNow_6 : decode cX5_allNow 6 = .ok (.aload_n 0, 1) := by decide +kernel
theorem dX5_allNow_7 : decode cX5_allNow 7 = .ok (.invokevirtual 203, 3) := by decide +kernel
theorem dX5_allNow_10 : decode cX5_allNow 10 = .ok (.ireturn, 1) := by decide +kernel
theorem dX5_all_0 : decode cX5_all 0 = .ok (.aload_n 0, 1) := by decide +kernel
theorem dX5_all_1 : decode cX5_all 1 = .ok (.getfield 96, 3) := by decide +kernel
theorem dX5_all_4 : decode cX5_all 4 = .ok (.ifCond .ne 8, 3) := by decide +kernel
theorem dX5_all_7 : decode cX5_all 7 = .ok (.bipush (-3), 2) := by decide +kernel
theorem dX5_all_9 : decode cX5_all 9 = .ok (.goto 7, 3) := by decide +kernel
theorem dX5_all_12 : decode cX5_all 12 = .ok (.aload_n 0, 1) := by decide +kernel
theorem dX5_all_13 : decode cX5_all 13 = .ok (.invokevirtual 207, 3) := by decide +kernel
theorem dX5_all_16 : decode cX5_all 16 = .ok (.ireturn, 1) := by decide +kernel
theorem dX5_breaks_0 : decode cX5_breaks 0 = .ok (.aload_n 0, 1) := by decide +kernel
theorem dX5_breaks_1 : decode cX5_breaks 1 = .ok (.iload_n 1, 1) := by decide +kernel
theorem dX5_breaks_2 : decode cX5_breaks 2 = .ok (.invokevirtual 155, 3) := by decide +kernel
theorem dX5_breaks_5 : decode cX5_breaks 5 = .ok (.ifCond .ne 5, 3) := by decide +kernel
theorem dX5_breaks_8 : decode cX5_breaks 8 = .ok (.iconst (-1), 1) := by decide +kernel
theorem dX5_breaks_9 : decode cX5_breaks 9 = .ok (.ireturn, 1) := by decide +kernel
theorem dX5_breaks_10 : decode cX5_breaks 10 = .ok (.aload_n 0, 1) := by decide +kernel
theorem dX5_breaks_11 : decode cX5_breaks 11 = .ok (.bipush 9, 2) := by decide +kernel
theorem dX5_breaks_13 : decode cX5_breaks 13 = .ok (.invokevirtual 200, 3) := by decide +kernel
theorem dX5_breaks_16 : decode cX5_breaks 16 = .ok (.aload_n 0, 1) := by decide +kernel
theorem dX5_breaks_17 : decode cX5_breaks 17 = .ok (.getfield 68, 3) := by decide +kernel
theorem dX5_breaks_20 : decode cX5_breaks 20 = .ok (.iload_n 1, 1) := by decide +kernel
theorem dX5_breaks_21 : decode cX5_breaks 21 = .ok (.iaload, 1) := by decide +kernel
theorem dX5_breaks_22 : decode cX5_breaks 22 = .ok (.ireturn, 1) := by decide +kernel
theorem dX5_best_0 : decode cX5_best 0 = .ok (.iload_n 1, 1) := by decide +kernel
theorem dX5_best_1 : decode cX5_best 1 = .ok (.iconst 0, 1) := by decide +kernel
theorem dX5_best_2 : decode cX5_best 2 = .ok (.iconst 1, 1) := by decide +kernel
theorem dX5_best_3 : decode cX5_best 3 = .ok (.invokestatic 89, 3) := by decide +kernel
theorem dX5_best_6 : decode cX5_best 6 = .ok (.ifCond .ne 6, 3) := by decide +kernel
theorem dX5_best_9 : decode cX5_best 9 = .ok (.bipush (-2), 2) := by decide +kernel
theorem dX5_best_11 : decode cX5_best 11 = .ok (.ireturn, 1) := by decide +kernel
theorem dX5_best_12 : decode cX5_best 12 = .ok (.aload_n 0, 1) := by decide +kernel
theorem dX5_best_13 : decode cX5_best 13 = .ok (.getfield 96, 3) := by decide +kernel
theorem dX5_best_16 : decode cX5_best 16 = .ok (.ifCond .ne 6, 3) := by decide +kernel
theorem dX5_best_19 : decode cX5_best 19 = .ok (.bipush (-3), 2) := by decide +kernel
theorem dX5_best_21 : decode cX5_best 21 = .ok (.ireturn, 1) := by decide +kernel
theorem dX5_best_22 : decode cX5_best 22 = .ok (.aload_n 0, 1) := by decide +kernel
theorem dX5_best_23 : decode cX5_best 23 = .ok (.getfield 123, 3) := by decide +kernel
theorem dX5_best_26 : decode cX5_best 26 = .ok (.istore_n 2, 1) := by decide +kernel
theorem dX5_best_27 : decode cX5_best 27 = .ok (.bipush (-9), 2) := by decide +kernel
theorem dX5_best_29 : decode cX5_best 29 = .ok (.istore_n 3, 1) := by decide +kernel
theorem dX5_best_30 : decode cX5_best 30 = .ok (.iconst 0, 1) := by decide +kernel
theorem dX5_best_31 : decode cX5_best 31 = .ok (.istore 4, 2) := by decide +kernel
theorem dX5_best_33 : decode cX5_best 33 = .ok (.iconst 1, 1) := by decide +kernel
theorem dX5_best_34 : decode cX5_best 34 = .ok (.istore 5, 2) := by decide +kernel
theorem dX5_best_36 : decode cX5_best 36 = .ok (.iload 5, 2) := by decide +kernel
theorem dX5_best_38 : decode cX5_best 38 = .ok (.bipush 13, 2) := by decide +kernel
theorem dX5_best_40 : decode cX5_best 40 = .ok (.if_icmp .gt 41, 3) := by decide +kernel
theorem dX5_best_43 : decode cX5_best 43 = .ok (.aload_n 0, 1) := by decide +kernel
theorem dX5_best_44 : decode cX5_best 44 = .ok (.iload 5, 2) := by decide +kernel
theorem dX5_best_46 : decode cX5_best 46 = .ok (.putfield 123, 3) := by decide +kernel
theorem dX5_best_49 : decode cX5_best 49 = .ok (.aload_n 0, 1) := by decide +kernel
theorem dX5_best_50 : decode cX5_best 50 = .ok (.invokevirtual 207, 3) := by decide +kernel
theorem dX5_best_53 : decode cX5_best 53 = .ok (.istore 6, 2) := by decide +kernel
theorem dX5_best_55 : decode cX5_best 55 = .ok (.iload_n 3, 1) := by decide +kernel
theorem dX5_best_56 : decode cX5_best 56 = .ok (.bipush (-9), 2) := by decide +kernel
theorem dX5_best_58 : decode cX5_best 58 = .ok (.if_icmp .eq 10, 3) := by decide +kernel
theorem dX5_best_61 : decode cX5_best 61 = .ok (.iload 6, 2) := by decide +kernel
theorem dX5_best_63 : decode cX5_best 63 = .ok (.iload 4, 2) := by decide +kernel
theorem dX5_best_65 : decode cX5_best 65 = .ok (.if_icmp .ge 10, 3) := by decide +kernel
theorem dX5_best_68 : decode cX5_best 68 = .ok (.iload 5, 2) := by decide +kernel
theorem dX5_best_70 : decode cX5_best 70 = .ok (.istore_n 3, 1) := by decide +kernel
theorem dX5_best_71 : decode cX5_best 71 = .ok (.iload 6, 2) := by decide +kernel
theorem dX5_best_73 : decode cX5_best 73 = .ok (.istore 4, 2) := by decide +kernel
theorem dX5_best_75 : decode cX5_best 75 = .ok (.iinc 5 1, 3) := by decide +kernel
theorem dX5_best_78 : decode cX5_best 78 = .ok (.goto (-42), 3) := by decide +kernel
theorem dX5_best_81 : decode cX5_best 81 = .ok (.aload_n 0, 1) := by decide +kernel
theorem dX5_best_82 : decode cX5_best 82 = .ok (.iload_n 2, 1) := by decide +kernel
theorem dX5_best_83 : decode cX5_best 83 = .ok (.putfield 123, 3) := by decide +kernel
theorem dX5_best_86 : decode cX5_best 86 = .ok (.iload_n 1, 1) := by decide +kernel
theorem dX5_best_87 : decode cX5_best 87 = .ok (.ifCond .ne 7, 3) := by decide +kernel
theorem dX5_best_90 : decode cX5_best 90 = .ok (.iload_n 3, 1) := by decide +kernel
theorem dX5_best_91 : decode cX5_best 91 = .ok (.goto 5, 3) := by decide +kernel
theorem dX5_best_94 : decode cX5_best 94 = .ok (.iload 4, 2) := by decide +kernel
theorem dX5_best_96 : decode cX5_best 96 = .ok (.ireturn, 1) := by decide +kernel
end
section
theorem dX5_blame_0 : decode cX5_blame 0 = .ok (.aload_n 0, 1) := by decide +kernel
theorem dX5_blame_1 : decode cX5_blame 1 = .ok (.iload_n 1, 1) := by decide +kernel
theorem dX5_blame_2 : decode cX5_blame 2 = .ok (.invokevirtual 158, 3) := by decide +kernel
theorem dX5_blame_5 : decode cX5_blame 5 = .ok (.ifCond .ne 5, 3) := by decide +kernel
theorem dX5_blame_8 : decode cX5_blame 8 = .ok (.iconst (-1), 1) := by decide +kernel
theorem dX5_blame_9 : decode cX5_blame 9 = .ok (.ireturn, 1) := by decide +kernel
theorem dX5_blame_10 : decode cX5_blame 10 = .ok (.aload_n 0, 1) := by decide +kernel
theorem dX5_blame_11 : decode cX5_blame 11 = .ok (.invokevirtual 207, 3) := by decide +kernel
theorem dX5_blame_14 : decode cX5_blame 14 = .ok (.aload_n 0, 1) := by decide +kernel
theorem dX5_blame_15 : decode cX5_blame 15 = .ok (.getfield 65, 3) := by decide +kernel
theorem dX5_blame_18 : decode cX5_blame 18 = .ok (.iload_n 1, 1) := by decide +kernel
theorem dX5_blame_19 : decode cX5_blame 19 = .ok (.iaload, 1) := by decide +kernel
theorem dX5_blame_20 : decode cX5_blame 20 = .ok (.isub, 1) := by decide +kernel
theorem dX5_blame_21 : decode cX5_blame 21 = .ok (.istore_n 2, 1) := by decide +kernel
theorem dX5_blame_22 : decode cX5_blame 22 = .ok (.aload_n 0, 1) := by decide +kernel
theorem dX5_blame_23 : decode cX5_blame 23 = .ok (.getfield 40, 3) := by decide +kernel
theorem dX5_blame_26 : decode cX5_blame 26 = .ok (.iload_n 1, 1) := by decide +kernel
theorem dX5_blame_27 : decode cX5_blame 27 = .ok (.baload, 1) := by decide +kernel
theorem dX5_blame_28 : decode cX5_blame 28 = .ok (.istore_n 3, 1) := by decide +kernel
theorem dX5_blame_29 : decode cX5_blame 29 = .ok (.aload_n 0, 1) := by decide +kernel
theorem dX5_blame_30 : decode cX5_blame 30 = .ok (.getfield 40, 3) := by decide +kernel
theorem dX5_blame_33 : decode cX5_blame 33 = .ok (.iload_n 1, 1) := by decide +kernel
theorem dX5_blame_34 : decode cX5_blame 34 = .ok (.iconst 1, 1) := by decide +kernel
theorem dX5_blame_35 : decode cX5_blame 35 = .ok (.bastore, 1) := by decide +kernel
theorem dX5_blame_36 : decode cX5_blame 36 = .ok (.aload_n 0, 1) := by decide +kernel
theorem dX5_blame_37 : decode cX5_blame 37 = .ok (.invokevirtual 207, 3) := by decide +kernel
theorem dX5_blame_40 : decode cX5_blame 40 = .ok (.aload_n 0, 1) := by decide +kernel
theorem dX5_blame_41 : decode cX5_blame 41 = .ok (.getfield 65, 3) := by decide +kernel
theorem dX5_blame_44 : decode cX5_blame 44 = .ok (.iload_n 1, 1) := by decide +kernel
theorem dX5_blame_45 : decode cX5_blame 45 = .ok (.iaload, 1) := by decide +kernel
theorem dX5_blame_46 : decode cX5_blame 46 = .ok (.isub, 1) := by decide +kernel
theorem dX5_blame_47 : decode cX5_blame 47 = .ok (.istore 4, 2) := by decide +kernel
theorem dX5_blame_49 : decode cX5_blame 49 = .ok (.aload_n 0, 1) := by decide +kernel
theorem dX5_blame_50 : decode cX5_blame 50 = .ok (.getfield 40, 3) := by decide +kernel
theorem dX5_blame_53 : decode cX5_blame 53 = .ok (.iload_n 1, 1) := by decide +kernel
theorem dX5_blame_54 : decode cX5_blame 54 = .ok (.iload_n 3, 1) := by decide +kernel
theorem dX5_blame_55 : decode cX5_blame 55 = .ok (.bastore, 1) := by decide +kernel
theorem dX5_blame_56 : decode cX5_blame 56 = .ok (.iload_n 2, 1) := by decide +kernel
theorem dX5_blame_57 : decode cX5_blame 57 = .ok (.iload 4, 2) := by decide +kernel
theorem dX5_blame_59 : decode cX5_blame 59 = .ok (.isub, 1) := by decide +kernel
theorem dX5_blame_60 : decode cX5_blame 60 = .ok (.sipush 1000, 3) := by decide +kernel
theorem dX5_blame_63 : decode cX5_blame 63 = .ok (.iadd, 1) := by decide +kernel
theorem dX5_blame_64 : decode cX5_blame 64 = .ok (.ireturn, 1) := by decide +kernel
theorem dX5_size_0 : decode cX5_size 0 = .ok (.iconst 0, 1) := by decide +kernel
theorem dX5_size_1 : decode cX5_size 1 = .ok (.istore_n 1, 1) := by decide +kernel
theorem dX5_size_2 : decode cX5_size 2 = .ok (.iload_n 0, 1) := by decide +kernel
theorem dX5_size_3 : decode cX5_size 3 = .ok (.istore_n 2, 1) := by decide +kernel
theorem dX5_size_4 : decode cX5_size 4 = .ok (.iload_n 2, 1) := by decide +kernel
theorem dX5_size_5 : decode cX5_size 5 = .ok (.ifCond .le 16, 3) := by decide +kernel
theorem dX5_size_8 : decode cX5_size 8 = .ok (.iload_n 1, 1) := by decide +kernel
theorem dX5_size_9 : decode cX5_size 9 = .ok (.iload_n 2, 1) := by decide +kernel
theorem dX5_size_10 : decode cX5_size 10 = .ok (.iconst 1, 1) := by decide +kernel
theorem dX5_size_11 : decode cX5_size 11 = .ok (.iand, 1) := by decide +kernel
theorem dX5_size_12 : decode cX5_size 12 = .ok (.iadd, 1) := by decide +kernel
theorem dX5_size_13 : decode cX5_size 13 = .ok (.istore_n 1, 1) := by decide +kernel
theorem dX5_size_14 : decode cX5_size 14 = .ok (.iload_n 2, 1) := by decide +kernel
theorem dX5_size_15 : decode cX5_size 15 = .ok (.iconst 1, 1) := by decide +kernel
theorem dX5_size_16 : decode cX5_size 16 = .ok (.ishr, 1) := by decide +kernel
theorem dX5_size_17 : decode cX5_size 17 = .ok (.istore_n 2, 1) := by decide +kernel
theorem dX5_size_18 : decode cX5_size 18 = .ok (.goto (-14), 3) := by decide +kernel
theorem dX5_size_21 : decode cX5_size 21 = .ok (.iload_n 1, 1) := by decide +kernel
theorem dX5_size_22 : decode cX5_size 22 = .ok (.ireturn, 1) := by decide +kernel
theorem dX5_awayNow_0 : decode cX5_awayNow 0 = .ok (.iconst 0, 1) := by decide +kernel
theorem dX5_awayNow_1 : decode cX5_awayNow 1 = .ok (.istore_n 1, 1) := by decide +kernel
theorem dX5_awayNow_2 : decode cX5_awayNow 2 = .ok (.iconst 0, 1) := by decide +kernel
theorem dX5_awayNow_3 : decode cX5_awayNow 3 = .ok (.istore_n 2, 1) := by decide +kernel
theorem dX5_awayNow_4 : decode cX5_awayNow 4 = .ok (.iload_n 2, 1) := by decide +kernel
theorem dX5_awayNow_5 : decode cX5_awayNow 5 = .ok (.aload_n 0, 1) := by decide +kernel
theorem dX5_awayNow_6 : decode cX5_awayNow 6 = .ok (.getfield 96, 3) := by decide +kernel
theorem dX5_awayNow_9 : decode cX5_awayNow 9 = .ok (.if_icmp .ge 28, 3) := by decide +kernel
theorem dX5_awayNow_12 : decode cX5_awayNow 12 = .ok (.iload_n 1, 1) := by decide +kernel
theorem dX5_awayNow_13 : decode cX5_awayNow 13 = .ok (.aload_n 0, 1) := by decide +kernel
theorem dX5_awayNow_14 : decode cX5_awayNow 14 = .ok (.getfield 40, 3) := by decide +kernel
theorem dX5_awayNow_17 : decode cX5_awayNow 17 = .ok (.iload_n 2, 1) := by decide +kernel
theorem dX5_awayNow_18 : decode cX5_awayNow 18 = .ok (.baload, 1) := by decide +kernel
theorem dX5_awayNow_19 : decode cX5_awayNow 19 = .ok (.ifCond .eq 9, 3) := by decide +kernel
theorem dX5_awayNow_22 : decode cX5_awayNow 22 = .ok (.iconst 1, 1) := by decide +kernel
theorem dX5_awayNow_23 : decode cX5_awayNow 23 = .ok (.iload_n 2, 1) := by decide +kernel
theorem dX5_awayNow_24 : decode cX5_awayNow 24 = .ok (.ishl, 1) := by decide +kernel
theorem dX5_awayNow_25 : decode cX5_awayNow 25 = .ok (.goto 4, 3) := by decide +kernel
theorem dX5_awayNow_28 : decode cX5_awayNow 28 = .ok (.iconst 0, 1) := by decide +kernel
theorem dX5_awayNow_29 : decode cX5_awayNow 29 = .ok (.ior, 1) := by decide +kernel
theorem dX5_awayNow_30 : decode cX5_awayNow 30 = .ok (.istore_n 1, 1) := by decide +kernel
theorem dX5_awayNow_31 : decode cX5_awayNow 31 = .ok (.iinc 2 1, 3) := by decide +kernel
theorem dX5_awayNow_34 : decode cX5_awayNow 34 = .ok (.goto (-30), 3) := by decide +kernel
theorem dX5_awayNow_37 : decode cX5_awayNow 37 = .ok (.iload_n 1, 1) := by decide +kernel
theorem dX5_awayNow_38 : decode cX5_awayNow 38 = .ok (.ireturn, 1) := by decide +kernel
theorem dX5_layAway_0 : decode cX5_layAway 0 = .ok (.iconst 0, 1) := by decide +kernel
theorem dX5_layAway_1 : decode cX5_layAway 1 = .ok (.istore_n 2, 1) := by decide +kernel
theorem dX5_layAway_2 : decode cX5_layAway 2 = .ok (.iload_n 2, 1) := by decide +kernel
theorem dX5_layAway_3 : decode cX5_layAway 3 = .ok (.aload_n 0, 1) := by decide +kernel
theorem dX5_layAway_4 : decode cX5_layAway 4 = .ok (.getfield 96, 3) := by decide +kernel
theorem dX5_layAway_7 : decode cX5_layAway 7 = .ok (.if_icmp .ge 29, 3) := by decide +kernel
theorem dX5_layAway_10 : decode cX5_layAway 10 = .ok (.aload_n 0, 1) := by decide +kernel
theorem dX5_layAway_11 : decode cX5_layAway 11 = .ok (.getfield 40, 3) := by decide +kernel
theorem dX5_layAway_14 : decode cX5_layAway 14 = .ok (.iload_n 2, 1) := by decide +kernel
theorem dX5_layAway_15 : decode cX5_layAway 15 = .ok (.iload_n 1, 1) := by decide +kernel
theorem dX5_layAway_16 : decode cX5_layAway 16 = .ok (.iload_n 2, 1) := by decide +kernel
theorem dX5_layAway_17 : decode cX5_layAway 17 = .ok (.ishr, 1) := by decide +kernel
theorem dX5_layAway_18 : decode cX5_layAway 18 = .ok (.iconst 1, 1) := by decide +kernel
theorem dX5_layAway_19 : decode cX5_layAway 19 = .ok (.iand, 1) := by decide +kernel
theorem dX5_layAway_20 : decode cX5_layAway 20 = .ok (.iconst 1, 1) := by decide +kernel
theorem dX5_layAway_21 : decode cX5_layAway 21 = .ok (.if_icmp .ne 7, 3) := by decide +kernel
theorem dX5_layAway_24 : decode cX5_layAway 24 = .ok (.iconst 1, 1) := by decide +kernel
theorem dX5_layAway_25 : decode cX5_layAway 25 = .ok (.goto 4, 3) := by decide +kernel
theorem dX5_layAway_28 : decode cX5_layAway 28 = .ok (.iconst 0, 1) := by decide +kernel
theorem dX5_layAway_29 : decode cX5_layAway 29 = .ok (.bastore, 1) := by decide +kernel
theorem dX5_layAway_30 : decode cX5_layAway 30 = .ok (.iinc 2 1, 3) := by decide +kernel
theorem dX5_layAway_33 : decode cX5_layAway 33 = .ok (.goto (-31), 3) := by decide +kernel
theorem dX5_layAway_36 : decode cX5_layAway 36 = .ok (.return_, 1) := by decide +kernel
theorem dX5_warm_0 : decode cX5_warm 0 = .ok (.aload_n 0, 1) := by decide +kernel
theorem dX5_warm_1 : decode cX5_warm 1 = .ok (.iload_n 1, 1) := by decide +kernel
theorem dX5_warm_2 : decode cX5_warm 2 = .ok (.invokevirtual 158, 3) := by decide +kernel
theorem dX5_warm_5 : decode cX5_warm 5 = .ok (.ifCond .ne 5, 3) := by decide +kernel
theorem dX5_warm_8 : decode cX5_warm 8 = .ok (.iconst (-1), 1) := by decide +kernel
theorem dX5_warm_9 : decode cX5_warm 9 = .ok (.ireturn, 1) := by decide +kernel
theorem dX5_warm_10 : decode cX5_warm 10 = .ok (.aload_n 0, 1) := by decide +kernel
theorem dX5_warm_11 : decode cX5_warm 11 = .ok (.invokevirtual 210, 3) := by decide +kernel
theorem dX5_warm_14 : decode cX5_warm 14 = .ok (.istore_n 2, 1) := by decide +kernel
theorem dX5_warm_15 : decode cX5_warm 15 = .ok (.bipush (-9), 2) := by decide +kernel
theorem dX5_warm_17 : decode cX5_warm 17 = .ok (.istore_n 3, 1) := by decide +kernel
theorem dX5_warm_18 : decode cX5_warm 18 = .ok (.iconst 0, 1) := by decide +kernel
theorem dX5_warm_19 : decode cX5_warm 19 = .ok (.istore 4, 2) := by decide +kernel
theorem dX5_warm_21 : decode cX5_warm 21 = .ok (.iload 4, 2) := by decide +kernel
theorem dX5_warm_23 : decode cX5_warm 23 = .ok (.iconst 1, 1) := by decide +kernel
theorem dX5_warm_24 : decode cX5_warm 24 = .ok (.aload_n 0, 1) := by decide +kernel
theorem dX5_warm_25 : decode cX5_warm 25 = .ok (.getfield 96, 3) := by decide +kernel
theorem dX5_warm_28 : decode cX5_warm 28 = .ok (.ishl, 1) := by decide +kernel
theorem dX5_warm_29 : decode cX5_warm 29 = .ok (.if_icmp .ge 68, 3) := by decide +kernel
theorem dX5_warm_32 : decode cX5_warm 32 = .ok (.iload 4, 2) := by decide +kernel
theorem dX5_warm_34 : decode cX5_warm 34 = .ok (.iload_n 2, 1) := by decide +kernel
theorem dX5_warm_35 : decode cX5_warm 35 = .ok (.iconst 1, 1) := by decide +kernel
theorem dX5_warm_36 : decode cX5_warm 36 = .ok (.iload_n 1, 1) := by decide +kernel
theorem dX5_warm_37 : decode cX5_warm 37 = .ok (.ishl, 1) := by decide +kernel
theorem dX5_warm_38 : decode cX5_warm 38 = .ok (.ior, 1) := by decide +kernel
theorem dX5_warm_39 : decode cX5_warm 39 = .ok (.iand, 1) := by decide +kernel
theorem dX5_warm_40 : decode cX5_warm 40 = .ok (.ifCond .ne 51, 3) := by decide +kernel
theorem dX5_warm_43 : decode cX5_warm 43 = .ok (.iload_n 3, 1) := by decide +kernel
theorem dX5_warm_44 : decode cX5_warm 44 = .ok (.bipush (-9), 2) := by decide +kernel
theorem dX5_warm_46 : decode cX5_warm 46 = .ok (.if_icmp .eq 15, 3) := by decide +kernel
theorem dX5_warm_49 : decode cX5_warm 49 = .ok (.iload 4, 2) := by decide +kernel
theorem dX5_warm_51 : decode cX5_warm 51 = .ok (.invokestatic 213, 3) := by decide +kernel
theorem dX5_warm_54 : decode cX5_warm 54 = .ok (.iload_n 3, 1) := by decide +kernel
theorem dX5_warm_55 : decode cX5_warm 55 = .ok (.invokestatic 213, 3) := by decide +kernel
theorem dX5_warm_58 : decode cX5_warm 58 = .ok (.if_icmp .ge 33, 3) := by decide +kernel
theorem dX5_warm_61 : decode cX5_warm 61 = .ok (.aload_n 0, 1) := by decide +kernel
theorem dX5_warm_62 : decode cX5_warm 62 = .ok (.iload_n 2, 1) := by decide +kernel
theorem dX5_warm_63 : decode cX5_warm 63 = .ok (.iload 4, 2) := by decide +kernel
theorem dX5_warm_65 : decode cX5_warm 65 = .ok (.ior, 1) := by decide +kernel
theorem dX5_warm_66 : decode cX5_warm 66 = .ok (.invokevirtual 216, 3) := by decide +kernel
theorem dX5_warm_69 : decode cX5_warm 69 = .ok (.aload_n 0, 1) := by decide +kernel
theorem dX5_warm_70 : decode cX5_warm 70 = .ok (.bipush 9, 2) := by decide +kernel
theorem dX5_warm_72 : decode cX5_warm 72 = .ok (.invokevirtual 200, 3) := by decide +kernel
theorem dX5_warm_75 : decode cX5_warm 75 = .ok (.aload_n 0, 1) := by decide +kernel
theorem dX5_warm_76 : decode cX5_warm 76 = .ok (.getfield 65, 3) := by decide +kernel
theorem dX5_warm_79 : decode cX5_warm 79 = .ok (.iload_n 1, 1) := by decide +kernel
theorem dX5_warm_80 : decode cX5_warm 80 = .ok (.iaload, 1) := by decide +kernel
theorem dX5_warm_81 : decode cX5_warm 81 = .ok (.ifCond .ne 8, 3) := by decide +kernel
theorem dX5_warm_84 : decode cX5_warm 84 = .ok (.iload 4, 2) := by decide +kernel
theorem dX5_warm_86 : decode cX5_warm 86 = .ok (.goto 4, 3) := by decide +kernel
theorem dX5_warm_89 : decode cX5_warm 89 = .ok (.iload_n 3, 1) := by decide +kernel
theorem dX5_warm_90 : decode cX5_warm 90 = .ok (.istore_n 3, 1) := by decide +kernel
theorem dX5_warm_91 : decode cX5_warm 91 = .ok (.iinc 4 1, 3) := by decide +kernel
theorem dX5_warm_94 : decode cX5_warm 94 = .ok (.goto (-73), 3) := by decide +kernel
theorem dX5_warm_97 : decode cX5_warm 97 = .ok (.aload_n 0, 1) := by decide +kernel
theorem dX5_warm_98 : decode cX5_warm 98 = .ok (.iload_n 2, 1) := by decide +kernel
theorem dX5_warm_99 : decode cX5_warm 99 = .ok (.invokevirtual 216, 3) := by decide +kernel
theorem dX5_warm_102 : decode cX5_warm 102 = .ok (.iload_n 3, 1) := by decide +kernel
theorem dX5_warm_103 : decode cX5_warm 103 = .ok (.ireturn, 1) := by decide +kernel
theorem dX5_isWarmIn_0 : decode cX5_isWarmIn 0 = .ok (.aload_n 0, 1) := by decide +kernel
theorem dX5_isWarmIn_1 : decode cX5_isWarmIn 1 = .ok (.iconst 0, 1) := by decide +kernel
theorem dX5_isWarmIn_2 : decode cX5_isWarmIn 2 = .ok (.invokevirtual 200, 3) := by decide +kernel
theorem dX5_isWarmIn_5 : decode cX5_isWarmIn 5 = .ok (.iconst 0, 1) := by decide +kernel
theorem dX5_isWarmIn_6 : decode cX5_isWarmIn 6 = .ok (.istore_n 2, 1) := by decide +kernel
theorem dX5_isWarmIn_7 : decode cX5_isWarmIn 7 = .ok (.iload_n 2, 1) := by decide +kernel
theorem dX5_isWarmIn_8 : decode cX5_isWarmIn 8 = .ok (.aload_n 0, 1) := by decide +kernel
theorem dX5_isWarmIn_9 : decode cX5_isWarmIn 9 = .ok (.getfield 96, 3) := by decide +kernel
theorem dX5_isWarmIn_12 : decode cX5_isWarmIn 12 = .ok (.if_icmp .ge 30, 3) := by decide +kernel
theorem dX5_isWarmIn_15 : decode cX5_isWarmIn 15 = .ok (.aload_n 0, 1) := by decide +kernel
theorem dX5_isWarmIn_16 : decode cX5_isWarmIn 16 = .ok (.getfield 31, 3) := by decide +kernel
theorem dX5_isWarmIn_19 : decode cX5_isWarmIn 19 = .ok (.iload_n 2, 1) := by decide +kernel
theorem dX5_isWarmIn_20 : decode cX5_isWarmIn 20 = .ok (.iaload, 1) := by decide +kernel
theorem dX5_isWarmIn_21 : decode cX5_isWarmIn 21 = .ok (.iload_n 1, 1) := by decide +kernel
theorem dX5_isWarmIn_22 : decode cX5_isWarmIn 22 = .ok (.if_icmp .ne 14, 3) := by decide +kernel
theorem dX5_isWarmIn_25 : decode cX5_isWarmIn 25 = .ok (.aload_n 0, 1) := by decide +kernel
theorem dX5_isWarmIn_26 : decode cX5_isWarmIn 26 = .ok (.getfield 65, 3) := by decide +kernel
theorem dX5_isWarmIn_29 : decode cX5_isWarmIn 29 = .ok (.iload_n 2, 1) := by decide +kernel
theorem dX5_isWarmIn_30 : decode cX5_isWarmIn 30 = .ok (.iaload, 1) := by decide +kernel
theorem dX5_isWarmIn_31 : decode cX5_isWarmIn 31 = .ok (.ifCond .le 5, 3) := by decide +kernel
theorem dX5_isWarmIn_34 : decode cX5_isWarmIn 34 = .ok (.iconst 0, 1) := by decide +kernel
theorem dX5_isWarmIn_35 : decode cX5_isWarmIn 35 = .ok (.ireturn, 1) := by decide +kernel
theorem dX5_isWarmIn_36 : decode cX5_isWarmIn 36 = .ok (.iinc 2 1, 3) := by decide +kernel
theorem dX5_isWarmIn_39 : decode cX5_isWarmIn 39 = .ok (.goto (-32), 3) := by decide +kernel
theorem dX5_isWarmIn_42 : decode cX5_isWarmIn 42 = .ok (.iconst 1, 1) := by decide +kernel
theorem dX5_isWarmIn_43 : decode cX5_isWarmIn 43 = .ok (.ireturn, 1) := by decide +kernel
theorem dX5_logs_0 : decode cX5_logs 0 = .ok (.aload_n 0, 1) := by decide +kernel
theorem dX5_logs_1 : decode cX5_logs 1 = .ok (.iload_n 1, 1) := by decide +kernel
theorem dX5_logs_2 : decode cX5_logs 2 = .ok (.invokevirtual 155, 3) := by decide +kernel
theorem dX5_logs_5 : decode cX5_logs 5 = .ok (.ifCond .ne 5, 3) := by decide +kernel
theorem dX5_logs_8 : decode cX5_logs 8 = .ok (.iconst (-1), 1) := by decide +kernel
theorem dX5_logs_9 : decode cX5_logs 9 = .ok (.ireturn, 1) := by decide +kernel
theorem dX5_logs_10 : decode cX5_logs 10 = .ok (.aload_n 0, 1) := by decide +kernel
theorem dX5_logs_11 : decode cX5_logs 11 = .ok (.dup, 1) := by decide +kernel
theorem dX5_logs_12 : decode cX5_logs 12 = .ok (.getfield 132, 3) := by decide +kernel
theorem dX5_logs_15 : decode cX5_logs 15 = .ok (.iconst 1, 1) := by decide +kernel
theorem dX5_logs_16 : decode cX5_logs 16 = .ok (.iadd, 1) := by decide +kernel
theorem dX5_logs_17 : decode cX5_logs 17 = .ok (.putfield 132, 3) := by decide +kernel
theorem dX5_logs_20 : decode cX5_logs 20 = .ok (.bipush (-9), 2) := by decide +kernel
theorem dX5_logs_22 : decode cX5_logs 22 = .ok (.istore_n 2, 1) := by decide +kernel
theorem dX5_logs_23 : decode cX5_logs 23 = .ok (.iconst 0, 1) := by decide +kernel
theorem dX5_logs_24 : decode cX5_logs 24 = .ok (.istore_n 3, 1) := by decide +kernel
theorem dX5_logs_25 : decode cX5_logs 25 = .ok (.iload_n 3, 1) := by decide +kernel
theorem dX5_logs_26 : decode cX5_logs 26 = .ok (.bipush 99, 2) := by decide +kernel
theorem dX5_logs_28 : decode cX5_logs 28 = .ok (.if_icmp .gt 43, 3) := by decide +kernel
theorem dX5_logs_31 : decode cX5_logs 31 = .ok (.iload_n 2, 1) := by decide +kernel
theorem dX5_logs_32 : decode cX5_logs 32 = .ok (.bipush (-9), 2) := by decide +kernel
theorem dX5_logs_34 : decode cX5_logs 34 = .ok (.if_icmp .ne 37, 3) := by decide +kernel
theorem dX5_logs_37 : decode cX5_logs 37 = .ok (.aload_n 0, 1) := by decide +kernel
theorem dX5_logs_38 : decode cX5_logs 38 = .ok (.aload_n 0, 1) := by decide +kernel
theorem dX5_logs_39 : decode cX5_logs 39 = .ok (.getfield 132, 3) := by decide +kernel
theorem dX5_logs_42 : decode cX5_logs 42 = .ok (.iconst 1, 1) := by decide +kernel
theorem dX5_logs_43 : decode cX5_logs 43 = .ok (.isub, 1) := by decide +kernel
theorem dX5_logs_44 : decode cX5_logs 44 = .ok (.iload_n 1, 1) := by decide +kernel
theorem dX5_logs_45 : decode cX5_logs 45 = .ok (.iconst 0, 1) := by decide +kernel
theorem dX5_logs_46 : decode cX5_logs 46 = .ok (.iload_n 3, 1) := by decide +kernel
theorem dX5_logs_47 : decode cX5_logs 47 = .ok (.invokevirtual 167, 3) := by decide +kernel
theorem dX5_logs_50 : decode cX5_logs 50 = .ok (.aload_n 0, 1) := by decide +kernel
theorem dX5_logs_51 : decode cX5_logs 51 = .ok (.iload_n 1, 1) := by decide +kernel
theorem dX5_logs_52 : decode cX5_logs 52 = .ok (.invokevirtual 219, 3) := by decide +kernel
theorem dX5_logs_55 : decode cX5_logs 55 = .ok (.ifCond .eq 7, 3) := by decide +kernel
theorem dX5_logs_58 : decode cX5_logs 58 = .ok (.iload_n 3, 1) := by decide +kernel
theorem dX5_logs_59 : decode cX5_logs 59 = .ok (.goto 5, 3) := by decide +kernel
theorem dX5_logs_62 : decode cX5_logs 62 = .ok (.bipush (-9), 2) := by decide +kernel
theorem dX5_logs_64 : decode cX5_logs 64 = .ok (.istore_n 2, 1) := by decide +kernel
theorem dX5_logs_65 : decode cX5_logs 65 = .ok (.iinc 3 1, 3) := by decide +kernel
theorem dX5_logs_68 : decode cX5_logs 68 = .ok (.goto (-43), 3) := by decide +kernel
theorem dX5_logs_71 : decode cX5_logs 71 = .ok (.aload_n 0, 1) := by decide +kernel
theorem dX5_logs_72 : decode cX5_logs 72 = .ok (.dup, 1) := by decide +kernel
theorem dX5_logs_73 : decode cX5_logs 73 = .ok (.getfield 132, 3) := by decide +kernel
theorem dX5_logs_76 : decode cX5_logs 76 = .ok (.iconst 1, 1) := by decide +kernel
theorem dX5_logs_77 : decode cX5_logs 77 = .ok (.isub, 1) := by decide +kernel
theorem dX5_logs_78 : decode cX5_logs 78 = .ok (.putfield 132, 3) := by decide +kernel
theorem dX5_logs_81 : decode cX5_logs 81 = .ok (.iload_n 2, 1) := by decide +kernel
theorem dX5_logs_82 : decode cX5_logs 82 = .ok (.ireturn, 1) := by decide +kernel
theorem dX5_allWear_0 : decode cX5_allWear 0 = .ok (.aload_n 0, 1) := by decide +kernel
theorem dX5_allWear_1 : decode cX5_allWear 1 = .ok (.iload_n 1, 1) := by decide +kernel
theorem dX5_allWear_2 : decode cX5_allWear 2 = .ok (.invokevirtual 200, 3) := by decide +kernel
theorem dX5_allWear_5 : decode cX5_allWear 5 = .ok (.iconst 0, 1) := by decide +kernel
theorem dX5_allWear_6 : decode cX5_allWear 6 = .ok (.istore_n 2, 1) := by decide +kernel
theorem dX5_allWear_7 : decode cX5_allWear 7 = .ok (.iconst 0, 1) := by decide +kernel
theorem dX5_allWear_8 : decode cX5_allWear 8 = .ok (.istore_n 3, 1) := by decide +kernel
theorem dX5_allWear_9 : decode cX5_allWear 9 = .ok (.iload_n 3, 1) := by decide +kernel
theorem dX5_allWear_10 : decode cX5_allWear 10 = .ok (.aload_n 0, 1) := by decide +kernel
theorem dX5_allWear_11 : decode cX5_allWear 11 = .ok (.getfield 93, 3) := by decide +kernel
theorem dX5_allWear_14 : decode cX5_allWear 14 = .ok (.if_icmp .ge 18, 3) := by decide +kernel
theorem dX5_allWear_17 : decode cX5_allWear 17 = .ok (.iload_n 2, 1) := by decide +kernel
theorem dX5_allWear_18 : decode cX5_allWear 18 = .ok (.aload_n 0, 1) := by decide +kernel
theorem dX5_allWear_19 : decode cX5_allWear 19 = .ok (.getfield 62, 3) := by decide +kernel
theorem dX5_allWear_22 : decode cX5_allWear 22 = .ok (.iload_n 3, 1) := by decide +kernel
theorem dX5_allWear_23 : decode cX5_allWear 23 = .ok (.iaload, 1) := by decide +kernel
theorem dX5_allWear_24 : decode cX5_allWear 24 = .ok (.iadd, 1) := by decide +kernel
theorem dX5_allWear_25 : decode cX5_allWear 25 = .ok (.istore_n 2, 1) := by decide +kernel
theorem dX5_allWear_26 : decode cX5_allWear 26 = .ok (.iinc 3 1, 3) := by decide +kernel
theorem dX5_allWear_29 : decode cX5_allWear 29 = .ok (.goto (-20), 3) := by decide +kernel
theorem dX5_allWear_32 : decode cX5_allWear 32 = .ok (.iload_n 2, 1) := by decide +kernel
theorem dX5_allWear_33 : decode cX5_allWear 33 = .ok (.ireturn, 1) := by decide +kernel
theorem dX5_lessWear_0 : decode cX5_lessWear 0 = .ok (.aload_n 0, 1) := by decide +kernel
theorem dX5_lessWear_1 : decode cX5_lessWear 1 = .ok (.iload_n 2, 1) := by decide +kernel
theorem dX5_lessWear_2 : decode cX5_lessWear 2 = .ok (.invokevirtual 222, 3) := by decide +kernel
theorem dX5_lessWear_5 : decode cX5_lessWear 5 = .ok (.istore_n 3, 1) := by decide +kernel
theorem dX5_lessWear_6 : decode cX5_lessWear 6 = .ok (.aload_n 0, 1) := by decide +kernel
theorem dX5_lessWear_7 : decode cX5_lessWear 7 = .ok (.getfield 40, 3) := by decide +kernel
theorem dX5_lessWear_10 : decode cX5_lessWear 10 = .ok (.iload_n 1, 1) := by decide +kernel
theorem dX5_lessWear_11 : decode cX5_lessWear 11 = .ok (.baload, 1) := by decide +kernel
theorem dX5_lessWear_12 : decode cX5_lessWear 12 = .ok (.istore 4, 2) := by decide +kernel
theorem dX5_lessWear_14 : decode cX5_lessWear 14 = .ok (.aload_n 0, 1) := by decide +kernel
theorem dX5_lessWear_15 : decode cX5_lessWear 15 = .ok (.getfield 40, 3) := by decide +kernel
theorem dX5_lessWear_18 : decode cX5_lessWear 18 = .ok (.iload_n 1, 1) := by decide +kernel
theorem dX5_lessWear_19 : decode cX5_lessWear 19 = .ok (.iconst 1, 1) := by decide +kernel
theorem dX5_lessWear_20 : decode cX5_lessWear 20 = .ok (.bastore, 1) := by decide +kernel
theorem dX5_lessWear_21 : decode cX5_lessWear 21 = .ok (.aload_n 0, 1) := by decide +kernel
theorem dX5_lessWear_22 : decode cX5_lessWear 22 = .ok (.iload_n 2, 1) := by decide +kernel
theorem dX5_lessWear_23 : decode cX5_lessWear 23 = .ok (.invokevirtual 222, 3) := by decide +kernel
theorem dX5_lessWear_26 : decode cX5_lessWear 26 = .ok (.istore 5, 2) := by decide +kernel
theorem dX5_lessWear_28 : decode cX5_lessWear 28 = .ok (.aload_n 0, 1) := by decide +kernel
theorem dX5_lessWear_29 : decode cX5_lessWear 29 = .ok (.getfield 40, 3) := by decide +kernel
theorem dX5_lessWear_32 : decode cX5_lessWear 32 = .ok (.iload_n 1, 1) := by decide +kernel
theorem dX5_lessWear_33 : decode cX5_lessWear 33 = .ok (.iload 4, 2) := by decide +kernel
theorem dX5_lessWear_35 : decode cX5_lessWear 35 = .ok (.bastore, 1) := by decide +kernel
theorem dX5_lessWear_36 : decode cX5_lessWear 36 = .ok (.iload_n 3, 1) := by decide +kernel
theorem dX5_lessWear_37 : decode cX5_lessWear 37 = .ok (.iload 5, 2) := by decide +kernel
theorem dX5_lessWear_39 : decode cX5_lessWear 39 = .ok (.if_icmp .le 10, 3) := by decide +kernel
theorem dX5_lessWear_42 : decode cX5_lessWear 42 = .ok (.iload_n 3, 1) := by decide +kernel
theorem dX5_lessWear_43 : decode cX5_lessWear 43 = .ok (.iload 5, 2) := by decide +kernel
theorem dX5_lessWear_45 : decode cX5_lessWear 45 = .ok (.isub, 1) := by decide +kernel
theorem dX5_lessWear_46 : decode cX5_lessWear 46 = .ok (.goto 4, 3) := by decide +kernel
theorem dX5_lessWear_49 : decode cX5_lessWear 49 = .ok (.iconst 0, 1) := by decide +kernel
theorem dX5_lessWear_50 : decode cX5_lessWear 50 = .ok (.ireturn, 1) := by decide +kernel
theorem dX5_inLeastTerms_0 : decode cX5_inLeastTerms 0 = .ok (.lload_n 0, 1) := by decide +kernel
theorem dX5_inLeastTerms_1 : decode cX5_inLeastTerms 1 = .ok (.lstore 5, 2) := by decide +kernel
theorem dX5_inLeastTerms_3 : decode cX5_inLeastTerms 3 = .ok (.lload_n 2, 1) := by decide +kernel
theorem dX5_inLeastTerms_4 : decode cX5_inLeastTerms 4 = .ok (.lstore 7, 2) := by decide +kernel
theorem dX5_inLeastTerms_6 : decode cX5_inLeastTerms 6 = .ok (.lload 7, 2) := by decide +kernel
theorem dX5_inLeastTerms_8 : decode cX5_inLeastTerms 8 = .ok (.lconst 0, 1) := by decide +kernel
theorem dX5_inLeastTerms_9 : decode cX5_inLeastTerms 9 = .ok (.lcmp, 1) := by decide +kernel
theorem dX5_inLeastTerms_10 : decode cX5_inLeastTerms 10 = .ok (.ifCond .eq 21, 3) := by decide +kernel
theorem dX5_inLeastTerms_13 : decode cX5_inLeastTerms 13 = .ok (.lload 5, 2) := by decide +kernel
theorem dX5_inLeastTerms_15 : decode cX5_inLeastTerms 15 = .ok (.lload 7, 2) := by decide +kernel
theorem dX5_inLeastTerms_17 : decode cX5_inLeastTerms 17 = .ok (.lrem, 1) := by decide +kernel
theorem dX5_inLeastTerms_18 : decode cX5_inLeastTerms 18 = .ok (.lstore 9, 2) := by decide +kernel
theorem dX5_inLeastTerms_20 : decode cX5_inLeastTerms 20 = .ok (.lload 7, 2) := by decide +kernel
theorem dX5_inLeastTerms_22 : decode cX5_inLeastTerms 22 = .ok (.lstore 5, 2) := by decide +kernel
theorem dX5_inLeastTerms_24 : decode cX5_inLeastTerms 24 = .ok (.lload 9, 2) := by decide +kernel
theorem dX5_inLeastTerms_26 : decode cX5_inLeastTerms 26 = .ok (.lstore 7, 2) := by decide +kernel
theorem dX5_inLeastTerms_28 : decode cX5_inLeastTerms 28 = .ok (.goto (-22), 3) := by decide +kernel
theorem dX5_inLeastTerms_31 : decode cX5_inLeastTerms 31 = .ok (.iload 4, 2) := by decide +kernel
theorem dX5_inLeastTerms_33 : decode cX5_inLeastTerms 33 = .ok (.ifCond .ne 10, 3) := by decide +kernel
theorem dX5_inLeastTerms_36 : decode cX5_inLeastTerms 36 = .ok (.lload_n 0, 1) := by decide +kernel
theorem dX5_inLeastTerms_37 : decode cX5_inLeastTerms 37 = .ok (.lload 5, 2) := by decide +kernel
theorem dX5_inLeastTerms_39 : decode cX5_inLeastTerms 39 = .ok (.ldiv, 1) := by decide +kernel
theorem dX5_inLeastTerms_40 : decode cX5_inLeastTerms 40 = .ok (.goto 7, 3) := by decide +kernel
theorem dX5_inLeastTerms_43 : decode cX5_inLeastTerms 43 = .ok (.lload_n 2, 1) := by decide +kernel
theorem dX5_inLeastTerms_44 : decode cX5_inLeastTerms 44 = .ok (.lload 5, 2) := by decide +kernel
theorem dX5_inLeastTerms_46 : decode cX5_inLeastTerms 46 = .ok (.ldiv, 1) := by decide +kernel
theorem dX5_inLeastTerms_47 : decode cX5_inLeastTerms 47 = .ok (.lreturn, 1) := by decide +kernel
theorem dX5_pays_0 : decode cX5_pays 0 = .ok (.aload_n 0, 1) := by decide +kernel
theorem dX5_pays_1 : decode cX5_pays 1 = .ok (.iload_n 1, 1) := by decide +kernel
theorem dX5_pays_2 : decode cX5_pays 2 = .ok (.invokevirtual 158, 3) := by decide +kernel
theorem dX5_pays_5 : decode cX5_pays 5 = .ok (.ifCond .eq 19, 3) := by decide +kernel
theorem dX5_pays_8 : decode cX5_pays 8 = .ok (.iload_n 2, 1) := by decide +kernel
theorem dX5_pays_9 : decode cX5_pays 9 = .ok (.invokestatic 164, 3) := by decide +kernel
theorem dX5_pays_12 : decode cX5_pays 12 = .ok (.ifCond .eq 12, 3) := by decide +kernel
theorem dX5_pays_15 : decode cX5_pays 15 = .ok (.iload_n 3, 1) := by decide +kernel
theorem dX5_pays_16 : decode cX5_pays 16 = .ok (.iconst 0, 1) := by decide +kernel
theorem dX5_pays_17 : decode cX5_pays 17 = .ok (.iconst 1, 1) := by decide +kernel
theorem dX5_pays_18 : decode cX5_pays 18 = .ok (.invokestatic 89, 3) := by decide +kernel
theorem dX5_pays_21 : decode cX5_pays 21 = .ok (.ifCond .ne 7, 3) := by decide +kernel
theorem dX5_pays_24 : decode cX5_pays 24 = .ok (.ldc2_w 87, 3) := by decide +kernel
theorem dX5_pays_27 : decode cX5_pays 27 = .ok (.lreturn, 1) := by decide +kernel
theorem dX5_pays_28 : decode cX5_pays 28 = .ok (.lconst 0, 1) := by decide +kernel
theorem dX5_pays_29 : decode cX5_pays 29 = .ok (.lstore 4, 2) := by decide +kernel
theorem dX5_pays_31 : decode cX5_pays 31 = .ok (.iconst 0, 1) := by decide +kernel
theorem dX5_pays_32 : decode cX5_pays 32 = .ok (.istore 6, 2) := by decide +kernel
theorem dX5_pays_34 : decode cX5_pays 34 = .ok (.iload 6, 2) := by decide +kernel
theorem dX5_pays_36 : decode cX5_pays 36 = .ok (.aload_n 0, 1) := by decide +kernel
theorem dX5_pays_37 : decode cX5_pays 37 = .ok (.getfield 96, 3) := by decide +kernel
theorem dX5_pays_40 : decode cX5_pays 40 = .ok (.if_icmp .ge 22, 3) := by decide +kernel
theorem dX5_pays_43 : decode cX5_pays 43 = .ok (.lload 4, 2) := by decide +kernel
theorem dX5_pays_45 : decode cX5_pays 45 = .ok (.aload_n 0, 1) := by decide +kernel
theorem dX5_pays_46 : decode cX5_pays 46 = .ok (.iload 6, 2) := by decide +kernel
theorem dX5_pays_48 : decode cX5_pays 48 = .ok (.iload_n 2, 1) := by decide +kernel
theorem dX5_pays_49 : decode cX5_pays 49 = .ok (.invokevirtual 225, 3) := by decide +kernel
theorem dX5_pays_52 : decode cX5_pays 52 = .ok (.i2l, 1) := by decide +kernel
theorem dX5_pays_53 : decode cX5_pays 53 = .ok (.ladd, 1) := by decide +kernel
theorem dX5_pays_54 : decode cX5_pays 54 = .ok (.lstore 4, 2) := by decide +kernel
theorem dX5_pays_56 : decode cX5_pays 56 = .ok (.iinc 6 1, 3) := by decide +kernel
theorem dX5_pays_59 : decode cX5_pays 59 = .ok (.goto (-25), 3) := by decide +kernel
theorem dX5_pays_62 : decode cX5_pays 62 = .ok (.lload 4, 2) := by decide +kernel
theorem dX5_pays_64 : decode cX5_pays 64 = .ok (.lconst 0, 1) := by decide +kernel
theorem dX5_pays_65 : decode cX5_pays 65 = .ok (.lcmp, 1) := by decide +kernel
theorem dX5_pays_66 : decode cX5_pays 66 = .ok (.ifCond .ne 8, 3) := by decide +kernel
theorem dX5_pays_69 : decode cX5_pays 69 = .ok (.iload_n 3, 1) := by decide +kernel
theorem dX5_pays_70 : decode cX5_pays 70 = .ok (.i2l, 1) := by decide +kernel
theorem dX5_pays_71 : decode cX5_pays 71 = .ok (.goto 16, 3) := by decide +kernel
theorem dX5_pays_74 : decode cX5_pays 74 = .ok (.aload_n 0, 1) := by decide +kernel
theorem dX5_pays_75 : decode cX5_pays 75 = .ok (.iload_n 1, 1) := by decide +kernel
theorem dX5_pays_76 : decode cX5_pays 76 = .ok (.iload_n 2, 1) := by decide +kernel
theorem dX5_pays_77 : decode cX5_pays 77 = .ok (.invokevirtual 225, 3) := by decide +kernel
theorem dX5_pays_80 : decode cX5_pays 80 = .ok (.i2l, 1) := by decide +kernel
theorem dX5_pays_81 : decode cX5_pays 81 = .ok (.lload 4, 2) := by decide +kernel
theorem dX5_pays_83 : decode cX5_pays 83 = .ok (.iload_n 3, 1) := by decide +kernel
theorem dX5_pays_84 : decode cX5_pays 84 = .ok (.invokestatic 229, 3) := by decide +kernel
theorem dX5_pays_87 : decode cX5_pays 87 = .ok (.lreturn, 1) := by decide +kernel
theorem dX5_timeOf_0 : decode cX5_timeOf 0 = .ok (.iload_n 1, 1) := by decide +kernel
theorem dX5_timeOf_1 : decode cX5_timeOf 1 = .ok (.ifCond .ne 10, 3) := by decide +kernel
theorem dX5_timeOf_4 : decode cX5_timeOf 4 = .ok (.aload_n 0, 1) := by decide +kernel
theorem dX5_timeOf_5 : decode cX5_timeOf 5 = .ok (.getfield 123, 3) := by decide +kernel
theorem dX5_timeOf_8 : decode cX5_timeOf 8 = .ok (.goto 10, 3) := by decide +kernel
theorem dX5_timeOf_11 : decode cX5_timeOf 11 = .ok (.bipush 14, 2) := by decide +kernel
theorem dX5_timeOf_13 : decode cX5_timeOf 13 = .ok (.aload_n 0, 1) := by decide +kernel
theorem dX5_timeOf_14 : decode cX5_timeOf 14 = .ok (.getfield 123, 3) := by decide +kernel
theorem dX5_timeOf_17 : decode cX5_timeOf 17 = .ok (.isub, 1) := by decide +kernel
theorem dX5_timeOf_18 : decode cX5_timeOf 18 = .ok (.ireturn, 1) := by decide +kernel
theorem dX5_halvesOf_0 : decode cX5_halvesOf 0 = .ok (.iload_n 1, 1) := by decide +kernel
theorem dX5_halvesOf_1 : decode cX5_halvesOf 1 = .ok (.ifCond .ne 7, 3) := by decide +kernel
theorem dX5_halvesOf_4 : decode cX5_halvesOf 4 = .ok (.iconst 0, 1) := by decide +kernel
theorem dX5_halvesOf_5 : decode cX5_halvesOf 5 = .ok (.goto 7, 3) := by decide +kernel
theorem dX5_halvesOf_8 : decode cX5_halvesOf 8 = .ok (.aload_n 0, 1) := by decide +kernel
theorem dX5_halvesOf_9 : decode cX5_halvesOf 9 = .ok (.getfield 123, 3) := by decide +kernel
theorem dX5_halvesOf_12 : decode cX5_halvesOf 12 = .ok (.istore_n 3, 1) := by decide +kernel
theorem dX5_halvesOf_13 : decode cX5_halvesOf 13 = .ok (.aload_n 0, 1) := by decide +kernel
theorem dX5_halvesOf_14 : decode cX5_halvesOf 14 = .ok (.iconst 1, 1) := by decide +kernel
theorem dX5_halvesOf_15 : decode cX5_halvesOf 15 = .ok (.iload_n 1, 1) := by decide +kernel
theorem dX5_halvesOf_16 : decode cX5_halvesOf 16 = .ok (.isub, 1) := by decide +kernel
theorem dX5_halvesOf_17 : decode cX5_halvesOf 17 = .ok (.invokevirtual 233, 3) := by decide +kernel
theorem dX5_halvesOf_20 : decode cX5_halvesOf 20 = .ok (.istore 4, 2) := by decide +kernel
theorem dX5_halvesOf_22 : decode cX5_halvesOf 22 = .ok (.aload_n 0, 1) := by decide +kernel
theorem dX5_halvesOf_23 : decode cX5_halvesOf 23 = .ok (.iload_n 1, 1) := by decide +kernel
theorem dX5_halvesOf_24 : decode cX5_halvesOf 24 = .ok (.invokevirtual 233, 3) := by decide +kernel
theorem dX5_halvesOf_27 : decode cX5_halvesOf 27 = .ok (.iload_n 2, 1) := by decide +kernel
theorem dX5_halvesOf_28 : decode cX5_halvesOf 28 = .ok (.iload 4, 2) := by decide +kernel
theorem dX5_halvesOf_30 : decode cX5_halvesOf 30 = .ok (.if_icmp .le 8, 3) := by decide +kernel
theorem dX5_halvesOf_33 : decode cX5_halvesOf 33 = .ok (.iload 4, 2) := by decide +kernel
theorem dX5_halvesOf_35 : decode cX5_halvesOf 35 = .ok (.goto 4, 3) := by decide +kernel
theorem dX5_halvesOf_38 : decode cX5_halvesOf 38 = .ok (.iload_n 2, 1) := by decide +kernel
theorem dX5_halvesOf_39 : decode cX5_halvesOf 39 = .ok (.iadd, 1) := by decide +kernel
theorem dX5_halvesOf_40 : decode cX5_halvesOf 40 = .ok (.istore 5, 2) := by decide +kernel
theorem dX5_halvesOf_42 : decode cX5_halvesOf 42 = .ok (.iconst 0, 1) := by decide +kernel
theorem dX5_halvesOf_43 : decode cX5_halvesOf 43 = .ok (.istore 6, 2) := by decide +kernel
theorem dX5_halvesOf_45 : decode cX5_halvesOf 45 = .ok (.iconst 0, 1) := by decide +kernel
theorem dX5_halvesOf_46 : decode cX5_halvesOf 46 = .ok (.istore 7, 2) := by decide +kernel
theorem dX5_halvesOf_48 : decode cX5_halvesOf 48 = .ok (.iload 7, 2) := by decide +kernel
theorem dX5_halvesOf_50 : decode cX5_halvesOf 50 = .ok (.iload 5, 2) := by decide +kernel
theorem dX5_halvesOf_52 : decode cX5_halvesOf 52 = .ok (.if_icmp .ge 23, 3) := by decide +kernel
theorem dX5_halvesOf_55 : decode cX5_halvesOf 55 = .ok (.iload 6, 2) := by decide +kernel
theorem dX5_halvesOf_57 : decode cX5_halvesOf 57 = .ok (.iconst 1, 1) := by decide +kernel
theorem dX5_halvesOf_58 : decode cX5_halvesOf 58 = .ok (.iload_n 3, 1) := by decide +kernel
theorem dX5_halvesOf_59 : decode cX5_halvesOf 59 = .ok (.iload 7, 2) := by decide +kernel
theorem dX5_halvesOf_61 : decode cX5_halvesOf 61 = .ok (.iadd, 1) := by decide +kernel
theorem dX5_halvesOf_62 : decode cX5_halvesOf 62 = .ok (.bipush 14, 2) := by decide +kernel
theorem dX5_halvesOf_64 : decode cX5_halvesOf 64 = .ok (.irem, 1) := by decide +kernel
theorem dX5_halvesOf_65 : decode cX5_halvesOf 65 = .ok (.ishl, 1) := by decide +kernel
theorem dX5_halvesOf_66 : decode cX5_halvesOf 66 = .ok (.ior, 1) := by decide +kernel
theorem dX5_halvesOf_67 : decode cX5_halvesOf 67 = .ok (.istore 6, 2) := by decide +kernel
theorem dX5_halvesOf_69 : decode cX5_halvesOf 69 = .ok (.iinc 7 1, 3) := by decide +kernel
theorem dX5_halvesOf_72 : decode cX5_halvesOf 72 = .ok (.goto (-24), 3) := by decide +kernel
theorem dX5_halvesOf_75 : decode cX5_halvesOf 75 = .ok (.iload 6, 2) := by decide +kernel
theorem dX5_halvesOf_77 : decode cX5_halvesOf 77 = .ok (.ireturn, 1) := by decide +kernel
theorem dX5_together_0 : decode cX5_together 0 = .ok (.aload_n 0, 1) := by decide +kernel
theorem dX5_together_1 : decode cX5_together 1 = .ok (.iload_n 1, 1) := by decide +kernel
theorem dX5_together_2 : decode cX5_together 2 = .ok (.invokevirtual 158, 3) := by decide +kernel
theorem dX5_together_5 : decode cX5_together 5 = .ok (.ifCond .eq 16, 3) := by decide +kernel
theorem dX5_together_8 : decode cX5_together 8 = .ok (.aload_n 0, 1) := by decide +kernel
theorem dX5_together_9 : decode cX5_together 9 = .ok (.iload_n 2, 1) := by decide +kernel
theorem dX5_together_10 : decode cX5_together 10 = .ok (.invokevirtual 158, 3) := by decide +kernel
theorem dX5_together_13 : decode cX5_together 13 = .ok (.ifCond .eq 8, 3) := by decide +kernel
theorem dX5_together_16 : decode cX5_together 16 = .ok (.iload_n 1, 1) := by decide +kernel
theorem dX5_together_17 : decode cX5_together 17 = .ok (.iload_n 2, 1) := by decide +kernel
theorem dX5_together_18 : decode cX5_together 18 = .ok (.if_icmp .ne 5, 3) := by decide +kernel
theorem dX5_together_21 : decode cX5_together 21 = .ok (.iconst (-1), 1) := by decide +kernel
theorem dX5_together_22 : decode cX5_together 22 = .ok (.ireturn, 1) := by decide +kernel
theorem dX5_together_23 : decode cX5_together 23 = .ok (.iload_n 3, 1) := by decide +kernel
theorem dX5_together_24 : decode cX5_together 24 = .ok (.iconst 0, 1) := by decide +kernel
theorem dX5_together_25 : decode cX5_together 25 = .ok (.bipush 13, 2) := by decide +kernel
theorem dX5_together_27 : decode cX5_together 27 = .ok (.invokestatic 89, 3) := by decide +kernel
theorem dX5_together_30 : decode cX5_together 30 = .ok (.ifCond .ne 6, 3) := by decide +kernel
theorem dX5_together_33 : decode cX5_together 33 = .ok (.bipush (-2), 2) := by decide +kernel
theorem dX5_together_35 : decode cX5_together 35 = .ok (.ireturn, 1) := by decide +kernel
theorem dX5_together_36 : decode cX5_together 36 = .ok (.aload_n 0, 1) := by decide +kernel
theorem dX5_together_37 : decode cX5_together 37 = .ok (.getfield 31, 3) := by decide +kernel
theorem dX5_together_40 : decode cX5_together 40 = .ok (.iload_n 1, 1) := by decide +kernel
theorem dX5_together_41 : decode cX5_together 41 = .ok (.iaload, 1) := by decide +kernel
theorem dX5_together_42 : decode cX5_together 42 = .ok (.aload_n 0, 1) := by decide +kernel
theorem dX5_together_43 : decode cX5_together 43 = .ok (.getfield 31, 3) := by decide +kernel
theorem dX5_together_46 : decode cX5_together 46 = .ok (.iload_n 2, 1) := by decide +kernel
theorem dX5_together_47 : decode cX5_together 47 = .ok (.iaload, 1) := by decide +kernel
theorem dX5_together_48 : decode cX5_together 48 = .ok (.if_icmp .ne 32, 3) := by decide +kernel
theorem dX5_together_51 : decode cX5_together 51 = .ok (.aload_n 0, 1) := by decide +kernel
theorem dX5_together_52 : decode cX5_together 52 = .ok (.aload_n 0, 1) := by decide +kernel
theorem dX5_together_53 : decode cX5_together 53 = .ok (.getfield 28, 3) := by decide +kernel
theorem dX5_together_56 : decode cX5_together 56 = .ok (.iload_n 1, 1) := by decide +kernel
theorem dX5_together_57 : decode cX5_together 57 = .ok (.iaload, 1) := by decide +kernel
theorem dX5_together_58 : decode cX5_together 58 = .ok (.iload_n 3, 1) := by decide +kernel
theorem dX5_together_59 : decode cX5_together 59 = .ok (.invokevirtual 236, 3) := by decide +kernel
theorem dX5_together_62 : decode cX5_together 62 = .ok (.aload_n 0, 1) := by decide +kernel
theorem dX5_together_63 : decode cX5_together 63 = .ok (.aload_n 0, 1) := by decide +kernel
theorem dX5_together_64 : decode cX5_together 64 = .ok (.getfield 28, 3) := by decide +kernel
theorem dX5_together_67 : decode cX5_together 67 = .ok (.iload_n 2, 1) := by decide +kernel
theorem dX5_together_68 : decode cX5_together 68 = .ok (.iaload, 1) := by decide +kernel
theorem dX5_together_69 : decode cX5_together 69 = .ok (.iconst 0, 1) := by decide +kernel
theorem dX5_together_70 : decode cX5_together 70 = .ok (.invokevirtual 236, 3) := by decide +kernel
theorem dX5_together_73 : decode cX5_together 73 = .ok (.iand, 1) := by decide +kernel
theorem dX5_together_74 : decode cX5_together 74 = .ok (.invokestatic 213, 3) := by decide +kernel
theorem dX5_together_77 : decode cX5_together 77 = .ok (.goto 4, 3) := by decide +kernel
theorem dX5_together_80 : decode cX5_together 80 = .ok (.iconst 0, 1) := by decide +kernel
theorem dX5_together_81 : decode cX5_together 81 = .ok (.ireturn, 1) := by decide +kernel
theorem dX5_third_0 : decode cX5_third 0 = .ok (.aload_n 0, 1) := by decide +kernel
theorem dX5_third_1 : decode cX5_third 1 = .ok (.iload_n 1, 1) := by decide +kernel
theorem dX5_third_2 : decode cX5_third 2 = .ok (.invokevirtual 155, 3) := by decide +kernel
theorem dX5_third_5 : decode cX5_third 5 = .ok (.ifCond .ne 5, 3) := by decide +kernel
theorem dX5_third_8 : decode cX5_third 8 = .ok (.iconst (-1), 1) := by decide +kernel
theorem dX5_third_9 : decode cX5_third 9 = .ok (.ireturn, 1) := by decide +kernel
theorem dX5_third_10 : decode cX5_third 10 = .ok (.iconst 0, 1) := by decide +kernel
theorem dX5_third_11 : decode cX5_third 11 = .ok (.istore_n 2, 1) := by decide +kernel
theorem dX5_third_12 : decode cX5_third 12 = .ok (.iconst 0, 1) := by decide +kernel
theorem dX5_third_13 : decode cX5_third 13 = .ok (.istore_n 3, 1) := by decide +kernel
theorem dX5_third_14 : decode cX5_third 14 = .ok (.iload_n 3, 1) := by decide +kernel
theorem dX5_third_15 : decode cX5_third 15 = .ok (.aload_n 0, 1) := by decide +kernel
theorem dX5_third_16 : decode cX5_third 16 = .ok (.getfield 96, 3) := by decide +kernel
theorem dX5_third_19 : decode cX5_third 19 = .ok (.if_icmp .ge 46, 3) := by decide +kernel
theorem dX5_third_22 : decode cX5_third 22 = .ok (.iload_n 2, 1) := by decide +kernel
theorem dX5_third_23 : decode cX5_third 23 = .ok (.aload_n 0, 1) := by decide +kernel
theorem dX5_third_24 : decode cX5_third 24 = .ok (.getfield 31, 3) := by decide +kernel
theorem dX5_third_27 : decode cX5_third 27 = .ok (.iload_n 3, 1) := by decide +kernel
theorem dX5_third_28 : decode cX5_third 28 = .ok (.iaload, 1) := by decide +kernel
theorem dX5_third_29 : decode cX5_third 29 = .ok (.iload_n 1, 1) := by decide +kernel
theorem dX5_third_30 : decode cX5_third 30 = .ok (.if_icmp .ne 26, 3) := by decide +kernel
theorem dX5_third_33 : decode cX5_third 33 = .ok (.aload_n 0, 1) := by decide +kernel
theorem dX5_third_34 : decode cX5_third 34 = .ok (.getfield 40, 3) := by decide +kernel
theorem dX5_third_37 : decode cX5_third 37 = .ok (.iload_n 3, 1) := by decide +kernel
theorem dX5_third_38 : decode cX5_third 38 = .ok (.baload, 1) := by decide +kernel
theorem dX5_third_39 : decode cX5_third 39 = .ok (.ifCond .ne 17, 3) := by decide +kernel
theorem dX5_third_42 : decode cX5_third 42 = .ok (.aload_n 0, 1) := by decide +kernel
theorem dX5_third_43 : decode cX5_third 43 = .ok (.aload_n 0, 1) := by decide +kernel
theorem dX5_third_44 : decode cX5_third 44 = .ok (.getfield 28, 3) := by decide +kernel
theorem dX5_third_47 : decode cX5_third 47 = .ok (.iload_n 3, 1) := by decide +kernel
theorem dX5_third_48 : decode cX5_third 48 = .ok (.iaload, 1) := by decide +kernel
theorem dX5_third_49 : decode cX5_third 49 = .ok (.iconst 0, 1) := by decide +kernel
theorem dX5_third_50 : decode cX5_third 50 = .ok (.invokevirtual 236, 3) := by decide +kernel
theorem dX5_third_53 : decode cX5_third 53 = .ok (.goto 4, 3) := by decide +kernel
theorem dX5_third_56 : decode cX5_third 56 = .ok (.iconst 0, 1) := by decide +kernel
theorem dX5_third_57 : decode cX5_third 57 = .ok (.ior, 1) := by decide +kernel
theorem dX5_third_58 : decode cX5_third 58 = .ok (.istore_n 2, 1) := by decide +kernel
theorem dX5_third_59 : decode cX5_third 59 = .ok (.iinc 3 1, 3) := by decide +kernel
theorem dX5_third_62 : decode cX5_third 62 = .ok (.goto (-48), 3) := by decide +kernel
theorem dX5_third_65 : decode cX5_third 65 = .ok (.sipush 16383, 3) := by decide +kernel
theorem dX5_third_68 : decode cX5_third 68 = .ok (.iload_n 2, 1) := by decide +kernel
theorem dX5_third_69 : decode cX5_third 69 = .ok (.iconst (-1), 1) := by decide +kernel
theorem dX5_third_70 : decode cX5_third 70 = .ok (.ixor, 1) := by decide +kernel
theorem dX5_third_71 : decode cX5_third 71 = .ok (.iand, 1) := by decide +kernel
theorem dX5_third_72 : decode cX5_third 72 = .ok (.ireturn, 1) := by decide +kernel
theorem dX5_row_0 : decode cX5_row 0 = .ok (.aload_n 0, 1) := by decide +kernel
theorem dX5_row_1 : decode cX5_row 1 = .ok (.iconst 0, 1) := by decide +kernel
theorem dX5_row_2 : decode cX5_row 2 = .ok (.putfield 83, 3) := by decide +kernel
theorem dX5_row_5 : decode cX5_row 5 = .ok (.iload_n 1, 1) := by decide +kernel
theorem dX5_row_6 : decode cX5_row 6 = .ok (.invokestatic 102, 3) := by decide +kernel
theorem dX5_row_9 : decode cX5_row 9 = .ok (.ifCond .ne 5, 3) := by decide +kernel
theorem dX5_row_12 : decode cX5_row 12 = .ok (.iconst (-1), 1) := by decide +kernel
theorem dX5_row_13 : decode cX5_row 13 = .ok (.ireturn, 1) := by decide +kernel
theorem dX5_row_14 : decode cX5_row 14 = .ok (.iload_n 2, 1) := by decide +kernel
theorem dX5_row_15 : decode cX5_row 15 = .ok (.invokestatic 106, 3) := by decide +kernel
theorem dX5_row_18 : decode cX5_row 18 = .ok (.ifCond .ne 6, 3) := by decide +kernel
theorem dX5_row_21 : decode cX5_row 21 = .ok (.bipush (-2), 2) := by decide +kernel
theorem dX5_row_23 : decode cX5_row 23 = .ok (.ireturn, 1) := by decide +kernel
theorem dX5_row_24 : decode cX5_row 24 = .ok (.aload_n 0, 1) := by decide +kernel
theorem dX5_row_25 : decode cX5_row 25 = .ok (.iload_n 1, 1) := by decide +kernel
theorem dX5_row_26 : decode cX5_row 26 = .ok (.iload_n 2, 1) := by decide +kernel
theorem dX5_row_27 : decode cX5_row 27 = .ok (.iload_n 3, 1) := by decide +kernel
theorem dX5_row_28 : decode cX5_row 28 = .ok (.iload 4, 2) := by decide +kernel
theorem dX5_row_30 : decode cX5_row 30 = .ok (.invokevirtual 109, 3) := by decide +kernel
theorem dX5_row_33 : decode cX5_row 33 = .ok (.istore 5, 2) := by decide +kernel
theorem dX5_row_35 : decode cX5_row 35 = .ok (.iload 5, 2) := by decide +kernel
theorem dX5_row_37 : decode cX5_row 37 = .ok (.ifCond .eq 10, 3) := by decide +kernel
theorem dX5_row_40 : decode cX5_row 40 = .ok (.aload_n 0, 1) := by decide +kernel
theorem dX5_row_41 : decode cX5_row 41 = .ok (.iload 5, 2) := by decide +kernel
theorem dX5_row_43 : decode cX5_row 43 = .ok (.invokevirtual 113, 3) := by decide +kernel
theorem dX5_row_46 : decode cX5_row 46 = .ok (.ireturn, 1) := by decide +kernel
theorem dX5_row_47 : decode cX5_row 47 = .ok (.aload_n 0, 1) := by decide +kernel
theorem dX5_row_48 : decode cX5_row 48 = .ok (.getfield 96, 3) := by decide +kernel
theorem dX5_row_51 : decode cX5_row 51 = .ok (.ifCond .ne 6, 3) := by decide +kernel
theorem dX5_row_54 : decode cX5_row 54 = .ok (.bipush (-3), 2) := by decide +kernel
theorem dX5_row_56 : decode cX5_row 56 = .ok (.ireturn, 1) := by decide +kernel
theorem dX5_row_57 : decode cX5_row 57 = .ok (.iload 4, 2) := by decide +kernel
theorem dX5_row_59 : decode cX5_row 59 = .ok (.bipush 14, 2) := by decide +kernel
theorem dX5_row_61 : decode cX5_row 61 = .ok (.if_icmp .le 6, 3) := by decide +kernel
theorem dX5_row_64 : decode cX5_row 64 = .ok (.bipush (-2), 2) := by decide +kernel
theorem dX5_row_66 : decode cX5_row 66 = .ok (.ireturn, 1) := by decide +kernel
theorem dX5_row_67 : decode cX5_row 67 = .ok (.bipush 60, 2) := by decide +kernel
theorem dX5_row_69 : decode cX5_row 69 = .ok (.iload_n 1, 1) := by decide +kernel
theorem dX5_row_70 : decode cX5_row 70 = .ok (.imul, 1) := by decide +kernel
theorem dX5_row_71 : decode cX5_row 71 = .ok (.iload_n 3, 1) := by decide +kernel
theorem dX5_row_72 : decode cX5_row 72 = .ok (.iadd, 1) := by decide +kernel
theorem dX5_row_73 : decode cX5_row 73 = .ok (.istore 6, 2) := by decide +kernel
theorem dX5_row_75 : decode cX5_row 75 = .ok (.iconst 0, 1) := by decide +kernel
theorem dX5_row_76 : decode cX5_row 76 = .ok (.istore 7, 2) := by decide +kernel
theorem dX5_row_78 : decode cX5_row 78 = .ok (.iload 7, 2) := by decide +kernel
theorem dX5_row_80 : decode cX5_row 80 = .ok (.iload 4, 2) := by decide +kernel
theorem dX5_row_82 : decode cX5_row 82 = .ok (.if_icmp .ge 28, 3) := by decide +kernel
theorem dX5_row_85 : decode cX5_row 85 = .ok (.aload_n 0, 1) := by decide +kernel
theorem dX5_row_86 : decode cX5_row 86 = .ok (.aload_n 0, 1) := by decide +kernel
theorem dX5_row_87 : decode cX5_row 87 = .ok (.getfield 16, 3) := by decide +kernel
theorem dX5_row_90 : decode cX5_row 90 = .ok (.iload 6, 2) := by decide +kernel
theorem dX5_row_92 : decode cX5_row 92 = .ok (.iload 7, 2) := by decide +kernel
theorem dX5_row_94 : decode cX5_row 94 = .ok (.iadd, 1) := by decide +kernel
theorem dX5_row_95 : decode cX5_row 95 = .ok (.iaload, 1) := by decide +kernel
theorem dX5_row_96 : decode cX5_row 96 = .ok (.invokevirtual 158, 3) := by decide +kernel
theorem dX5_row_99 : decode cX5_row 99 = .ok (.ifCond .ne 5, 3) := by decide +kernel
theorem dX5_row_102 : decode cX5_row 102 = .ok (.iconst (-1), 1) := by decide +kernel
theorem dX5_row_103 : decode cX5_row 103 = .ok (.ireturn, 1) := by decide +kernel
theorem dX5_row_104 : decode cX5_row 104 = .ok (.iinc 7 1, 3) := by decide +kernel
theorem dX5_row_107 : decode cX5_row 107 = .ok (.goto (-29), 3) := by decide +kernel
theorem dX5_row_110 : decode cX5_row 110 = .ok (.iconst 0, 1) := by decide +kernel
theorem dX5_row_111 : decode cX5_row 111 = .ok (.istore 7, 2) := by decide +kernel
theorem dX5_row_113 : decode cX5_row 113 = .ok (.iload 7, 2) := by decide +kernel
theorem dX5_row_115 : decode cX5_row 115 = .ok (.iload 4, 2) := by decide +kernel
theorem dX5_row_117 : decode cX5_row 117 = .ok (.if_icmp .ge 51, 3) := by decide +kernel
theorem dX5_row_120 : decode cX5_row 120 = .ok (.aload_n 0, 1) := by decide +kernel
theorem dX5_row_121 : decode cX5_row 121 = .ok (.getfield 28, 3) := by decide +kernel
theorem dX5_row_124 : decode cX5_row 124 = .ok (.aload_n 0, 1) := by decide +kernel
theorem dX5_row_125 : decode cX5_row 125 = .ok (.getfield 16, 3) := by decide +kernel
theorem dX5_row_128 : decode cX5_row 128 = .ok (.iload 6, 2) := by decide +kernel
theorem dX5_row_130 : decode cX5_row 130 = .ok (.iload 7, 2) := by decide +kernel
theorem dX5_row_132 : decode cX5_row 132 = .ok (.iadd, 1) := by decide +kernel
theorem dX5_row_133 : decode cX5_row 133 = .ok (.iaload, 1) := by decide +kernel
theorem dX5_row_134 : decode cX5_row 134 = .ok (.iaload, 1) := by decide +kernel
theorem dX5_row_135 : decode cX5_row 135 = .ok (.aload_n 0, 1) := by decide +kernel
theorem dX5_row_136 : decode cX5_row 136 = .ok (.iload 7, 2) := by decide +kernel
theorem dX5_row_138 : decode cX5_row 138 = .ok (.invokevirtual 177, 3) := by decide +kernel
theorem dX5_row_141 : decode cX5_row 141 = .ok (.if_icmp .ne 27, 3) := by decide +kernel
theorem dX5_row_144 : decode cX5_row 144 = .ok (.aload_n 0, 1) := by decide +kernel
theorem dX5_row_145 : decode cX5_row 145 = .ok (.getfield 40, 3) := by decide +kernel
theorem dX5_row_148 : decode cX5_row 148 = .ok (.aload_n 0, 1) := by decide +kernel
theorem dX5_row_149 : decode cX5_row 149 = .ok (.getfield 16, 3) := by decide +kernel
theorem dX5_row_152 : decode cX5_row 152 = .ok (.iload 6, 2) := by decide +kernel
theorem dX5_row_154 : decode cX5_row 154 = .ok (.iload 7, 2) := by decide +kernel
theorem dX5_row_156 : decode cX5_row 156 = .ok (.iadd, 1) := by decide +kernel
theorem dX5_row_157 : decode cX5_row 157 = .ok (.iaload, 1) := by decide +kernel
theorem dX5_row_158 : decode cX5_row 158 = .ok (.baload, 1) := by decide +kernel
theorem dX5_row_159 : decode cX5_row 159 = .ok (.ifCond .ne 9, 3) := by decide +kernel
theorem dX5_row_162 : decode cX5_row 162 = .ok (.iinc 7 1, 3) := by decide +kernel
theorem dX5_row_165 : decode cX5_row 165 = .ok (.goto (-52), 3) := by decide +kernel
theorem dX5_row_168 : decode cX5_row 168 = .ok (.iload 7, 2) := by decide +kernel
theorem dX5_row_170 : decode cX5_row 170 = .ok (.ireturn, 1) := by decide +kernel
theorem dX5_reading_0 : decode cX5_reading 0 = .ok (.aload_n 0, 1) := by decide +kernel
theorem dX5_reading_1 : decode cX5_reading 1 = .ok (.iload_n 1, 1) := by decide +kernel
theorem dX5_reading_2 : decode cX5_reading 2 = .ok (.invokevirtual 155, 3) := by decide +kernel
theorem dX5_reading_5 : decode cX5_reading 5 = .ok (.ifCond .ne 5, 3) := by decide +kernel
theorem dX5_reading_8 : decode cX5_reading 8 = .ok (.iconst (-1), 1) := by decide +kernel
theorem dX5_reading_9 : decode cX5_reading 9 = .ok (.ireturn, 1) := by decide +kernel
theorem dX5_reading_10 : decode cX5_reading 10 = .ok (.iload_n 2, 1) := by decide +kernel
theorem dX5_reading_11 : decode cX5_reading 11 = .ok (.invokestatic 164, 3) := by decide +kernel
theorem dX5_reading_14 : decode cX5_reading 14 = .ok (.ifCond .eq 21, 3) := by decide +kernel
theorem dX5_reading_17 : decode cX5_reading 17 = .ok (.iload_n 3, 1) := by decide +kernel
theorem dX5_reading_18 : decode cX5_reading 18 = .ok (.invokestatic 197, 3) := by decide +kernel
theorem dX5_reading_21 : decode cX5_reading 21 = .ok (.ifCond .eq 14, 3) := by decide +kernel
theorem dX5_reading_24 : decode cX5_reading 24 = .ok (.iload 4, 2) := by decide +kernel
theorem dX5_reading_26 : decode cX5_reading 26 = .ok (.iconst 0, 1) := by decide +kernel
theorem dX5_reading_27 : decode cX5_reading 27 = .ok (.bipush 99, 2) := by decide +kernel
theorem dX5_reading_29 : decode cX5_reading 29 = .ok (.invokestatic 89, 3) := by decide +kernel
theorem dX5_reading_32 : decode cX5_reading 32 = .ok (.ifCond .ne 6, 3) := by decide +kernel
theorem dX5_reading_35 : decode cX5_reading 35 = .ok (.bipush (-2), 2) := by decide +kernel
theorem dX5_reading_37 : decode cX5_reading 37 = .ok (.ireturn, 1) := by decide +kernel
theorem dX5_reading_38 : decode cX5_reading 38 = .ok (.aload_n 0, 1) := by decide +kernel
theorem dX5_reading_39 : decode cX5_reading 39 = .ok (.getfield 135, 3) := by decide +kernel
theorem dX5_reading_42 : decode cX5_reading 42 = .ok (.bipush 8, 2) := by decide +kernel
theorem dX5_reading_44 : decode cX5_reading 44 = .ok (.if_icmp .ne 6, 3) := by decide +kernel
theorem dX5_reading_47 : decode cX5_reading 47 = .ok (.bipush (-4), 2) := by decide +kernel
theorem dX5_reading_49 : decode cX5_reading 49 = .ok (.ireturn, 1) := by decide +kernel
theorem dX5_reading_50 : decode cX5_reading 50 = .ok (.aload_n 0, 1) := by decide +kernel
theorem dX5_reading_51 : decode cX5_reading 51 = .ok (.getfield 71, 3) := by decide +kernel
theorem dX5_reading_54 : decode cX5_reading 54 = .ok (.aload_n 0, 1) := by decide +kernel
theorem dX5_reading_55 : decode cX5_reading 55 = .ok (.getfield 135, 3) := by decide +kernel
theorem dX5_reading_58 : decode cX5_reading 58 = .ok (.iload_n 1, 1) := by decide +kernel
theorem dX5_reading_59 : decode cX5_reading 59 = .ok (.iastore, 1) := by decide +kernel
theorem dX5_reading_60 : decode cX5_reading 60 = .ok (.aload_n 0, 1) := by decide +kernel
theorem dX5_reading_61 : decode cX5_reading 61 = .ok (.getfield 74, 3) := by decide +kernel
theorem dX5_reading_64 : decode cX5_reading 64 = .ok (.aload_n 0, 1) := by decide +kernel
theorem dX5_reading_65 : decode cX5_reading 65 = .ok (.getfield 135, 3) := by decide +kernel
theorem dX5_reading_68 : decode cX5_reading 68 = .ok (.iload_n 2, 1) := by decide +kernel
theorem dX5_reading_69 : decode cX5_reading 69 = .ok (.iastore, 1) := by decide +kernel
theorem dX5_reading_70 : decode cX5_reading 70 = .ok (.aload_n 0, 1) := by decide +kernel
theorem dX5_reading_71 : decode cX5_reading 71 = .ok (.getfield 77, 3) := by decide +kernel
theorem dX5_reading_74 : decode cX5_reading 74 = .ok (.aload_n 0, 1) := by decide +kernel
theorem dX5_reading_75 : decode cX5_reading 75 = .ok (.getfield 135, 3) := by decide +kernel
theorem dX5_reading_78 : decode cX5_reading 78 = .ok (.iload_n 3, 1) := by decide +kernel
theorem dX5_reading_79 : decode cX5_reading 79 = .ok (.iastore, 1) := by decide +kernel
theorem dX5_reading_80 : decode cX5_reading 80 = .ok (.aload_n 0, 1) := by decide +kernel
theorem dX5_reading_81 : decode cX5_reading 81 = .ok (.getfield 80, 3) := by decide +kernel
theorem dX5_reading_84 : decode cX5_reading 84 = .ok (.aload_n 0, 1) := by decide +kernel
theorem dX5_reading_85 : decode cX5_reading 85 = .ok (.getfield 135, 3) := by decide +kernel
theorem dX5_reading_88 : decode cX5_reading 88 = .ok (.iload 4, 2) := by decide +kernel
theorem dX5_reading_90 : decode cX5_reading 90 = .ok (.iastore, 1) := by decide +kernel
theorem dX5_reading_91 : decode cX5_reading 91 = .ok (.aload_n 0, 1) := by decide +kernel
theorem dX5_reading_92 : decode cX5_reading 92 = .ok (.dup, 1) := by decide +kernel
theorem dX5_reading_93 : decode cX5_reading 93 = .ok (.getfield 135, 3) := by decide +kernel
theorem dX5_reading_96 : decode cX5_reading 96 = .ok (.iconst 1, 1) := by decide +kernel
theorem dX5_reading_97 : decode cX5_reading 97 = .ok (.iadd, 1) := by decide +kernel
theorem dX5_reading_98 : decode cX5_reading 98 = .ok (.putfield 135, 3) := by decide +kernel
theorem dX5_reading_101 : decode cX5_reading 101 = .ok (.aload_n 0, 1) := by decide +kernel
theorem dX5_reading_102 : decode cX5_reading 102 = .ok (.getfield 135, 3) := by decide +kernel
theorem dX5_reading_105 : decode cX5_reading 105 = .ok (.iconst 1, 1) := by decide +kernel
theorem dX5_reading_106 : decode cX5_reading 106 = .ok (.isub, 1) := by decide +kernel
theorem dX5_reading_107 : decode cX5_reading 107 = .ok (.ireturn, 1) := by decide +kernel
theorem dX5_back_0 : decode cX5_back 0 = .ok (.iload_n 1, 1) := by decide +kernel
theorem dX5_back_1 : decode cX5_back 1 = .ok (.iconst 0, 1) := by decide +kernel
theorem dX5_back_2 : decode cX5_back 2 = .ok (.aload_n 0, 1) := by decide +kernel
theorem dX5_back_3 : decode cX5_back 3 = .ok (.getfield 135, 3) := by decide +kernel
theorem dX5_back_6 : decode cX5_back 6 = .ok (.invokestatic 89, 3) := by decide +kernel
theorem dX5_back_9 : decode cX5_back 9 = .ok (.ifCond .ne 6, 3) := by decide +kernel
theorem dX5_back_12 : decode cX5_back 12 = .ok (.bipush (-2), 2) := by decide +kernel
theorem dX5_back_14 : decode cX5_back 14 = .ok (.ireturn, 1) := by decide +kernel
theorem dX5_back_15 : decode cX5_back 15 = .ok (.aload_n 0, 1) := by decide +kernel
theorem dX5_back_16 : decode cX5_back 16 = .ok (.dup, 1) := by decide +kernel
theorem dX5_back_17 : decode cX5_back 17 = .ok (.getfield 135, 3) := by decide +kernel
theorem dX5_back_20 : decode cX5_back 20 = .ok (.iload_n 1, 1) := by decide +kernel
theorem dX5_back_21 : decode cX5_back 21 = .ok (.isub, 1) := by decide +kernel
theorem dX5_back_22 : decode cX5_back 22 = .ok (.putfield 135, 3) := by decide +kernel
theorem dX5_back_25 : decode cX5_back 25 = .ok (.aload_n 0, 1) := by decide +kernel
theorem dX5_back_26 : decode cX5_back 26 = .ok (.getfield 135, 3) := by decide +kernel
theorem dX5_back_29 : decode cX5_back 29 = .ok (.ireturn, 1) := by decide +kernel
theorem dX5_areSo_0 : decode cX5_areSo 0 = .ok (.iconst 0, 1) := by decide +kernel
theorem dX5_areSo_1 : decode cX5_areSo 1 = .ok (.istore_n 1, 1) := by decide +kernel
theorem dX5_areSo_2 : decode cX5_areSo 2 = .ok (.iload_n 1, 1) := by decide +kernel
theorem dX5_areSo_3 : decode cX5_areSo 3 = .ok (.aload_n 0, 1) := by decide +kernel
theorem dX5_areSo_4 : decode cX5_areSo 4 = .ok (.getfield 135, 3) := by decide +kernel
theorem dX5_areSo_7 : decode cX5_areSo 7 = .ok (.if_icmp .ge 47, 3) := by decide +kernel
theorem dX5_areSo_10 : decode cX5_areSo 10 = .ok (.aload_n 0, 1) := by decide +kernel
theorem dX5_areSo_11 : decode cX5_areSo 11 = .ok (.aload_n 0, 1) := by decide +kernel
theorem dX5_areSo_12 : decode cX5_areSo 12 = .ok (.getfield 74, 3) := by decide +kernel
theorem dX5_areSo_15 : decode cX5_areSo 15 = .ok (.iload_n 1, 1) := by decide +kernel
theorem dX5_areSo_16 : decode cX5_areSo 16 = .ok (.iaload, 1) := by decide +kernel
theorem dX5_areSo_17 : decode cX5_areSo 17 = .ok (.aload_n 0, 1) := by decide +kernel
theorem dX5_areSo_18 : decode cX5_areSo 18 = .ok (.getfield 77, 3) := by decide +kernel
theorem dX5_areSo_21 : decode cX5_areSo 21 = .ok (.iload_n 1, 1) := by decide +kernel
theorem dX5_areSo_22 : decode cX5_areSo 22 = .ok (.iaload, 1) := by decide +kernel
theorem dX5_areSo_23 : decode cX5_areSo 23 = .ok (.invokevirtual 194, 3) := by decide +kernel
theorem dX5_areSo_26 : decode cX5_areSo 26 = .ok (.aload_n 0, 1) := by decide +kernel
theorem dX5_areSo_27 : decode cX5_areSo 27 = .ok (.getfield 62, 3) := by decide +kernel
theorem dX5_areSo_30 : decode cX5_areSo 30 = .ok (.aload_n 0, 1) := by decide +kernel
theorem dX5_areSo_31 : decode cX5_areSo 31 = .ok (.getfield 71, 3) := by decide +kernel
theorem dX5_areSo_34 : decode cX5_areSo 34 = .ok (.iload_n 1, 1) := by decide +kernel
theorem dX5_areSo_35 : decode cX5_areSo 35 = .ok (.iaload, 1) := by decide +kernel
theorem dX5_areSo_36 : decode cX5_areSo 36 = .ok (.iaload, 1) := by decide +kernel
theorem dX5_areSo_37 : decode cX5_areSo 37 = .ok (.aload_n 0, 1) := by decide +kernel
theorem dX5_areSo_38 : decode cX5_areSo 38 = .ok (.getfield 80, 3) := by decide +kernel
theorem dX5_areSo_41 : decode cX5_areSo 41 = .ok (.iload_n 1, 1) := by decide +kernel
theorem dX5_areSo_42 : decode cX5_areSo 42 = .ok (.iaload, 1) := by decide +kernel
theorem dX5_areSo_43 : decode cX5_areSo 43 = .ok (.if_icmp .eq 5, 3) := by decide +kernel
theorem dX5_areSo_46 : decode cX5_areSo 46 = .ok (.iconst 0, 1) := by decide +kernel
theorem dX5_areSo_47 : decode cX5_areSo 47 = .ok (.ireturn, 1) := by decide +kernel
theorem dX5_areSo_48 : decode cX5_areSo 48 = .ok (.iinc 1 1, 3) := by decide +kernel
theorem dX5_areSo_51 : decode cX5_areSo 51 = .ok (.goto (-49), 3) := by decide +kernel
theorem dX5_areSo_54 : decode cX5_areSo 54 = .ok (.iconst 1, 1) := by decide +kernel
theorem dX5_areSo_55 : decode cX5_areSo 55 = .ok (.ireturn, 1) := by decide +kernel
theorem dX5_gone_0 : decode cX5_gone 0 = .ok (.aload_n 0, 1) := by decide +kernel
theorem dX5_gone_1 : decode cX5_gone 1 = .ok (.getfield 96, 3) := by decide +kernel
theorem dX5_gone_4 : decode cX5_gone 4 = .ok (.ifCond .ne 6, 3) := by decide +kernel
theorem dX5_gone_7 : decode cX5_gone 7 = .ok (.bipush (-3), 2) := by decide +kernel
theorem dX5_gone_9 : decode cX5_gone 9 = .ok (.ireturn, 1) := by decide +kernel
theorem dX5_gone_10 : decode cX5_gone 10 = .ok (.iconst 0, 1) := by decide +kernel
theorem dX5_gone_11 : decode cX5_gone 11 = .ok (.istore_n 1, 1) := by decide +kernel
theorem dX5_gone_12 : decode cX5_gone 12 = .ok (.iconst 0, 1) := by decide +kernel
theorem dX5_gone_13 : decode cX5_gone 13 = .ok (.istore_n 2, 1) := by decide +kernel
theorem dX5_gone_14 : decode cX5_gone 14 = .ok (.iload_n 2, 1) := by decide +kernel
theorem dX5_gone_15 : decode cX5_gone 15 = .ok (.aload_n 0, 1) := by decide +kernel
theorem dX5_gone_16 : decode cX5_gone 16 = .ok (.getfield 96, 3) := by decide +kernel
theorem dX5_gone_19 : decode cX5_gone 19 = .ok (.if_icmp .ge 47, 3) := by decide +kernel
theorem dX5_gone_22 : decode cX5_gone 22 = .ok (.aload_n 0, 1) := by decide +kernel
theorem dX5_gone_23 : decode cX5_gone 23 = .ok (.getfield 40, 3) := by decide +kernel
theorem dX5_gone_26 : decode cX5_gone 26 = .ok (.iload_n 2, 1) := by decide +kernel
theorem dX5_gone_27 : decode cX5_gone 27 = .ok (.baload, 1) := by decide +kernel
theorem dX5_gone_28 : decode cX5_gone 28 = .ok (.istore_n 3, 1) := by decide +kernel
theorem dX5_gone_29 : decode cX5_gone 29 = .ok (.aload_n 0, 1) := by decide +kernel
theorem dX5_gone_30 : decode cX5_gone 30 = .ok (.getfield 40, 3) := by decide +kernel
theorem dX5_gone_33 : decode cX5_gone 33 = .ok (.iload_n 2, 1) := by decide +kernel
theorem dX5_gone_34 : decode cX5_gone 34 = .ok (.iconst 1, 1) := by decide +kernel
theorem dX5_gone_35 : decode cX5_gone 35 = .ok (.bastore, 1) := by decide +kernel
theorem dX5_gone_36 : decode cX5_gone 36 = .ok (.iload_n 1, 1) := by decide +kernel
theorem dX5_gone_37 : decode cX5_gone 37 = .ok (.aload_n 0, 1) := by decide +kernel
theorem dX5_gone_38 : decode cX5_gone 38 = .ok (.invokevirtual 239, 3) := by decide +kernel
theorem dX5_gone_41 : decode cX5_gone 41 = .ok (.ifCond .eq 9, 3) := by decide +kernel
theorem dX5_gone_44 : decode cX5_gone 44 = .ok (.iconst 1, 1) := by decide +kernel
theorem dX5_gone_45 : decode cX5_gone 45 = .ok (.iload_n 2, 1) := by decide +kernel
theorem dX5_gone_46 : decode cX5_gone 46 = .ok (.ishl, 1) := by decide +kernel
theorem dX5_gone_47 : decode cX5_gone 47 = .ok (.goto 4, 3) := by decide +kernel
theorem dX5_gone_50 : decode cX5_gone 50 = .ok (.iconst 0, 1) := by decide +kernel
theorem dX5_gone_51 : decode cX5_gone 51 = .ok (.ior, 1) := by decide +kernel
theorem dX5_gone_52 : decode cX5_gone 52 = .ok (.istore_n 1, 1) := by decide +kernel
theorem dX5_gone_53 : decode cX5_gone 53 = .ok (.aload_n 0, 1) := by decide +kernel
theorem dX5_gone_54 : decode cX5_gone 54 = .ok (.getfield 40, 3) := by decide +kernel
theorem dX5_gone_57 : decode cX5_gone 57 = .ok (.iload_n 2, 1) := by decide +kernel
theorem dX5_gone_58 : decode cX5_gone 58 = .ok (.iload_n 3, 1) := by decide +kernel
theorem dX5_gone_59 : decode cX5_gone 59 = .ok (.bastore, 1) := by decide +kernel
theorem dX5_gone_60 : decode cX5_gone 60 = .ok (.iinc 2 1, 3) := by decide +kernel
theorem dX5_gone_63 : decode cX5_gone 63 = .ok (.goto (-49), 3) := by decide +kernel
theorem dX5_gone_66 : decode cX5_gone 66 = .ok (.iload_n 1, 1) := by decide +kernel
theorem dX5_gone_67 : decode cX5_gone 67 = .ok (.ireturn, 1) := by decide +kernel
theorem dX5_seams_0 : decode cX5_seams 0 = .ok (.aload_n 0, 1) := by decide +kernel
theorem dX5_seams_1 : decode cX5_seams 1 = .ok (.getfield 96, 3) := by decide +kernel
theorem dX5_seams_4 : decode cX5_seams 4 = .ok (.ifCond .ne 6, 3) := by decide +kernel
theorem dX5_seams_7 : decode cX5_seams 7 = .ok (.bipush (-3), 2) := by decide +kernel
theorem dX5_seams_9 : decode cX5_seams 9 = .ok (.ireturn, 1) := by decide +kernel
theorem dX5_seams_10 : decode cX5_seams 10 = .ok (.aload_n 0, 1) := by decide +kernel
theorem dX5_seams_11 : decode cX5_seams 11 = .ok (.getfield 123, 3) := by decide +kernel
theorem dX5_seams_14 : decode cX5_seams 14 = .ok (.istore_n 1, 1) := by decide +kernel
theorem dX5_seams_15 : decode cX5_seams 15 = .ok (.iconst 0, 1) := by decide +kernel
theorem dX5_seams_16 : decode cX5_seams 16 = .ok (.istore_n 2, 1) := by decide +kernel
theorem dX5_seams_17 : decode cX5_seams 17 = .ok (.iconst 1, 1) := by decide +kernel
theorem dX5_seams_18 : decode cX5_seams 18 = .ok (.istore_n 3, 1) := by decide +kernel
theorem dX5_seams_19 : decode cX5_seams 19 = .ok (.iload_n 3, 1) := by decide +kernel
theorem dX5_seams_20 : decode cX5_seams 20 = .ok (.bipush 13, 2) := by decide +kernel
theorem dX5_seams_22 : decode cX5_seams 22 = .ok (.if_icmp .gt 31, 3) := by decide +kernel
theorem dX5_seams_25 : decode cX5_seams 25 = .ok (.aload_n 0, 1) := by decide +kernel
theorem dX5_seams_26 : decode cX5_seams 26 = .ok (.iload_n 3, 1) := by decide +kernel
theorem dX5_seams_27 : decode cX5_seams 27 = .ok (.putfield 123, 3) := by decide +kernel
theorem dX5_seams_30 : decode cX5_seams 30 = .ok (.iload_n 2, 1) := by decide +kernel
theorem dX5_seams_31 : decode cX5_seams 31 = .ok (.aload_n 0, 1) := by decide +kernel
theorem dX5_seams_32 : decode cX5_seams 32 = .ok (.invokevirtual 239, 3) := by decide +kernel
theorem dX5_seams_35 : decode cX5_seams 35 = .ok (.ifCond .eq 9, 3) := by decide +kernel
theorem dX5_seams_38 : decode cX5_seams 38 = .ok (.iconst 1, 1) := by decide +kernel
theorem dX5_seams_39 : decode cX5_seams 39 = .ok (.iload_n 3, 1) := by decide +kernel
theorem dX5_seams_40 : decode cX5_seams 40 = .ok (.ishl, 1) := by decide +kernel
theorem dX5_seams_41 : decode cX5_seams 41 = .ok (.goto 4, 3) := by decide +kernel
theorem dX5_seams_44 : decode cX5_seams 44 = .ok (.iconst 0, 1) := by decide +kernel
theorem dX5_seams_45 : decode cX5_seams 45 = .ok (.ior, 1) := by decide +kernel
theorem dX5_seams_46 : decode cX5_seams 46 = .ok (.istore_n 2, 1) := by decide +kernel
theorem dX5_seams_47 : decode cX5_seams 47 = .ok (.iinc 3 1, 3) := by decide +kernel
theorem dX5_seams_50 : decode cX5_seams 50 = .ok (.goto (-31), 3) := by decide +kernel
theorem dX5_seams_53 : decode cX5_seams 53 = .ok (.aload_n 0, 1) := by decide +kernel
theorem dX5_seams_54 : decode cX5_seams 54 = .ok (.iload_n 1, 1) := by decide +kernel
theorem dX5_seams_55 : decode cX5_seams 55 = .ok (.putfield 123, 3) := by decide +kernel
theorem dX5_seams_58 : decode cX5_seams 58 = .ok (.iload_n 2, 1) := by decide +kernel
theorem dX5_seams_59 : decode cX5_seams 59 = .ok (.ireturn, 1) := by decide +kernel
theorem dX5_kinds_0 : decode cX5_kinds 0 = .ok (.aload_n 0, 1) := by decide +kernel
theorem dX5_kinds_1 : decode cX5_kinds 1 = .ok (.iload_n 1, 1) := by decide +kernel
theorem dX5_kinds_2 : decode cX5_kinds 2 = .ok (.invokevirtual 158, 3) := by decide +kernel
theorem dX5_kinds_5 : decode cX5_kinds 5 = .ok (.ifCond .ne 5, 3) := by decide +kernel
theorem dX5_kinds_8 : decode cX5_kinds 8 = .ok (.iconst (-1), 1) := by decide +kernel
theorem dX5_kinds_9 : decode cX5_kinds 9 = .ok (.ireturn, 1) := by decide +kernel
theorem dX5_kinds_10 : decode cX5_kinds 10 = .ok (.aload_n 0, 1) := by decide +kernel
theorem dX5_kinds_11 : decode cX5_kinds 11 = .ok (.getfield 25, 3) := by decide +kernel
theorem dX5_kinds_14 : decode cX5_kinds 14 = .ok (.iload_n 1, 1) := by decide +kernel
theorem dX5_kinds_15 : decode cX5_kinds 15 = .ok (.iaload, 1) := by decide +kernel
theorem dX5_kinds_16 : decode cX5_kinds 16 = .ok (.istore_n 2, 1) := by decide +kernel
theorem dX5_kinds_17 : decode cX5_kinds 17 = .ok (.iconst 0, 1) := by decide +kernel
theorem dX5_kinds_18 : decode cX5_kinds 18 = .ok (.istore_n 3, 1) := by decide +kernel
theorem dX5_kinds_19 : decode cX5_kinds 19 = .ok (.iconst 0, 1) := by decide +kernel
theorem dX5_kinds_20 : decode cX5_kinds 20 = .ok (.istore 4, 2) := by decide +kernel
theorem dX5_kinds_22 : decode cX5_kinds 22 = .ok (.iload 4, 2) := by decide +kernel
theorem dX5_kinds_24 : decode cX5_kinds 24 = .ok (.iconst 3, 1) := by decide +kernel
theorem dX5_kinds_25 : decode cX5_kinds 25 = .ok (.if_icmp .ge 35, 3) := by decide +kernel
theorem dX5_kinds_28 : decode cX5_kinds 28 = .ok (.aload_n 0, 1) := by decide +kernel
theorem dX5_kinds_29 : decode cX5_kinds 29 = .ok (.getfield 25, 3) := by decide +kernel
theorem dX5_kinds_32 : decode cX5_kinds 32 = .ok (.iload_n 1, 1) := by decide +kernel
theorem dX5_kinds_33 : decode cX5_kinds 33 = .ok (.iload 4, 2) := by decide +kernel
theorem dX5_kinds_35 : decode cX5_kinds 35 = .ok (.iastore, 1) := by decide +kernel
theorem dX5_kinds_36 : decode cX5_kinds 36 = .ok (.iload_n 3, 1) := by decide +kernel
theorem dX5_kinds_37 : decode cX5_kinds 37 = .ok (.aload_n 0, 1) := by decide +kernel
theorem dX5_kinds_38 : decode cX5_kinds 38 = .ok (.invokevirtual 239, 3) := by decide +kernel
theorem dX5_kinds_41 : decode cX5_kinds 41 = .ok (.ifCond .eq 10, 3) := by decide +kernel
theorem dX5_kinds_44 : decode cX5_kinds 44 = .ok (.iconst 1, 1) := by decide +kernel
theorem dX5_kinds_45 : decode cX5_kinds 45 = .ok (.iload 4, 2) := by decide +kernel
theorem dX5_kinds_47 : decode cX5_kinds 47 = .ok (.ishl, 1) := by decide +kernel
theorem dX5_kinds_48 : decode cX5_kinds 48 = .ok (.goto 4, 3) := by decide +kernel
theorem dX5_kinds_51 : decode cX5_kinds 51 = .ok (.iconst 0, 1) := by decide +kernel
theorem dX5_kinds_52 : decode cX5_kinds 52 = .ok (.ior, 1) := by decide +kernel
theorem dX5_kinds_53 : decode cX5_kinds 53 = .ok (.istore_n 3, 1) := by decide +kernel
theorem dX5_kinds_54 : decode cX5_kinds 54 = .ok (.iinc 4 1, 3) := by decide +kernel
theorem dX5_kinds_57 : decode cX5_kinds 57 = .ok (.goto (-35), 3) := by decide +kernel
theorem dX5_kinds_60 : decode cX5_kinds 60 = .ok (.aload_n 0, 1) := by decide +kernel
theorem dX5_kinds_61 : decode cX5_kinds 61 = .ok (.getfield 25, 3) := by decide +kernel
theorem dX5_kinds_64 : decode cX5_kinds 64 = .ok (.iload_n 1, 1) := by decide +kernel
theorem dX5_kinds_65 : decode cX5_kinds 65 = .ok (.iload_n 2, 1) := by decide +kernel
theorem dX5_kinds_66 : decode cX5_kinds 66 = .ok (.iastore, 1) := by decide +kernel
theorem dX5_kinds_67 : decode cX5_kinds 67 = .ok (.iload_n 3, 1) := by decide +kernel
theorem dX5_kinds_68 : decode cX5_kinds 68 = .ok (.ireturn, 1) := by decide +kernel
theorem dX5_odds_0 : decode cX5_odds 0 = .ok (.iload_n 1, 1) := by decide +kernel
theorem dX5_odds_1 : decode cX5_odds 1 = .ok (.invokestatic 164, 3) := by decide +kernel
theorem dX5_odds_4 : decode cX5_odds 4 = .ok (.ifCond .eq 19, 3) := by decide +kernel
theorem dX5_odds_7 : decode cX5_odds 7 = .ok (.iload_n 2, 1) := by decide +kernel
theorem dX5_odds_8 : decode cX5_odds 8 = .ok (.iconst 0, 1) := by decide +kernel
theorem dX5_odds_9 : decode cX5_odds 9 = .ok (.iconst 1, 1) := by decide +kernel
theorem dX5_odds_10 : decode cX5_odds 10 = .ok (.invokestatic 89, 3) := by decide +kernel
theorem dX5_odds_13 : decode cX5_odds 13 = .ok (.ifCond .eq 10, 3) := by decide +kernel
theorem dX5_odds_16 : decode cX5_odds 16 = .ok (.aload_n 0, 1) := by decide +kernel
theorem dX5_odds_17 : decode cX5_odds 17 = .ok (.getfield 96, 3) := by decide +kernel
theorem dX5_odds_20 : decode cX5_odds 20 = .ok (.ifCond .ne 7, 3) := by decide +kernel
theorem dX5_odds_23 : decode cX5_odds 23 = .ok (.ldc2_w 87, 3) := by decide +kernel
theorem dX5_odds_26 : decode cX5_odds 26 = .ok (.lreturn, 1) := by decide +kernel
theorem dX5_odds_27 : decode cX5_odds 27 = .ok (.aload_n 0, 1) := by decide +kernel
theorem dX5_odds_28 : decode cX5_odds 28 = .ok (.invokevirtual 210, 3) := by decide +kernel
theorem dX5_odds_31 : decode cX5_odds 31 = .ok (.istore_n 3, 1) := by decide +kernel
theorem dX5_odds_32 : decode cX5_odds 32 = .ok (.iconst 0, 1) := by decide +kernel
theorem dX5_odds_33 : decode cX5_odds 33 = .ok (.istore 4, 2) := by decide +kernel
theorem dX5_odds_35 : decode cX5_odds 35 = .ok (.iconst 0, 1) := by decide +kernel
theorem dX5_odds_36 : decode cX5_odds 36 = .ok (.istore 5, 2) := by decide +kernel
theorem dX5_odds_38 : decode cX5_odds 38 = .ok (.iload 5, 2) := by decide +kernel
theorem dX5_odds_40 : decode cX5_odds 40 = .ok (.iconst 1, 1) := by decide +kernel
theorem dX5_odds_41 : decode cX5_odds 41 = .ok (.aload_n 0, 1) := by decide +kernel
theorem dX5_odds_42 : decode cX5_odds 42 = .ok (.getfield 96, 3) := by decide +kernel
theorem dX5_odds_45 : decode cX5_odds 45 = .ok (.ishl, 1) := by decide +kernel
theorem dX5_odds_46 : decode cX5_odds 46 = .ok (.if_icmp .ge 37, 3) := by decide +kernel
theorem dX5_odds_49 : decode cX5_odds 49 = .ok (.aload_n 0, 1) := by decide +kernel
theorem dX5_odds_50 : decode cX5_odds 50 = .ok (.iload 5, 2) := by decide +kernel
theorem dX5_odds_52 : decode cX5_odds 52 = .ok (.invokevirtual 216, 3) := by decide +kernel
theorem dX5_odds_55 : decode cX5_odds 55 = .ok (.aload_n 0, 1) := by decide +kernel
theorem dX5_odds_56 : decode cX5_odds 56 = .ok (.iload_n 1, 1) := by decide +kernel
theorem dX5_odds_57 : decode cX5_odds 57 = .ok (.invokevirtual 200, 3) := by decide +kernel
theorem dX5_odds_60 : decode cX5_odds 60 = .ok (.iload 4, 2) := by decide +kernel
theorem dX5_odds_62 : decode cX5_odds 62 = .ok (.aload_n 0, 1) := by decide +kernel
theorem dX5_odds_63 : decode cX5_odds 63 = .ok (.invokevirtual 203, 3) := by decide +kernel
theorem dX5_odds_66 : decode cX5_odds 66 = .ok (.ifCond .ne 7, 3) := by decide +kernel
theorem dX5_odds_69 : decode cX5_odds 69 = .ok (.iconst 1, 1) := by decide +kernel
theorem dX5_odds_70 : decode cX5_odds 70 = .ok (.goto 4, 3) := by decide +kernel
theorem dX5_odds_73 : decode cX5_odds 73 = .ok (.iconst 0, 1) := by decide +kernel
theorem dX5_odds_74 : decode cX5_odds 74 = .ok (.iadd, 1) := by decide +kernel
theorem dX5_odds_75 : decode cX5_odds 75 = .ok (.istore 4, 2) := by decide +kernel
theorem dX5_odds_77 : decode cX5_odds 77 = .ok (.iinc 5 1, 3) := by decide +kernel
theorem dX5_odds_80 : decode cX5_odds 80 = .ok (.goto (-42), 3) := by decide +kernel
theorem dX5_odds_83 : decode cX5_odds 83 = .ok (.aload_n 0, 1) := by decide +kernel
theorem dX5_odds_84 : decode cX5_odds 84 = .ok (.iload_n 3, 1) := by decide +kernel
theorem dX5_odds_85 : decode cX5_odds 85 = .ok (.invokevirtual 216, 3) := by decide +kernel
theorem dX5_odds_88 : decode cX5_odds 88 = .ok (.iload 4, 2) := by decide +kernel
theorem dX5_odds_90 : decode cX5_odds 90 = .ok (.i2l, 1) := by decide +kernel
theorem dX5_odds_91 : decode cX5_odds 91 = .ok (.lconst 1, 1) := by decide +kernel
theorem dX5_odds_92 : decode cX5_odds 92 = .ok (.aload_n 0, 1) := by decide +kernel
theorem dX5_odds_93 : decode cX5_odds 93 = .ok (.getfield 96, 3) := by decide +kernel
theorem dX5_odds_96 : decode cX5_odds 96 = .ok (.lshl, 1) := by decide +kernel
theorem dX5_odds_97 : decode cX5_odds 97 = .ok (.iload_n 2, 1) := by decide +kernel
theorem dX5_odds_98 : decode cX5_odds 98 = .ok (.invokestatic 229, 3) := by decide +kernel
theorem dX5_odds_101 : decode cX5_odds 101 = .ok (.lreturn, 1) := by decide +kernel
theorem dX5_sheet_0 : decode cX5_sheet 0 = .ok (.aload_n 0, 1) := by decide +kernel
theorem dX5_sheet_1 : decode cX5_sheet 1 = .ok (.iconst 0, 1) := by decide +kernel
theorem dX5_sheet_2 : decode cX5_sheet 2 = .ok (.putfield 83, 3) := by decide +kernel
theorem dX5_sheet_5 : decode cX5_sheet 5 = .ok (.iload_n 1, 1) := by decide +kernel
theorem dX5_sheet_6 : decode cX5_sheet 6 = .ok (.invokestatic 102, 3) := by decide +kernel
theorem dX5_sheet_9 : decode cX5_sheet 9 = .ok (.ifCond .ne 5, 3) := by decide +kernel
theorem dX5_sheet_12 : decode cX5_sheet 12 = .ok (.iconst (-1), 1) := by decide +kernel
theorem dX5_sheet_13 : decode cX5_sheet 13 = .ok (.ireturn, 1) := by decide +kernel
theorem dX5_sheet_14 : decode cX5_sheet 14 = .ok (.iload_n 2, 1) := by decide +kernel
theorem dX5_sheet_15 : decode cX5_sheet 15 = .ok (.invokestatic 106, 3) := by decide +kernel
theorem dX5_sheet_18 : decode cX5_sheet 18 = .ok (.ifCond .eq 9, 3) := by decide +kernel
theorem dX5_sheet_21 : decode cX5_sheet 21 = .ok (.iload_n 3, 1) := by decide +kernel
theorem dX5_sheet_22 : decode cX5_sheet 22 = .ok (.bipush 60, 2) := by decide +kernel
theorem dX5_sheet_24 : decode cX5_sheet 24 = .ok (.if_icmp .le 6, 3) := by decide +kernel
theorem dX5_sheet_27 : decode cX5_sheet 27 = .ok (.bipush (-2), 2) := by decide +kernel
theorem dX5_sheet_29 : decode cX5_sheet 29 = .ok (.ireturn, 1) := by decide +kernel
theorem dX5_sheet_30 : decode cX5_sheet 30 = .ok (.iload_n 3, 1) := by decide +kernel
theorem dX5_sheet_31 : decode cX5_sheet 31 = .ok (.ifCond .ge 9, 3) := by decide +kernel
theorem dX5_sheet_34 : decode cX5_sheet 34 = .ok (.aload_n 0, 1) := by decide +kernel
theorem dX5_sheet_35 : decode cX5_sheet 35 = .ok (.iconst 4, 1) := by decide +kernel
theorem dX5_sheet_36 : decode cX5_sheet 36 = .ok (.invokevirtual 113, 3) := by decide +kernel
theorem dX5_sheet_39 : decode cX5_sheet 39 = .ok (.ireturn, 1) := by decide +kernel
theorem dX5_sheet_40 : decode cX5_sheet 40 = .ok (.aload_n 0, 1) := by decide +kernel
theorem dX5_sheet_41 : decode cX5_sheet 41 = .ok (.getfield 9, 3) := by decide +kernel
theorem dX5_sheet_44 : decode cX5_sheet 44 = .ok (.iload_n 1, 1) := by decide +kernel
theorem dX5_sheet_45 : decode cX5_sheet 45 = .ok (.iload_n 2, 1) := by decide +kernel
theorem dX5_sheet_46 : decode cX5_sheet 46 = .ok (.iastore, 1) := by decide +kernel
theorem dX5_sheet_47 : decode cX5_sheet 47 = .ok (.aload_n 0, 1) := by decide +kernel
theorem dX5_sheet_48 : decode cX5_sheet 48 = .ok (.getfield 13, 3) := by decide +kernel
theorem dX5_sheet_51 : decode cX5_sheet 51 = .ok (.iload_n 1, 1) := by decide +kernel
theorem dX5_sheet_52 : decode cX5_sheet 52 = .ok (.iload_n 3, 1) := by decide +kernel
theorem dX5_sheet_53 : decode cX5_sheet 53 = .ok (.iastore, 1) := by decide +kernel
theorem dX5_sheet_54 : decode cX5_sheet 54 = .ok (.iconst 0, 1) := by decide +kernel
theorem dX5_sheet_55 : decode cX5_sheet 55 = .ok (.istore 4, 2) := by decide +kernel
theorem dX5_sheet_57 : decode cX5_sheet 57 = .ok (.iload 4, 2) := by decide +kernel
theorem dX5_sheet_59 : decode cX5_sheet 59 = .ok (.bipush 60, 2) := by decide +kernel
theorem dX5_sheet_61 : decode cX5_sheet 61 = .ok (.if_icmp .ge 22, 3) := by decide +kernel
theorem dX5_sheet_64 : decode cX5_sheet 64 = .ok (.aload_n 0, 1) := by decide +kernel
theorem dX5_sheet_65 : decode cX5_sheet 65 = .ok (.getfield 16, 3) := by decide +kernel
theorem dX5_sheet_68 : decode cX5_sheet 68 = .ok (.bipush 60, 2) := by decide +kernel
theorem dX5_sheet_70 : decode cX5_sheet 70 = .ok (.iload_n 1, 1) := by decide +kernel
theorem dX5_sheet_71 : decode cX5_sheet 71 = .ok (.imul, 1) := by decide +kernel
theorem dX5_sheet_72 : decode cX5_sheet 72 = .ok (.iload 4, 2) := by decide +kernel
theorem dX5_sheet_74 : decode cX5_sheet 74 = .ok (.iadd, 1) := by decide +kernel
theorem dX5_sheet_75 : decode cX5_sheet 75 = .ok (.iconst 0, 1) := by decide +kernel
theorem dX5_sheet_76 : decode cX5_sheet 76 = .ok (.iastore, 1) := by decide +kernel
theorem dX5_sheet_77 : decode cX5_sheet 77 = .ok (.iinc 4 1, 3) := by decide +kernel
theorem dX5_sheet_80 : decode cX5_sheet 80 = .ok (.goto (-23), 3) := by decide +kernel
theorem dX5_sheet_83 : decode cX5_sheet 83 = .ok (.iconst 1, 1) := by decide +kernel
theorem dX5_sheet_84 : decode cX5_sheet 84 = .ok (.ireturn, 1) := by decide +kernel
theorem dX5_lose_0 : decode cX5_lose 0 = .ok (.iload_n 1, 1) := by decide +kernel
theorem dX5_lose_1 : decode cX5_lose 1 = .ok (.invokestatic 102, 3) := by decide +kernel
theorem dX5_lose_4 : decode cX5_lose 4 = .ok (.ifCond .ne 5, 3) := by decide +kernel
theorem dX5_lose_7 : decode cX5_lose 7 = .ok (.iconst (-1), 1) := by decide +kernel
theorem dX5_lose_8 : decode cX5_lose 8 = .ok (.ireturn, 1) := by decide +kernel
theorem dX5_lose_9 : decode cX5_lose 9 = .ok (.aload_n 0, 1) := by decide +kernel
theorem dX5_lose_10 : decode cX5_lose 10 = .ok (.getfield 9, 3) := by decide +kernel
theorem dX5_lose_13 : decode cX5_lose 13 = .ok (.iload_n 1, 1) := by decide +kernel
theorem dX5_lose_14 : decode cX5_lose 14 = .ok (.iaload, 1) := by decide +kernel
theorem dX5_lose_15 : decode cX5_lose 15 = .ok (.bipush (-9), 2) := by decide +kernel
theorem dX5_lose_17 : decode cX5_lose 17 = .ok (.if_icmp .ne 7, 3) := by decide +kernel
theorem dX5_lose_20 : decode cX5_lose 20 = .ok (.iconst 0, 1) := by decide +kernel
theorem dX5_lose_21 : decode cX5_lose 21 = .ok (.goto 4, 3) := by decide +kernel
theorem dX5_lose_24 : decode cX5_lose 24 = .ok (.iconst 1, 1) := by decide +kernel
theorem dX5_lose_25 : decode cX5_lose 25 = .ok (.istore_n 2, 1) := by decide +kernel
theorem dX5_lose_26 : decode cX5_lose 26 = .ok (.aload_n 0, 1) := by decide +kernel
theorem dX5_lose_27 : decode cX5_lose 27 = .ok (.getfield 9, 3) := by decide +kernel
theorem dX5_lose_30 : decode cX5_lose 30 = .ok (.iload_n 1, 1) := by decide +kernel
theorem dX5_lose_31 : decode cX5_lose 31 = .ok (.bipush (-9), 2) := by decide +kernel
theorem dX5_lose_33 : decode cX5_lose 33 = .ok (.iastore, 1) := by decide +kernel
theorem dX5_lose_34 : decode cX5_lose 34 = .ok (.iload_n 2, 1) := by decide +kernel
theorem dX5_lose_35 : decode cX5_lose 35 = .ok (.ireturn, 1) := by decide +kernel
theorem dX5_put_0 : decode cX5_put 0 = .ok (.aload_n 0, 1) := by decide +kernel
theorem dX5_put_1 : decode cX5_put 1 = .ok (.iconst 0, 1) := by decide +kernel
theorem dX5_put_2 : decode cX5_put 2 = .ok (.putfield 83, 3) := by decide +kernel
theorem dX5_put_5 : decode cX5_put 5 = .ok (.iload_n 1, 1) := by decide +kernel
theorem dX5_put_6 : decode cX5_put 6 = .ok (.invokestatic 102, 3) := by decide +kernel
theorem dX5_put_9 : decode cX5_put 9 = .ok (.ifCond .ne 5, 3) := by decide +kernel
theorem dX5_put_12 : decode cX5_put 12 = .ok (.iconst (-1), 1) := by decide +kernel
theorem dX5_put_13 : decode cX5_put 13 = .ok (.ireturn, 1) := by decide +kernel
theorem dX5_put_14 : decode cX5_put 14 = .ok (.aload_n 0, 1) := by decide +kernel
theorem dX5_put_15 : decode cX5_put 15 = .ok (.getfield 9, 3) := by decide +kernel
theorem dX5_put_18 : decode cX5_put 18 = .ok (.iload_n 1, 1) := by decide +kernel
theorem dX5_put_19 : decode cX5_put 19 = .ok (.iaload, 1) := by decide +kernel
theorem dX5_put_20 : decode cX5_put 20 = .ok (.bipush (-9), 2) := by decide +kernel
theorem dX5_put_22 : decode cX5_put 22 = .ok (.if_icmp .ne 9, 3) := by decide +kernel
theorem dX5_put_25 : decode cX5_put 25 = .ok (.aload_n 0, 1) := by decide +kernel
theorem dX5_put_26 : decode cX5_put 26 = .ok (.iconst 1, 1) := by decide +kernel
theorem dX5_put_27 : decode cX5_put 27 = .ok (.invokevirtual 113, 3) := by decide +kernel
theorem dX5_put_30 : decode cX5_put 30 = .ok (.ireturn, 1) := by decide +kernel
theorem dX5_put_31 : decode cX5_put 31 = .ok (.iload_n 2, 1) := by decide +kernel
theorem dX5_put_32 : decode cX5_put 32 = .ok (.iconst 0, 1) := by decide +kernel
theorem dX5_put_33 : decode cX5_put 33 = .ok (.aload_n 0, 1) := by decide +kernel
theorem dX5_put_34 : decode cX5_put 34 = .ok (.getfield 13, 3) := by decide +kernel
theorem dX5_put_37 : decode cX5_put 37 = .ok (.iload_n 1, 1) := by decide +kernel
theorem dX5_put_38 : decode cX5_put 38 = .ok (.iaload, 1) := by decide +kernel
theorem dX5_put_39 : decode cX5_put 39 = .ok (.iconst 1, 1) := by decide +kernel
theorem dX5_put_40 : decode cX5_put 40 = .ok (.isub, 1) := by decide +kernel
theorem dX5_put_41 : decode cX5_put 41 = .ok (.invokestatic 89, 3) := by decide +kernel
theorem dX5_put_44 : decode cX5_put 44 = .ok (.ifCond .ne 9, 3) := by decide +kernel
theorem dX5_put_47 : decode cX5_put 47 = .ok (.aload_n 0, 1) := by decide +kernel
theorem dX5_put_48 : decode cX5_put 48 = .ok (.iconst 3, 1) := by decide +kernel
theorem dX5_put_49 : decode cX5_put 49 = .ok (.invokevirtual 113, 3) := by decide +kernel
theorem dX5_put_52 : decode cX5_put 52 = .ok (.ireturn, 1) := by decide +kernel
theorem dX5_put_53 : decode cX5_put 53 = .ok (.aload_n 0, 1) := by decide +kernel
theorem dX5_put_54 : decode cX5_put 54 = .ok (.getfield 16, 3) := by decide +kernel
theorem dX5_put_57 : decode cX5_put 57 = .ok (.bipush 60, 2) := by decide +kernel
theorem dX5_put_59 : decode cX5_put 59 = .ok (.iload_n 1, 1) := by decide +kernel
theorem dX5_put_60 : decode cX5_put 60 = .ok (.imul, 1) := by decide +kernel
theorem dX5_put_61 : decode cX5_put 61 = .ok (.iload_n 2, 1) := by decide +kernel
theorem dX5_put_62 : decode cX5_put 62 = .ok (.iadd, 1) := by decide +kernel
theorem dX5_put_63 : decode cX5_put 63 = .ok (.aload_n 0, 1) := by decide +kernel
theorem dX5_put_64 : decode cX5_put 64 = .ok (.getfield 9, 3) := by decide +kernel
theorem dX5_put_67 : decode cX5_put 67 = .ok (.iload_n 1, 1) := by decide +kernel
theorem dX5_put_68 : decode cX5_put 68 = .ok (.iaload, 1) := by decide +kernel
theorem dX5_put_69 : decode cX5_put 69 = .ok (.ifCond .ne 8, 3) := by decide +kernel
theorem dX5_put_72 : decode cX5_put 72 = .ok (.iload_n 3, 1) := by decide +kernel
theorem dX5_put_73 : decode cX5_put 73 = .ok (.i2b, 1) := by decide +kernel
theorem dX5_put_74 : decode cX5_put 74 = .ok (.goto 19, 3) := by decide +kernel
theorem dX5_put_77 : decode cX5_put 77 = .ok (.aload_n 0, 1) := by decide +kernel
theorem dX5_put_78 : decode cX5_put 78 = .ok (.getfield 9, 3) := by decide +kernel
theorem dX5_put_81 : decode cX5_put 81 = .ok (.iload_n 1, 1) := by decide +kernel
theorem dX5_put_82 : decode cX5_put 82 = .ok (.iaload, 1) := by decide +kernel
theorem dX5_put_83 : decode cX5_put 83 = .ok (.iconst 1, 1) := by decide +kernel
theorem dX5_put_84 : decode cX5_put 84 = .ok (.if_icmp .ne 8, 3) := by decide +kernel
theorem dX5_put_87 : decode cX5_put 87 = .ok (.iload_n 3, 1) := by decide +kernel
theorem dX5_put_88 : decode cX5_put 88 = .ok (.i2s, 1) := by decide +kernel
theorem dX5_put_89 : decode cX5_put 89 = .ok (.goto 4, 3) := by decide +kernel
theorem dX5_put_92 : decode cX5_put 92 = .ok (.iload_n 3, 1) := by decide +kernel
theorem dX5_put_93 : decode cX5_put 93 = .ok (.iastore, 1) := by decide +kernel
theorem dX5_put_94 : decode cX5_put 94 = .ok (.iconst 1, 1) := by decide +kernel
theorem dX5_put_95 : decode cX5_put 95 = .ok (.ireturn, 1) := by decide +kernel
theorem dX5_cell_0 : decode cX5_cell 0 = .ok (.aload_n 0, 1) := by decide +kernel
theorem dX5_cell_1 : decode cX5_cell 1 = .ok (.iconst 0, 1) := by decide +kernel
theorem dX5_cell_2 : decode cX5_cell 2 = .ok (.putfield 83, 3) := by decide +kernel
theorem dX5_cell_5 : decode cX5_cell 5 = .ok (.iload_n 1, 1) := by decide +kernel
theorem dX5_cell_6 : decode cX5_cell 6 = .ok (.invokestatic 102, 3) := by decide +kernel
theorem dX5_cell_9 : decode cX5_cell 9 = .ok (.ifCond .eq 10, 3) := by decide +kernel
theorem dX5_cell_12 : decode cX5_cell 12 = .ok (.iload_n 3, 1) := by decide +kernel
theorem dX5_cell_13 : decode cX5_cell 13 = .ok (.invokestatic 106, 3) := by decide +kernel
theorem dX5_cell_16 : decode cX5_cell 16 = .ok (.ifCond .ne 7, 3) := by decide +kernel
theorem dX5_cell_19 : decode cX5_cell 19 = .ok (.ldc2_w 87, 3) := by decide +kernel
theorem dX5_cell_22 : decode cX5_cell 22 = .ok (.lreturn, 1) := by decide +kernel
theorem dX5_cell_23 : decode cX5_cell 23 = .ok (.aload_n 0, 1) := by decide +kernel
theorem dX5_cell_24 : decode cX5_cell 24 = .ok (.getfield 9, 3) := by decide +kernel
theorem dX5_cell_27 : decode cX5_cell 27 = .ok (.iload_n 1, 1) := by decide +kernel
theorem dX5_cell_28 : decode cX5_cell 28 = .ok (.iaload, 1) := by decide +kernel
theorem dX5_cell_29 : decode cX5_cell 29 = .ok (.bipush (-9), 2) := by decide +kernel
theorem dX5_cell_31 : decode cX5_cell 31 = .ok (.if_icmp .eq 19, 3) := by decide +kernel
theorem dX5_cell_34 : decode cX5_cell 34 = .ok (.aload_n 0, 1) := by decide +kernel
theorem dX5_cell_35 : decode cX5_cell 35 = .ok (.getfield 9, 3) := by decide +kernel
theorem dX5_cell_38 : decode cX5_cell 38 = .ok (.iload_n 1, 1) := by decide +kernel
theorem dX5_cell_39 : decode cX5_cell 39 = .ok (.iaload, 1) := by decide +kernel
theorem dX5_cell_40 : decode cX5_cell 40 = .ok (.iload_n 3, 1) := by decide +kernel
theorem dX5_cell_41 : decode cX5_cell 41 = .ok (.if_icmp .eq 9, 3) := by decide +kernel
theorem dX5_cell_44 : decode cX5_cell 44 = .ok (.aload_n 0, 1) := by decide +kernel
theorem dX5_cell_45 : decode cX5_cell 45 = .ok (.iconst 2, 1) := by decide +kernel
theorem dX5_cell_46 : decode cX5_cell 46 = .ok (.invokevirtual 243, 3) := by decide +kernel
theorem dX5_cell_49 : decode cX5_cell 49 = .ok (.lreturn, 1) := by decide +kernel
theorem dX5_cell_50 : decode cX5_cell 50 = .ok (.aload_n 0, 1) := by decide +kernel
theorem dX5_cell_51 : decode cX5_cell 51 = .ok (.getfield 9, 3) := by decide +kernel
theorem dX5_cell_54 : decode cX5_cell 54 = .ok (.iload_n 1, 1) := by decide +kernel
theorem dX5_cell_55 : decode cX5_cell 55 = .ok (.iaload, 1) := by decide +kernel
theorem dX5_cell_56 : decode cX5_cell 56 = .ok (.bipush (-9), 2) := by decide +kernel
theorem dX5_cell_58 : decode cX5_cell 58 = .ok (.if_icmp .ne 9, 3) := by decide +kernel
theorem dX5_cell_61 : decode cX5_cell 61 = .ok (.aload_n 0, 1) := by decide +kernel
theorem dX5_cell_62 : decode cX5_cell 62 = .ok (.iconst 1, 1) := by decide +kernel
theorem dX5_cell_63 : decode cX5_cell 63 = .ok (.invokevirtual 243, 3) := by decide +kernel
theorem dX5_cell_66 : decode cX5_cell 66 = .ok (.lreturn, 1) := by decide +kernel
theorem dX5_cell_67 : decode cX5_cell 67 = .ok (.iload_n 2, 1) := by decide +kernel
theorem dX5_cell_68 : decode cX5_cell 68 = .ok (.iconst 0, 1) := by decide +kernel
theorem dX5_cell_69 : decode cX5_cell 69 = .ok (.aload_n 0, 1) := by decide +kernel
theorem dX5_cell_70 : decode cX5_cell 70 = .ok (.getfield 13, 3) := by decide +kernel
theorem dX5_cell_73 : decode cX5_cell 73 = .ok (.iload_n 1, 1) := by decide +kernel
theorem dX5_cell_74 : decode cX5_cell 74 = .ok (.iaload, 1) := by decide +kernel
theorem dX5_cell_75 : decode cX5_cell 75 = .ok (.iconst 1, 1) := by decide +kernel
theorem dX5_cell_76 : decode cX5_cell 76 = .ok (.isub, 1) := by decide +kernel
theorem dX5_cell_77 : decode cX5_cell 77 = .ok (.invokestatic 89, 3) := by decide +kernel
theorem dX5_cell_80 : decode cX5_cell 80 = .ok (.ifCond .ne 9, 3) := by decide +kernel
theorem dX5_cell_83 : decode cX5_cell 83 = .ok (.aload_n 0, 1) := by decide +kernel
theorem dX5_cell_84 : decode cX5_cell 84 = .ok (.iconst 3, 1) := by decide +kernel
theorem dX5_cell_85 : decode cX5_cell 85 = .ok (.invokevirtual 243, 3) := by decide +kernel
theorem dX5_cell_88 : decode cX5_cell 88 = .ok (.lreturn, 1) := by decide +kernel
theorem dX5_cell_89 : decode cX5_cell 89 = .ok (.aload_n 0, 1) := by decide +kernel
theorem dX5_cell_90 : decode cX5_cell 90 = .ok (.getfield 16, 3) := by decide +kernel
theorem dX5_cell_93 : decode cX5_cell 93 = .ok (.bipush 60, 2) := by decide +kernel
theorem dX5_cell_95 : decode cX5_cell 95 = .ok (.iload_n 1, 1) := by decide +kernel
theorem dX5_cell_96 : decode cX5_cell 96 = .ok (.imul, 1) := by decide +kernel
theorem dX5_cell_97 : decode cX5_cell 97 = .ok (.iload_n 2, 1) := by decide +kernel
theorem dX5_cell_98 : decode cX5_cell 98 = .ok (.iadd, 1) := by decide +kernel
theorem dX5_cell_99 : decode cX5_cell 99 = .ok (.iaload, 1) := by decide +kernel
theorem dX5_cell_100 : decode cX5_cell 100 = .ok (.i2l, 1) := by decide +kernel
theorem dX5_cell_101 : decode cX5_cell 101 = .ok (.lreturn, 1) := by decide +kernel
theorem dX5_copy_0 : decode cX5_copy 0 = .ok (.aload_n 0, 1) := by decide +kernel
theorem dX5_copy_1 : decode cX5_copy 1 = .ok (.iconst 0, 1) := by decide +kernel
theorem dX5_copy_2 : decode cX5_copy 2 = .ok (.putfield 83, 3) := by decide +kernel
theorem dX5_copy_5 : decode cX5_copy 5 = .ok (.iload_n 1, 1) := by decide +kernel
theorem dX5_copy_6 : decode cX5_copy 6 = .ok (.invokestatic 102, 3) := by decide +kernel
theorem dX5_copy_9 : decode cX5_copy 9 = .ok (.ifCond .eq 10, 3) := by decide +kernel
theorem dX5_copy_12 : decode cX5_copy 12 = .ok (.iload_n 3, 1) := by decide +kernel
theorem dX5_copy_13 : decode cX5_copy 13 = .ok (.invokestatic 102, 3) := by decide +kernel
theorem dX5_copy_16 : decode cX5_copy 16 = .ok (.ifCond .ne 5, 3) := by decide +kernel
theorem dX5_copy_19 : decode cX5_copy 19 = .ok (.iconst (-1), 1) := by decide +kernel
theorem dX5_copy_20 : decode cX5_copy 20 = .ok (.ireturn, 1) := by decide +kernel
theorem dX5_copy_21 : decode cX5_copy 21 = .ok (.aload_n 0, 1) := by decide +kernel
theorem dX5_copy_22 : decode cX5_copy 22 = .ok (.getfield 9, 3) := by decide +kernel
theorem dX5_copy_25 : decode cX5_copy 25 = .ok (.iload_n 1, 1) := by decide +kernel
theorem dX5_copy_26 : decode cX5_copy 26 = .ok (.iaload, 1) := by decide +kernel
theorem dX5_copy_27 : decode cX5_copy 27 = .ok (.bipush (-9), 2) := by decide +kernel
theorem dX5_copy_29 : decode cX5_copy 29 = .ok (.if_icmp .eq 14, 3) := by decide +kernel
theorem dX5_copy_32 : decode cX5_copy 32 = .ok (.aload_n 0, 1) := by decide +kernel
theorem dX5_copy_33 : decode cX5_copy 33 = .ok (.getfield 9, 3) := by decide +kernel
theorem dX5_copy_36 : decode cX5_copy 36 = .ok (.iload_n 3, 1) := by decide +kernel
theorem dX5_copy_37 : decode cX5_copy 37 = .ok (.iaload, 1) := by decide +kernel
theorem dX5_copy_38 : decode cX5_copy 38 = .ok (.bipush (-9), 2) := by decide +kernel
theorem dX5_copy_40 : decode cX5_copy 40 = .ok (.if_icmp .ne 9, 3) := by decide +kernel
theorem dX5_copy_43 : decode cX5_copy 43 = .ok (.aload_n 0, 1) := by decide +kernel
theorem dX5_copy_44 : decode cX5_copy 44 = .ok (.iconst 1, 1) := by decide +kernel
theorem dX5_copy_45 : decode cX5_copy 45 = .ok (.invokevirtual 113, 3) := by decide +kernel
theorem dX5_copy_48 : decode cX5_copy 48 = .ok (.ireturn, 1) := by decide +kernel
theorem dX5_copy_49 : decode cX5_copy 49 = .ok (.aload_n 0, 1) := by decide +kernel
theorem dX5_copy_50 : decode cX5_copy 50 = .ok (.getfield 9, 3) := by decide +kernel
theorem dX5_copy_53 : decode cX5_copy 53 = .ok (.iload_n 1, 1) := by decide +kernel
theorem dX5_copy_54 : decode cX5_copy 54 = .ok (.iaload, 1) := by decide +kernel
theorem dX5_copy_55 : decode cX5_copy 55 = .ok (.aload_n 0, 1) := by decide +kernel
theorem dX5_copy_56 : decode cX5_copy 56 = .ok (.getfield 9, 3) := by decide +kernel
theorem dX5_copy_59 : decode cX5_copy 59 = .ok (.iload_n 3, 1) := by decide +kernel
theorem dX5_copy_60 : decode cX5_copy 60 = .ok (.iaload, 1) := by decide +kernel
theorem dX5_copy_61 : decode cX5_copy 61 = .ok (.if_icmp .eq 9, 3) := by decide +kernel
theorem dX5_copy_64 : decode cX5_copy 64 = .ok (.aload_n 0, 1) := by decide +kernel
theorem dX5_copy_65 : decode cX5_copy 65 = .ok (.iconst 2, 1) := by decide +kernel
theorem dX5_copy_66 : decode cX5_copy 66 = .ok (.invokevirtual 113, 3) := by decide +kernel
theorem dX5_copy_69 : decode cX5_copy 69 = .ok (.ireturn, 1) := by decide +kernel
theorem dX5_copy_70 : decode cX5_copy 70 = .ok (.iload_n 2, 1) := by decide +kernel
theorem dX5_copy_71 : decode cX5_copy 71 = .ok (.ifCond .lt 38, 3) := by decide +kernel
theorem dX5_copy_74 : decode cX5_copy 74 = .ok (.iload 4, 2) := by decide +kernel
theorem dX5_copy_76 : decode cX5_copy 76 = .ok (.ifCond .lt 33, 3) := by decide +kernel
theorem dX5_copy_79 : decode cX5_copy 79 = .ok (.iload 5, 2) := by decide +kernel
theorem dX5_copy_81 : decode cX5_copy 81 = .ok (.ifCond .lt 28, 3) := by decide +kernel
theorem dX5_copy_84 : decode cX5_copy 84 = .ok (.iload_n 2, 1) := by decide +kernel
theorem dX5_copy_85 : decode cX5_copy 85 = .ok (.aload_n 0, 1) := by decide +kernel
theorem dX5_copy_86 : decode cX5_copy 86 = .ok (.getfield 13, 3) := by decide +kernel
theorem dX5_copy_89 : decode cX5_copy 89 = .ok (.iload_n 1, 1) := by decide +kernel
theorem dX5_copy_90 : decode cX5_copy 90 = .ok (.iaload, 1) := by decide +kernel
theorem dX5_copy_91 : decode cX5_copy 91 = .ok (.if_icmp .gt 18, 3) := by decide +kernel
theorem dX5_copy_94 : decode cX5_copy 94 = .ok (.iload 4, 2) := by decide +kernel
theorem dX5_copy_96 : decode cX5_copy 96 = .ok (.aload_n 0, 1) := by decide +kernel
theorem dX5_copy_97 : decode cX5_copy 97 = .ok (.getfield 13, 3) := by decide +kernel
theorem dX5_copy_100 : decode cX5_copy 100 = .ok (.iload_n 3, 1) := by decide +kernel
theorem dX5_copy_101 : decode cX5_copy 101 = .ok (.iaload, 1) := by decide +kernel
theorem dX5_copy_102 : decode cX5_copy 102 = .ok (.if_icmp .gt 7, 3) := by decide +kernel
theorem dX5_copy_105 : decode cX5_copy 105 = .ok (.iconst 1, 1) := by decide +kernel
theorem dX5_copy_106 : decode cX5_copy 106 = .ok (.goto 4, 3) := by decide +kernel
theorem dX5_copy_109 : decode cX5_copy 109 = .ok (.iconst 0, 1) := by decide +kernel
theorem dX5_copy_110 : decode cX5_copy 110 = .ok (.istore 6, 2) := by decide +kernel
theorem dX5_copy_112 : decode cX5_copy 112 = .ok (.iload 6, 2) := by decide +kernel
theorem dX5_copy_114 : decode cX5_copy 114 = .ok (.ifCond .eq 30, 3) := by decide +kernel
theorem dX5_copy_117 : decode cX5_copy 117 = .ok (.iload 5, 2) := by decide +kernel
theorem dX5_copy_119 : decode cX5_copy 119 = .ok (.aload_n 0, 1) := by decide +kernel
theorem dX5_copy_120 : decode cX5_copy 120 = .ok (.getfield 13, 3) := by decide +kernel
theorem dX5_copy_123 : decode cX5_copy 123 = .ok (.iload_n 1, 1) := by decide +kernel
theorem dX5_copy_124 : decode cX5_copy 124 = .ok (.iaload, 1) := by decide +kernel
theorem dX5_copy_125 : decode cX5_copy 125 = .ok (.iload_n 2, 1) := by decide +kernel
theorem dX5_copy_126 : decode cX5_copy 126 = .ok (.isub, 1) := by decide +kernel
theorem dX5_copy_127 : decode cX5_copy 127 = .ok (.if_icmp .gt 17, 3) := by decide +kernel
theorem dX5_copy_130 : decode cX5_copy 130 = .ok (.iload 5, 2) := by decide +kernel
theorem dX5_copy_132 : decode cX5_copy 132 = .ok (.aload_n 0, 1) := by decide +kernel
theorem dX5_copy_133 : decode cX5_copy 133 = .ok (.getfield 13, 3) := by decide +kernel
theorem dX5_copy_136 : decode cX5_copy 136 = .ok (.iload_n 3, 1) := by decide +kernel
theorem dX5_copy_137 : decode cX5_copy 137 = .ok (.iaload, 1) := by decide +kernel
theorem dX5_copy_138 : decode cX5_copy 138 = .ok (.iload 4, 2) := by decide +kernel
theorem dX5_copy_140 : decode cX5_copy 140 = .ok (.isub, 1) := by decide +kernel
theorem dX5_copy_141 : decode cX5_copy 141 = .ok (.if_icmp .le 9, 3) := by decide +kernel
theorem dX5_copy_144 : decode cX5_copy 144 = .ok (.aload_n 0, 1) := by decide +kernel
theorem dX5_copy_145 : decode cX5_copy 145 = .ok (.iconst 3, 1) := by decide +kernel
theorem dX5_copy_146 : decode cX5_copy 146 = .ok (.invokevirtual 113, 3) := by decide +kernel
theorem dX5_copy_149 : decode cX5_copy 149 = .ok (.ireturn, 1) := by decide +kernel
theorem dX5_copy_150 : decode cX5_copy 150 = .ok (.iload_n 2, 1) := by decide +kernel
theorem dX5_copy_151 : decode cX5_copy 151 = .ok (.iload 4, 2) := by decide +kernel
theorem dX5_copy_153 : decode cX5_copy 153 = .ok (.if_icmp .ge 7, 3) := by decide +kernel
theorem dX5_copy_156 : decode cX5_copy 156 = .ok (.iconst 1, 1) := by decide +kernel
theorem dX5_copy_157 : decode cX5_copy 157 = .ok (.goto 4, 3) := by decide +kernel
theorem dX5_copy_160 : decode cX5_copy 160 = .ok (.iconst 0, 1) := by decide +kernel
theorem dX5_copy_161 : decode cX5_copy 161 = .ok (.istore 7, 2) := by decide +kernel
theorem dX5_copy_163 : decode cX5_copy 163 = .ok (.iconst 0, 1) := by decide +kernel
theorem dX5_copy_164 : decode cX5_copy 164 = .ok (.istore 8, 2) := by decide +kernel
theorem dX5_copy_166 : decode cX5_copy 166 = .ok (.iload 8, 2) := by decide +kernel
theorem dX5_copy_168 : decode cX5_copy 168 = .ok (.iload 5, 2) := by decide +kernel
theorem dX5_copy_170 : decode cX5_copy 170 = .ok (.if_icmp .ge 57, 3) := by decide +kernel
theorem dX5_copy_173 : decode cX5_copy 173 = .ok (.iload 7, 2) := by decide +kernel
theorem dX5_copy_175 : decode cX5_copy 175 = .ok (.ifCond .eq 13, 3) := by decide +kernel
theorem dX5_copy_178 : decode cX5_copy 178 = .ok (.iload 5, 2) := by decide +kernel
theorem dX5_copy_180 : decode cX5_copy 180 = .ok (.iconst 1, 1) := by decide +kernel
theorem dX5_copy_181 : decode cX5_copy 181 = .ok (.isub, 1) := by decide +kernel
theorem dX5_copy_182 : decode cX5_copy 182 = .ok (.iload 8, 2) := by decide +kernel
theorem dX5_copy_184 : decode cX5_copy 184 = .ok (.isub, 1) := by decide +kernel
theorem dX5_copy_185 : decode cX5_copy 185 = .ok (.goto 5, 3) := by decide +kernel
theorem dX5_copy_188 : decode cX5_copy 188 = .ok (.iload 8, 2) := by decide +kernel
theorem dX5_copy_190 : decode cX5_copy 190 = .ok (.istore 9, 2) := by decide +kernel
theorem dX5_copy_192 : decode cX5_copy 192 = .ok (.aload_n 0, 1) := by decide +kernel
theorem dX5_copy_193 : decode cX5_copy 193 = .ok (.getfield 16, 3) := by decide +kernel
theorem dX5_copy_196 : decode cX5_copy 196 = .ok (.bipush 60, 2) := by decide +kernel
theorem dX5_copy_198 : decode cX5_copy 198 = .ok (.iload_n 3, 1) := by decide +kernel
theorem dX5_copy_199 : decode cX5_copy 199 = .ok (.imul, 1) := by decide +kernel
theorem dX5_copy_200 : decode cX5_copy 200 = .ok (.iload 4, 2) := by decide +kernel
theorem dX5_copy_202 : decode cX5_copy 202 = .ok (.iadd, 1) := by decide +kernel
theorem dX5_copy_203 : decode cX5_copy 203 = .ok (.iload 9, 2) := by decide +kernel
theorem dX5_copy_205 : decode cX5_copy 205 = .ok (.iadd, 1) := by decide +kernel
theorem dX5_copy_206 : decode cX5_copy 206 = .ok (.aload_n 0, 1) := by decide +kernel
theorem dX5_copy_207 : decode cX5_copy 207 = .ok (.getfield 16, 3) := by decide +kernel
theorem dX5_copy_210 : decode cX5_copy 210 = .ok (.bipush 60, 2) := by decide +kernel
theorem dX5_copy_212 : decode cX5_copy 212 = .ok (.iload_n 1, 1) := by decide +kernel
theorem dX5_copy_213 : decode cX5_copy 213 = .ok (.imul, 1) := by decide +kernel
theorem dX5_copy_214 : decode cX5_copy 214 = .ok (.iload_n 2, 1) := by decide +kernel
theorem dX5_copy_215 : decode cX5_copy 215 = .ok (.iadd, 1) := by decide +kernel
theorem dX5_copy_216 : decode cX5_copy 216 = .ok (.iload 9, 2) := by decide +kernel
theorem dX5_copy_218 : decode cX5_copy 218 = .ok (.iadd, 1) := by decide +kernel
theorem dX5_copy_219 : decode cX5_copy 219 = .ok (.iaload, 1) := by decide +kernel
theorem dX5_copy_220 : decode cX5_copy 220 = .ok (.iastore, 1) := by decide +kernel
theorem dX5_copy_221 : decode cX5_copy 221 = .ok (.iinc 8 1, 3) := by decide +kernel
theorem dX5_copy_224 : decode cX5_copy 224 = .ok (.goto (-58), 3) := by decide +kernel
theorem dX5_copy_227 : decode cX5_copy 227 = .ok (.iload 5, 2) := by decide +kernel
theorem dX5_copy_229 : decode cX5_copy 229 = .ok (.ireturn, 1) := by decide +kernel
theorem dX5_begins_0 : decode cX5_begins 0 = .ok (.aload_n 0, 1) := by decide +kernel
theorem dX5_begins_1 : decode cX5_begins 1 = .ok (.bipush 31, 2) := by decide +kernel
theorem dX5_begins_3 : decode cX5_begins 3 = .ok (.aload_n 0, 1) := by decide +kernel
theorem dX5_begins_4 : decode cX5_begins 4 = .ok (.getfield 247, 3) := by decide +kernel
theorem dX5_begins_7 : decode cX5_begins 7 = .ok (.imul, 1) := by decide +kernel
theorem dX5_begins_8 : decode cX5_begins 8 = .ok (.iload_n 1, 1) := by decide +kernel
theorem dX5_begins_9 : decode cX5_begins 9 = .ok (.iadd, 1) := by decide +kernel
theorem dX5_begins_10 : decode cX5_begins 10 = .ok (.putfield 247, 3) := by decide +kernel
theorem dX5_begins_13 : decode cX5_begins 13 = .ok (.return_, 1) := by decide +kernel
theorem dX5_tell_0 : decode cX5_tell 0 = .ok (.aload_n 0, 1) := by decide +kernel
theorem dX5_tell_1 : decode cX5_tell 1 = .ok (.iload_n 1, 1) := by decide +kernel
theorem dX5_tell_2 : decode cX5_tell 2 = .ok (.invokevirtual 158, 3) := by decide +kernel
theorem dX5_tell_5 : decode cX5_tell 5 = .ok (.ifCond .ne 5, 3) := by decide +kernel
theorem dX5_tell_8 : decode cX5_tell 8 = .ok (.iconst (-1), 1) := by decide +kernel
theorem dX5_tell_9 : decode cX5_tell 9 = .ok (.ireturn, 1) := by decide +kernel
theorem dX5_tell_10 : decode cX5_tell 10 = .ok (.aload_n 0, 1) := by decide +kernel
theorem dX5_tell_11 : decode cX5_tell 11 = .ok (.getfield 34, 3) := by decide +kernel
theorem dX5_tell_14 : decode cX5_tell 14 = .ok (.iload_n 1, 1) := by decide +kernel
theorem dX5_tell_15 : decode cX5_tell 15 = .ok (.iaload, 1) := by decide +kernel
theorem dX5_tell_16 : decode cX5_tell 16 = .ok (.istore_n 2, 1) := by decide +kernel
theorem dX5_tell_17 : decode cX5_tell 17 = .ok (.aload_n 0, 1) := by decide +kernel
theorem dX5_tell_18 : decode cX5_tell 18 = .ok (.getfield 25, 3) := by decide +kernel
theorem dX5_tell_21 : decode cX5_tell 21 = .ok (.iload_n 1, 1) := by decide +kernel
theorem dX5_tell_22 : decode cX5_tell 22 = .ok (.iaload, 1) := by decide +kernel
theorem dX5_tell_23 : decode cX5_tell 23 = .ok (.lookupswitch 67 #[(1, 25), (2, 40)], 25) := by decide +kernel
theorem dX5_tell_48 : decode cX5_tell 48 = .ok (.aload_n 0, 1) := by decide +kernel
theorem dX5_tell_49 : decode cX5_tell 49 = .ok (.iconst 2, 1) := by decide +kernel
theorem dX5_tell_50 : decode cX5_tell 50 = .ok (.invokevirtual 250, 3) := by decide +kernel
theorem dX5_tell_53 : decode cX5_tell 53 = .ok (.aload_n 0, 1) := by decide +kernel
theorem dX5_tell_54 : decode cX5_tell 54 = .ok (.iconst 1, 1) := by decide +kernel
theorem dX5_tell_55 : decode cX5_tell 55 = .ok (.invokevirtual 250, 3) := by decide +kernel
theorem dX5_tell_58 : decode cX5_tell 58 = .ok (.iload_n 2, 1) := by decide +kernel
theorem dX5_tell_59 : decode cX5_tell 59 = .ok (.bipush 100, 2) := by decide +kernel
theorem dX5_tell_61 : decode cX5_tell 61 = .ok (.iadd, 1) := by decide +kernel
theorem dX5_tell_62 : decode cX5_tell 62 = .ok (.ireturn, 1) := by decide +kernel
theorem dX5_tell_63 : decode cX5_tell 63 = .ok (.aload_n 0, 1) := by decide +kernel
theorem dX5_tell_64 : decode cX5_tell 64 = .ok (.iconst 3, 1) := by decide +kernel
theorem dX5_tell_65 : decode cX5_tell 65 = .ok (.invokevirtual 250, 3) := by decide +kernel
theorem dX5_tell_68 : decode cX5_tell 68 = .ok (.aload_n 0, 1) := by decide +kernel
theorem dX5_tell_69 : decode cX5_tell 69 = .ok (.iconst 2, 1) := by decide +kernel
theorem dX5_tell_70 : decode cX5_tell 70 = .ok (.invokevirtual 250, 3) := by decide +kernel
theorem dX5_tell_73 : decode cX5_tell 73 = .ok (.aload_n 0, 1) := by decide +kernel
theorem dX5_tell_74 : decode cX5_tell 74 = .ok (.iconst 1, 1) := by decide +kernel
theorem dX5_tell_75 : decode cX5_tell 75 = .ok (.invokevirtual 250, 3) := by decide +kernel
theorem dX5_tell_78 : decode cX5_tell 78 = .ok (.aload_n 0, 1) := by decide +kernel
theorem dX5_tell_79 : decode cX5_tell 79 = .ok (.iconst 1, 1) := by decide +kernel
theorem dX5_tell_80 : decode cX5_tell 80 = .ok (.invokevirtual 250, 3) := by decide +kernel
theorem dX5_tell_83 : decode cX5_tell 83 = .ok (.iconst 2, 1) := by decide +kernel
theorem dX5_tell_84 : decode cX5_tell 84 = .ok (.iload_n 2, 1) := by decide +kernel
theorem dX5_tell_85 : decode cX5_tell 85 = .ok (.imul, 1) := by decide +kernel
theorem dX5_tell_86 : decode cX5_tell 86 = .ok (.bipush 100, 2) := by decide +kernel
theorem dX5_tell_88 : decode cX5_tell 88 = .ok (.iadd, 1) := by decide +kernel
theorem dX5_tell_89 : decode cX5_tell 89 = .ok (.ireturn, 1) := by decide +kernel
theorem dX5_tell_90 : decode cX5_tell 90 = .ok (.aload_n 0, 1) := by decide +kernel
theorem dX5_tell_91 : decode cX5_tell 91 = .ok (.iconst 1, 1) := by decide +kernel
theorem dX5_tell_92 : decode cX5_tell 92 = .ok (.invokevirtual 250, 3) := by decide +kernel
theorem dX5_tell_95 : decode cX5_tell 95 = .ok (.iload_n 2, 1) := by decide +kernel
theorem dX5_tell_96 : decode cX5_tell 96 = .ok (.ireturn, 1) := by decide +kernel
theorem dX5_knock_0 : decode cX5_knock 0 = .ok (.aload_n 0, 1) := by decide +kernel
theorem dX5_knock_1 : decode cX5_knock 1 = .ok (.iload_n 1, 1) := by decide +kernel
theorem dX5_knock_2 : decode cX5_knock 2 = .ok (.invokevirtual 158, 3) := by decide +kernel
theorem dX5_knock_5 : decode cX5_knock 5 = .ok (.ifCond .ne 5, 3) := by decide +kernel
theorem dX5_knock_8 : decode cX5_knock 8 = .ok (.iconst (-1), 1) := by decide +kernel
theorem dX5_knock_9 : decode cX5_knock 9 = .ok (.ireturn, 1) := by decide +kernel
theorem dX5_knock_10 : decode cX5_knock 10 = .ok (.aload_n 0, 1) := by decide +kernel
theorem dX5_knock_11 : decode cX5_knock 11 = .ok (.aload_n 0, 1) := by decide +kernel
theorem dX5_knock_12 : decode cX5_knock 12 = .ok (.getfield 25, 3) := by decide +kernel
theorem dX5_knock_15 : decode cX5_knock 15 = .ok (.iload_n 1, 1) := by decide +kernel
theorem dX5_knock_16 : decode cX5_knock 16 = .ok (.iaload, 1) := by decide +kernel
theorem dX5_knock_17 : decode cX5_knock 17 = .ok (.iconst 2, 1) := by decide +kernel
theorem dX5_knock_18 : decode cX5_knock 18 = .ok (.if_icmp .ne 7, 3) := by decide +kernel
theorem dX5_knock_21 : decode cX5_knock 21 = .ok (.iconst 5, 1) := by decide +kernel
theorem dX5_knock_22 : decode cX5_knock 22 = .ok (.goto 4, 3) := by decide +kernel
theorem dX5_knock_25 : decode cX5_knock 25 = .ok (.iconst 4, 1) := by decide +kernel
theorem dX5_knock_26 : decode cX5_knock 26 = .ok (.invokevirtual 250, 3) := by decide +kernel
theorem dX5_knock_29 : decode cX5_knock 29 = .ok (.aload_n 0, 1) := by decide +kernel
theorem dX5_knock_30 : decode cX5_knock 30 = .ok (.getfield 25, 3) := by decide +kernel
theorem dX5_knock_33 : decode cX5_knock 33 = .ok (.iload_n 1, 1) := by decide +kernel
theorem dX5_knock_34 : decode cX5_knock 34 = .ok (.iaload, 1) := by decide +kernel
theorem dX5_knock_35 : decode cX5_knock 35 = .ok (.iconst 2, 1) := by decide +kernel
theorem dX5_knock_36 : decode cX5_knock 36 = .ok (.if_icmp .ne 8, 3) := by decide +kernel
theorem dX5_knock_39 : decode cX5_knock 39 = .ok (.bipush 50, 2) := by decide +kernel
theorem dX5_knock_41 : decode cX5_knock 41 = .ok (.goto 4, 3) := by decide +kernel
theorem dX5_knock_44 : decode cX5_knock 44 = .ok (.iload_n 1, 1) := by decide +kernel
theorem dX5_knock_45 : decode cX5_knock 45 = .ok (.ireturn, 1) := by decide +kernel
theorem dX5_as_0 : decode cX5_as 0 = .ok (.aload_n 0, 1) := by decide +kernel
theorem dX5_as_1 : decode cX5_as 1 = .ok (.iconst 0, 1) := by decide +kernel
theorem dX5_as_2 : decode cX5_as 2 = .ok (.putfield 83, 3) := by decide +kernel
theorem dX5_as_5 : decode cX5_as 5 = .ok (.aload_n 0, 1) := by decide +kernel
theorem dX5_as_6 : decode cX5_as 6 = .ok (.iload_n 1, 1) := by decide +kernel
theorem dX5_as_7 : decode cX5_as 7 = .ok (.invokevirtual 158, 3) := by decide +kernel
theorem dX5_as_10 : decode cX5_as 10 = .ok (.ifCond .ne 5, 3) := by decide +kernel
theorem dX5_as_13 : decode cX5_as 13 = .ok (.iconst (-1), 1) := by decide +kernel
theorem dX5_as_14 : decode cX5_as 14 = .ok (.ireturn, 1) := by decide +kernel
theorem dX5_as_15 : decode cX5_as 15 = .ok (.iload_n 2, 1) := by decide +kernel
theorem dX5_as_16 : decode cX5_as 16 = .ok (.iconst 0, 1) := by decide +kernel
theorem dX5_as_17 : decode cX5_as 17 = .ok (.iconst 2, 1) := by decide +kernel
theorem dX5_as_18 : decode cX5_as 18 = .ok (.invokestatic 89, 3) := by decide +kernel
theorem dX5_as_21 : decode cX5_as 21 = .ok (.ifCond .ne 6, 3) := by decide +kernel
theorem dX5_as_24 : decode cX5_as 24 = .ok (.bipush (-2), 2) := by decide +kernel
theorem dX5_as_26 : decode cX5_as 26 = .ok (.ireturn, 1) := by decide +kernel
theorem dX5_as_27 : decode cX5_as 27 = .ok (.aload_n 0, 1) := by decide +kernel
theorem dX5_as_28 : decode cX5_as 28 = .ok (.getfield 25, 3) := by decide +kernel
theorem dX5_as_31 : decode cX5_as 31 = .ok (.iload_n 1, 1) := by decide +kernel
theorem dX5_as_32 : decode cX5_as 32 = .ok (.iaload, 1) := by decide +kernel
theorem dX5_as_33 : decode cX5_as 33 = .ok (.iload_n 2, 1) := by decide +kernel
theorem dX5_as_34 : decode cX5_as 34 = .ok (.if_icmp .lt 7, 3) := by decide +kernel
theorem dX5_as_37 : decode cX5_as 37 = .ok (.iconst 1, 1) := by decide +kernel
theorem dX5_as_38 : decode cX5_as 38 = .ok (.goto 8, 3) := by decide +kernel
theorem dX5_as_41 : decode cX5_as 41 = .ok (.aload_n 0, 1) := by decide +kernel
theorem dX5_as_42 : decode cX5_as 42 = .ok (.iconst 2, 1) := by decide +kernel
theorem dX5_as_43 : decode cX5_as 43 = .ok (.invokevirtual 113, 3) := by decide +kernel
theorem dX5_as_46 : decode cX5_as 46 = .ok (.ireturn, 1) := by decide +kernel
theorem dX5_trace_0 : decode cX5_trace 0 = .ok (.aload_n 0, 1) := by decide +kernel
theorem dX5_trace_1 : decode cX5_trace 1 = .ok (.getfield 247, 3) := by decide +kernel
theorem dX5_trace_4 : decode cX5_trace 4 = .ok (.ireturn, 1) := by decide +kernel
theorem dX5_fault_0 : decode cX5_fault 0 = .ok (.aload_n 0, 1) := by decide +kernel
theorem dX5_fault_1 : decode cX5_fault 1 = .ok (.getfield 83, 3) := by decide +kernel
theorem dX5_fault_4 : decode cX5_fault 4 = .ok (.ireturn, 1) := by decide +kernel
theorem dX5_many_0 : decode cX5_many 0 = .ok (.iload_n 1, 1) := by decide +kernel
theorem dX5_many_1 : decode cX5_many 1 = .ok (.tableswitch 60 0 4 #[35, 40, 45, 50, 55], 35) := by decide +kernel
theorem dX5_many_36 : decode cX5_many 36 = .ok (.aload_n 0, 1) := by decide +kernel
theorem dX5_many_37 : decode cX5_many 37 = .ok (.getfield 93, 3) := by decide +kernel
theorem dX5_many_40 : decode cX5_many 40 = .ok (.ireturn, 1) := by decide +kernel
theorem dX5_many_41 : decode cX5_many 41 = .ok (.aload_n 0, 1) := by decide +kernel
theorem dX5_many_42 : decode cX5_many 42 = .ok (.getfield 96, 3) := by decide +kernel
theorem dX5_many_45 : decode cX5_many 45 = .ok (.ireturn, 1) := by decide +kernel
theorem dX5_many_46 : decode cX5_many 46 = .ok (.aload_n 0, 1) := by decide +kernel
theorem dX5_many_47 : decode cX5_many 47 = .ok (.getfield 123, 3) := by decide +kernel
theorem dX5_many_50 : decode cX5_many 50 = .ok (.ireturn, 1) := by decide +kernel
theorem dX5_many_51 : decode cX5_many 51 = .ok (.aload_n 0, 1) := by decide +kernel
theorem dX5_many_52 : decode cX5_many 52 = .ok (.getfield 132, 3) := by decide +kernel
theorem dX5_many_55 : decode cX5_many 55 = .ok (.ireturn, 1) := by decide +kernel
theorem dX5_many_56 : decode cX5_many 56 = .ok (.aload_n 0, 1) := by decide +kernel
theorem dX5_many_57 : decode cX5_many 57 = .ok (.getfield 135, 3) := by decide +kernel
theorem dX5_many_60 : decode cX5_many 60 = .ok (.ireturn, 1) := by decide +kernel
theorem dX5_many_61 : decode cX5_many 61 = .ok (.bipush (-2), 2) := by decide +kernel
theorem dX5_many_63 : decode cX5_many 63 = .ok (.ireturn, 1) := by decide +kernel
end
section
theorem dL_law_0 : decode cL_law 0 = .ok (.new 7, 3) := by decide +kernel
theorem dL_law_3 : decode cL_law 3 = .ok (.dup, 1) := by decide +kernel
theorem dL_law_4 : decode cL_law 4 = .ok (.invokespecial 9, 3) := by decide +kernel
theorem dL_law_7 : decode cL_law 7 = .ok (.astore_n 1, 1) := by decide +kernel
theorem dL_law_8 : decode cL_law 8 = .ok (.new 10, 3) := by decide +kernel
theorem dL_law_11 : decode cL_law 11 = .ok (.dup, 1) := by decide +kernel
theorem dL_law_12 : decode cL_law 12 = .ok (.invokespecial 12, 3) := by decide +kernel
theorem dL_law_15 : decode cL_law 15 = .ok (.astore_n 2, 1) := by decide +kernel
theorem dL_law_16 : decode cL_law 16 = .ok (.iconst 0, 1) := by decide +kernel
theorem dL_law_17 : decode cL_law 17 = .ok (.istore_n 3, 1) := by decide +kernel
theorem dL_law_18 : decode cL_law 18 = .ok (.iload_n 3, 1) := by decide +kernel
theorem dL_law_19 : decode cL_law 19 = .ok (.aload_n 0, 1) := by decide +kernel
theorem dL_law_20 : decode cL_law 20 = .ok (.arraylength, 1) := by decide +kernel
theorem dL_law_21 : decode cL_law 21 = .ok (.bipush 6, 2) := by decide +kernel
theorem dL_law_23 : decode cL_law 23 = .ok (.isub, 1) := by decide +kernel
theorem dL_law_24 : decode cL_law 24 = .ok (.if_icmp .gt 1385, 3) := by decide +kernel
theorem dL_law_27 : decode cL_law 27 = .ok (.aload_n 0, 1) := by decide +kernel
theorem dL_law_28 : decode cL_law 28 = .ok (.iload_n 3, 1) := by decide +kernel
theorem dL_law_29 : decode cL_law 29 = .ok (.iaload, 1) := by decide +kernel
theorem dL_law_30 : decode cL_law 30 = .ok (.bipush 63, 2) := by decide +kernel
theorem dL_law_32 : decode cL_law 32 = .ok (.iand, 1) := by decide +kernel
theorem dL_law_33 : decode cL_law 33 = .ok (.tableswitch 1370 0 37 #[167, 220, 253, 286, 309, 358, 401, 424, 467, 510, 543, 576, 589, 612, 635, 658, 681, 704, 748, 791, 814, 867, 920, 943, 956, 969, 992, 1026, 1069, 1092, 1135, 1179, 1242, 1265, 1288, 1321, 1334, 1347], 167) := by decide +kernel
theorem dL_law_200 : decode cL_law 200 = .ok (.aload_n 1, 1) := by decide +kernel
theorem dL_law_201 : decode cL_law 201 = .ok (.aload_n 0, 1) := by decide +kernel
theorem dL_law_202 : decode cL_law 202 = .ok (.iload_n 3, 1) := by decide +kernel
theorem dL_law_203 : decode cL_law 203 = .ok (.iconst 1, 1) := by decide +kernel
theorem dL_law_204 : decode cL_law 204 = .ok (.iadd, 1) := by decide +kernel
theorem dL_law_205 : decode cL_law 205 = .ok (.iaload, 1) := by decide +kernel
theorem dL_law_206 : decode cL_law 206 = .ok (.aload_n 0, 1) := by decide +kernel
theorem dL_law_207 : decode cL_law 207 = .ok (.iload_n 3, 1) := by decide +kernel
theorem dL_law_208 : decode cL_law 208 = .ok (.iconst 2, 1) := by decide +kernel
theorem dL_law_209 : decode cL_law 209 = .ok (.iadd, 1) := by decide +kernel
theorem dL_law_210 : decode cL_law 210 = .ok (.iaload, 1) := by decide +kernel
theorem dL_law_211 : decode cL_law 211 = .ok (.aload_n 0, 1) := by decide +kernel
theorem dL_law_212 : decode cL_law 212 = .ok (.iload_n 3, 1) := by decide +kernel
theorem dL_law_213 : decode cL_law 213 = .ok (.iconst 3, 1) := by decide +kernel
theorem dL_law_214 : decode cL_law 214 = .ok (.iadd, 1) := by decide +kernel
theorem dL_law_215 : decode cL_law 215 = .ok (.iaload, 1) := by decide +kernel
theorem dL_law_216 : decode cL_law 216 = .ok (.aload_n 0, 1) := by decide +kernel
theorem dL_law_217 : decode cL_law 217 = .ok (.iload_n 3, 1) := by decide +kernel
theorem dL_law_218 : decode cL_law 218 = .ok (.iconst 4, 1) := by decide +kernel
theorem dL_law_219 : decode cL_law 219 = .ok (.iadd, 1) := by decide +kernel
theorem dL_law_220 : decode cL_law 220 = .ok (.iaload, 1) := by decide +kernel
theorem dL_law_221 : decode cL_law 221 = .ok (.invokevirtual 13, 3) := by decide +kernel
theorem dL_law_224 : decode cL_law 224 = .ok (.aload_n 2, 1) := by decide +kernel
theorem dL_law_225 : decode cL_law 225 = .ok (.aload_n 0, 1) := by decide +kernel
theorem dL_law_226 : decode cL_law 226 = .ok (.iload_n 3, 1) := by decide +kernel
theorem dL_law_227 : decode cL_law 227 = .ok (.iconst 1, 1) := by decide +kernel
theorem dL_law_228 : decode cL_law 228 = .ok (.iadd, 1) := by decide +kernel
theorem dL_law_229 : decode cL_law 229 = .ok (.iaload, 1) := by decide +kernel
theorem dL_law_230 : decode cL_law 230 = .ok (.aload_n 0, 1) := by decide +kernel
theorem dL_law_231 : decode cL_law 231 = .ok (.iload_n 3, 1) := by decide +kernel
theorem dL_law_232 : decode cL_law 232 = .ok (.iconst 2, 1) := by decide +kernel
theorem dL_law_233 : decode cL_law 233 = .ok (.iadd, 1) := by decide +kernel
theorem dL_law_234 : decode cL_law 234 = .ok (.iaload, 1) := by decide +kernel
theorem dL_law_235 : decode cL_law 235 = .ok (.aload_n 0, 1) := by decide +kernel
theorem dL_law_236 : decode cL_law 236 = .ok (.iload_n 3, 1) := by decide +kernel
theorem dL_law_237 : decode cL_law 237 = .ok (.iconst 3, 1) := by decide +kernel
theorem dL_law_238 : decode cL_law 238 = .ok (.iadd, 1) := by decide +kernel
theorem dL_law_239 : decode cL_law 239 = .ok (.iaload, 1) := by decide +kernel
theorem dL_law_240 : decode cL_law 240 = .ok (.aload_n 0, 1) := by decide +kernel
theorem dL_law_241 : decode cL_law 241 = .ok (.iload_n 3, 1) := by decide +kernel
theorem dL_law_242 : decode cL_law 242 = .ok (.iconst 4, 1) := by decide +kernel
theorem dL_law_243 : decode cL_law 243 = .ok (.iadd, 1) := by decide +kernel
theorem dL_law_244 : decode cL_law 244 = .ok (.iaload, 1) := by decide +kernel
theorem dL_law_245 : decode cL_law 245 = .ok (.invokevirtual 17, 3) := by decide +kernel
theorem dL_law_248 : decode cL_law 248 = .ok (.if_icmp .eq 1155, 3) := by decide +kernel
theorem dL_law_251 : decode cL_law 251 = .ok (.iconst 0, 1) := by decide +kernel
theorem dL_law_252 : decode cL_law 252 = .ok (.ireturn, 1) := by decide +kernel
theorem dL_law_253 : decode cL_law 253 = .ok (.aload_n 1, 1) := by decide +kernel
theorem dL_law_254 : decode cL_law 254 = .ok (.aload_n 0, 1) := by decide +kernel
theorem dL_law_255 : decode cL_law 255 = .ok (.iload_n 3, 1) := by decide +kernel
theorem dL_law_256 : decode cL_law 256 = .ok (.iconst 1, 1) := by decide +kernel
theorem dL_law_257 : decode cL_law 257 = .ok (.iadd, 1) := by decide +kernel
theorem dL_law_258 : decode cL_law 258 = .ok (.iaload, 1) := by decide +kernel
theorem dL_law_259 : decode cL_law 259 = .ok (.aload_n 0, 1) := by decide +kernel
theorem dL_law_260 : decode cL_law 260 = .ok (.iload_n 3, 1) := by decide +kernel
theorem dL_law_261 : decode cL_law 261 = .ok (.iconst 2, 1) := by decide +kernel
theorem dL_law_262 : decode cL_law 262 = .ok (.iadd, 1) := by decide +kernel
theorem dL_law_263 : decode cL_law 263 = .ok (.iaload, 1) := by decide +kernel
theorem dL_law_264 : decode cL_law 264 = .ok (.invokevirtual 18, 3) := by decide +kernel
theorem dL_law_267 : decode cL_law 267 = .ok (.aload_n 2, 1) := by decide +kernel
theorem dL_law_268 : decode cL_law 268 = .ok (.aload_n 0, 1) := by decide +kernel
theorem dL_law_269 : decode cL_law 269 = .ok (.iload_n 3, 1) := by decide +kernel
theorem dL_law_270 : decode cL_law 270 = .ok (.iconst 1, 1) := by decide +kernel
theorem dL_law_271 : decode cL_law 271 = .ok (.iadd, 1) := by decide +kernel
theorem dL_law_272 : decode cL_law 272 = .ok (.iaload, 1) := by decide +kernel
theorem dL_law_273 : decode cL_law 273 = .ok (.aload_n 0, 1) := by decide +kernel
theorem dL_law_274 : decode cL_law 274 = .ok (.iload_n 3, 1) := by decide +kernel
theorem dL_law_275 : decode cL_law 275 = .ok (.iconst 2, 1) := by decide +kernel
theorem dL_law_276 : decode cL_law 276 = .ok (.iadd, 1) := by decide +kernel
theorem dL_law_277 : decode cL_law 277 = .ok (.iaload, 1) := by decide +kernel
theorem dL_law_278 : decode cL_law 278 = .ok (.invokevirtual 22, 3) := by decide +kernel
theorem dL_law_281 : decode cL_law 281 = .ok (.if_icmp .eq 1122, 3) := by decide +kernel
theorem dL_law_284 : decode cL_law 284 = .ok (.iconst 0, 1) := by decide +kernel
theorem dL_law_285 : decode cL_law 285 = .ok (.ireturn, 1) := by decide +kernel
theorem dL_law_286 : decode cL_law 286 = .ok (.aload_n 1, 1) := by decide +kernel
theorem dL_law_287 : decode cL_law 287 = .ok (.aload_n 0, 1) := by decide +kernel
theorem dL_law_288 : decode cL_law 288 = .ok (.iload_n 3, 1) := by decide +kernel
theorem dL_law_289 : decode cL_law 289 = .ok (.iconst 1, 1) := by decide +kernel
theorem dL_law_290 : decode cL_law 290 = .ok (.iadd, 1) := by decide +kernel
theorem dL_law_291 : decode cL_law 291 = .ok (.iaload, 1) := by decide +kernel
theorem dL_law_292 : decode cL_law 292 = .ok (.aload_n 0, 1) := by decide +kernel
theorem dL_law_293 : decode cL_law 293 = .ok (.iload_n 3, 1) := by decide +kernel
theorem dL_law_294 : decode cL_law 294 = .ok (.iconst 2, 1) := by decide +kernel
theorem dL_law_295 : decode cL_law 295 = .ok (.iadd, 1) := by decide +kernel
theorem dL_law_296 : decode cL_law 296 = .ok (.iaload, 1) := by decide +kernel
theorem dL_law_297 : decode cL_law 297 = .ok (.invokevirtual 23, 3) := by decide +kernel
theorem dL_law_300 : decode cL_law 300 = .ok (.aload_n 2, 1) := by decide +kernel
theorem dL_law_301 : decode cL_law 301 = .ok (.aload_n 0, 1) := by decide +kernel
theorem dL_law_302 : decode cL_law 302 = .ok (.iload_n 3, 1) := by decide +kernel
theorem dL_law_303 : decode cL_law 303 = .ok (.iconst 1, 1) := by decide +kernel
theorem dL_law_304 : decode cL_law 304 = .ok (.iadd, 1) := by decide +kernel
theorem dL_law_305 : decode cL_law 305 = .ok (.iaload, 1) := by decide +kernel
theorem dL_law_306 : decode cL_law 306 = .ok (.aload_n 0, 1) := by decide +kernel
theorem dL_law_307 : decode cL_law 307 = .ok (.iload_n 3, 1) := by decide +kernel
theorem dL_law_308 : decode cL_law 308 = .ok (.iconst 2, 1) := by decide +kernel
theorem dL_law_309 : decode cL_law 309 = .ok (.iadd, 1) := by decide +kernel
theorem dL_law_310 : decode cL_law 310 = .ok (.iaload, 1) := by decide +kernel
theorem dL_law_311 : decode cL_law 311 = .ok (.invokevirtual 26, 3) := by decide +kernel
theorem dL_law_314 : decode cL_law 314 = .ok (.if_icmp .eq 1089, 3) := by decide +kernel
theorem dL_law_317 : decode cL_law 317 = .ok (.iconst 0, 1) := by decide +kernel
theorem dL_law_318 : decode cL_law 318 = .ok (.ireturn, 1) := by decide +kernel
theorem dL_law_319 : decode cL_law 319 = .ok (.aload_n 1, 1) := by decide +kernel
theorem dL_law_320 : decode cL_law 320 = .ok (.aload_n 0, 1) := by decide +kernel
theorem dL_law_321 : decode cL_law 321 = .ok (.iload_n 3, 1) := by decide +kernel
theorem dL_law_322 : decode cL_law 322 = .ok (.iconst 1, 1) := by decide +kernel
theorem dL_law_323 : decode cL_law 323 = .ok (.iadd, 1) := by decide +kernel
theorem dL_law_324 : decode cL_law 324 = .ok (.iaload, 1) := by decide +kernel
theorem dL_law_325 : decode cL_law 325 = .ok (.invokevirtual 27, 3) := by decide +kernel
theorem dL_law_328 : decode cL_law 328 = .ok (.aload_n 2, 1) := by decide +kernel
theorem dL_law_329 : decode cL_law 329 = .ok (.aload_n 0, 1) := by decide +kernel
theorem dL_law_330 : decode cL_law 330 = .ok (.iload_n 3, 1) := by decide +kernel
theorem dL_law_331 : decode cL_law 331 = .ok (.iconst 1, 1) := by decide +kernel
theorem dL_law_332 : decode cL_law 332 = .ok (.iadd, 1) := by decide +kernel
theorem dL_law_333 : decode cL_law 333 = .ok (.iaload, 1) := by decide +kernel
theorem dL_law_334 : decode cL_law 334 = .ok (.invokevirtual 31, 3) := by decide +kernel
theorem dL_law_337 : decode cL_law 337 = .ok (.if_icmp .eq 1066, 3) := by decide +kernel
theorem dL_law_340 : decode cL_law 340 = .ok (.iconst 0, 1) := by decide +kernel
theorem dL_law_341 : decode cL_law 341 = .ok (.ireturn, 1) := by decide +kernel
theorem dL_law_342 : decode cL_law 342 = .ok (.aload_n 1, 1) := by decide +kernel
theorem dL_law_343 : decode cL_law 343 = .ok (.aload_n 0, 1) := by decide +kernel
theorem dL_law_344 : decode cL_law 344 = .ok (.iload_n 3, 1) := by decide +kernel
theorem dL_law_345 : decode cL_law 345 = .ok (.iconst 1, 1) := by decide +kernel
theorem dL_law_346 : decode cL_law 346 = .ok (.iadd, 1) := by decide +kernel
theorem dL_law_347 : decode cL_law 347 = .ok (.iaload, 1) := by decide +kernel
theorem dL_law_348 : decode cL_law 348 = .ok (.aload_n 0, 1) := by decide +kernel
theorem dL_law_349 : decode cL_law 349 = .ok (.iload_n 3, 1) := by decide +kernel
theorem dL_law_350 : decode cL_law 350 = .ok (.iconst 2, 1) := by decide +kernel
theorem dL_law_351 : decode cL_law 351 = .ok (.iadd, 1) := by decide +kernel
theorem dL_law_352 : decode cL_law 352 = .ok (.iaload, 1) := by decide +kernel
theorem dL_law_353 : decode cL_law 353 = .ok (.ifCond .eq 7, 3) := by decide +kernel
theorem dL_law_356 : decode cL_law 356 = .ok (.iconst 1, 1) := by decide +kernel
theorem dL_law_357 : decode cL_law 357 = .ok (.goto 4, 3) := by decide +kernel
theorem dL_law_360 : decode cL_law 360 = .ok (.iconst 0, 1) := by decide +kernel
theorem dL_law_361 : decode cL_law 361 = .ok (.invokevirtual 32, 3) := by decide +kernel
theorem dL_law_364 : decode cL_law 364 = .ok (.aload_n 2, 1) := by decide +kernel
theorem dL_law_365 : decode cL_law 365 = .ok (.aload_n 0, 1) := by decide +kernel
theorem dL_law_366 : decode cL_law 366 = .ok (.iload_n 3, 1) := by decide +kernel
theorem dL_law_367 : decode cL_law 367 = .ok (.iconst 1, 1) := by decide +kernel
theorem dL_law_368 : decode cL_law 368 = .ok (.iadd, 1) := by decide +kernel
theorem dL_law_369 : decode cL_law 369 = .ok (.iaload, 1) := by decide +kernel
theorem dL_law_370 : decode cL_law 370 = .ok (.aload_n 0, 1) := by decide +kernel
theorem dL_law_371 : decode cL_law 371 = .ok (.iload_n 3, 1) := by decide +kernel
theorem dL_law_372 : decode cL_law 372 = .ok (.iconst 2, 1) := by decide +kernel
theorem dL_law_373 : decode cL_law 373 = .ok (.iadd, 1) := by decide +kernel
theorem dL_law_374 : decode cL_law 374 = .ok (.iaload, 1) := by decide +kernel
theorem dL_law_375 : decode cL_law 375 = .ok (.ifCond .eq 7, 3) := by decide +kernel
theorem dL_law_378 : decode cL_law 378 = .ok (.iconst 1, 1) := by decide +kernel
theorem dL_law_379 : decode cL_law 379 = .ok (.goto 4, 3) := by decide +kernel
theorem dL_law_382 : decode cL_law 382 = .ok (.iconst 0, 1) := by decide +kernel
theorem dL_law_383 : decode cL_law 383 = .ok (.invokevirtual 36, 3) := by decide +kernel
theorem dL_law_386 : decode cL_law 386 = .ok (.if_icmp .eq 1017, 3) := by decide +kernel
theorem dL_law_389 : decode cL_law 389 = .ok (.iconst 0, 1) := by decide +kernel
theorem dL_law_390 : decode cL_law 390 = .ok (.ireturn, 1) := by decide +kernel
theorem dL_law_391 : decode cL_law 391 = .ok (.aload_n 1, 1) := by decide +kernel
theorem dL_law_392 : decode cL_law 392 = .ok (.aload_n 0, 1) := by decide +kernel
theorem dL_law_393 : decode cL_law 393 = .ok (.iload_n 3, 1) := by decide +kernel
theorem dL_law_394 : decode cL_law 394 = .ok (.iconst 1, 1) := by decide +kernel
theorem dL_law_395 : decode cL_law 395 = .ok (.iadd, 1) := by decide +kernel
theorem dL_law_396 : decode cL_law 396 = .ok (.iaload, 1) := by decide +kernel
theorem dL_law_397 : decode cL_law 397 = .ok (.aload_n 0, 1) := by decide +kernel
theorem dL_law_398 : decode cL_law 398 = .ok (.iload_n 3, 1) := by decide +kernel
theorem dL_law_399 : decode cL_law 399 = .ok (.iconst 2, 1) := by decide +kernel
theorem dL_law_400 : decode cL_law 400 = .ok (.iadd, 1) := by decide +kernel
theorem dL_law_401 : decode cL_law 401 = .ok (.iaload, 1) := by decide +kernel
theorem dL_law_402 : decode cL_law 402 = .ok (.aload_n 0, 1) := by decide +kernel
theorem dL_law_403 : decode cL_law 403 = .ok (.iload_n 3, 1) := by decide +kernel
theorem dL_law_404 : decode cL_law 404 = .ok (.iconst 3, 1) := by decide +kernel
theorem dL_law_405 : decode cL_law 405 = .ok (.iadd, 1) := by decide +kernel
theorem dL_law_406 : decode cL_law 406 = .ok (.iaload, 1) := by decide +kernel
theorem dL_law_407 : decode cL_law 407 = .ok (.invokevirtual 37, 3) := by decide +kernel
theorem dL_law_410 : decode cL_law 410 = .ok (.aload_n 2, 1) := by decide +kernel
theorem dL_law_411 : decode cL_law 411 = .ok (.aload_n 0, 1) := by decide +kernel
theorem dL_law_412 : decode cL_law 412 = .ok (.iload_n 3, 1) := by decide +kernel
theorem dL_law_413 : decode cL_law 413 = .ok (.iconst 1, 1) := by decide +kernel
theorem dL_law_414 : decode cL_law 414 = .ok (.iadd, 1) := by decide +kernel
theorem dL_law_415 : decode cL_law 415 = .ok (.iaload, 1) := by decide +kernel
theorem dL_law_416 : decode cL_law 416 = .ok (.aload_n 0, 1) := by decide +kernel
theorem dL_law_417 : decode cL_law 417 = .ok (.iload_n 3, 1) := by decide +kernel
theorem dL_law_418 : decode cL_law 418 = .ok (.iconst 2, 1) := by decide +kernel
theorem dL_law_419 : decode cL_law 419 = .ok (.iadd, 1) := by decide +kernel
theorem dL_law_420 : decode cL_law 420 = .ok (.iaload, 1) := by decide +kernel
theorem dL_law_421 : decode cL_law 421 = .ok (.aload_n 0, 1) := by decide +kernel
theorem dL_law_422 : decode cL_law 422 = .ok (.iload_n 3, 1) := by decide +kernel
theorem dL_law_423 : decode cL_law 423 = .ok (.iconst 3, 1) := by decide +kernel
theorem dL_law_424 : decode cL_law 424 = .ok (.iadd, 1) := by decide +kernel
theorem dL_law_425 : decode cL_law 425 = .ok (.iaload, 1) := by decide +kernel
theorem dL_law_426 : decode cL_law 426 = .ok (.invokevirtual 41, 3) := by decide +kernel
theorem dL_law_429 : decode cL_law 429 = .ok (.if_icmp .eq 974, 3) := by decide +kernel
theorem dL_law_432 : decode cL_law 432 = .ok (.iconst 0, 1) := by decide +kernel
theorem dL_law_433 : decode cL_law 433 = .ok (.ireturn, 1) := by decide +kernel
theorem dL_law_434 : decode cL_law 434 = .ok (.aload_n 1, 1) := by decide +kernel
theorem dL_law_435 : decode cL_law 435 = .ok (.aload_n 0, 1) := by decide +kernel
theorem dL_law_436 : decode cL_law 436 = .ok (.iload_n 3, 1) := by decide +kernel
theorem dL_law_437 : decode cL_law 437 = .ok (.iconst 1, 1) := by decide +kernel
theorem dL_law_438 : decode cL_law 438 = .ok (.iadd, 1) := by decide +kernel
theorem dL_law_439 : decode cL_law 439 = .ok (.iaload, 1) := by decide +kernel
theorem dL_law_440 : decode cL_law 440 = .ok (.invokevirtual 42, 3) := by decide +kernel
theorem dL_law_443 : decode cL_law 443 = .ok (.aload_n 2, 1) := by decide +kernel
theorem dL_law_444 : decode cL_law 444 = .ok (.aload_n 0, 1) := by decide +kernel
theorem dL_law_445 : decode cL_law 445 = .ok (.iload_n 3, 1) := by decide +kernel
theorem dL_law_446 : decode cL_law 446 = .ok (.iconst 1, 1) := by decide +kernel
theorem dL_law_447 : decode cL_law 447 = .ok (.iadd, 1) := by decide +kernel
theorem dL_law_448 : decode cL_law 448 = .ok (.iaload, 1) := by decide +kernel
theorem dL_law_449 : decode cL_law 449 = .ok (.invokevirtual 45, 3) := by decide +kernel
theorem dL_law_452 : decode cL_law 452 = .ok (.if_icmp .eq 951, 3) := by decide +kernel
theorem dL_law_455 : decode cL_law 455 = .ok (.iconst 0, 1) := by decide +kernel
theorem dL_law_456 : decode cL_law 456 = .ok (.ireturn, 1) := by decide +kernel
theorem dL_law_457 : decode cL_law 457 = .ok (.aload_n 1, 1) := by decide +kernel
theorem dL_law_458 : decode cL_law 458 = .ok (.aload_n 0, 1) := by decide +kernel
theorem dL_law_459 : decode cL_law 459 = .ok (.iload_n 3, 1) := by decide +kernel
theorem dL_law_460 : decode cL_law 460 = .ok (.iconst 1, 1) := by decide +kernel
theorem dL_law_461 : decode cL_law 461 = .ok (.iadd, 1) := by decide +kernel
theorem dL_law_462 : decode cL_law 462 = .ok (.iaload, 1) := by decide +kernel
theorem dL_law_463 : decode cL_law 463 = .ok (.aload_n 0, 1) := by decide +kernel
theorem dL_law_464 : decode cL_law 464 = .ok (.iload_n 3, 1) := by decide +kernel
theorem dL_law_465 : decode cL_law 465 = .ok (.iconst 2, 1) := by decide +kernel
theorem dL_law_466 : decode cL_law 466 = .ok (.iadd, 1) := by decide +kernel
theorem dL_law_467 : decode cL_law 467 = .ok (.iaload, 1) := by decide +kernel
theorem dL_law_468 : decode cL_law 468 = .ok (.aload_n 0, 1) := by decide +kernel
theorem dL_law_469 : decode cL_law 469 = .ok (.iload_n 3, 1) := by decide +kernel
theorem dL_law_470 : decode cL_law 470 = .ok (.iconst 3, 1) := by decide +kernel
theorem dL_law_471 : decode cL_law 471 = .ok (.iadd, 1) := by decide +kernel
theorem dL_law_472 : decode cL_law 472 = .ok (.iaload, 1) := by decide +kernel
theorem dL_law_473 : decode cL_law 473 = .ok (.invokevirtual 46, 3) := by decide +kernel
theorem dL_law_476 : decode cL_law 476 = .ok (.aload_n 2, 1) := by decide +kernel
theorem dL_law_477 : decode cL_law 477 = .ok (.aload_n 0, 1) := by decide +kernel
theorem dL_law_478 : decode cL_law 478 = .ok (.iload_n 3, 1) := by decide +kernel
theorem dL_law_479 : decode cL_law 479 = .ok (.iconst 1, 1) := by decide +kernel
theorem dL_law_480 : decode cL_law 480 = .ok (.iadd, 1) := by decide +kernel
theorem dL_law_481 : decode cL_law 481 = .ok (.iaload, 1) := by decide +kernel
theorem dL_law_482 : decode cL_law 482 = .ok (.aload_n 0, 1) := by decide +kernel
theorem dL_law_483 : decode cL_law 483 = .ok (.iload_n 3, 1) := by decide +kernel
theorem dL_law_484 : decode cL_law 484 = .ok (.iconst 2, 1) := by decide +kernel
theorem dL_law_485 : decode cL_law 485 = .ok (.iadd, 1) := by decide +kernel
theorem dL_law_486 : decode cL_law 486 = .ok (.iaload, 1) := by decide +kernel
theorem dL_law_487 : decode cL_law 487 = .ok (.aload_n 0, 1) := by decide +kernel
theorem dL_law_488 : decode cL_law 488 = .ok (.iload_n 3, 1) := by decide +kernel
theorem dL_law_489 : decode cL_law 489 = .ok (.iconst 3, 1) := by decide +kernel
theorem dL_law_490 : decode cL_law 490 = .ok (.iadd, 1) := by decide +kernel
theorem dL_law_491 : decode cL_law 491 = .ok (.iaload, 1) := by decide +kernel
theorem dL_law_492 : decode cL_law 492 = .ok (.invokevirtual 49, 3) := by decide +kernel
theorem dL_law_495 : decode cL_law 495 = .ok (.if_icmp .eq 908, 3) := by decide +kernel
theorem dL_law_498 : decode cL_law 498 = .ok (.iconst 0, 1) := by decide +kernel
theorem dL_law_499 : decode cL_law 499 = .ok (.ireturn, 1) := by decide +kernel
theorem dL_law_500 : decode cL_law 500 = .ok (.aload_n 1, 1) := by decide +kernel
theorem dL_law_501 : decode cL_law 501 = .ok (.aload_n 0, 1) := by decide +kernel
theorem dL_law_502 : decode cL_law 502 = .ok (.iload_n 3, 1) := by decide +kernel
theorem dL_law_503 : decode cL_law 503 = .ok (.iconst 1, 1) := by decide +kernel
theorem dL_law_504 : decode cL_law 504 = .ok (.iadd, 1) := by decide +kernel
theorem dL_law_505 : decode cL_law 505 = .ok (.iaload, 1) := by decide +kernel
theorem dL_law_506 : decode cL_law 506 = .ok (.aload_n 0, 1) := by decide +kernel
theorem dL_law_507 : decode cL_law 507 = .ok (.iload_n 3, 1) := by decide +kernel
theorem dL_law_508 : decode cL_law 508 = .ok (.iconst 2, 1) := by decide +kernel
theorem dL_law_509 : decode cL_law 509 = .ok (.iadd, 1) := by decide +kernel
theorem dL_law_510 : decode cL_law 510 = .ok (.iaload, 1) := by decide +kernel
theorem dL_law_511 : decode cL_law 511 = .ok (.aload_n 0, 1) := by decide +kernel
theorem dL_law_512 : decode cL_law 512 = .ok (.iload_n 3, 1) := by decide +kernel
theorem dL_law_513 : decode cL_law 513 = .ok (.iconst 3, 1) := by decide +kernel
theorem dL_law_514 : decode cL_law 514 = .ok (.iadd, 1) := by decide +kernel
theorem dL_law_515 : decode cL_law 515 = .ok (.iaload, 1) := by decide +kernel
theorem dL_law_516 : decode cL_law 516 = .ok (.invokevirtual 50, 3) := by decide +kernel
theorem dL_law_519 : decode cL_law 519 = .ok (.aload_n 2, 1) := by decide +kernel
theorem dL_law_520 : decode cL_law 520 = .ok (.aload_n 0, 1) := by decide +kernel
theorem dL_law_521 : decode cL_law 521 = .ok (.iload_n 3, 1) := by decide +kernel
theorem dL_law_522 : decode cL_law 522 = .ok (.iconst 1, 1) := by decide +kernel
theorem dL_law_523 : decode cL_law 523 = .ok (.iadd, 1) := by decide +kernel
theorem dL_law_524 : decode cL_law 524 = .ok (.iaload, 1) := by decide +kernel
theorem dL_law_525 : decode cL_law 525 = .ok (.aload_n 0, 1) := by decide +kernel
theorem dL_law_526 : decode cL_law 526 = .ok (.iload_n 3, 1) := by decide +kernel
theorem dL_law_527 : decode cL_law 527 = .ok (.iconst 2, 1) := by decide +kernel
theorem dL_law_528 : decode cL_law 528 = .ok (.iadd, 1) := by decide +kernel
theorem dL_law_529 : decode cL_law 529 = .ok (.iaload, 1) := by decide +kernel
theorem dL_law_530 : decode cL_law 530 = .ok (.aload_n 0, 1) := by decide +kernel
theorem dL_law_531 : decode cL_law 531 = .ok (.iload_n 3, 1) := by decide +kernel
theorem dL_law_532 : decode cL_law 532 = .ok (.iconst 3, 1) := by decide +kernel
theorem dL_law_533 : decode cL_law 533 = .ok (.iadd, 1) := by decide +kernel
theorem dL_law_534 : decode cL_law 534 = .ok (.iaload, 1) := by decide +kernel
theorem dL_law_535 : decode cL_law 535 = .ok (.invokevirtual 53, 3) := by decide +kernel
theorem dL_law_538 : decode cL_law 538 = .ok (.if_icmp .eq 865, 3) := by decide +kernel
theorem dL_law_541 : decode cL_law 541 = .ok (.iconst 0, 1) := by decide +kernel
theorem dL_law_542 : decode cL_law 542 = .ok (.ireturn, 1) := by decide +kernel
theorem dL_law_543 : decode cL_law 543 = .ok (.aload_n 1, 1) := by decide +kernel
theorem dL_law_544 : decode cL_law 544 = .ok (.aload_n 0, 1) := by decide +kernel
theorem dL_law_545 : decode cL_law 545 = .ok (.iload_n 3, 1) := by decide +kernel
theorem dL_law_546 : decode cL_law 546 = .ok (.iconst 1, 1) := by decide +kernel
theorem dL_law_547 : decode cL_law 547 = .ok (.iadd, 1) := by decide +kernel
theorem dL_law_548 : decode cL_law 548 = .ok (.iaload, 1) := by decide +kernel
theorem dL_law_549 : decode cL_law 549 = .ok (.aload_n 0, 1) := by decide +kernel
theorem dL_law_550 : decode cL_law 550 = .ok (.iload_n 3, 1) := by decide +kernel
theorem dL_law_551 : decode cL_law 551 = .ok (.iconst 2, 1) := by decide +kernel
theorem dL_law_552 : decode cL_law 552 = .ok (.iadd, 1) := by decide +kernel
theorem dL_law_553 : decode cL_law 553 = .ok (.iaload, 1) := by decide +kernel
theorem dL_law_554 : decode cL_law 554 = .ok (.invokevirtual 54, 3) := by decide +kernel
theorem dL_law_557 : decode cL_law 557 = .ok (.aload_n 2, 1) := by decide +kernel
theorem dL_law_558 : decode cL_law 558 = .ok (.aload_n 0, 1) := by decide +kernel
theorem dL_law_559 : decode cL_law 559 = .ok (.iload_n 3, 1) := by decide +kernel
theorem dL_law_560 : decode cL_law 560 = .ok (.iconst 1, 1) := by decide +kernel
theorem dL_law_561 : decode cL_law 561 = .ok (.iadd, 1) := by decide +kernel
theorem dL_law_562 : decode cL_law 562 = .ok (.iaload, 1) := by decide +kernel
theorem dL_law_563 : decode cL_law 563 = .ok (.aload_n 0, 1) := by decide +kernel
theorem dL_law_564 : decode cL_law 564 = .ok (.iload_n 3, 1) := by decide +kernel
theorem dL_law_565 : decode cL_law 565 = .ok (.iconst 2, 1) := by decide +kernel
theorem dL_law_566 : decode cL_law 566 = .ok (.iadd, 1) := by decide +kernel
theorem dL_law_567 : decode cL_law 567 = .ok (.iaload, 1) := by decide +kernel
theorem dL_law_568 : decode cL_law 568 = .ok (.invokevirtual 57, 3) := by decide +kernel
theorem dL_law_571 : decode cL_law 571 = .ok (.if_icmp .eq 832, 3) := by decide +kernel
theorem dL_law_574 : decode cL_law 574 = .ok (.iconst 0, 1) := by decide +kernel
theorem dL_law_575 : decode cL_law 575 = .ok (.ireturn, 1) := by decide +kernel
theorem dL_law_576 : decode cL_law 576 = .ok (.aload_n 1, 1) := by decide +kernel
theorem dL_law_577 : decode cL_law 577 = .ok (.aload_n 0, 1) := by decide +kernel
theorem dL_law_578 : decode cL_law 578 = .ok (.iload_n 3, 1) := by decide +kernel
theorem dL_law_579 : decode cL_law 579 = .ok (.iconst 1, 1) := by decide +kernel
theorem dL_law_580 : decode cL_law 580 = .ok (.iadd, 1) := by decide +kernel
theorem dL_law_581 : decode cL_law 581 = .ok (.iaload, 1) := by decide +kernel
theorem dL_law_582 : decode cL_law 582 = .ok (.aload_n 0, 1) := by decide +kernel
theorem dL_law_583 : decode cL_law 583 = .ok (.iload_n 3, 1) := by decide +kernel
theorem dL_law_584 : decode cL_law 584 = .ok (.iconst 2, 1) := by decide +kernel
theorem dL_law_585 : decode cL_law 585 = .ok (.iadd, 1) := by decide +kernel
theorem dL_law_586 : decode cL_law 586 = .ok (.iaload, 1) := by decide +kernel
theorem dL_law_587 : decode cL_law 587 = .ok (.invokevirtual 58, 3) := by decide +kernel
theorem dL_law_590 : decode cL_law 590 = .ok (.aload_n 2, 1) := by decide +kernel
theorem dL_law_591 : decode cL_law 591 = .ok (.aload_n 0, 1) := by decide +kernel
theorem dL_law_592 : decode cL_law 592 = .ok (.iload_n 3, 1) := by decide +kernel
theorem dL_law_593 : decode cL_law 593 = .ok (.iconst 1, 1) := by decide +kernel
theorem dL_law_594 : decode cL_law 594 = .ok (.iadd, 1) := by decide +kernel
theorem dL_law_595 : decode cL_law 595 = .ok (.iaload, 1) := by decide +kernel
theorem dL_law_596 : decode cL_law 596 = .ok (.aload_n 0, 1) := by decide +kernel
theorem dL_law_597 : decode cL_law 597 = .ok (.iload_n 3, 1) := by decide +kernel
theorem dL_law_598 : decode cL_law 598 = .ok (.iconst 2, 1) := by decide +kernel
theorem dL_law_599 : decode cL_law 599 = .ok (.iadd, 1) := by decide +kernel
theorem dL_law_600 : decode cL_law 600 = .ok (.iaload, 1) := by decide +kernel
theorem dL_law_601 : decode cL_law 601 = .ok (.invokevirtual 61, 3) := by decide +kernel
theorem dL_law_604 : decode cL_law 604 = .ok (.if_icmp .eq 799, 3) := by decide +kernel
theorem dL_law_607 : decode cL_law 607 = .ok (.iconst 0, 1) := by decide +kernel
theorem dL_law_608 : decode cL_law 608 = .ok (.ireturn, 1) := by decide +kernel
theorem dL_law_609 : decode cL_law 609 = .ok (.aload_n 1, 1) := by decide +kernel
theorem dL_law_610 : decode cL_law 610 = .ok (.invokevirtual 62, 3) := by decide +kernel
theorem dL_law_613 : decode cL_law 613 = .ok (.aload_n 2, 1) := by decide +kernel
theorem dL_law_614 : decode cL_law 614 = .ok (.invokevirtual 66, 3) := by decide +kernel
theorem dL_law_617 : decode cL_law 617 = .ok (.if_icmp .eq 786, 3) := by decide +kernel
theorem dL_law_620 : decode cL_law 620 = .ok (.iconst 0, 1) := by decide +kernel
theorem dL_law_621 : decode cL_law 621 = .ok (.ireturn, 1) := by decide +kernel
theorem dL_law_622 : decode cL_law 622 = .ok (.aload_n 1, 1) := by decide +kernel
theorem dL_law_623 : decode cL_law 623 = .ok (.aload_n 0, 1) := by decide +kernel
theorem dL_law_624 : decode cL_law 624 = .ok (.iload_n 3, 1) := by decide +kernel
theorem dL_law_625 : decode cL_law 625 = .ok (.iconst 1, 1) := by decide +kernel
theorem dL_law_626 : decode cL_law 626 = .ok (.iadd, 1) := by decide +kernel
theorem dL_law_627 : decode cL_law 627 = .ok (.iaload, 1) := by decide +kernel
theorem dL_law_628 : decode cL_law 628 = .ok (.invokevirtual 67, 3) := by decide +kernel
theorem dL_law_631 : decode cL_law 631 = .ok (.aload_n 2, 1) := by decide +kernel
theorem dL_law_632 : decode cL_law 632 = .ok (.aload_n 0, 1) := by decide +kernel
theorem dL_law_633 : decode cL_law 633 = .ok (.iload_n 3, 1) := by decide +kernel
theorem dL_law_634 : decode cL_law 634 = .ok (.iconst 1, 1) := by decide +kernel
theorem dL_law_635 : decode cL_law 635 = .ok (.iadd, 1) := by decide +kernel
theorem dL_law_636 : decode cL_law 636 = .ok (.iaload, 1) := by decide +kernel
theorem dL_law_637 : decode cL_law 637 = .ok (.invokevirtual 70, 3) := by decide +kernel
theorem dL_law_640 : decode cL_law 640 = .ok (.if_icmp .eq 763, 3) := by decide +kernel
theorem dL_law_643 : decode cL_law 643 = .ok (.iconst 0, 1) := by decide +kernel
theorem dL_law_644 : decode cL_law 644 = .ok (.ireturn, 1) := by decide +kernel
theorem dL_law_645 : decode cL_law 645 = .ok (.aload_n 1, 1) := by decide +kernel
theorem dL_law_646 : decode cL_law 646 = .ok (.aload_n 0, 1) := by decide +kernel
theorem dL_law_647 : decode cL_law 647 = .ok (.iload_n 3, 1) := by decide +kernel
theorem dL_law_648 : decode cL_law 648 = .ok (.iconst 1, 1) := by decide +kernel
theorem dL_law_649 : decode cL_law 649 = .ok (.iadd, 1) := by decide +kernel
theorem dL_law_650 : decode cL_law 650 = .ok (.iaload, 1) := by decide +kernel
theorem dL_law_651 : decode cL_law 651 = .ok (.invokevirtual 71, 3) := by decide +kernel
theorem dL_law_654 : decode cL_law 654 = .ok (.aload_n 2, 1) := by decide +kernel
theorem dL_law_655 : decode cL_law 655 = .ok (.aload_n 0, 1) := by decide +kernel
theorem dL_law_656 : decode cL_law 656 = .ok (.iload_n 3, 1) := by decide +kernel
theorem dL_law_657 : decode cL_law 657 = .ok (.iconst 1, 1) := by decide +kernel
theorem dL_law_658 : decode cL_law 658 = .ok (.iadd, 1) := by decide +kernel
theorem dL_law_659 : decode cL_law 659 = .ok (.iaload, 1) := by decide +kernel
theorem dL_law_660 : decode cL_law 660 = .ok (.invokevirtual 74, 3) := by decide +kernel
theorem dL_law_663 : decode cL_law 663 = .ok (.if_icmp .eq 740, 3) := by decide +kernel
theorem dL_law_666 : decode cL_law 666 = .ok (.iconst 0, 1) := by decide +kernel
theorem dL_law_667 : decode cL_law 667 = .ok (.ireturn, 1) := by decide +kernel
theorem dL_law_668 : decode cL_law 668 = .ok (.aload_n 1, 1) := by decide +kernel
theorem dL_law_669 : decode cL_law 669 = .ok (.aload_n 0, 1) := by decide +kernel
theorem dL_law_670 : decode cL_law 670 = .ok (.iload_n 3, 1) := by decide +kernel
theorem dL_law_671 : decode cL_law 671 = .ok (.iconst 1, 1) := by decide +kernel
theorem dL_law_672 : decode cL_law 672 = .ok (.iadd, 1) := by decide +kernel
theorem dL_law_673 : decode cL_law 673 = .ok (.iaload, 1) := by decide +kernel
theorem dL_law_674 : decode cL_law 674 = .ok (.invokevirtual 75, 3) := by decide +kernel
theorem dL_law_677 : decode cL_law 677 = .ok (.aload_n 2, 1) := by decide +kernel
theorem dL_law_678 : decode cL_law 678 = .ok (.aload_n 0, 1) := by decide +kernel
theorem dL_law_679 : decode cL_law 679 = .ok (.iload_n 3, 1) := by decide +kernel
theorem dL_law_680 : decode cL_law 680 = .ok (.iconst 1, 1) := by decide +kernel
theorem dL_law_681 : decode cL_law 681 = .ok (.iadd, 1) := by decide +kernel
theorem dL_law_682 : decode cL_law 682 = .ok (.iaload, 1) := by decide +kernel
theorem dL_law_683 : decode cL_law 683 = .ok (.invokevirtual 78, 3) := by decide +kernel
theorem dL_law_686 : decode cL_law 686 = .ok (.if_icmp .eq 717, 3) := by decide +kernel
theorem dL_law_689 : decode cL_law 689 = .ok (.iconst 0, 1) := by decide +kernel
theorem dL_law_690 : decode cL_law 690 = .ok (.ireturn, 1) := by decide +kernel
theorem dL_law_691 : decode cL_law 691 = .ok (.aload_n 1, 1) := by decide +kernel
theorem dL_law_692 : decode cL_law 692 = .ok (.aload_n 0, 1) := by decide +kernel
theorem dL_law_693 : decode cL_law 693 = .ok (.iload_n 3, 1) := by decide +kernel
theorem dL_law_694 : decode cL_law 694 = .ok (.iconst 1, 1) := by decide +kernel
theorem dL_law_695 : decode cL_law 695 = .ok (.iadd, 1) := by decide +kernel
theorem dL_law_696 : decode cL_law 696 = .ok (.iaload, 1) := by decide +kernel
theorem dL_law_697 : decode cL_law 697 = .ok (.invokevirtual 79, 3) := by decide +kernel
theorem dL_law_700 : decode cL_law 700 = .ok (.aload_n 2, 1) := by decide +kernel
theorem dL_law_701 : decode cL_law 701 = .ok (.aload_n 0, 1) := by decide +kernel
theorem dL_law_702 : decode cL_law 702 = .ok (.iload_n 3, 1) := by decide +kernel
theorem dL_law_703 : decode cL_law 703 = .ok (.iconst 1, 1) := by decide +kernel
theorem dL_law_704 : decode cL_law 704 = .ok (.iadd, 1) := by decide +kernel
theorem dL_law_705 : decode cL_law 705 = .ok (.iaload, 1) := by decide +kernel
theorem dL_law_706 : decode cL_law 706 = .ok (.invokevirtual 82, 3) := by decide +kernel
theorem dL_law_709 : decode cL_law 709 = .ok (.if_icmp .eq 694, 3) := by decide +kernel
theorem dL_law_712 : decode cL_law 712 = .ok (.iconst 0, 1) := by decide +kernel
theorem dL_law_713 : decode cL_law 713 = .ok (.ireturn, 1) := by decide +kernel
theorem dL_law_714 : decode cL_law 714 = .ok (.aload_n 1, 1) := by decide +kernel
theorem dL_law_715 : decode cL_law 715 = .ok (.aload_n 0, 1) := by decide +kernel
theorem dL_law_716 : decode cL_law 716 = .ok (.iload_n 3, 1) := by decide +kernel
theorem dL_law_717 : decode cL_law 717 = .ok (.iconst 1, 1) := by decide +kernel
theorem dL_law_718 : decode cL_law 718 = .ok (.iadd, 1) := by decide +kernel
theorem dL_law_719 : decode cL_law 719 = .ok (.iaload, 1) := by decide +kernel
theorem dL_law_720 : decode cL_law 720 = .ok (.invokevirtual 83, 3) := by decide +kernel
theorem dL_law_723 : decode cL_law 723 = .ok (.aload_n 2, 1) := by decide +kernel
theorem dL_law_724 : decode cL_law 724 = .ok (.aload_n 0, 1) := by decide +kernel
theorem dL_law_725 : decode cL_law 725 = .ok (.iload_n 3, 1) := by decide +kernel
theorem dL_law_726 : decode cL_law 726 = .ok (.iconst 1, 1) := by decide +kernel
theorem dL_law_727 : decode cL_law 727 = .ok (.iadd, 1) := by decide +kernel
theorem dL_law_728 : decode cL_law 728 = .ok (.iaload, 1) := by decide +kernel
theorem dL_law_729 : decode cL_law 729 = .ok (.invokevirtual 86, 3) := by decide +kernel
theorem dL_law_732 : decode cL_law 732 = .ok (.if_icmp .eq 671, 3) := by decide +kernel
theorem dL_law_735 : decode cL_law 735 = .ok (.iconst 0, 1) := by decide +kernel
theorem dL_law_736 : decode cL_law 736 = .ok (.ireturn, 1) := by decide +kernel
theorem dL_law_737 : decode cL_law 737 = .ok (.aload_n 1, 1) := by decide +kernel
theorem dL_law_738 : decode cL_law 738 = .ok (.aload_n 0, 1) := by decide +kernel
theorem dL_law_739 : decode cL_law 739 = .ok (.iload_n 3, 1) := by decide +kernel
theorem dL_law_740 : decode cL_law 740 = .ok (.iconst 1, 1) := by decide +kernel
theorem dL_law_741 : decode cL_law 741 = .ok (.iadd, 1) := by decide +kernel
theorem dL_law_742 : decode cL_law 742 = .ok (.iaload, 1) := by decide +kernel
theorem dL_law_743 : decode cL_law 743 = .ok (.aload_n 0, 1) := by decide +kernel
theorem dL_law_744 : decode cL_law 744 = .ok (.iload_n 3, 1) := by decide +kernel
theorem dL_law_745 : decode cL_law 745 = .ok (.iconst 2, 1) := by decide +kernel
theorem dL_law_746 : decode cL_law 746 = .ok (.iadd, 1) := by decide +kernel
theorem dL_law_747 : decode cL_law 747 = .ok (.iaload, 1) := by decide +kernel
theorem dL_law_748 : decode cL_law 748 = .ok (.aload_n 0, 1) := by decide +kernel
theorem dL_law_749 : decode cL_law 749 = .ok (.iload_n 3, 1) := by decide +kernel
theorem dL_law_750 : decode cL_law 750 = .ok (.iconst 3, 1) := by decide +kernel
theorem dL_law_751 : decode cL_law 751 = .ok (.iadd, 1) := by decide +kernel
theorem dL_law_752 : decode cL_law 752 = .ok (.iaload, 1) := by decide +kernel
theorem dL_law_753 : decode cL_law 753 = .ok (.invokevirtual 87, 3) := by decide +kernel
theorem dL_law_756 : decode cL_law 756 = .ok (.aload_n 2, 1) := by decide +kernel
theorem dL_law_757 : decode cL_law 757 = .ok (.aload_n 0, 1) := by decide +kernel
theorem dL_law_758 : decode cL_law 758 = .ok (.iload_n 3, 1) := by decide +kernel
theorem dL_law_759 : decode cL_law 759 = .ok (.iconst 1, 1) := by decide +kernel
theorem dL_law_760 : decode cL_law 760 = .ok (.iadd, 1) := by decide +kernel
theorem dL_law_761 : decode cL_law 761 = .ok (.iaload, 1) := by decide +kernel
theorem dL_law_762 : decode cL_law 762 = .ok (.aload_n 0, 1) := by decide +kernel
theorem dL_law_763 : decode cL_law 763 = .ok (.iload_n 3, 1) := by decide +kernel
theorem dL_law_764 : decode cL_law 764 = .ok (.iconst 2, 1) := by decide +kernel
theorem dL_law_765 : decode cL_law 765 = .ok (.iadd, 1) := by decide +kernel
theorem dL_law_766 : decode cL_law 766 = .ok (.iaload, 1) := by decide +kernel
theorem dL_law_767 : decode cL_law 767 = .ok (.aload_n 0, 1) := by decide +kernel
theorem dL_law_768 : decode cL_law 768 = .ok (.iload_n 3, 1) := by decide +kernel
theorem dL_law_769 : decode cL_law 769 = .ok (.iconst 3, 1) := by decide +kernel
theorem dL_law_770 : decode cL_law 770 = .ok (.iadd, 1) := by decide +kernel
theorem dL_law_771 : decode cL_law 771 = .ok (.iaload, 1) := by decide +kernel
theorem dL_law_772 : decode cL_law 772 = .ok (.invokevirtual 91, 3) := by decide +kernel
theorem dL_law_775 : decode cL_law 775 = .ok (.lcmp, 1) := by decide +kernel
theorem dL_law_776 : decode cL_law 776 = .ok (.ifCond .eq 627, 3) := by decide +kernel
theorem dL_law_779 : decode cL_law 779 = .ok (.iconst 0, 1) := by decide +kernel
theorem dL_law_780 : decode cL_law 780 = .ok (.ireturn, 1) := by decide +kernel
theorem dL_law_781 : decode cL_law 781 = .ok (.aload_n 1, 1) := by decide +kernel
theorem dL_law_782 : decode cL_law 782 = .ok (.aload_n 0, 1) := by decide +kernel
theorem dL_law_783 : decode cL_law 783 = .ok (.iload_n 3, 1) := by decide +kernel
theorem dL_law_784 : decode cL_law 784 = .ok (.iconst 1, 1) := by decide +kernel
theorem dL_law_785 : decode cL_law 785 = .ok (.iadd, 1) := by decide +kernel
theorem dL_law_786 : decode cL_law 786 = .ok (.iaload, 1) := by decide +kernel
theorem dL_law_787 : decode cL_law 787 = .ok (.aload_n 0, 1) := by decide +kernel
theorem dL_law_788 : decode cL_law 788 = .ok (.iload_n 3, 1) := by decide +kernel
theorem dL_law_789 : decode cL_law 789 = .ok (.iconst 2, 1) := by decide +kernel
theorem dL_law_790 : decode cL_law 790 = .ok (.iadd, 1) := by decide +kernel
theorem dL_law_791 : decode cL_law 791 = .ok (.iaload, 1) := by decide +kernel
theorem dL_law_792 : decode cL_law 792 = .ok (.aload_n 0, 1) := by decide +kernel
theorem dL_law_793 : decode cL_law 793 = .ok (.iload_n 3, 1) := by decide +kernel
theorem dL_law_794 : decode cL_law 794 = .ok (.iconst 3, 1) := by decide +kernel
theorem dL_law_795 : decode cL_law 795 = .ok (.iadd, 1) := by decide +kernel
theorem dL_law_796 : decode cL_law 796 = .ok (.iaload, 1) := by decide +kernel
theorem dL_law_797 : decode cL_law 797 = .ok (.invokevirtual 92, 3) := by decide +kernel
theorem dL_law_800 : decode cL_law 800 = .ok (.aload_n 2, 1) := by decide +kernel
theorem dL_law_801 : decode cL_law 801 = .ok (.aload_n 0, 1) := by decide +kernel
theorem dL_law_802 : decode cL_law 802 = .ok (.iload_n 3, 1) := by decide +kernel
theorem dL_law_803 : decode cL_law 803 = .ok (.iconst 1, 1) := by decide +kernel
theorem dL_law_804 : decode cL_law 804 = .ok (.iadd, 1) := by decide +kernel
theorem dL_law_805 : decode cL_law 805 = .ok (.iaload, 1) := by decide +kernel
theorem dL_law_806 : decode cL_law 806 = .ok (.aload_n 0, 1) := by decide +kernel
theorem dL_law_807 : decode cL_law 807 = .ok (.iload_n 3, 1) := by decide +kernel
theorem dL_law_808 : decode cL_law 808 = .ok (.iconst 2, 1) := by decide +kernel
theorem dL_law_809 : decode cL_law 809 = .ok (.iadd, 1) := by decide +kernel
theorem dL_law_810 : decode cL_law 810 = .ok (.iaload, 1) := by decide +kernel
theorem dL_law_811 : decode cL_law 811 = .ok (.aload_n 0, 1) := by decide +kernel
theorem dL_law_812 : decode cL_law 812 = .ok (.iload_n 3, 1) := by decide +kernel
theorem dL_law_813 : decode cL_law 813 = .ok (.iconst 3, 1) := by decide +kernel
theorem dL_law_814 : decode cL_law 814 = .ok (.iadd, 1) := by decide +kernel
theorem dL_law_815 : decode cL_law 815 = .ok (.iaload, 1) := by decide +kernel
theorem dL_law_816 : decode cL_law 816 = .ok (.invokevirtual 95, 3) := by decide +kernel
theorem dL_law_819 : decode cL_law 819 = .ok (.if_icmp .eq 584, 3) := by decide +kernel
theorem dL_law_822 : decode cL_law 822 = .ok (.iconst 0, 1) := by decide +kernel
theorem dL_law_823 : decode cL_law 823 = .ok (.ireturn, 1) := by decide +kernel
theorem dL_law_824 : decode cL_law 824 = .ok (.aload_n 1, 1) := by decide +kernel
theorem dL_law_825 : decode cL_law 825 = .ok (.aload_n 0, 1) := by decide +kernel
theorem dL_law_826 : decode cL_law 826 = .ok (.iload_n 3, 1) := by decide +kernel
theorem dL_law_827 : decode cL_law 827 = .ok (.iconst 1, 1) := by decide +kernel
theorem dL_law_828 : decode cL_law 828 = .ok (.iadd, 1) := by decide +kernel
theorem dL_law_829 : decode cL_law 829 = .ok (.iaload, 1) := by decide +kernel
theorem dL_law_830 : decode cL_law 830 = .ok (.invokevirtual 96, 3) := by decide +kernel
theorem dL_law_833 : decode cL_law 833 = .ok (.aload_n 2, 1) := by decide +kernel
theorem dL_law_834 : decode cL_law 834 = .ok (.aload_n 0, 1) := by decide +kernel
theorem dL_law_835 : decode cL_law 835 = .ok (.iload_n 3, 1) := by decide +kernel
theorem dL_law_836 : decode cL_law 836 = .ok (.iconst 1, 1) := by decide +kernel
theorem dL_law_837 : decode cL_law 837 = .ok (.iadd, 1) := by decide +kernel
theorem dL_law_838 : decode cL_law 838 = .ok (.iaload, 1) := by decide +kernel
theorem dL_law_839 : decode cL_law 839 = .ok (.invokevirtual 99, 3) := by decide +kernel
theorem dL_law_842 : decode cL_law 842 = .ok (.if_icmp .eq 561, 3) := by decide +kernel
theorem dL_law_845 : decode cL_law 845 = .ok (.iconst 0, 1) := by decide +kernel
theorem dL_law_846 : decode cL_law 846 = .ok (.ireturn, 1) := by decide +kernel
theorem dL_law_847 : decode cL_law 847 = .ok (.aload_n 1, 1) := by decide +kernel
theorem dL_law_848 : decode cL_law 848 = .ok (.aload_n 0, 1) := by decide +kernel
theorem dL_law_849 : decode cL_law 849 = .ok (.iload_n 3, 1) := by decide +kernel
theorem dL_law_850 : decode cL_law 850 = .ok (.iconst 1, 1) := by decide +kernel
theorem dL_law_851 : decode cL_law 851 = .ok (.iadd, 1) := by decide +kernel
theorem dL_law_852 : decode cL_law 852 = .ok (.iaload, 1) := by decide +kernel
theorem dL_law_853 : decode cL_law 853 = .ok (.aload_n 0, 1) := by decide +kernel
theorem dL_law_854 : decode cL_law 854 = .ok (.iload_n 3, 1) := by decide +kernel
theorem dL_law_855 : decode cL_law 855 = .ok (.iconst 2, 1) := by decide +kernel
theorem dL_law_856 : decode cL_law 856 = .ok (.iadd, 1) := by decide +kernel
theorem dL_law_857 : decode cL_law 857 = .ok (.iaload, 1) := by decide +kernel
theorem dL_law_858 : decode cL_law 858 = .ok (.aload_n 0, 1) := by decide +kernel
theorem dL_law_859 : decode cL_law 859 = .ok (.iload_n 3, 1) := by decide +kernel
theorem dL_law_860 : decode cL_law 860 = .ok (.iconst 3, 1) := by decide +kernel
theorem dL_law_861 : decode cL_law 861 = .ok (.iadd, 1) := by decide +kernel
theorem dL_law_862 : decode cL_law 862 = .ok (.iaload, 1) := by decide +kernel
theorem dL_law_863 : decode cL_law 863 = .ok (.aload_n 0, 1) := by decide +kernel
theorem dL_law_864 : decode cL_law 864 = .ok (.iload_n 3, 1) := by decide +kernel
theorem dL_law_865 : decode cL_law 865 = .ok (.iconst 4, 1) := by decide +kernel
theorem dL_law_866 : decode cL_law 866 = .ok (.iadd, 1) := by decide +kernel
theorem dL_law_867 : decode cL_law 867 = .ok (.iaload, 1) := by decide +kernel
theorem dL_law_868 : decode cL_law 868 = .ok (.invokevirtual 100, 3) := by decide +kernel
theorem dL_law_871 : decode cL_law 871 = .ok (.aload_n 2, 1) := by decide +kernel
theorem dL_law_872 : decode cL_law 872 = .ok (.aload_n 0, 1) := by decide +kernel
theorem dL_law_873 : decode cL_law 873 = .ok (.iload_n 3, 1) := by decide +kernel
theorem dL_law_874 : decode cL_law 874 = .ok (.iconst 1, 1) := by decide +kernel
theorem dL_law_875 : decode cL_law 875 = .ok (.iadd, 1) := by decide +kernel
theorem dL_law_876 : decode cL_law 876 = .ok (.iaload, 1) := by decide +kernel
theorem dL_law_877 : decode cL_law 877 = .ok (.aload_n 0, 1) := by decide +kernel
theorem dL_law_878 : decode cL_law 878 = .ok (.iload_n 3, 1) := by decide +kernel
theorem dL_law_879 : decode cL_law 879 = .ok (.iconst 2, 1) := by decide +kernel
theorem dL_law_880 : decode cL_law 880 = .ok (.iadd, 1) := by decide +kernel
theorem dL_law_881 : decode cL_law 881 = .ok (.iaload, 1) := by decide +kernel
theorem dL_law_882 : decode cL_law 882 = .ok (.aload_n 0, 1) := by decide +kernel
theorem dL_law_883 : decode cL_law 883 = .ok (.iload_n 3, 1) := by decide +kernel
theorem dL_law_884 : decode cL_law 884 = .ok (.iconst 3, 1) := by decide +kernel
theorem dL_law_885 : decode cL_law 885 = .ok (.iadd, 1) := by decide +kernel
theorem dL_law_886 : decode cL_law 886 = .ok (.iaload, 1) := by decide +kernel
theorem dL_law_887 : decode cL_law 887 = .ok (.aload_n 0, 1) := by decide +kernel
theorem dL_law_888 : decode cL_law 888 = .ok (.iload_n 3, 1) := by decide +kernel
theorem dL_law_889 : decode cL_law 889 = .ok (.iconst 4, 1) := by decide +kernel
theorem dL_law_890 : decode cL_law 890 = .ok (.iadd, 1) := by decide +kernel
theorem dL_law_891 : decode cL_law 891 = .ok (.iaload, 1) := by decide +kernel
theorem dL_law_892 : decode cL_law 892 = .ok (.invokevirtual 103, 3) := by decide +kernel
theorem dL_law_895 : decode cL_law 895 = .ok (.if_icmp .eq 508, 3) := by decide +kernel
theorem dL_law_898 : decode cL_law 898 = .ok (.iconst 0, 1) := by decide +kernel
theorem dL_law_899 : decode cL_law 899 = .ok (.ireturn, 1) := by decide +kernel
theorem dL_law_900 : decode cL_law 900 = .ok (.aload_n 1, 1) := by decide +kernel
theorem dL_law_901 : decode cL_law 901 = .ok (.aload_n 0, 1) := by decide +kernel
theorem dL_law_902 : decode cL_law 902 = .ok (.iload_n 3, 1) := by decide +kernel
theorem dL_law_903 : decode cL_law 903 = .ok (.iconst 1, 1) := by decide +kernel
theorem dL_law_904 : decode cL_law 904 = .ok (.iadd, 1) := by decide +kernel
theorem dL_law_905 : decode cL_law 905 = .ok (.iaload, 1) := by decide +kernel
theorem dL_law_906 : decode cL_law 906 = .ok (.aload_n 0, 1) := by decide +kernel
theorem dL_law_907 : decode cL_law 907 = .ok (.iload_n 3, 1) := by decide +kernel
theorem dL_law_908 : decode cL_law 908 = .ok (.iconst 2, 1) := by decide +kernel
theorem dL_law_909 : decode cL_law 909 = .ok (.iadd, 1) := by decide +kernel
theorem dL_law_910 : decode cL_law 910 = .ok (.iaload, 1) := by decide +kernel
theorem dL_law_911 : decode cL_law 911 = .ok (.aload_n 0, 1) := by decide +kernel
theorem dL_law_912 : decode cL_law 912 = .ok (.iload_n 3, 1) := by decide +kernel
theorem dL_law_913 : decode cL_law 913 = .ok (.iconst 3, 1) := by decide +kernel
theorem dL_law_914 : decode cL_law 914 = .ok (.iadd, 1) := by decide +kernel
theorem dL_law_915 : decode cL_law 915 = .ok (.iaload, 1) := by decide +kernel
theorem dL_law_916 : decode cL_law 916 = .ok (.aload_n 0, 1) := by decide +kernel
theorem dL_law_917 : decode cL_law 917 = .ok (.iload_n 3, 1) := by decide +kernel
theorem dL_law_918 : decode cL_law 918 = .ok (.iconst 4, 1) := by decide +kernel
theorem dL_law_919 : decode cL_law 919 = .ok (.iadd, 1) := by decide +kernel
theorem dL_law_920 : decode cL_law 920 = .ok (.iaload, 1) := by decide +kernel
theorem dL_law_921 : decode cL_law 921 = .ok (.invokevirtual 104, 3) := by decide +kernel
theorem dL_law_924 : decode cL_law 924 = .ok (.aload_n 2, 1) := by decide +kernel
theorem dL_law_925 : decode cL_law 925 = .ok (.aload_n 0, 1) := by decide +kernel
theorem dL_law_926 : decode cL_law 926 = .ok (.iload_n 3, 1) := by decide +kernel
theorem dL_law_927 : decode cL_law 927 = .ok (.iconst 1, 1) := by decide +kernel
theorem dL_law_928 : decode cL_law 928 = .ok (.iadd, 1) := by decide +kernel
theorem dL_law_929 : decode cL_law 929 = .ok (.iaload, 1) := by decide +kernel
theorem dL_law_930 : decode cL_law 930 = .ok (.aload_n 0, 1) := by decide +kernel
theorem dL_law_931 : decode cL_law 931 = .ok (.iload_n 3, 1) := by decide +kernel
theorem dL_law_932 : decode cL_law 932 = .ok (.iconst 2, 1) := by decide +kernel
theorem dL_law_933 : decode cL_law 933 = .ok (.iadd, 1) := by decide +kernel
theorem dL_law_934 : decode cL_law 934 = .ok (.iaload, 1) := by decide +kernel
theorem dL_law_935 : decode cL_law 935 = .ok (.aload_n 0, 1) := by decide +kernel
theorem dL_law_936 : decode cL_law 936 = .ok (.iload_n 3, 1) := by decide +kernel
theorem dL_law_937 : decode cL_law 937 = .ok (.iconst 3, 1) := by decide +kernel
theorem dL_law_938 : decode cL_law 938 = .ok (.iadd, 1) := by decide +kernel
theorem dL_law_939 : decode cL_law 939 = .ok (.iaload, 1) := by decide +kernel
theorem dL_law_940 : decode cL_law 940 = .ok (.aload_n 0, 1) := by decide +kernel
theorem dL_law_941 : decode cL_law 941 = .ok (.iload_n 3, 1) := by decide +kernel
theorem dL_law_942 : decode cL_law 942 = .ok (.iconst 4, 1) := by decide +kernel
theorem dL_law_943 : decode cL_law 943 = .ok (.iadd, 1) := by decide +kernel
theorem dL_law_944 : decode cL_law 944 = .ok (.iaload, 1) := by decide +kernel
theorem dL_law_945 : decode cL_law 945 = .ok (.invokevirtual 107, 3) := by decide +kernel
theorem dL_law_948 : decode cL_law 948 = .ok (.if_icmp .eq 455, 3) := by decide +kernel
theorem dL_law_951 : decode cL_law 951 = .ok (.iconst 0, 1) := by decide +kernel
theorem dL_law_952 : decode cL_law 952 = .ok (.ireturn, 1) := by decide +kernel
theorem dL_law_953 : decode cL_law 953 = .ok (.aload_n 1, 1) := by decide +kernel
theorem dL_law_954 : decode cL_law 954 = .ok (.aload_n 0, 1) := by decide +kernel
theorem dL_law_955 : decode cL_law 955 = .ok (.iload_n 3, 1) := by decide +kernel
theorem dL_law_956 : decode cL_law 956 = .ok (.iconst 1, 1) := by decide +kernel
theorem dL_law_957 : decode cL_law 957 = .ok (.iadd, 1) := by decide +kernel
theorem dL_law_958 : decode cL_law 958 = .ok (.iaload, 1) := by decide +kernel
theorem dL_law_959 : decode cL_law 959 = .ok (.invokevirtual 108, 3) := by decide +kernel
theorem dL_law_962 : decode cL_law 962 = .ok (.aload_n 2, 1) := by decide +kernel
theorem dL_law_963 : decode cL_law 963 = .ok (.aload_n 0, 1) := by decide +kernel
theorem dL_law_964 : decode cL_law 964 = .ok (.iload_n 3, 1) := by decide +kernel
theorem dL_law_965 : decode cL_law 965 = .ok (.iconst 1, 1) := by decide +kernel
theorem dL_law_966 : decode cL_law 966 = .ok (.iadd, 1) := by decide +kernel
theorem dL_law_967 : decode cL_law 967 = .ok (.iaload, 1) := by decide +kernel
theorem dL_law_968 : decode cL_law 968 = .ok (.invokevirtual 111, 3) := by decide +kernel
theorem dL_law_971 : decode cL_law 971 = .ok (.if_icmp .eq 432, 3) := by decide +kernel
theorem dL_law_974 : decode cL_law 974 = .ok (.iconst 0, 1) := by decide +kernel
theorem dL_law_975 : decode cL_law 975 = .ok (.ireturn, 1) := by decide +kernel
theorem dL_law_976 : decode cL_law 976 = .ok (.aload_n 1, 1) := by decide +kernel
theorem dL_law_977 : decode cL_law 977 = .ok (.invokevirtual 112, 3) := by decide +kernel
theorem dL_law_980 : decode cL_law 980 = .ok (.aload_n 2, 1) := by decide +kernel
theorem dL_law_981 : decode cL_law 981 = .ok (.invokevirtual 115, 3) := by decide +kernel
theorem dL_law_984 : decode cL_law 984 = .ok (.if_icmp .eq 419, 3) := by decide +kernel
theorem dL_law_987 : decode cL_law 987 = .ok (.iconst 0, 1) := by decide +kernel
theorem dL_law_988 : decode cL_law 988 = .ok (.ireturn, 1) := by decide +kernel
theorem dL_law_989 : decode cL_law 989 = .ok (.aload_n 1, 1) := by decide +kernel
theorem dL_law_990 : decode cL_law 990 = .ok (.invokevirtual 116, 3) := by decide +kernel
theorem dL_law_993 : decode cL_law 993 = .ok (.aload_n 2, 1) := by decide +kernel
theorem dL_law_994 : decode cL_law 994 = .ok (.invokevirtual 119, 3) := by decide +kernel
theorem dL_law_997 : decode cL_law 997 = .ok (.if_icmp .eq 406, 3) := by decide +kernel
theorem dL_law_1000 : decode cL_law 1000 = .ok (.iconst 0, 1) := by decide +kernel
theorem dL_law_1001 : decode cL_law 1001 = .ok (.ireturn, 1) := by decide +kernel
theorem dL_law_1002 : decode cL_law 1002 = .ok (.aload_n 1, 1) := by decide +kernel
theorem dL_law_1003 : decode cL_law 1003 = .ok (.aload_n 0, 1) := by decide +kernel
theorem dL_law_1004 : decode cL_law 1004 = .ok (.iload_n 3, 1) := by decide +kernel
theorem dL_law_1005 : decode cL_law 1005 = .ok (.iconst 1, 1) := by decide +kernel
theorem dL_law_1006 : decode cL_law 1006 = .ok (.iadd, 1) := by decide +kernel
theorem dL_law_1007 : decode cL_law 1007 = .ok (.iaload, 1) := by decide +kernel
theorem dL_law_1008 : decode cL_law 1008 = .ok (.invokevirtual 120, 3) := by decide +kernel
theorem dL_law_1011 : decode cL_law 1011 = .ok (.aload_n 2, 1) := by decide +kernel
theorem dL_law_1012 : decode cL_law 1012 = .ok (.aload_n 0, 1) := by decide +kernel
theorem dL_law_1013 : decode cL_law 1013 = .ok (.iload_n 3, 1) := by decide +kernel
theorem dL_law_1014 : decode cL_law 1014 = .ok (.iconst 1, 1) := by decide +kernel
theorem dL_law_1015 : decode cL_law 1015 = .ok (.iadd, 1) := by decide +kernel
theorem dL_law_1016 : decode cL_law 1016 = .ok (.iaload, 1) := by decide +kernel
theorem dL_law_1017 : decode cL_law 1017 = .ok (.invokevirtual 123, 3) := by decide +kernel
theorem dL_law_1020 : decode cL_law 1020 = .ok (.if_icmp .eq 383, 3) := by decide +kernel
theorem dL_law_1023 : decode cL_law 1023 = .ok (.iconst 0, 1) := by decide +kernel
theorem dL_law_1024 : decode cL_law 1024 = .ok (.ireturn, 1) := by decide +kernel
theorem dL_law_1025 : decode cL_law 1025 = .ok (.aload_n 1, 1) := by decide +kernel
theorem dL_law_1026 : decode cL_law 1026 = .ok (.aload_n 0, 1) := by decide +kernel
theorem dL_law_1027 : decode cL_law 1027 = .ok (.iload_n 3, 1) := by decide +kernel
theorem dL_law_1028 : decode cL_law 1028 = .ok (.iconst 1, 1) := by decide +kernel
theorem dL_law_1029 : decode cL_law 1029 = .ok (.iadd, 1) := by decide +kernel
theorem dL_law_1030 : decode cL_law 1030 = .ok (.iaload, 1) := by decide +kernel
theorem dL_law_1031 : decode cL_law 1031 = .ok (.aload_n 0, 1) := by decide +kernel
theorem dL_law_1032 : decode cL_law 1032 = .ok (.iload_n 3, 1) := by decide +kernel
theorem dL_law_1033 : decode cL_law 1033 = .ok (.iconst 2, 1) := by decide +kernel
theorem dL_law_1034 : decode cL_law 1034 = .ok (.iadd, 1) := by decide +kernel
theorem dL_law_1035 : decode cL_law 1035 = .ok (.iaload, 1) := by decide +kernel
theorem dL_law_1036 : decode cL_law 1036 = .ok (.invokevirtual 124, 3) := by decide +kernel
theorem dL_law_1039 : decode cL_law 1039 = .ok (.aload_n 2, 1) := by decide +kernel
theorem dL_law_1040 : decode cL_law 1040 = .ok (.aload_n 0, 1) := by decide +kernel
theorem dL_law_1041 : decode cL_law 1041 = .ok (.iload_n 3, 1) := by decide +kernel
theorem dL_law_1042 : decode cL_law 1042 = .ok (.iconst 1, 1) := by decide +kernel
theorem dL_law_1043 : decode cL_law 1043 = .ok (.iadd, 1) := by decide +kernel
theorem dL_law_1044 : decode cL_law 1044 = .ok (.iaload, 1) := by decide +kernel
theorem dL_law_1045 : decode cL_law 1045 = .ok (.aload_n 0, 1) := by decide +kernel
theorem dL_law_1046 : decode cL_law 1046 = .ok (.iload_n 3, 1) := by decide +kernel
theorem dL_law_1047 : decode cL_law 1047 = .ok (.iconst 2, 1) := by decide +kernel
theorem dL_law_1048 : decode cL_law 1048 = .ok (.iadd, 1) := by decide +kernel
theorem dL_law_1049 : decode cL_law 1049 = .ok (.iaload, 1) := by decide +kernel
theorem dL_law_1050 : decode cL_law 1050 = .ok (.invokevirtual 128, 3) := by decide +kernel
theorem dL_law_1053 : decode cL_law 1053 = .ok (.lcmp, 1) := by decide +kernel
theorem dL_law_1054 : decode cL_law 1054 = .ok (.ifCond .eq 349, 3) := by decide +kernel
theorem dL_law_1057 : decode cL_law 1057 = .ok (.iconst 0, 1) := by decide +kernel
theorem dL_law_1058 : decode cL_law 1058 = .ok (.ireturn, 1) := by decide +kernel
theorem dL_law_1059 : decode cL_law 1059 = .ok (.aload_n 1, 1) := by decide +kernel
theorem dL_law_1060 : decode cL_law 1060 = .ok (.aload_n 0, 1) := by decide +kernel
theorem dL_law_1061 : decode cL_law 1061 = .ok (.iload_n 3, 1) := by decide +kernel
theorem dL_law_1062 : decode cL_law 1062 = .ok (.iconst 1, 1) := by decide +kernel
theorem dL_law_1063 : decode cL_law 1063 = .ok (.iadd, 1) := by decide +kernel
theorem dL_law_1064 : decode cL_law 1064 = .ok (.iaload, 1) := by decide +kernel
theorem dL_law_1065 : decode cL_law 1065 = .ok (.aload_n 0, 1) := by decide +kernel
theorem dL_law_1066 : decode cL_law 1066 = .ok (.iload_n 3, 1) := by decide +kernel
theorem dL_law_1067 : decode cL_law 1067 = .ok (.iconst 2, 1) := by decide +kernel
theorem dL_law_1068 : decode cL_law 1068 = .ok (.iadd, 1) := by decide +kernel
theorem dL_law_1069 : decode cL_law 1069 = .ok (.iaload, 1) := by decide +kernel
theorem dL_law_1070 : decode cL_law 1070 = .ok (.aload_n 0, 1) := by decide +kernel
theorem dL_law_1071 : decode cL_law 1071 = .ok (.iload_n 3, 1) := by decide +kernel
theorem dL_law_1072 : decode cL_law 1072 = .ok (.iconst 3, 1) := by decide +kernel
theorem dL_law_1073 : decode cL_law 1073 = .ok (.iadd, 1) := by decide +kernel
theorem dL_law_1074 : decode cL_law 1074 = .ok (.iaload, 1) := by decide +kernel
theorem dL_law_1075 : decode cL_law 1075 = .ok (.invokevirtual 129, 3) := by decide +kernel
theorem dL_law_1078 : decode cL_law 1078 = .ok (.aload_n 2, 1) := by decide +kernel
theorem dL_law_1079 : decode cL_law 1079 = .ok (.aload_n 0, 1) := by decide +kernel
theorem dL_law_1080 : decode cL_law 1080 = .ok (.iload_n 3, 1) := by decide +kernel
theorem dL_law_1081 : decode cL_law 1081 = .ok (.iconst 1, 1) := by decide +kernel
theorem dL_law_1082 : decode cL_law 1082 = .ok (.iadd, 1) := by decide +kernel
theorem dL_law_1083 : decode cL_law 1083 = .ok (.iaload, 1) := by decide +kernel
theorem dL_law_1084 : decode cL_law 1084 = .ok (.aload_n 0, 1) := by decide +kernel
theorem dL_law_1085 : decode cL_law 1085 = .ok (.iload_n 3, 1) := by decide +kernel
theorem dL_law_1086 : decode cL_law 1086 = .ok (.iconst 2, 1) := by decide +kernel
theorem dL_law_1087 : decode cL_law 1087 = .ok (.iadd, 1) := by decide +kernel
theorem dL_law_1088 : decode cL_law 1088 = .ok (.iaload, 1) := by decide +kernel
theorem dL_law_1089 : decode cL_law 1089 = .ok (.aload_n 0, 1) := by decide +kernel
theorem dL_law_1090 : decode cL_law 1090 = .ok (.iload_n 3, 1) := by decide +kernel
theorem dL_law_1091 : decode cL_law 1091 = .ok (.iconst 3, 1) := by decide +kernel
theorem dL_law_1092 : decode cL_law 1092 = .ok (.iadd, 1) := by decide +kernel
theorem dL_law_1093 : decode cL_law 1093 = .ok (.iaload, 1) := by decide +kernel
theorem dL_law_1094 : decode cL_law 1094 = .ok (.invokevirtual 132, 3) := by decide +kernel
theorem dL_law_1097 : decode cL_law 1097 = .ok (.if_icmp .eq 306, 3) := by decide +kernel
theorem dL_law_1100 : decode cL_law 1100 = .ok (.iconst 0, 1) := by decide +kernel
theorem dL_law_1101 : decode cL_law 1101 = .ok (.ireturn, 1) := by decide +kernel
theorem dL_law_1102 : decode cL_law 1102 = .ok (.aload_n 1, 1) := by decide +kernel
theorem dL_law_1103 : decode cL_law 1103 = .ok (.aload_n 0, 1) := by decide +kernel
theorem dL_law_1104 : decode cL_law 1104 = .ok (.iload_n 3, 1) := by decide +kernel
theorem dL_law_1105 : decode cL_law 1105 = .ok (.iconst 1, 1) := by decide +kernel
theorem dL_law_1106 : decode cL_law 1106 = .ok (.iadd, 1) := by decide +kernel
theorem dL_law_1107 : decode cL_law 1107 = .ok (.iaload, 1) := by decide +kernel
theorem dL_law_1108 : decode cL_law 1108 = .ok (.invokevirtual 133, 3) := by decide +kernel
theorem dL_law_1111 : decode cL_law 1111 = .ok (.aload_n 2, 1) := by decide +kernel
theorem dL_law_1112 : decode cL_law 1112 = .ok (.aload_n 0, 1) := by decide +kernel
theorem dL_law_1113 : decode cL_law 1113 = .ok (.iload_n 3, 1) := by decide +kernel
theorem dL_law_1114 : decode cL_law 1114 = .ok (.iconst 1, 1) := by decide +kernel
theorem dL_law_1115 : decode cL_law 1115 = .ok (.iadd, 1) := by decide +kernel
theorem dL_law_1116 : decode cL_law 1116 = .ok (.iaload, 1) := by decide +kernel
theorem dL_law_1117 : decode cL_law 1117 = .ok (.invokevirtual 136, 3) := by decide +kernel
theorem dL_law_1120 : decode cL_law 1120 = .ok (.if_icmp .eq 283, 3) := by decide +kernel
theorem dL_law_1123 : decode cL_law 1123 = .ok (.iconst 0, 1) := by decide +kernel
theorem dL_law_1124 : decode cL_law 1124 = .ok (.ireturn, 1) := by decide +kernel
theorem dL_law_1125 : decode cL_law 1125 = .ok (.aload_n 1, 1) := by decide +kernel
theorem dL_law_1126 : decode cL_law 1126 = .ok (.aload_n 0, 1) := by decide +kernel
theorem dL_law_1127 : decode cL_law 1127 = .ok (.iload_n 3, 1) := by decide +kernel
theorem dL_law_1128 : decode cL_law 1128 = .ok (.iconst 1, 1) := by decide +kernel
theorem dL_law_1129 : decode cL_law 1129 = .ok (.iadd, 1) := by decide +kernel
theorem dL_law_1130 : decode cL_law 1130 = .ok (.iaload, 1) := by decide +kernel
theorem dL_law_1131 : decode cL_law 1131 = .ok (.aload_n 0, 1) := by decide +kernel
theorem dL_law_1132 : decode cL_law 1132 = .ok (.iload_n 3, 1) := by decide +kernel
theorem dL_law_1133 : decode cL_law 1133 = .ok (.iconst 2, 1) := by decide +kernel
theorem dL_law_1134 : decode cL_law 1134 = .ok (.iadd, 1) := by decide +kernel
theorem dL_law_1135 : decode cL_law 1135 = .ok (.iaload, 1) := by decide +kernel
theorem dL_law_1136 : decode cL_law 1136 = .ok (.aload_n 0, 1) := by decide +kernel
theorem dL_law_1137 : decode cL_law 1137 = .ok (.iload_n 3, 1) := by decide +kernel
theorem dL_law_1138 : decode cL_law 1138 = .ok (.iconst 3, 1) := by decide +kernel
theorem dL_law_1139 : decode cL_law 1139 = .ok (.iadd, 1) := by decide +kernel
theorem dL_law_1140 : decode cL_law 1140 = .ok (.iaload, 1) := by decide +kernel
theorem dL_law_1141 : decode cL_law 1141 = .ok (.invokevirtual 137, 3) := by decide +kernel
theorem dL_law_1144 : decode cL_law 1144 = .ok (.aload_n 2, 1) := by decide +kernel
theorem dL_law_1145 : decode cL_law 1145 = .ok (.aload_n 0, 1) := by decide +kernel
theorem dL_law_1146 : decode cL_law 1146 = .ok (.iload_n 3, 1) := by decide +kernel
theorem dL_law_1147 : decode cL_law 1147 = .ok (.iconst 1, 1) := by decide +kernel
theorem dL_law_1148 : decode cL_law 1148 = .ok (.iadd, 1) := by decide +kernel
theorem dL_law_1149 : decode cL_law 1149 = .ok (.iaload, 1) := by decide +kernel
theorem dL_law_1150 : decode cL_law 1150 = .ok (.aload_n 0, 1) := by decide +kernel
theorem dL_law_1151 : decode cL_law 1151 = .ok (.iload_n 3, 1) := by decide +kernel
theorem dL_law_1152 : decode cL_law 1152 = .ok (.iconst 2, 1) := by decide +kernel
theorem dL_law_1153 : decode cL_law 1153 = .ok (.iadd, 1) := by decide +kernel
theorem dL_law_1154 : decode cL_law 1154 = .ok (.iaload, 1) := by decide +kernel
theorem dL_law_1155 : decode cL_law 1155 = .ok (.aload_n 0, 1) := by decide +kernel
theorem dL_law_1156 : decode cL_law 1156 = .ok (.iload_n 3, 1) := by decide +kernel
theorem dL_law_1157 : decode cL_law 1157 = .ok (.iconst 3, 1) := by decide +kernel
theorem dL_law_1158 : decode cL_law 1158 = .ok (.iadd, 1) := by decide +kernel
theorem dL_law_1159 : decode cL_law 1159 = .ok (.iaload, 1) := by decide +kernel
theorem dL_law_1160 : decode cL_law 1160 = .ok (.invokevirtual 140, 3) := by decide +kernel
theorem dL_law_1163 : decode cL_law 1163 = .ok (.if_icmp .eq 240, 3) := by decide +kernel
theorem dL_law_1166 : decode cL_law 1166 = .ok (.iconst 0, 1) := by decide +kernel
theorem dL_law_1167 : decode cL_law 1167 = .ok (.ireturn, 1) := by decide +kernel
theorem dL_law_1168 : decode cL_law 1168 = .ok (.aload_n 1, 1) := by decide +kernel
theorem dL_law_1169 : decode cL_law 1169 = .ok (.aload_n 0, 1) := by decide +kernel
theorem dL_law_1170 : decode cL_law 1170 = .ok (.iload_n 3, 1) := by decide +kernel
theorem dL_law_1171 : decode cL_law 1171 = .ok (.iconst 1, 1) := by decide +kernel
theorem dL_law_1172 : decode cL_law 1172 = .ok (.iadd, 1) := by decide +kernel
theorem dL_law_1173 : decode cL_law 1173 = .ok (.iaload, 1) := by decide +kernel
theorem dL_law_1174 : decode cL_law 1174 = .ok (.aload_n 0, 1) := by decide +kernel
theorem dL_law_1175 : decode cL_law 1175 = .ok (.iload_n 3, 1) := by decide +kernel
theorem dL_law_1176 : decode cL_law 1176 = .ok (.iconst 2, 1) := by decide +kernel
theorem dL_law_1177 : decode cL_law 1177 = .ok (.iadd, 1) := by decide +kernel
theorem dL_law_1178 : decode cL_law 1178 = .ok (.iaload, 1) := by decide +kernel
theorem dL_law_1179 : decode cL_law 1179 = .ok (.aload_n 0, 1) := by decide +kernel
theorem dL_law_1180 : decode cL_law 1180 = .ok (.iload_n 3, 1) := by decide +kernel
theorem dL_law_1181 : decode cL_law 1181 = .ok (.iconst 3, 1) := by decide +kernel
theorem dL_law_1182 : decode cL_law 1182 = .ok (.iadd, 1) := by decide +kernel
theorem dL_law_1183 : decode cL_law 1183 = .ok (.iaload, 1) := by decide +kernel
theorem dL_law_1184 : decode cL_law 1184 = .ok (.invokevirtual 141, 3) := by decide +kernel
theorem dL_law_1187 : decode cL_law 1187 = .ok (.aload_n 2, 1) := by decide +kernel
theorem dL_law_1188 : decode cL_law 1188 = .ok (.aload_n 0, 1) := by decide +kernel
theorem dL_law_1189 : decode cL_law 1189 = .ok (.iload_n 3, 1) := by decide +kernel
theorem dL_law_1190 : decode cL_law 1190 = .ok (.iconst 1, 1) := by decide +kernel
theorem dL_law_1191 : decode cL_law 1191 = .ok (.iadd, 1) := by decide +kernel
theorem dL_law_1192 : decode cL_law 1192 = .ok (.iaload, 1) := by decide +kernel
theorem dL_law_1193 : decode cL_law 1193 = .ok (.aload_n 0, 1) := by decide +kernel
theorem dL_law_1194 : decode cL_law 1194 = .ok (.iload_n 3, 1) := by decide +kernel
theorem dL_law_1195 : decode cL_law 1195 = .ok (.iconst 2, 1) := by decide +kernel
theorem dL_law_1196 : decode cL_law 1196 = .ok (.iadd, 1) := by decide +kernel
theorem dL_law_1197 : decode cL_law 1197 = .ok (.iaload, 1) := by decide +kernel
theorem dL_law_1198 : decode cL_law 1198 = .ok (.aload_n 0, 1) := by decide +kernel
theorem dL_law_1199 : decode cL_law 1199 = .ok (.iload_n 3, 1) := by decide +kernel
theorem dL_law_1200 : decode cL_law 1200 = .ok (.iconst 3, 1) := by decide +kernel
theorem dL_law_1201 : decode cL_law 1201 = .ok (.iadd, 1) := by decide +kernel
theorem dL_law_1202 : decode cL_law 1202 = .ok (.iaload, 1) := by decide +kernel
theorem dL_law_1203 : decode cL_law 1203 = .ok (.invokevirtual 144, 3) := by decide +kernel
theorem dL_law_1206 : decode cL_law 1206 = .ok (.lcmp, 1) := by decide +kernel
theorem dL_law_1207 : decode cL_law 1207 = .ok (.ifCond .eq 196, 3) := by decide +kernel
theorem dL_law_1210 : decode cL_law 1210 = .ok (.iconst 0, 1) := by decide +kernel
theorem dL_law_1211 : decode cL_law 1211 = .ok (.ireturn, 1) := by decide +kernel
theorem dL_law_1212 : decode cL_law 1212 = .ok (.aload_n 1, 1) := by decide +kernel
theorem dL_law_1213 : decode cL_law 1213 = .ok (.aload_n 0, 1) := by decide +kernel
theorem dL_law_1214 : decode cL_law 1214 = .ok (.iload_n 3, 1) := by decide +kernel
theorem dL_law_1215 : decode cL_law 1215 = .ok (.iconst 1, 1) := by decide +kernel
theorem dL_law_1216 : decode cL_law 1216 = .ok (.iadd, 1) := by decide +kernel
theorem dL_law_1217 : decode cL_law 1217 = .ok (.iaload, 1) := by decide +kernel
theorem dL_law_1218 : decode cL_law 1218 = .ok (.aload_n 0, 1) := by decide +kernel
theorem dL_law_1219 : decode cL_law 1219 = .ok (.iload_n 3, 1) := by decide +kernel
theorem dL_law_1220 : decode cL_law 1220 = .ok (.iconst 2, 1) := by decide +kernel
theorem dL_law_1221 : decode cL_law 1221 = .ok (.iadd, 1) := by decide +kernel
theorem dL_law_1222 : decode cL_law 1222 = .ok (.iaload, 1) := by decide +kernel
theorem dL_law_1223 : decode cL_law 1223 = .ok (.aload_n 0, 1) := by decide +kernel
theorem dL_law_1224 : decode cL_law 1224 = .ok (.iload_n 3, 1) := by decide +kernel
theorem dL_law_1225 : decode cL_law 1225 = .ok (.iconst 3, 1) := by decide +kernel
theorem dL_law_1226 : decode cL_law 1226 = .ok (.iadd, 1) := by decide +kernel
theorem dL_law_1227 : decode cL_law 1227 = .ok (.iaload, 1) := by decide +kernel
theorem dL_law_1228 : decode cL_law 1228 = .ok (.aload_n 0, 1) := by decide +kernel
theorem dL_law_1229 : decode cL_law 1229 = .ok (.iload_n 3, 1) := by decide +kernel
theorem dL_law_1230 : decode cL_law 1230 = .ok (.iconst 4, 1) := by decide +kernel
theorem dL_law_1231 : decode cL_law 1231 = .ok (.iadd, 1) := by decide +kernel
theorem dL_law_1232 : decode cL_law 1232 = .ok (.iaload, 1) := by decide +kernel
theorem dL_law_1233 : decode cL_law 1233 = .ok (.aload_n 0, 1) := by decide +kernel
theorem dL_law_1234 : decode cL_law 1234 = .ok (.iload_n 3, 1) := by decide +kernel
theorem dL_law_1235 : decode cL_law 1235 = .ok (.iconst 5, 1) := by decide +kernel
theorem dL_law_1236 : decode cL_law 1236 = .ok (.iadd, 1) := by decide +kernel
theorem dL_law_1237 : decode cL_law 1237 = .ok (.iaload, 1) := by decide +kernel
theorem dL_law_1238 : decode cL_law 1238 = .ok (.invokevirtual 145, 3) := by decide +kernel
theorem dL_law_1241 : decode cL_law 1241 = .ok (.aload_n 2, 1) := by decide +kernel
theorem dL_law_1242 : decode cL_law 1242 = .ok (.aload_n 0, 1) := by decide +kernel
theorem dL_law_1243 : decode cL_law 1243 = .ok (.iload_n 3, 1) := by decide +kernel
theorem dL_law_1244 : decode cL_law 1244 = .ok (.iconst 1, 1) := by decide +kernel
theorem dL_law_1245 : decode cL_law 1245 = .ok (.iadd, 1) := by decide +kernel
theorem dL_law_1246 : decode cL_law 1246 = .ok (.iaload, 1) := by decide +kernel
theorem dL_law_1247 : decode cL_law 1247 = .ok (.aload_n 0, 1) := by decide +kernel
theorem dL_law_1248 : decode cL_law 1248 = .ok (.iload_n 3, 1) := by decide +kernel
theorem dL_law_1249 : decode cL_law 1249 = .ok (.iconst 2, 1) := by decide +kernel
theorem dL_law_1250 : decode cL_law 1250 = .ok (.iadd, 1) := by decide +kernel
theorem dL_law_1251 : decode cL_law 1251 = .ok (.iaload, 1) := by decide +kernel
theorem dL_law_1252 : decode cL_law 1252 = .ok (.aload_n 0, 1) := by decide +kernel
theorem dL_law_1253 : decode cL_law 1253 = .ok (.iload_n 3, 1) := by decide +kernel
theorem dL_law_1254 : decode cL_law 1254 = .ok (.iconst 3, 1) := by decide +kernel
theorem dL_law_1255 : decode cL_law 1255 = .ok (.iadd, 1) := by decide +kernel
theorem dL_law_1256 : decode cL_law 1256 = .ok (.iaload, 1) := by decide +kernel
theorem dL_law_1257 : decode cL_law 1257 = .ok (.aload_n 0, 1) := by decide +kernel
theorem dL_law_1258 : decode cL_law 1258 = .ok (.iload_n 3, 1) := by decide +kernel
theorem dL_law_1259 : decode cL_law 1259 = .ok (.iconst 4, 1) := by decide +kernel
theorem dL_law_1260 : decode cL_law 1260 = .ok (.iadd, 1) := by decide +kernel
theorem dL_law_1261 : decode cL_law 1261 = .ok (.iaload, 1) := by decide +kernel
theorem dL_law_1262 : decode cL_law 1262 = .ok (.aload_n 0, 1) := by decide +kernel
theorem dL_law_1263 : decode cL_law 1263 = .ok (.iload_n 3, 1) := by decide +kernel
theorem dL_law_1264 : decode cL_law 1264 = .ok (.iconst 5, 1) := by decide +kernel
theorem dL_law_1265 : decode cL_law 1265 = .ok (.iadd, 1) := by decide +kernel
theorem dL_law_1266 : decode cL_law 1266 = .ok (.iaload, 1) := by decide +kernel
theorem dL_law_1267 : decode cL_law 1267 = .ok (.invokevirtual 149, 3) := by decide +kernel
theorem dL_law_1270 : decode cL_law 1270 = .ok (.if_icmp .eq 133, 3) := by decide +kernel
theorem dL_law_1273 : decode cL_law 1273 = .ok (.iconst 0, 1) := by decide +kernel
theorem dL_law_1274 : decode cL_law 1274 = .ok (.ireturn, 1) := by decide +kernel
theorem dL_law_1275 : decode cL_law 1275 = .ok (.aload_n 1, 1) := by decide +kernel
theorem dL_law_1276 : decode cL_law 1276 = .ok (.aload_n 0, 1) := by decide +kernel
theorem dL_law_1277 : decode cL_law 1277 = .ok (.iload_n 3, 1) := by decide +kernel
theorem dL_law_1278 : decode cL_law 1278 = .ok (.iconst 1, 1) := by decide +kernel
theorem dL_law_1279 : decode cL_law 1279 = .ok (.iadd, 1) := by decide +kernel
theorem dL_law_1280 : decode cL_law 1280 = .ok (.iaload, 1) := by decide +kernel
theorem dL_law_1281 : decode cL_law 1281 = .ok (.invokevirtual 150, 3) := by decide +kernel
theorem dL_law_1284 : decode cL_law 1284 = .ok (.aload_n 2, 1) := by decide +kernel
theorem dL_law_1285 : decode cL_law 1285 = .ok (.aload_n 0, 1) := by decide +kernel
theorem dL_law_1286 : decode cL_law 1286 = .ok (.iload_n 3, 1) := by decide +kernel
theorem dL_law_1287 : decode cL_law 1287 = .ok (.iconst 1, 1) := by decide +kernel
theorem dL_law_1288 : decode cL_law 1288 = .ok (.iadd, 1) := by decide +kernel
theorem dL_law_1289 : decode cL_law 1289 = .ok (.iaload, 1) := by decide +kernel
theorem dL_law_1290 : decode cL_law 1290 = .ok (.invokevirtual 153, 3) := by decide +kernel
theorem dL_law_1293 : decode cL_law 1293 = .ok (.if_icmp .eq 110, 3) := by decide +kernel
theorem dL_law_1296 : decode cL_law 1296 = .ok (.iconst 0, 1) := by decide +kernel
theorem dL_law_1297 : decode cL_law 1297 = .ok (.ireturn, 1) := by decide +kernel
theorem dL_law_1298 : decode cL_law 1298 = .ok (.aload_n 1, 1) := by decide +kernel
theorem dL_law_1299 : decode cL_law 1299 = .ok (.aload_n 0, 1) := by decide +kernel
theorem dL_law_1300 : decode cL_law 1300 = .ok (.iload_n 3, 1) := by decide +kernel
theorem dL_law_1301 : decode cL_law 1301 = .ok (.iconst 1, 1) := by decide +kernel
theorem dL_law_1302 : decode cL_law 1302 = .ok (.iadd, 1) := by decide +kernel
theorem dL_law_1303 : decode cL_law 1303 = .ok (.iaload, 1) := by decide +kernel
theorem dL_law_1304 : decode cL_law 1304 = .ok (.invokevirtual 154, 3) := by decide +kernel
theorem dL_law_1307 : decode cL_law 1307 = .ok (.aload_n 2, 1) := by decide +kernel
theorem dL_law_1308 : decode cL_law 1308 = .ok (.aload_n 0, 1) := by decide +kernel
theorem dL_law_1309 : decode cL_law 1309 = .ok (.iload_n 3, 1) := by decide +kernel
theorem dL_law_1310 : decode cL_law 1310 = .ok (.iconst 1, 1) := by decide +kernel
theorem dL_law_1311 : decode cL_law 1311 = .ok (.iadd, 1) := by decide +kernel
theorem dL_law_1312 : decode cL_law 1312 = .ok (.iaload, 1) := by decide +kernel
theorem dL_law_1313 : decode cL_law 1313 = .ok (.invokevirtual 157, 3) := by decide +kernel
theorem dL_law_1316 : decode cL_law 1316 = .ok (.if_icmp .eq 87, 3) := by decide +kernel
theorem dL_law_1319 : decode cL_law 1319 = .ok (.iconst 0, 1) := by decide +kernel
theorem dL_law_1320 : decode cL_law 1320 = .ok (.ireturn, 1) := by decide +kernel
theorem dL_law_1321 : decode cL_law 1321 = .ok (.aload_n 1, 1) := by decide +kernel
theorem dL_law_1322 : decode cL_law 1322 = .ok (.aload_n 0, 1) := by decide +kernel
theorem dL_law_1323 : decode cL_law 1323 = .ok (.iload_n 3, 1) := by decide +kernel
theorem dL_law_1324 : decode cL_law 1324 = .ok (.iconst 1, 1) := by decide +kernel
theorem dL_law_1325 : decode cL_law 1325 = .ok (.iadd, 1) := by decide +kernel
theorem dL_law_1326 : decode cL_law 1326 = .ok (.iaload, 1) := by decide +kernel
theorem dL_law_1327 : decode cL_law 1327 = .ok (.aload_n 0, 1) := by decide +kernel
theorem dL_law_1328 : decode cL_law 1328 = .ok (.iload_n 3, 1) := by decide +kernel
theorem dL_law_1329 : decode cL_law 1329 = .ok (.iconst 2, 1) := by decide +kernel
theorem dL_law_1330 : decode cL_law 1330 = .ok (.iadd, 1) := by decide +kernel
theorem dL_law_1331 : decode cL_law 1331 = .ok (.iaload, 1) := by decide +kernel
theorem dL_law_1332 : decode cL_law 1332 = .ok (.invokevirtual 158, 3) := by decide +kernel
theorem dL_law_1335 : decode cL_law 1335 = .ok (.aload_n 2, 1) := by decide +kernel
theorem dL_law_1336 : decode cL_law 1336 = .ok (.aload_n 0, 1) := by decide +kernel
theorem dL_law_1337 : decode cL_law 1337 = .ok (.iload_n 3, 1) := by decide +kernel
theorem dL_law_1338 : decode cL_law 1338 = .ok (.iconst 1, 1) := by decide +kernel
theorem dL_law_1339 : decode cL_law 1339 = .ok (.iadd, 1) := by decide +kernel
theorem dL_law_1340 : decode cL_law 1340 = .ok (.iaload, 1) := by decide +kernel
theorem dL_law_1341 : decode cL_law 1341 = .ok (.aload_n 0, 1) := by decide +kernel
theorem dL_law_1342 : decode cL_law 1342 = .ok (.iload_n 3, 1) := by decide +kernel
theorem dL_law_1343 : decode cL_law 1343 = .ok (.iconst 2, 1) := by decide +kernel
theorem dL_law_1344 : decode cL_law 1344 = .ok (.iadd, 1) := by decide +kernel
theorem dL_law_1345 : decode cL_law 1345 = .ok (.iaload, 1) := by decide +kernel
theorem dL_law_1346 : decode cL_law 1346 = .ok (.invokevirtual 161, 3) := by decide +kernel
theorem dL_law_1349 : decode cL_law 1349 = .ok (.if_icmp .eq 54, 3) := by decide +kernel
theorem dL_law_1352 : decode cL_law 1352 = .ok (.iconst 0, 1) := by decide +kernel
theorem dL_law_1353 : decode cL_law 1353 = .ok (.ireturn, 1) := by decide +kernel
theorem dL_law_1354 : decode cL_law 1354 = .ok (.aload_n 1, 1) := by decide +kernel
theorem dL_law_1355 : decode cL_law 1355 = .ok (.invokevirtual 162, 3) := by decide +kernel
theorem dL_law_1358 : decode cL_law 1358 = .ok (.aload_n 2, 1) := by decide +kernel
theorem dL_law_1359 : decode cL_law 1359 = .ok (.invokevirtual 165, 3) := by decide +kernel
theorem dL_law_1362 : decode cL_law 1362 = .ok (.if_icmp .eq 41, 3) := by decide +kernel
theorem dL_law_1365 : decode cL_law 1365 = .ok (.iconst 0, 1) := by decide +kernel
theorem dL_law_1366 : decode cL_law 1366 = .ok (.ireturn, 1) := by decide +kernel
theorem dL_law_1367 : decode cL_law 1367 = .ok (.aload_n 1, 1) := by decide +kernel
theorem dL_law_1368 : decode cL_law 1368 = .ok (.invokevirtual 166, 3) := by decide +kernel
theorem dL_law_1371 : decode cL_law 1371 = .ok (.aload_n 2, 1) := by decide +kernel
theorem dL_law_1372 : decode cL_law 1372 = .ok (.invokevirtual 169, 3) := by decide +kernel
theorem dL_law_1375 : decode cL_law 1375 = .ok (.if_icmp .eq 28, 3) := by decide +kernel
theorem dL_law_1378 : decode cL_law 1378 = .ok (.iconst 0, 1) := by decide +kernel
theorem dL_law_1379 : decode cL_law 1379 = .ok (.ireturn, 1) := by decide +kernel
theorem dL_law_1380 : decode cL_law 1380 = .ok (.aload_n 1, 1) := by decide +kernel
theorem dL_law_1381 : decode cL_law 1381 = .ok (.aload_n 0, 1) := by decide +kernel
theorem dL_law_1382 : decode cL_law 1382 = .ok (.iload_n 3, 1) := by decide +kernel
theorem dL_law_1383 : decode cL_law 1383 = .ok (.iconst 1, 1) := by decide +kernel
theorem dL_law_1384 : decode cL_law 1384 = .ok (.iadd, 1) := by decide +kernel
theorem dL_law_1385 : decode cL_law 1385 = .ok (.iaload, 1) := by decide +kernel
theorem dL_law_1386 : decode cL_law 1386 = .ok (.invokevirtual 170, 3) := by decide +kernel
theorem dL_law_1389 : decode cL_law 1389 = .ok (.aload_n 2, 1) := by decide +kernel
theorem dL_law_1390 : decode cL_law 1390 = .ok (.aload_n 0, 1) := by decide +kernel
theorem dL_law_1391 : decode cL_law 1391 = .ok (.iload_n 3, 1) := by decide +kernel
theorem dL_law_1392 : decode cL_law 1392 = .ok (.iconst 1, 1) := by decide +kernel
theorem dL_law_1393 : decode cL_law 1393 = .ok (.iadd, 1) := by decide +kernel
theorem dL_law_1394 : decode cL_law 1394 = .ok (.iaload, 1) := by decide +kernel
theorem dL_law_1395 : decode cL_law 1395 = .ok (.invokevirtual 173, 3) := by decide +kernel
theorem dL_law_1398 : decode cL_law 1398 = .ok (.if_icmp .eq 5, 3) := by decide +kernel
theorem dL_law_1401 : decode cL_law 1401 = .ok (.iconst 0, 1) := by decide +kernel
theorem dL_law_1402 : decode cL_law 1402 = .ok (.ireturn, 1) := by decide +kernel
theorem dL_law_1403 : decode cL_law 1403 = .ok (.iinc 3 6, 3) := by decide +kernel
theorem dL_law_1406 : decode cL_law 1406 = .ok (.goto (-1388), 3) := by decide +kernel
theorem dL_law_1409 : decode cL_law 1409 = .ok (.iconst 1, 1) := by decide +kernel
theorem dL_law_1410 : decode cL_law 1410 = .ok (.ireturn, 1) := by decide +kernel
end
section
/-! THE WORLD BEHIND THE TWO CONSTRUCTORS: 74 cells; which references they hold is fixed, but for four: told, draft, what real and trial were told. -/
abbrev kq4 : Type := Nat × Nat × Nat × Nat
def PT (q : kq4) : List (List (Option Nat)) := [[],
  [some 2, some 3, some 7, some q.1, some q.2.1, some 27, some 34], [some 41, some 43, some 45, some 47],
  [none, some 4, some 5, some 6], [], [], [], [none, some 8, some 9, some 10], [], [], [],
  [some 12, some 13, some 14, some 15, some 16, some 17, some 18], [], [], [], [], [], [], [],
  [some 20, some 21, some 22, some 23, some 24, some 25, some 26], [], [], [], [], [], [], [],
  [some 28, some 29, some 30, some 31, some 32, some 33, some 3, some q.2.2.1], [], [], [], [], [], [],
  [some 35, some 36, some 37, some 38, some 39, some 40, some 3, some q.2.2.2], [], [], [], [], [], [],
  [some 42], [], [some 44], [], [some 46], [], [some 48], [],
  [none, none, some 50, some 51, some 52, none, none, none, some 53, some 54, some 55, some 56, some 57, some 58, some 59, some 60, none, none, none, none, some 61, some 62, none, some 63, some 64, some 65, some 66, some 67, some 68, some 69, none, none, some 70, some 71, some 72, some 73]]
def PI (q : kq4) (k j : Nat) : Option Nat := ((PT q).getD k []).getD j none
abbrev kM : Type := Nat → Nat → Int32
def kW (μ : kM) (q : kq4) : kWd := (74, μ, PI q)
def uA (μ : kM) (k : Nat) (f : Nat → Int32) : kM := fun a => if a = k then f else μ a
def uI (μ : kM) (k j : Nat) (v : Int32) : kM := uA μ k (upd (μ k) j v)
theorem uA_same (μ : kM) (k : Nat) (f : Nat → Int32) : uA μ k f k = f := by simp [uA]
theorem uA_ne {μ : kM} {k a : Nat} {f : Nat → Int32} (h : a ≠ k) : uA μ k f a = μ a := by simp [uA, h]
theorem uI_same (μ : kM) (k j : Nat) (v : Int32) : uI μ k j v k j = v := by simp [uI, uA, upd]
theorem uI_ne {μ : kM} {k j a i : Nat} {v : Int32} (h : a ≠ k ∨ i ≠ j) : uI μ k j v a i = μ a i := by
  unfold uI uA
  by_cases ha : a = k
  · subst ha
    simp [upd, h.resolve_left (fun z => z rfl)]
  · simp [ha]
theorem uI_off {μ : kM} {k j a : Nat} {v : Int32} (h : a ≠ k) : uI μ k j v a = μ a := by simp [uI, uA, h]
abbrev gG (Γ : kGm) (mi : kMI) (d pc : Nat) (L : List (Option Value)) (st : List Value) (μ : kM) (q : kq4) (Q : Option Value → kM → kq4 → Prop) : Prop := kG Γ mi (kRm d 0 0) (0, 0) pc L st (kW μ q) (kMZ Γ (kRm d 0 0) (fun r ω => ∃ (μ' : kM) (q' : kq4), ω = kW μ' q' ∧ Q r μ' q'))
def gC (Γ : kGm) (y : MethodName) (mi : kMI) (d : Nat) (as : List Value) (μ : kM) (q : kq4) (Q : Option Value → kM → kq4 → Prop) : Prop := kC Γ y mi (kRm d 0 0) as (kW μ q) (fun r ω => ∃ (μ' : kM) (q' : kq4), ω = kW μ' q' ∧ Q r μ' q')
section GR
variable {Γ : kGm} {mi : kMI} {d pc : Nat} {L : List (Option Value)} {st : List Value} {μ : kM} {q : kq4} {Q : Option Value → kM → kq4 → Prop}
theorem gC.ofG {y : MethodName} {as : List Value} {n : Nat} (hy : plainName y.cls = true ∧ y.cls = mi.1 ∧ y.name = mi.2.2.2.2 ∧ mi.1 ≠ RL) (hn : (kEnA as).length ≤ mi.2.2.1) (h : gG Γ mi d 0 (kEn mi.2.2.1 as) [] μ q Q) : gC Γ y mi d as μ q Q := kC.ofG hy.1 hy.2.1 hy.2.2.1 hy.2.2.2 hn h
theorem gC.weak {y : MethodName} {as : List Value} {Q' : Option Value → kM → kq4 → Prop} (h : gC Γ y mi d as μ q Q) (hq : ∀ r μ' q', Q r μ' q' → Q' r μ' q') : gC Γ y mi d as μ q Q' := kC.weak h (fun r ω ⟨μ', q', e, h⟩ => ⟨μ', q', e, hq r μ' q' h⟩)
theorem gG.getI {i ci j k : Nat} (pc' : Nat) (hd : decode mi.2.1 pc = .ok (.getfield i, 3)) (hf : kFE mi.1 i ci j) (hk : 0 < k ∧ k < 74) (hs : (ksh k).1 = ci) (hi : kint ci j = true) (hp : pc + 3 = pc') (kk : gG Γ mi d pc' L (.int (μ k j) :: st) μ q Q) : gG Γ mi d pc L (.ref k :: st) μ q Q := kG.getI pc' hd hf hk hs hi hp kk
theorem gG.getP {i ci j k r : Nat} (pc' : Nat) (hd : decode mi.2.1 pc = .ok (.getfield i, 3)) (hf : kFE mi.1 i ci j) (hk : 0 < k ∧ k < 74) (hs : (ksh k).1 = ci) (hi : kint ci j = false) (hq : PI q k j = some r) (hp : pc + 3 = pc') (kk : gG Γ mi d pc' L (.ref r :: st) μ q Q) : gG Γ mi d pc L (.ref k :: st) μ q Q := kG.getP pc' hd hf hk hs hi hq hp kk
theorem gG.putI {i ci j k : Nat} {x : Int32} (pc' : Nat) (hd : decode mi.2.1 pc = .ok (.putfield i, 3)) (hf : kFE mi.1 i ci j) (hk : 0 < k ∧ k < 74) (hs : (ksh k).1 = ci) (hi : kint ci j = true) (hfin : (kT ci j).2.2.2 = false) (hn : narrow (kTy ci j) (.int x) = .int x ∧ fits (kTy ci j) (.int x) = true) (hp : pc + 3 = pc') (kk : gG Γ mi d pc' L st (uI μ k j x) q Q) : gG Γ mi d pc L (.int x :: .ref k :: st) μ q Q := kG.putI pc' hd hf hk hs hi (Or.inl hfin) hn hp kk
theorem gG.putP {i ci j k r : Nat} {q' : kq4} (pc' : Nat) (hd : decode mi.2.1 pc = .ok (.putfield i, 3)) (hf : kFE mi.1 i ci j) (hk : 0 < k ∧ k < 74) (hs : (ksh k).1 = ci) (hi : kint ci j = false) (hfin : (kT ci j).2.2.2 = false) (hn : (∀ x, narrow (kTy ci j) (.ref x) = .ref x) ∧ ∀ x, fits (kTy ci j) (.ref x) = true) (he : sP (kW μ q) k j (some r) = kW μ q') (hp : pc + 3 = pc') (kk : gG Γ mi d pc' L st μ q' Q) : gG Γ mi d pc L (.ref r :: .ref k :: st) μ q Q := kG.putP pc' hd hf hk hs hi (Or.inl hfin) hn hp (by rw [he]; exact kk)
theorem gG.iald {k n : Nat} {x : Int32} (i pc' : Nat) (hd : decode mi.2.1 pc = .ok (.iaload, 1)) (hk : 0 < k ∧ k < 74) (hs : ksh k = (10, n)) (hx : x = nI i) (hq : i < n) (hb : n < 1000) (hp : pc + 1 = pc') (kk : gG Γ mi d pc' L (.int (μ k i) :: st) μ q Q) : gG Γ mi d pc L (.int x :: .ref k :: st) μ q Q := kG.iald pc' hd hk hs hx hq hb hp kk
theorem gG.zald {k n : Nat} {x : Int32} (i pc' : Nat) (hd : decode mi.2.1 pc = .ok (.baload, 1)) (hk : 0 < k ∧ k < 74) (hs : ksh k = (11, n)) (hx : x = nI i) (hq : i < n) (hb : n < 1000) (hp : pc + 1 = pc') (kk : gG Γ mi d pc' L (.int (μ k i) :: st) μ q Q) : gG Γ mi d pc L (.int x :: .ref k :: st) μ q Q := kG.zald pc' hd hk hs hx hq hb hp kk
theorem gG.aald {k n r : Nat} {x : Int32} (i pc' : Nat) (hd : decode mi.2.1 pc = .ok (.aaload, 1)) (hk : 0 < k ∧ k < 74) (hs : ksh k = (12, n)) (hx : x = nI i) (hq : i < n) (hb : n < 1000) (hr : PI q k i = some r) (hp : pc + 1 = pc') (kk : gG Γ mi d pc' L (.ref r :: st) μ q Q) : gG Γ mi d pc L (.int x :: .ref k :: st) μ q Q := kG.aald pc' hd hk hs hx hq hb hr hp kk
theorem gG.iast {k n : Nat} {x v : Int32} (i pc' : Nat) (hd : decode mi.2.1 pc = .ok (.iastore, 1)) (hk : 0 < k ∧ k < 74) (hs : ksh k = (10, n)) (hx : x = nI i) (hq : i < n) (hb : n < 1000) (hp : pc + 1 = pc') (kk : gG Γ mi d pc' L st (uI μ k i v) q Q) : gG Γ mi d pc L (.int v :: .int x :: .ref k :: st) μ q Q := kG.iast pc' hd hk hs hx hq hb hp kk
theorem gG.zast {k n : Nat} {x v : Int32} (i pc' : Nat) (hd : decode mi.2.1 pc = .ok (.bastore, 1)) (hk : 0 < k ∧ k < 74) (hs : ksh k = (11, n)) (hx : x = nI i) (hq : i < n) (hb : n < 1000) (hv : v &&& 1 = v) (hp : pc + 1 = pc') (kk : gG Γ mi d pc' L st (uI μ k i v) q Q) : gG Γ mi d pc L (.int v :: .int x :: .ref k :: st) μ q Q := kG.zast pc' hd hk hs hx hq hb hv hp kk
theorem gG.alen {k n : Nat} (pc' : Nat) (hd : decode mi.2.1 pc = .ok (.arraylength, 1)) (hk : 0 < k ∧ k < 74) (hs : ksh k = (10, n)) (hp : pc + 1 = pc') (kk : gG Γ mi d pc' L (.int (nI n) :: st) μ q Q) : gG Γ mi d pc L (.ref k :: st) μ q Q := kG.alen pc' hd hk hs rfl hp kk
theorem gG.iret {x : Int32} (hd : decode mi.2.1 pc = .ok (.ireturn, 1)) (hr : mi.2.2.2.1 = some .int) (hq : Q (some (.int x)) μ q) : gG Γ mi d pc L [.int x] μ q Q := kG.iret hd hr ⟨Nat.le_refl _, Nat.le_refl _⟩ ⟨μ, q, rfl, hq⟩
theorem gG.zret {x : Int32} (hd : decode mi.2.1 pc = .ok (.ireturn, 1)) (hr : mi.2.2.2.1 = some .boolean) (hx : x &&& 1 = x) (hq : Q (some (.int x)) μ q) : gG Γ mi d pc L [.int x] μ q Q := kG.zret hd hr hx ⟨Nat.le_refl _, Nat.le_refl _⟩ ⟨μ, q, rfl, hq⟩
theorem gG.lret {x : Int64} (hd : decode mi.2.1 pc = .ok (.lreturn, 1)) (hr : mi.2.2.2.1 = some .long) (hq : Q (some (.long x)) μ q) : gG Γ mi d pc L [.long x] μ q Q := kG.lret hd hr ⟨Nat.le_refl _, Nat.le_refl _⟩ ⟨μ, q, rfl, hq⟩
theorem gG.aret {k : Nat} {n : String} (hd : decode mi.2.1 pc = .ok (.areturn, 1)) (hr : mi.2.2.2.1 = some (.object n)) (hq : Q (some (.ref k)) μ q) : gG Γ mi d pc L [.ref k] μ q Q := kG.aret hd hr ⟨Nat.le_refl _, Nat.le_refl _⟩ ⟨μ, q, rfl, hq⟩
theorem gG.vret (hd : decode mi.2.1 pc = .ok (.return_, 1)) (hr : mi.2.2.2.1 = none) (hq : Q none μ q) : gG Γ mi d pc L [] μ q Q := kG.vret hd hr ⟨Nat.le_refl _, Nat.le_refl _⟩ ⟨μ, q, rfl, hq⟩
theorem groom {d' d nL : Nat} (h : d' < d) (hn : nL ≤ 21) : (kRm d' 0 0).frames + 1 ≤ (kRm d 0 0).frames ∧ 8 + (nL + 11) + (kRm d' 0 0).locals ≤ (kRm d 0 0).locals := by
  show d' + 1 ≤ d ∧ 8 + (nL + 11) + 40 * d' ≤ 40 * d
  omega
theorem gG.callV {i n k ci d' : Nat} {y : MethodName} {mi' : kMI} {As stk : List Value} {Q' : Option Value → kM → kq4 → Prop} (pc' : Nat) (hd : decode mi.2.1 pc = .ok (.invokevirtual i, 3)) (hl : Cond.methodLink mi.1 i y ∈ kTS) (hv : kVm y mi' n) (hM : gC Γ y mi' d' (.ref k :: As) μ q Q') (hst : stk = As.reverse ++ ([.ref k] ++ st)) (hn : As.length = n) (hk : 0 < k ∧ k < 74) (hs : (ksh k).1 = ci) (hcls : ci < 6 ∧ kR ci = y.cls) (hdd : d' < d ∧ mi'.2.2.1 ≤ 21) (hW : (st.map fun v => v.category).sum ≤ 8) (hp : pc + 3 = pc')
    (kk : ∀ (r : Option Value) (μ' : kM) (q' : kq4), Q' r μ' q' → gG Γ mi d pc' L (r.toList ++ st) μ' q' Q) : gG Γ mi d pc L stk μ q Q := by
  refine kG.callV pc' hd hl hv hM hst hn hk ⟨hs, hcls.1⟩ hcls.2 (groom hdd.1 hdd.2) hW ⟨Nat.le_refl _, Nat.le_refl _⟩ hp (fun r ω' h => ?_)
  obtain ⟨μ', q', rfl, h⟩ := h
  exact kk r μ' q' h
theorem gG.callS {i n d' : Nat} {y : MethodName} {mi' : kMI} {As stk : List Value} {Q' : Option Value → kM → kq4 → Prop} (pc' : Nat) (hd : decode mi.2.1 pc = .ok (.invokestatic i, 3)) (hl : Cond.methodLink mi.1 i y ∈ kTS) (hv : kSm y mi' n) (hM : gC Γ y mi' d' As μ q Q') (hst : stk = As.reverse ++ ([] ++ st)) (hn : As.length = n) (hdd : d' < d ∧ mi'.2.2.1 ≤ 21) (hW : (st.map fun v => v.category).sum ≤ 8) (hp : pc + 3 = pc')
    (kk : ∀ (r : Option Value) (μ' : kM) (q' : kq4), Q' r μ' q' → gG Γ mi d pc' L (r.toList ++ st) μ' q' Q) : gG Γ mi d pc L stk μ q Q := by
  refine kG.callS pc' hd hl hv hM hst hn (groom hdd.1 hdd.2) hW ⟨Nat.le_refl _, Nat.le_refl _⟩ hp (fun r ω' h => ?_)
  obtain ⟨μ', q', rfl, h⟩ := h
  exact kk r μ' q' h
theorem gG.callSN {i n d' : Nat} {y : MethodName} {host : String} {mi' : kMI} {As stk : List Value} {Q' : Option Value → kM → kq4 → Prop} (pc' : Nat) (hd : decode mi.2.1 pc = .ok (.invokestatic i, 3)) (hl : ∀ s, kKS Γ s → va_Nw (.methodLinkNest mi.1 i y host) s) (hv : kSm y mi' n) (hM : gC Γ y mi' d' As μ q Q') (hst : stk = As.reverse ++ ([] ++ st)) (hn : As.length = n) (hdd : d' < d ∧ mi'.2.2.1 ≤ 21) (hW : (st.map fun v => v.category).sum ≤ 8) (hp : pc + 3 = pc')
    (kk : ∀ (r : Option Value) (μ' : kM) (q' : kq4), Q' r μ' q' → gG Γ mi d pc' L (r.toList ++ st) μ' q' Q) : gG Γ mi d pc L stk μ q Q := by
  refine kG.callSN pc' hd hl hv hM hst hn (groom hdd.1 hdd.2) hW ⟨Nat.le_refl _, Nat.le_refl _⟩ hp (fun r ω' h => ?_)
  obtain ⟨μ', q', rfl, h⟩ := h
  exact kk r μ' q' h
theorem gG.mmax {i : Nat} {x y : Int32} (pc' : Nat) (hd : decode mi.2.1 pc = .ok (.invokestatic i, 3)) (hl : Cond.methodLink mi.1 i Lib.Math.max.name ∈ kTS) (hdd : 0 < d) (hW : (st.map fun v => v.category).sum ≤ 8) (hp : pc + 3 = pc') (kk : gG Γ mi d pc' L (.int (if x < y then y else x) :: st) μ q Q) : gG Γ mi d pc L (.int y :: .int x :: st) μ q Q := kG.mmax pc' hd hl ⟨Nat.le_refl _, Nat.le_refl _⟩ ⟨hdd, by show _ ≤ 40 * d; omega⟩ hp kk
theorem gG.mmin {i : Nat} {x y : Int32} (pc' : Nat) (hd : decode mi.2.1 pc = .ok (.invokestatic i, 3)) (hl : Cond.methodLink mi.1 i Lib.Math.min.name ∈ kTS) (hdd : 0 < d) (hW : (st.map fun v => v.category).sum ≤ 8) (hp : pc + 3 = pc') (kk : gG Γ mi d pc' L (.int (if y < x then y else x) :: st) μ q Q) : gG Γ mi d pc L (.int y :: .int x :: st) μ q Q := kG.mmin pc' hd hl ⟨Nat.le_refl _, Nat.le_refl _⟩ ⟨hdd, by show _ ≤ 40 * d; omega⟩ hp kk
theorem gG.copy {i k0 k1 n0 n1 : Nat} {xs xd xn : Int32} (sp dp n pc' : Nat) (hd : decode mi.2.1 pc = .ok (.invokestatic i, 3)) (hl : Cond.methodLink mi.1 i arraycopyName ∈ kTS) (hk0 : 0 < k0 ∧ k0 < 74) (hk1 : 0 < k1 ∧ k1 < 74) (hs0 : ksh k0 = (10, n0)) (hs1 : ksh k1 = (10, n1)) (e0 : xs = nI sp) (e1 : xd = nI dp) (e2 : xn = nI n) (h0 : sp + n ≤ n0) (h1 : dp + n ≤ n1) (hb : n0 < 1000 ∧ n1 < 1000) (hdd : 0 < d) (hW : (st.map fun v => v.category).sum ≤ 8) (hp : pc + 3 = pc') (kk : gG Γ mi d pc' L st (uA μ k1 (va_cpy (μ k0) (μ k1) sp dp n)) q Q) : gG Γ mi d pc L (.int xn :: .int xd :: .ref k1 :: .int xs :: .ref k0 :: st) μ q Q := kG.copy pc' rfl hd hl hk0 hk1 hs0 hs1 e0 e1 e2 h0 h1 hb ⟨hdd, by
  have e : nativeFrameWords "java/lang/System" "arraycopy" 5 + 11 ≤ 32 := by decide +kernel
  show _ ≤ 40 * d
  omega⟩ hp kk
end GR
/-! the cells of a kind -/
def isT (a : Nat) : Prop := a = 11 ∨ a = 19
def isW (a : Nat) : Prop := a = 27 ∨ a = 34
def isK (a : Nat) : Prop := a = 3 ∨ a = 7
def isS (a : Nat) : Prop := a = 41 ∨ a = 43 ∨ a = 45 ∨ a = 47
theorem isT_k {a : Nat} (h : isT a) : 0 < a ∧ a < 74 := by rcases h with rfl | rfl <;> decide
theorem isW_k {a : Nat} (h : isW a) : 0 < a ∧ a < 74 := by rcases h with rfl | rfl <;> decide
theorem isK_k {a : Nat} (h : isK a) : 0 < a ∧ a < 74 := by rcases h with rfl | rfl <;> decide
theorem isS_k {a : Nat} (h : isS a) : 0 < a ∧ a < 74 := by rcases h with rfl | rfl | rfl | rfl <;> decide
theorem isT_s {a : Nat} (h : isT a) : (ksh a).1 = 2 := by rcases h with rfl | rfl <;> rfl
theorem isW_s {a : Nat} (h : isW a) : (ksh a).1 = 3 := by rcases h with rfl | rfl <;> rfl
theorem isK_s {a : Nat} (h : isK a) : (ksh a).1 = 0 := by rcases h with rfl | rfl <;> rfl
theorem isS_s {a : Nat} (h : isS a) : (ksh a).1 = 1 := by rcases h with rfl | rfl | rfl | rfl <;> rfl
/-- their arrays -/
theorem arT_k {a j : Nat} (h : isT a) (hj : j < 7) : 0 < a + 1 + j ∧ a + 1 + j < 74 := by rcases h with rfl | rfl <;> omega
theorem arW_k {a j : Nat} (h : isW a) (hj : j < 6) : 0 < a + 1 + j ∧ a + 1 + j < 74 := by rcases h with rfl | rfl <;> omega
theorem arK_k {a j : Nat} (h : isK a) (hj : j < 4) : 0 < a + j ∧ a + j < 74 := by rcases h with rfl | rfl <;> omega
theorem arS_k {a : Nat} (h : isS a) : 0 < a + 1 ∧ a + 1 < 74 := by rcases h with rfl | rfl | rfl | rfl <;> decide
def lnT (j : Nat) : Nat := [4, 4, 6, 6, 6, 6, 6].getD j 0
def lnW (j : Nat) : Nat := [560, 560, 140, 4, 4, 6].getD j 0
theorem arT_s {a j : Nat} (h : isT a) (hj : j < 7) : ksh (a + 1 + j) = (10, lnT j) := by
  rcases h with rfl | rfl <;> match j, hj with
  | 0, _ => rfl
  | 1, _ => rfl
  | 2, _ => rfl
  | 3, _ => rfl
  | 4, _ => rfl
  | 5, _ => rfl
  | 6, _ => rfl
theorem arW_s {a j : Nat} (h : isW a) (hj : j < 6) : ksh (a + 1 + j) = (10, lnW j) := by
  rcases h with rfl | rfl <;> match j, hj with
  | 0, _ => rfl
  | 1, _ => rfl
  | 2, _ => rfl
  | 3, _ => rfl
  | 4, _ => rfl
  | 5, _ => rfl
def lnK (a : Nat) : Nat := if a = 3 then 6 else 8
theorem arK_s {a j : Nat} (h : isK a) (h0 : 0 < j) (hj : j < 4) : ksh (a + j) = (10, lnK a) := by
  rcases h with rfl | rfl <;> match j, h0, hj with
  | 1, _, _ => rfl
  | 2, _, _ => rfl
  | 3, _, _ => rfl
theorem arS_s {a : Nat} (h : isS a) : ksh (a + 1) = (10, 60) := by rcases h with rfl | rfl | rfl | rfl <;> rfl
theorem PI_T {a j : Nat} {q : kq4} (h : isT a) (hj : j < 7) : PI q a j = some (a + 1 + j) := by
  rcases h with rfl | rfl <;> match j, hj with
  | 0, _ => rfl
  | 1, _ => rfl
  | 2, _ => rfl
  | 3, _ => rfl
  | 4, _ => rfl
  | 5, _ => rfl
  | 6, _ => rfl
theorem PI_W {a j : Nat} {q : kq4} (h : isW a) (hj : j < 6) : PI q a j = some (a + 1 + j) := by
  rcases h with rfl | rfl <;> match j, hj with
  | 0, _ => rfl
  | 1, _ => rfl
  | 2, _ => rfl
  | 3, _ => rfl
  | 4, _ => rfl
  | 5, _ => rfl
theorem PI_W6 {a : Nat} {q : kq4} (h : isW a) : PI q a 6 = some 3 := by rcases h with rfl | rfl <;> rfl
/-- what a Weeks was told -/
def tq (q : kq4) (w : Nat) : Nat := if w = 27 then q.2.2.1 else q.2.2.2
theorem PI_W7 {a : Nat} {q : kq4} (h : isW a) : PI q a 7 = some (tq q a) := by rcases h with rfl | rfl <;> rfl
theorem PI_K {a j : Nat} {q : kq4} (h : isK a) (h0 : 0 < j) (hj : j < 4) : PI q a j = some (a + j) := by
  rcases h with rfl | rfl <;> match j, h0, hj with
  | 1, _, _ => rfl
  | 2, _, _ => rfl
  | 3, _, _ => rfl
theorem PI_S {a : Nat} {q : kq4} (h : isS a) : PI q a 0 = some (a + 1) := by rcases h with rfl | rfl | rfl | rfl <;> rfl
/-- which sheet -/
def shc (s : Nat) : Nat := 41 + 2 * s
theorem shc_S {s : Nat} (h : s < 4) : isS (shc s) := by
  match s, h with
  | 0, _ => exact Or.inl rfl
  | 1, _ => exact Or.inr (Or.inl rfl)
  | 2, _ => exact Or.inr (Or.inr (Or.inl rfl))
  | 3, _ => exact Or.inr (Or.inr (Or.inr rfl))
theorem PI_sh {s : Nat} {q : kq4} (h : s < 4) : PI q 2 s = some (shc s) := by
  match s, h with
  | 0, _ => rfl
  | 1, _ => rfl
  | 2, _ => rfl
  | 3, _ => rfl
/-- the four references that change -/
theorem sP_told {μ : kM} {q : kq4} {r : Nat} : sP (kW μ q) 1 3 (some r) = kW μ (r, q.2) := by
  unfold sP kW
  refine congrArg (fun z => ((74, μ, z) : kWd)) ?_
  funext k j
  by_cases hk : k = 1
  · subst hk
    by_cases hj : j = 3
    · subst hj; rfl
    · simp only [if_pos, va_up, hj, if_false]
      match j, hj with
      | 0, _ => rfl
      | 1, _ => rfl
      | 2, _ => rfl
      | 4, _ => rfl
      | 5, _ => rfl
      | 6, _ => rfl
      | j + 7, _ => rfl
  · simp only [hk, if_false]
    match k, hk with
    | 0, _ => rfl
    | k + 2, _ => rfl
theorem sP_draft {μ : kM} {q : kq4} {r : Nat} : sP (kW μ q) 1 4 (some r) = kW μ (q.1, r, q.2.2) := by
  unfold sP kW
  refine congrArg (fun z => ((74, μ, z) : kWd)) ?_
  funext k j
  by_cases hk : k = 1
  · subst hk
    by_cases hj : j = 4
    · subst hj; rfl
    · simp only [if_pos, va_up, hj, if_false]
      match j, hj with
      | 0, _ => rfl
      | 1, _ => rfl
      | 2, _ => rfl
      | 3, _ => rfl
      | 5, _ => rfl
      | 6, _ => rfl
      | j + 7, _ => rfl
  · simp only [hk, if_false]
    match k, hk with
    | 0, _ => rfl
    | k + 2, _ => rfl
def stq (q : kq4) (w t : Nat) : kq4 := if w = 27 then (q.1, q.2.1, t, q.2.2.2) else (q.1, q.2.1, q.2.2.1, t)
theorem sP_wk {μ : kM} {q : kq4} {w r : Nat} (hw : isW w) : sP (kW μ q) w 7 (some r) = kW μ (stq q w r) := by
  have key : ∀ (w : Nat), isW w → ∀ k j, (if k = w then va_up (PI q w) 7 (some r) else PI q k) j = PI (stq q w r) k j := by
    intro w hw k j
    rcases hw with rfl | rfl
    · by_cases hk : k = 27
      · subst hk
        by_cases hj : j = 7
        · subst hj; rfl
        · simp only [if_pos, va_up, hj, if_false]
          match j, hj with
          | 0, _ => rfl
          | 1, _ => rfl
          | 2, _ => rfl
          | 3, _ => rfl
          | 4, _ => rfl
          | 5, _ => rfl
          | 6, _ => rfl
          | j + 8, _ => rfl
      · simp only [hk, if_false]
        unfold PI
        congr 1
        show (PT q).getD k [] = (PT (q.1, q.2.1, r, q.2.2.2)).getD k []
        rw [List.getD_eq_getElem?_getD, List.getD_eq_getElem?_getD]
        congr 1
        rcases Nat.lt_or_ge k 27 with h | h
        · have e : ∀ q : kq4, (PT q)[k]? = ((PT q).take 27)[k]? := fun q => by rw [List.getElem?_take]; simp [h]
          rw [e, e]; rfl
        · have h2 : 28 ≤ k := by omega
          have e : ∀ q : kq4, (PT q)[k]? = ((PT q).drop 28)[k - 28]? := fun q => by rw [List.getElem?_drop]; congr 1; omega
          rw [e, e]; rfl
    · by_cases hk : k = 34
      · subst hk
        by_cases hj : j = 7
        · subst hj; rfl
        · simp only [if_pos, va_up, hj, if_false]
          match j, hj with
          | 0, _ => rfl
          | 1, _ => rfl
          | 2, _ => rfl
          | 3, _ => rfl
          | 4, _ => rfl
          | 5, _ => rfl
          | 6, _ => rfl
          | j + 8, _ => rfl
      · simp only [hk, if_false]
        unfold PI
        congr 1
        show (PT q).getD k [] = (PT (q.1, q.2.1, q.2.2.1, r)).getD k []
        rw [List.getD_eq_getElem?_getD, List.getD_eq_getElem?_getD]
        congr 1
        rcases Nat.lt_or_ge k 34 with h | h
        · have e : ∀ q : kq4, (PT q)[k]? = ((PT q).take 34)[k]? := fun q => by rw [List.getElem?_take]; simp [h]
          rw [e, e]; rfl
        · have h2 : 35 ≤ k := by omega
          have e : ∀ q : kq4, (PT q)[k]? = ((PT q).drop 35)[k - 35]? := fun q => by rw [List.getElem?_drop]; congr 1; omega
          rw [e, e]; rfl
  unfold sP kW
  refine congrArg (fun z => ((74, μ, z) : kWd)) ?_
  funext k j
  exact key w hw k j
end
section
/-! numbers: everything small is nI of a Nat -/
def b2 (b : Bool) : Int32 := if b then nI 1 else nI 0
theorem b2_t {b : Bool} (h : b = true) : b2 b = nI 1 := by rw [h]; rfl
theorem b2_f {b : Bool} (h : b = false) : b2 b = nI 0 := by rw [h]; rfl
theorem b2_0 {b : Bool} : b2 b = 0 ↔ b = false := by cases b <;> decide
theorem b2_n0 {b : Bool} : ¬ b2 b = 0 ↔ b = true := by cases b <;> decide
theorem b2_bit (b : Bool) : b2 b &&& 1 = b2 b := by cases b <;> decide
theorem b2_eq {a b : Bool} : b2 a = b2 b ↔ a = b := by cases a <;> cases b <;> decide
theorem nI_z : nI 0 = 0 := rfl
theorem nI_o : nI 1 = 1 := rfl
theorem n_lt {x : Int32} {n : Nat} (hn : n < 2 ^ 31) (h : ¬ x < 0) (h2 : ¬ nI n ≤ x) : ∃ k : Nat, k < n ∧ x = nI k := by
  obtain ⟨j, hj, rfl⟩ := nI_of h
  refine ⟨j, ?_, rfl⟩
  rcases Nat.lt_or_ge j n with q | q
  · exact q
  · exact absurd (nI_le q hj) h2
theorem n_le {x : Int32} {n : Nat} (hn : n < 2 ^ 31) (h : ¬ x < 0) (h2 : ¬ nI n < x) : ∃ k : Nat, k ≤ n ∧ x = nI k := by
  obtain ⟨j, hj, rfl⟩ := nI_of h
  refine ⟨j, ?_, rfl⟩
  rcases Nat.lt_or_ge n j with q | q
  · exact absurd (nI_lt q hj) h2
  · exact q
theorem n_neg {k : Nat} (h : k < 2 ^ 31) : ¬ nI k < 0 := nI_pos h
/-- switches: none of the first values -/
theorem ksw_out {x : Int32} (n : Nat) (hn : n < 2 ^ 30) (h : ∀ k, k ≤ n → ¬ x = nI k) : x.toInt < 0 ∨ (n : Int) < x.toInt := by
  rcases Int.lt_or_le x.toInt 0 with a | a
  · exact Or.inl a
  · refine Or.inr (Int.not_le.mp fun b => ?_)
    have h0 : ¬ x < 0 := fun z => by
      have := Int32.lt_iff_toInt_lt.mp z
      simp at this
      omega
    obtain ⟨j, hj, rfl⟩ := nI_of h0
    rw [nI_toInt hj] at b
    exact h j (by omega) rfl
theorem ksw_3 {x : Int32} (h0 : ¬ x = nI 0) (h1 : ¬ x = nI 1) (h2 : ¬ x = nI 2) : x.toInt < 0 ∨ (2 : Int) < x.toInt := ksw_out 2 (by decide) (fun k hk => by
  match k, hk with
  | 0, _ => exact h0
  | 1, _ => exact h1
  | 2, _ => exact h2)
theorem ksw_5 {x : Int32} (h0 : ¬ x = nI 0) (h1 : ¬ x = nI 1) (h2 : ¬ x = nI 2) (h3 : ¬ x = nI 3) (h4 : ¬ x = nI 4) : x.toInt < 0 ∨ (4 : Int) < x.toInt := ksw_out 4 (by decide) (fun k hk => by
  match k, hk with
  | 0, _ => exact h0
  | 1, _ => exact h1
  | 2, _ => exact h2
  | 3, _ => exact h3
  | 4, _ => exact h4)
theorem ksw_7 {x : Int32} (h0 : ¬ x = nI 0) (h1 : ¬ x = nI 1) (h2 : ¬ x = nI 2) (h3 : ¬ x = nI 3) (h4 : ¬ x = nI 4) (h5 : ¬ x = nI 5) (h6 : ¬ x = nI 6) : x.toInt < 0 ∨ (6 : Int) < x.toInt := ksw_out 6 (by decide) (fun k hk => by
  match k, hk with
  | 0, _ => exact h0
  | 1, _ => exact h1
  | 2, _ => exact h2
  | 3, _ => exact h3
  | 4, _ => exact h4
  | 5, _ => exact h5
  | 6, _ => exact h6)
theorem n_toInt {x : Int32} {k : Nat} (hk : k < 2 ^ 31) (h : ¬ x = nI k) : ¬ x.toInt = (k : Int) := fun e => h (by
  have : x.toInt = (nI k).toInt := by rw [nI_toInt hk]; exact e
  exact Int32.toInt_inj.mp this)
/-! shifts and masks -/
theorem sh_amt : ∀ p, p < 32 → ((nI p &&& 31).toBitVec.smod 32).toNat = p := by decide +kernel
theorem n_shl {p : Nat} (h : p < 31) : nI 1 <<< (nI p &&& 31) = nI (2 ^ p) := by
  rw [pk_shlN (nI p &&& 31) p (sh_amt p (by omega)) (by
    rw [Nat.one_mul]
    exact Nat.pow_lt_pow_right (by decide) (by omega)), Nat.one_mul]
theorem n_shr {m p : Nat} (hm : m < 2 ^ 31) (h : p < 31) : nI m >>> (nI p &&& 31) = nI (m / 2 ^ p) := pk_shrN hm (nI p &&& 31) p (sh_amt p (by omega))
theorem n_and1 {m : Nat} (hm : m < 2 ^ 31) : nI m &&& nI 1 = nI (m % 2) := pk_andN (by omega) 1 rfl
theorem n_tb (m p : Nat) : m / 2 ^ p % 2 = (if m.testBit p then 1 else 0) := by
  rw [Nat.testBit_eq_decide_div_mod_eq]
  by_cases h : m / 2 ^ p % 2 = 1
  · simp [h]
  · have : m / 2 ^ p % 2 = 0 := by omega
    simp [this]
/-- the bit test of both classes -/
theorem n_bit {m p : Nat} (hm : m < 2 ^ 31) (h : p < 31) : (nI m >>> (nI p &&& 31)) &&& nI 1 = b2 (m.testBit p) := by
  have hd : m / 2 ^ p < 2 ^ 31 := Nat.lt_of_le_of_lt (Nat.div_le_self m (2 ^ p)) hm
  rw [n_shr hm h, n_and1 hd, n_tb]
  cases m.testBit p <;> rfl
theorem n_or (a b : Nat) : nI a ||| nI b = nI (a ||| b) := by
  apply Int32.toBitVec_inj.mp
  show BitVec.ofNat 32 a ||| BitVec.ofNat 32 b = BitVec.ofNat 32 (a ||| b)
  apply BitVec.eq_of_toNat_eq
  simp only [BitVec.toNat_or, BitVec.toNat_ofNat]
  rw [Nat.or_mod_two_pow]
theorem n_and (a b : Nat) : nI a &&& nI b = nI (a &&& b) := by
  apply Int32.toBitVec_inj.mp
  show BitVec.ofNat 32 a &&& BitVec.ofNat 32 b = BitVec.ofNat 32 (a &&& b)
  apply BitVec.eq_of_toNat_eq
  simp only [BitVec.toNat_and, BitVec.toNat_ofNat]
  rw [Nat.and_mod_two_pow]
theorem n_xor (a b : Nat) : nI a ^^^ nI b = nI (a ^^^ b) := by
  apply Int32.toBitVec_inj.mp
  show BitVec.ofNat 32 a ^^^ BitVec.ofNat 32 b = BitVec.ofNat 32 (a ^^^ b)
  apply BitVec.eq_of_toNat_eq
  simp only [BitVec.toNat_xor, BitVec.toNat_ofNat]
  rw [Nat.xor_mod_two_pow]
/-- a without b -/
def wo (a b : Nat) : Nat := a ^^^ (a &&& b)
theorem wo_tb (a b p : Nat) : (wo a b).testBit p = (a.testBit p && !b.testBit p) := by
  unfold wo
  rw [Nat.testBit_xor, Nat.testBit_and]
  cases a.testBit p <;> cases b.testBit p <;> rfl
theorem wo_lt {a b n : Nat} (h : a < 2 ^ n) : wo a b < 2 ^ n := Nat.xor_lt_two_pow h (Nat.lt_of_le_of_lt Nat.and_le_left h)
theorem n_wo (a b : Nat) : nI a &&& (nI b ^^^ (-1)) = nI (wo a b) := by
  unfold wo
  rw [← n_xor, ← n_and]
  apply Int32.toBitVec_inj.mp
  show (nI a).toBitVec &&& ((nI b).toBitVec ^^^ (-1 : Int32).toBitVec) = (nI a).toBitVec ^^^ ((nI a).toBitVec &&& (nI b).toBitVec)
  generalize (nI a).toBitVec = x
  generalize (nI b).toBitVec = y
  have e : (-1 : Int32).toBitVec = BitVec.allOnes 32 := by decide
  rw [e]
  apply BitVec.eq_of_getLsbD_eq
  intro i hi
  simp only [BitVec.getLsbD_and, BitVec.getLsbD_xor, BitVec.getLsbD_allOnes, hi, decide_true]
  cases x.getLsbD i <;> cases y.getLsbD i <;> rfl
theorem tb_or_pow (m p i : Nat) : (m ||| 2 ^ p).testBit i = (m.testBit i || decide (p = i)) := by rw [Nat.testBit_or, Nat.testBit_two_pow]
theorem or_pow_lt {m p n : Nat} (h : m < 2 ^ n) (hp : p < n) : m ||| 2 ^ p < 2 ^ n := Nat.or_lt_two_pow h (Nat.pow_lt_pow_right (by decide) hp)
/-- a set as bits -/
def mk (f : Nat → Bool) : Nat → Nat
  | 0 => 0
  | n + 1 => if f n then mk f n ||| 2 ^ n else mk f n
theorem mk_lt (f : Nat → Bool) : ∀ n, mk f n < 2 ^ n
  | 0 => Nat.one_pos
  | n + 1 => by
    have ih := mk_lt f n
    have h2 : 2 ^ n < 2 ^ (n + 1) := Nat.pow_lt_pow_right (by decide) (by omega)
    unfold mk
    split
    · exact or_pow_lt (by omega) (by omega)
    · omega
theorem mk_tb (f : Nat → Bool) : ∀ n i, (mk f n).testBit i = (decide (i < n) && f i)
  | 0, i => by simp [mk]
  | n + 1, i => by
    have ih := mk_tb f n i
    have hn : f i = f n ∨ i ≠ n := by
      by_cases e : i = n
      · exact Or.inl (by rw [e])
      · exact Or.inr e
    unfold mk
    by_cases h : f n = true
    · rw [if_pos h, tb_or_pow, ih]
      by_cases e : n = i
      · subst e; simp [h]
      · have e1 : decide (i < n + 1) = decide (i < n) := by
          apply decide_eq_decide.mpr; omega
        rw [e1]; simp [e]
    · rw [if_neg h, ih]
      by_cases e : i = n
      · subst e; simp [h]
      · have e1 : decide (i < n + 1) = decide (i < n) := by
          apply decide_eq_decide.mpr; omega
        rw [e1]
theorem mk_cong {f g : Nat → Bool} : ∀ {n : Nat}, (∀ i, i < n → f i = g i) → mk f n = mk g n
  | 0, _ => rfl
  | n + 1, h => by
    unfold mk
    rw [mk_cong (fun i hi => h i (Nat.lt_succ_of_lt hi)), h n (Nat.lt_succ_self n)]
theorem tb_ext {a b n : Nat} (ha : a < 2 ^ n) (hb : b < 2 ^ n) (h : ∀ i, i < n → a.testBit i = b.testBit i) : a = b := by
  apply Nat.eq_of_testBit_eq
  intro i
  rcases Nat.lt_or_ge i n with q | q
  · exact h i q
  · rw [Nat.testBit_lt_two_pow (Nat.lt_of_lt_of_le ha (Nat.pow_le_pow_right (by decide) q)), Nat.testBit_lt_two_pow (Nat.lt_of_lt_of_le hb (Nat.pow_le_pow_right (by decide) q))]
theorem p31 {m n : Nat} (h : m < 2 ^ n) (hn : n ≤ 31) : m < 2 ^ 31 := Nat.lt_of_lt_of_le h (Nat.pow_le_pow_right (by decide) hn)
def fu {α : Type} (f : Nat → α) (k : Nat) (v : α) : Nat → α := fun j => if j = k then v else f j
theorem fu_s {α : Type} (f : Nat → α) (k : Nat) (v : α) : fu f k v k = v := by simp [fu]
theorem fu_n {α : Type} {f : Nat → α} {k j : Nat} {v : α} (h : j ≠ k) : fu f k v j = f j := by simp [fu, h]
theorem kLe_s {v : Value} {x : Option Value} {a b : List (Option Value)} (h : x = some v) (h2 : kLe a b) : kLe (some v :: a) (x :: b) := ⟨h, h2⟩
theorem kLe_n {x : Option Value} {a b : List (Option Value)} (h2 : kLe a b) : kLe (none :: a) (x :: b) := h2
theorem kLe_0 {b : List (Option Value)} : kLe [] b := trivial
end
section
def cnt (f : Nat → Bool) : Nat → Nat
  | 0 => 0
  | n + 1 => cnt f n + (if f n then 1 else 0)
def pcn (m : Nat) : Nat := cnt m.testBit 6
set_option maxHeartbeats 1000000 in
theorem c_isHouse (Γ : kGm) {μ : kM} {q : kq4} (ht : isT q.1) (x : Int32) : gC Γ yX4_isHouse mX4_isHouse 1 [.ref 1, .int x] μ q (fun r μ' q' => r = some (.int (b2 (decide (¬ x < 0 ∧ ¬ μ q.1 8 ≤ x)))) ∧ μ' = μ ∧ q' = q) := by
  refine gC.ofG (n := 0) ⟨by decide +kernel, rfl, rfl, by decide⟩ (Nat.le_of_ble_eq_true rfl) ?_
  show gG Γ mX4_isHouse 1 0 [some (.ref 1), some (.int x)] [] μ q _
  refine kG.iload_n 1 dX4_isHouse_0 rfl rfl ?_
  refine kG.if_lt 19 4 dX4_isHouse_1 (by decide) rfl (fun h1 => ?_) (fun h1 => ?_)
  · refine kG.iconst (v := nI 0) 20 dX4_isHouse_19 (by decide) rfl ?_
    refine gG.zret dX4_isHouse_20 rfl rfl ?_
    exact ⟨by simp [b2, *], rfl, rfl⟩
  · refine kG.iload_n 5 dX4_isHouse_4 rfl rfl ?_
    refine kG.aload_n 6 dX4_isHouse_5 rfl rfl ?_
    refine gG.getP 9 dX4_isHouse_6 fX4_32 ⟨by decide, by decide⟩ rfl rfl rfl rfl ?_
    refine gG.getI 12 dX4_isHouse_9 fX4_77 (isT_k ht) (isT_s ht) rfl rfl ?_
    refine kG.icmp_ge 19 15 dX4_isHouse_12 (by decide) rfl (fun h12 => ?_) (fun h12 => ?_)
    · refine kG.iconst (v := nI 0) 20 dX4_isHouse_19 (by decide) rfl ?_
      refine gG.zret dX4_isHouse_20 rfl rfl ?_
      exact ⟨by simp [b2, *], rfl, rfl⟩
    · refine kG.iconst (v := nI 1) 16 dX4_isHouse_15 (by decide) rfl ?_
      refine kG.goto 20 dX4_isHouse_16 (by decide) ?_
      refine gG.zret dX4_isHouse_20 rfl rfl ?_
      exact ⟨by simp [b2, *], rfl, rfl⟩
set_option maxHeartbeats 1000000 in
theorem c_isPerson (Γ : kGm) {μ : kM} {q : kq4} (ht : isT q.1) (x : Int32) : gC Γ yX4_isPerson mX4_isPerson 1 [.ref 1, .int x] μ q (fun r μ' q' => r = some (.int (b2 (decide (¬ x < 0 ∧ ¬ μ q.1 9 ≤ x)))) ∧ μ' = μ ∧ q' = q) := by
  refine gC.ofG (n := 0) ⟨by decide +kernel, rfl, rfl, by decide⟩ (Nat.le_of_ble_eq_true rfl) ?_
  show gG Γ mX4_isPerson 1 0 [some (.ref 1), some (.int x)] [] μ q _
  refine kG.iload_n 1 dX4_isPerson_0 rfl rfl ?_
  refine kG.if_lt 19 4 dX4_isPerson_1 (by decide) rfl (fun h1 => ?_) (fun h1 => ?_)
  · refine kG.iconst (v := nI 0) 20 dX4_isPerson_19 (by decide) rfl ?_
    refine gG.zret dX4_isPerson_20 rfl rfl ?_
    exact ⟨by simp [b2, *], rfl, rfl⟩
  · refine kG.iload_n 5 dX4_isPerson_4 rfl rfl ?_
    refine kG.aload_n 6 dX4_isPerson_5 rfl rfl ?_
    refine gG.getP 9 dX4_isPerson_6 fX4_32 ⟨by decide, by decide⟩ rfl rfl rfl rfl ?_
    refine gG.getI 12 dX4_isPerson_9 fX4_187 (isT_k ht) (isT_s ht) rfl rfl ?_
    refine kG.icmp_ge 19 15 dX4_isPerson_12 (by decide) rfl (fun h12 => ?_) (fun h12 => ?_)
    · refine kG.iconst (v := nI 0) 20 dX4_isPerson_19 (by decide) rfl ?_
      refine gG.zret dX4_isPerson_20 rfl rfl ?_
      exact ⟨by simp [b2, *], rfl, rfl⟩
    · refine kG.iconst (v := nI 1) 16 dX4_isPerson_15 (by decide) rfl ?_
      refine kG.goto 20 dX4_isPerson_16 (by decide) ?_
      refine gG.zret dX4_isPerson_20 rfl rfl ?_
      exact ⟨by simp [b2, *], rfl, rfl⟩
set_option maxHeartbeats 1000000 in
theorem c_isSheet (Γ : kGm) {μ : kM} {q : kq4} (x : Int32) : gC Γ yX4_isSheet mX4_isSheet 1 [.int x] μ q (fun r μ' q' => r = some (.int (b2 (decide (¬ x < 0 ∧ ¬ nI 4 ≤ x)))) ∧ μ' = μ ∧ q' = q) := by
  refine gC.ofG (n := 0) ⟨by decide +kernel, rfl, rfl, by decide⟩ (Nat.le_of_ble_eq_true rfl) ?_
  show gG Γ mX4_isSheet 1 0 [some (.int x)] [] μ q _
  refine kG.iload_n 1 dX4_isSheet_0 rfl rfl ?_
  refine kG.if_lt 13 4 dX4_isSheet_1 (by decide) rfl (fun h1 => ?_) (fun h1 => ?_)
  · refine kG.iconst (v := nI 0) 14 dX4_isSheet_13 (by decide) rfl ?_
    refine gG.zret dX4_isSheet_14 rfl rfl ?_
    exact ⟨by simp [b2, *], rfl, rfl⟩
  · refine kG.iload_n 5 dX4_isSheet_4 rfl rfl ?_
    refine kG.iconst (v := nI 4) 6 dX4_isSheet_5 (by decide) rfl ?_
    refine kG.icmp_ge 13 9 dX4_isSheet_6 (by decide) rfl (fun h6 => ?_) (fun h6 => ?_)
    · refine kG.iconst (v := nI 0) 14 dX4_isSheet_13 (by decide) rfl ?_
      refine gG.zret dX4_isSheet_14 rfl rfl ?_
      exact ⟨by simp [b2, *], rfl, rfl⟩
    · refine kG.iconst (v := nI 1) 10 dX4_isSheet_9 (by decide) rfl ?_
      refine kG.goto 14 dX4_isSheet_10 (by decide) ?_
      refine gG.zret dX4_isSheet_14 rfl rfl ?_
      exact ⟨by simp [b2, *], rfl, rfl⟩
set_option maxHeartbeats 1000000 in
theorem c_isLane (Γ : kGm) {μ : kM} {q : kq4} (x : Int32) : gC Γ yX4_isLane mX4_isLane 1 [.int x] μ q (fun r μ' q' => r = some (.int (b2 (decide (¬ x < 0 ∧ ¬ nI 3 ≤ x)))) ∧ μ' = μ ∧ q' = q) := by
  refine gC.ofG (n := 0) ⟨by decide +kernel, rfl, rfl, by decide⟩ (Nat.le_of_ble_eq_true rfl) ?_
  show gG Γ mX4_isLane 1 0 [some (.int x)] [] μ q _
  refine kG.iload_n 1 dX4_isLane_0 rfl rfl ?_
  refine kG.if_lt 13 4 dX4_isLane_1 (by decide) rfl (fun h1 => ?_) (fun h1 => ?_)
  · refine kG.iconst (v := nI 0) 14 dX4_isLane_13 (by decide) rfl ?_
    refine gG.zret dX4_isLane_14 rfl rfl ?_
    exact ⟨by simp [b2, *], rfl, rfl⟩
  · refine kG.iload_n 5 dX4_isLane_4 rfl rfl ?_
    refine kG.iconst (v := nI 3) 6 dX4_isLane_5 (by decide) rfl ?_
    refine kG.icmp_ge 13 9 dX4_isLane_6 (by decide) rfl (fun h6 => ?_) (fun h6 => ?_)
    · refine kG.iconst (v := nI 0) 14 dX4_isLane_13 (by decide) rfl ?_
      refine gG.zret dX4_isLane_14 rfl rfl ?_
      exact ⟨by simp [b2, *], rfl, rfl⟩
    · refine kG.iconst (v := nI 1) 10 dX4_isLane_9 (by decide) rfl ?_
      refine kG.goto 14 dX4_isLane_10 (by decide) ?_
      refine gG.zret dX4_isLane_14 rfl rfl ?_
      exact ⟨by simp [b2, *], rfl, rfl⟩
set_option maxHeartbeats 1000000 in
theorem c_isWeek (Γ : kGm) {μ : kM} {q : kq4} (x : Int32) : gC Γ yX4_isWeek mX4_isWeek 1 [.int x] μ q (fun r μ' q' => r = some (.int (b2 (decide (¬ x < 0 ∧ ¬ nI 10 ≤ x)))) ∧ μ' = μ ∧ q' = q) := by
  refine gC.ofG (n := 0) ⟨by decide +kernel, rfl, rfl, by decide⟩ (Nat.le_of_ble_eq_true rfl) ?_
  show gG Γ mX4_isWeek 1 0 [some (.int x)] [] μ q _
  refine kG.iload_n 1 dX4_isWeek_0 rfl rfl ?_
  refine kG.if_lt 14 4 dX4_isWeek_1 (by decide) rfl (fun h1 => ?_) (fun h1 => ?_)
  · refine kG.iconst (v := nI 0) 15 dX4_isWeek_14 (by decide) rfl ?_
    refine gG.zret dX4_isWeek_15 rfl rfl ?_
    exact ⟨by simp [b2, *], rfl, rfl⟩
  · refine kG.iload_n 5 dX4_isWeek_4 rfl rfl ?_
    refine kG.bipush (v := nI 10) 7 dX4_isWeek_5 (by decide) rfl ?_
    refine kG.icmp_ge 14 10 dX4_isWeek_7 (by decide) rfl (fun h7 => ?_) (fun h7 => ?_)
    · refine kG.iconst (v := nI 0) 15 dX4_isWeek_14 (by decide) rfl ?_
      refine gG.zret dX4_isWeek_15 rfl rfl ?_
      exact ⟨by simp [b2, *], rfl, rfl⟩
    · refine kG.iconst (v := nI 1) 11 dX4_isWeek_10 (by decide) rfl ?_
      refine kG.goto 15 dX4_isWeek_11 (by decide) ?_
      refine gG.zret dX4_isWeek_15 rfl rfl ?_
      exact ⟨by simp [b2, *], rfl, rfl⟩
set_option maxHeartbeats 1000000 in
theorem c_isWhich (Γ : kGm) {μ : kM} {q : kq4} (x : Int32) : gC Γ yX4_isWhich mX4_isWhich 1 [.int x] μ q (fun r μ' q' => r = some (.int (b2 (decide (x = 0 ∨ x = nI 1)))) ∧ μ' = μ ∧ q' = q) := by
  refine gC.ofG (n := 0) ⟨by decide +kernel, rfl, rfl, by decide⟩ (Nat.le_of_ble_eq_true rfl) ?_
  show gG Γ mX4_isWhich 1 0 [some (.int x)] [] μ q _
  refine kG.iload_n 1 dX4_isWhich_0 rfl rfl ?_
  refine kG.if_eq 9 4 dX4_isWhich_1 (by decide) rfl (fun h1 => ?_) (fun h1 => ?_)
  · refine kG.iconst (v := nI 1) 10 dX4_isWhich_9 (by decide) rfl ?_
    refine kG.goto 14 dX4_isWhich_10 (by decide) ?_
    refine gG.zret dX4_isWhich_14 rfl rfl ?_
    exact ⟨by simp [b2, *], rfl, rfl⟩
  · refine kG.iload_n 5 dX4_isWhich_4 rfl rfl ?_
    refine kG.iconst (v := nI 1) 6 dX4_isWhich_5 (by decide) rfl ?_
    refine kG.icmp_ne 13 9 dX4_isWhich_6 (by decide) rfl (fun h6 => ?_) (fun h6 => ?_)
    · refine kG.iconst (v := nI 0) 14 dX4_isWhich_13 (by decide) rfl ?_
      refine gG.zret dX4_isWhich_14 rfl rfl ?_
      exact ⟨by simp [b2, *], rfl, rfl⟩
    · refine kG.iconst (v := nI 1) 10 dX4_isWhich_9 (by decide) rfl ?_
      refine kG.goto 14 dX4_isWhich_10 (by decide) ?_
      refine gG.zret dX4_isWhich_14 rfl rfl ?_
      exact ⟨by simp [b2, *], rfl, rfl⟩
set_option maxHeartbeats 1000000 in
theorem c_timeOf (Γ : kGm) {μ : kM} {q : kq4} (x y : Int32) : gC Γ yX4_timeOf mX4_timeOf 1 [.int x, .int y] μ q (fun r μ' q' => r = some (.int (x * nI 14 + y)) ∧ μ' = μ ∧ q' = q) := by
  refine gC.ofG (n := 0) ⟨by decide +kernel, rfl, rfl, by decide⟩ (Nat.le_of_ble_eq_true rfl) ?_
  show gG Γ mX4_timeOf 1 0 [some (.int x), some (.int y)] [] μ q _
  refine kG.iload_n 1 dX4_timeOf_0 rfl rfl ?_
  refine kG.bipush (v := nI 14) 3 dX4_timeOf_1 (by decide) rfl ?_
  refine kG.imul 4 dX4_timeOf_3 rfl ?_
  refine kG.iload_n 5 dX4_timeOf_4 rfl rfl ?_
  refine kG.iadd 6 dX4_timeOf_5 rfl ?_
  refine gG.iret dX4_timeOf_6 rfl ?_
  exact ⟨rfl, rfl, rfl⟩
set_option maxHeartbeats 1000000 in
theorem c_isTime (Γ : kGm) {μ : kM} {q : kq4} (x y : Int32) : gC Γ yX4_isTime mX4_isTime 2 [.int x, .int y] μ q (fun r μ' q' => r = some (.int (b2 (decide ((¬ x < 0 ∧ ¬ nI 10 ≤ x) ∧ ¬ y < 0 ∧ ¬ nI 14 ≤ y)))) ∧ μ' = μ ∧ q' = q) := by
  refine gC.ofG (n := 0) ⟨by decide +kernel, rfl, rfl, by decide⟩ (Nat.le_of_ble_eq_true rfl) ?_
  show gG Γ mX4_isTime 2 0 [some (.int x), some (.int y)] [] μ q _
  refine kG.iload_n 1 dX4_isTime_0 rfl rfl ?_
  refine gG.callS 4 dX4_isTime_1 lX4_119 vX4_isWeek (c_isWeek Γ _) rfl rfl ⟨by decide, by decide⟩ (Nat.le_of_ble_eq_true rfl) rfl (fun r1 μ1 q1 hc1 => ?_)
  obtain ⟨rfl, rfl, rfl⟩ := hc1
  refine kG.if_eq 21 7 dX4_isTime_4 (by decide) rfl (fun h4 => ?_) (fun h4 => ?_)
  · rw [b2_0, decide_eq_false_iff_not] at h4
    refine kG.iconst (v := nI 0) 22 dX4_isTime_21 (by decide) rfl ?_
    refine gG.zret dX4_isTime_22 rfl rfl ?_
    first | exact ⟨by rw [b2_f (decide_eq_false (fun z => h4 z.1))], rfl, rfl⟩ | exact ⟨by simp [b2, *], rfl, rfl⟩
  · rw [b2_n0, decide_eq_true_iff] at h4
    refine kG.iload_n 8 dX4_isTime_7 rfl rfl ?_
    refine kG.if_lt 21 11 dX4_isTime_8 (by decide) rfl (fun h8 => ?_) (fun h8 => ?_)
    · refine kG.iconst (v := nI 0) 22 dX4_isTime_21 (by decide) rfl ?_
      refine gG.zret dX4_isTime_22 rfl rfl ?_
      first | exact ⟨by rw [b2_f (decide_eq_false (fun z => h4 z.1))], rfl, rfl⟩ | exact ⟨by simp [b2, *], rfl, rfl⟩
    · refine kG.iload_n 12 dX4_isTime_11 rfl rfl ?_
      refine kG.bipush (v := nI 14) 14 dX4_isTime_12 (by decide) rfl ?_
      refine kG.icmp_ge 21 17 dX4_isTime_14 (by decide) rfl (fun h14 => ?_) (fun h14 => ?_)
      · refine kG.iconst (v := nI 0) 22 dX4_isTime_21 (by decide) rfl ?_
        refine gG.zret dX4_isTime_22 rfl rfl ?_
        first | exact ⟨by rw [b2_f (decide_eq_false (fun z => h4 z.1))], rfl, rfl⟩ | exact ⟨by simp [b2, *], rfl, rfl⟩
      · refine kG.iconst (v := nI 1) 18 dX4_isTime_17 (by decide) rfl ?_
        refine kG.goto 22 dX4_isTime_18 (by decide) ?_
        refine gG.zret dX4_isTime_22 rfl rfl ?_
        first | exact ⟨by rw [b2_f (decide_eq_false (fun z => h4 z.1))], rfl, rfl⟩ | exact ⟨by simp [b2, *], rfl, rfl⟩
set_option maxHeartbeats 1000000 in
theorem c_faultBy (Γ : kGm) {μ : kM} {q : kq4} (x : Int32) : gC Γ yX4_faultBy mX4_faultBy 1 [.ref 1, .int x] μ q (fun r μ' q' => r = some (.int ((-10) - x)) ∧ μ' = uI μ 1 10 x ∧ q' = q) := by
  refine gC.ofG (n := 0) ⟨by decide +kernel, rfl, rfl, by decide⟩ (Nat.le_of_ble_eq_true rfl) ?_
  show gG Γ mX4_faultBy 1 0 [some (.ref 1), some (.int x)] [] μ q _
  refine kG.aload_n 1 dX4_faultBy_0 rfl rfl ?_
  refine kG.iload_n 2 dX4_faultBy_1 rfl rfl ?_
  refine gG.putI 5 dX4_faultBy_2 fX4_62 ⟨by decide, by decide⟩ rfl rfl rfl ⟨rfl, rfl⟩ rfl ?_
  refine kG.bipush (v := (-10)) 7 dX4_faultBy_5 (by decide) rfl ?_
  refine kG.iload_n 8 dX4_faultBy_7 rfl rfl ?_
  refine kG.isub 9 dX4_faultBy_8 rfl ?_
  refine gG.iret dX4_faultBy_9 rfl ?_
  exact ⟨rfl, rfl, rfl⟩
set_option maxHeartbeats 1000000 in
theorem c_leaveInTrace (Γ : kGm) {μ : kM} {q : kq4} (x : Int32) : gC Γ yX4_leaveInTrace mX4_leaveInTrace 1 [.ref 1, .int x] μ q (fun r μ' q' => r = none ∧ μ' = uI μ 1 9 (nI 31 * μ 1 9 + x) ∧ q' = q) := by
  refine gC.ofG (n := 0) ⟨by decide +kernel, rfl, rfl, by decide⟩ (Nat.le_of_ble_eq_true rfl) ?_
  show gG Γ mX4_leaveInTrace 1 0 [some (.ref 1), some (.int x)] [] μ q _
  refine kG.aload_n 1 dX4_leaveInTrace_0 rfl rfl ?_
  refine kG.bipush (v := nI 31) 3 dX4_leaveInTrace_1 (by decide) rfl ?_
  refine kG.aload_n 4 dX4_leaveInTrace_3 rfl rfl ?_
  refine gG.getI 7 dX4_leaveInTrace_4 fX4_59 ⟨by decide, by decide⟩ rfl rfl rfl ?_
  refine kG.imul 8 dX4_leaveInTrace_7 rfl ?_
  refine kG.iload_n 9 dX4_leaveInTrace_8 rfl rfl ?_
  refine kG.iadd 10 dX4_leaveInTrace_9 rfl ?_
  refine gG.putI 13 dX4_leaveInTrace_10 fX4_59 ⟨by decide, by decide⟩ rfl rfl rfl ⟨rfl, rfl⟩ rfl ?_
  refine gG.vret dX4_leaveInTrace_13 rfl ?_
  exact ⟨rfl, rfl, rfl⟩
set_option maxHeartbeats 1000000 in
theorem c_everybody (Γ : kGm) {μ : kM} {q : kq4} (ht : isT q.1) (P : Nat) (hP : P ≤ 6) (e : μ q.1 9 = nI P) : gC Γ yX4_everybody mX4_everybody 1 [.ref 1] μ q (fun r μ' q' => r = some (.int (nI (2 ^ P - 1))) ∧ μ' = μ ∧ q' = q) := by
  refine gC.ofG (n := 0) ⟨by decide +kernel, rfl, rfl, by decide⟩ (Nat.le_of_ble_eq_true rfl) ?_
  show gG Γ mX4_everybody 1 0 [some (.ref 1)] [] μ q _
  refine kG.iconst (v := nI 1) 1 dX4_everybody_0 (by decide) rfl ?_
  refine kG.aload_n 2 dX4_everybody_1 rfl rfl ?_
  refine gG.getP 5 dX4_everybody_2 fX4_32 ⟨by decide, by decide⟩ rfl rfl rfl rfl ?_
  refine gG.getI 8 dX4_everybody_5 fX4_187 (isT_k ht) (isT_s ht) rfl rfl ?_
  refine kG.ishl 9 dX4_everybody_8 rfl ?_
  refine kG.iconst (v := nI 1) 10 dX4_everybody_9 (by decide) rfl ?_
  refine kG.isub 11 dX4_everybody_10 rfl ?_
  refine gG.iret dX4_everybody_11 rfl ?_
  refine ⟨?_, rfl, rfl⟩
  rw [e, n_shl (by omega)]
  have h1 : 1 ≤ 2 ^ P := Nat.one_le_two_pow
  rw [pk_sub h1]
set_option maxHeartbeats 1000000 in
theorem c_isAway (Γ : kGm) {μ : kM} {q : kq4} (a p : Nat) (ha : a < 2 ^ 31) (hp : p < 31) (e : μ 1 7 = nI a) : gC Γ yX4_isAway mX4_isAway 1 [.ref 1, .int (nI p)] μ q (fun r μ' q' => r = some (.int (b2 (a.testBit p))) ∧ μ' = μ ∧ q' = q) := by
  refine gC.ofG (n := 0) ⟨by decide +kernel, rfl, rfl, by decide⟩ (Nat.le_of_ble_eq_true rfl) ?_
  show gG Γ mX4_isAway 1 0 [some (.ref 1), some (.int (nI p))] [] μ q _
  refine kG.aload_n 1 dX4_isAway_0 rfl rfl ?_
  refine gG.getI 4 dX4_isAway_1 fX4_51 ⟨by decide, by decide⟩ rfl rfl rfl ?_
  refine kG.iload_n 5 dX4_isAway_4 rfl rfl ?_
  refine kG.ishr 6 dX4_isAway_5 rfl ?_
  refine kG.iconst (v := nI 1) 7 dX4_isAway_6 (by decide) rfl ?_
  refine kG.iand 8 dX4_isAway_7 rfl ?_
  refine kG.iconst (v := nI 1) 9 dX4_isAway_8 (by decide) rfl ?_
  refine kG.icmp_ne 16 12 dX4_isAway_9 (by decide) rfl (fun h9 => ?_) (fun h9 => ?_)
  · rw [e, n_bit ha hp] at h9
    refine kG.iconst (v := nI 0) 17 dX4_isAway_16 (by decide) rfl ?_
    refine gG.zret dX4_isAway_17 rfl rfl ?_
    refine ⟨?_, rfl, rfl⟩
    cases hb : a.testBit p <;> rw [hb] at h9 <;> first | rfl | exact absurd h9 (by decide)
  · rw [e, n_bit ha hp] at h9
    refine kG.iconst (v := nI 1) 13 dX4_isAway_12 (by decide) rfl ?_
    refine kG.goto 17 dX4_isAway_13 (by decide) ?_
    refine gG.zret dX4_isAway_17 rfl rfl ?_
    refine ⟨?_, rfl, rfl⟩
    cases hb : a.testBit p <;> rw [hb] at h9 <;> first | rfl | exact absurd h9 (by decide)
set_option maxHeartbeats 1000000 in
theorem c_wantsOf (Γ : kGm) {μ : kM} {q : kq4} (k : Nat) (x : Int32) (hk : k ≤ 2) : gC Γ yX4_wantsOf mX4_wantsOf 1 [.int (nI k), .int x] μ q (fun r μ' q' => r = some (.int (if k = 0 then x else if k = 1 then x + nI 1 else nI 2 * (x + nI 1))) ∧ μ' = μ ∧ q' = q) := by
  refine gC.ofG (n := 0) ⟨by decide +kernel, rfl, rfl, by decide⟩ (Nat.le_of_ble_eq_true rfl) ?_
  show gG Γ mX4_wantsOf 1 0 [some (.int (nI k)), some (.int x)] [] μ q _
  refine kG.iload_n 1 dX4_wantsOf_0 rfl rfl ?_
  by_cases hs1_0 : nI k = nI 0
  · rw [hs1_0]
    refine kG.lookup (off := 27) 28 dX4_wantsOf_1 (by decide) (by decide) (by decide) ?_
    refine kG.iload_n 29 dX4_wantsOf_28 rfl rfl ?_
    refine gG.iret dX4_wantsOf_29 rfl ?_
    refine ⟨?_, rfl, rfl⟩
    rcases (by omega : k = 0 ∨ k = 1 ∨ k = 2) with rfl | rfl | rfl <;> first | rfl | (exfalso; revert hs1_0; decide) | (exfalso; revert hs1_1; decide)
  by_cases hs1_1 : nI k = nI 1
  · rw [hs1_1]
    refine kG.lookup (off := 29) 30 dX4_wantsOf_1 (by decide) (by decide) (by decide) ?_
    refine kG.iload_n 31 dX4_wantsOf_30 rfl rfl ?_
    refine kG.iconst (v := nI 1) 32 dX4_wantsOf_31 (by decide) rfl ?_
    refine kG.iadd 33 dX4_wantsOf_32 rfl ?_
    refine gG.iret dX4_wantsOf_33 rfl ?_
    refine ⟨?_, rfl, rfl⟩
    rcases (by omega : k = 0 ∨ k = 1 ∨ k = 2) with rfl | rfl | rfl <;> first | rfl | (exfalso; revert hs1_0; decide) | (exfalso; revert hs1_1; decide)
  · refine kG.lookup (off := 33) 34 dX4_wantsOf_1 (by decide) (by have e0 := n_toInt (k := 0) (by decide) hs1_0; have e1 := n_toInt (k := 1) (by decide) hs1_1; show Op.lookupswitch.offset [(0, 27), (1, 29)] 33 _ = 33; simp only [Op.lookupswitch.offset_cons, Op.lookupswitch.offset_nil]; rw [if_neg (fun z => e0 z.symm), if_neg (fun z => e1 z.symm)]) (by decide) ?_
    refine kG.iconst (v := nI 2) 35 dX4_wantsOf_34 (by decide) rfl ?_
    refine kG.iload_n 36 dX4_wantsOf_35 rfl rfl ?_
    refine kG.iconst (v := nI 1) 37 dX4_wantsOf_36 (by decide) rfl ?_
    refine kG.iadd 38 dX4_wantsOf_37 rfl ?_
    refine kG.imul 39 dX4_wantsOf_38 rfl ?_
    refine gG.iret dX4_wantsOf_39 rfl ?_
    refine ⟨?_, rfl, rfl⟩
    rcases (by omega : k = 0 ∨ k = 1 ∨ k = 2) with rfl | rfl | rfl <;> first | rfl | (exfalso; revert hs1_0; decide) | (exfalso; revert hs1_1; decide)
set_option maxHeartbeats 1000000 in
theorem c_hasNothing (Γ : kGm) {μ : kM} {q : kq4} {s : Nat} (hs : isS s) : gC Γ yX1_hasNothing mX1_hasNothing 1 [.ref s] μ q (fun r μ' q' => r = some (.int (b2 (decide (μ s 1 = -1)))) ∧ μ' = μ ∧ q' = q) := by
  refine gC.ofG (n := 0) ⟨by decide +kernel, rfl, rfl, by decide⟩ (Nat.le_of_ble_eq_true rfl) ?_
  show gG Γ mX1_hasNothing 1 0 [some (.ref s)] [] μ q _
  refine kG.aload_n 1 dX1_hasNothing_0 rfl rfl ?_
  refine gG.getI 4 dX1_hasNothing_1 fX1_15 (isS_k hs) (isS_s hs) rfl rfl ?_
  refine kG.iconst (v := (-1)) 5 dX1_hasNothing_4 (by decide) rfl ?_
  refine kG.icmp_ne 12 8 dX1_hasNothing_5 (by decide) rfl (fun h5 => ?_) (fun h5 => ?_)
  · refine kG.iconst (v := nI 0) 13 dX1_hasNothing_12 (by decide) rfl ?_
    refine gG.zret dX1_hasNothing_13 rfl rfl ?_
    exact ⟨by simp [b2, *], rfl, rfl⟩
  · refine kG.iconst (v := nI 1) 9 dX1_hasNothing_8 (by decide) rfl ?_
    refine kG.goto 13 dX1_hasNothing_9 (by decide) ?_
    refine gG.zret dX1_hasNothing_13 rfl rfl ?_
    exact ⟨by simp [b2, *], rfl, rfl⟩
set_option maxHeartbeats 1000000 in
theorem c_hasCell (Γ : kGm) {μ : kM} {q : kq4} {s : Nat} (hs : isS s) (x : Int32) : gC Γ yX1_hasCell mX1_hasCell 1 [.ref s, .int x] μ q (fun r μ' q' => r = some (.int (b2 (decide (¬ x < 0 ∧ ¬ μ s 2 ≤ x)))) ∧ μ' = μ ∧ q' = q) := by
  refine gC.ofG (n := 0) ⟨by decide +kernel, rfl, rfl, by decide⟩ (Nat.le_of_ble_eq_true rfl) ?_
  show gG Γ mX1_hasCell 1 0 [some (.ref s), some (.int x)] [] μ q _
  refine kG.iload_n 1 dX1_hasCell_0 rfl rfl ?_
  refine kG.if_lt 16 4 dX1_hasCell_1 (by decide) rfl (fun h1 => ?_) (fun h1 => ?_)
  · refine kG.iconst (v := nI 0) 17 dX1_hasCell_16 (by decide) rfl ?_
    refine gG.zret dX1_hasCell_17 rfl rfl ?_
    exact ⟨by simp [b2, *], rfl, rfl⟩
  · refine kG.iload_n 5 dX1_hasCell_4 rfl rfl ?_
    refine kG.aload_n 6 dX1_hasCell_5 rfl rfl ?_
    refine gG.getI 9 dX1_hasCell_6 fX1_19 (isS_k hs) (isS_s hs) rfl rfl ?_
    refine kG.icmp_ge 16 12 dX1_hasCell_9 (by decide) rfl (fun h9 => ?_) (fun h9 => ?_)
    · refine kG.iconst (v := nI 0) 17 dX1_hasCell_16 (by decide) rfl ?_
      refine gG.zret dX1_hasCell_17 rfl rfl ?_
      exact ⟨by simp [b2, *], rfl, rfl⟩
    · refine kG.iconst (v := nI 1) 13 dX1_hasCell_12 (by decide) rfl ?_
      refine kG.goto 17 dX1_hasCell_13 (by decide) ?_
      refine gG.zret dX1_hasCell_17 rfl rfl ?_
      exact ⟨by simp [b2, *], rfl, rfl⟩
set_option maxHeartbeats 1000000 in
theorem c_hasCells (Γ : kGm) {μ : kM} {q : kq4} {s : Nat} (hs : isS s) (x y : Int32) : gC Γ yX1_hasCells mX1_hasCells 1 [.ref s, .int x, .int y] μ q (fun r μ' q' => r = some (.int (b2 (decide (¬ x < 0 ∧ ¬ μ s 2 < x ∧ ¬ y < 0 ∧ ¬ μ s 2 - x < y)))) ∧ μ' = μ ∧ q' = q) := by
  refine gC.ofG (n := 0) ⟨by decide +kernel, rfl, rfl, by decide⟩ (Nat.le_of_ble_eq_true rfl) ?_
  show gG Γ mX1_hasCells 1 0 [some (.ref s), some (.int x), some (.int y)] [] μ q _
  refine kG.iload_n 1 dX1_hasCells_0 rfl rfl ?_
  refine kG.if_lt 30 4 dX1_hasCells_1 (by decide) rfl (fun h1 => ?_) (fun h1 => ?_)
  · refine kG.iconst (v := nI 0) 31 dX1_hasCells_30 (by decide) rfl ?_
    refine gG.zret dX1_hasCells_31 rfl rfl ?_
    exact ⟨by simp [b2, *], rfl, rfl⟩
  · refine kG.iload_n 5 dX1_hasCells_4 rfl rfl ?_
    refine kG.aload_n 6 dX1_hasCells_5 rfl rfl ?_
    refine gG.getI 9 dX1_hasCells_6 fX1_19 (isS_k hs) (isS_s hs) rfl rfl ?_
    refine kG.icmp_gt 30 12 dX1_hasCells_9 (by decide) rfl (fun h9 => ?_) (fun h9 => ?_)
    · refine kG.iconst (v := nI 0) 31 dX1_hasCells_30 (by decide) rfl ?_
      refine gG.zret dX1_hasCells_31 rfl rfl ?_
      exact ⟨by simp [b2, *], rfl, rfl⟩
    · refine kG.iload_n 13 dX1_hasCells_12 rfl rfl ?_
      refine kG.if_lt 30 16 dX1_hasCells_13 (by decide) rfl (fun h13 => ?_) (fun h13 => ?_)
      · refine kG.iconst (v := nI 0) 31 dX1_hasCells_30 (by decide) rfl ?_
        refine gG.zret dX1_hasCells_31 rfl rfl ?_
        exact ⟨by simp [b2, *], rfl, rfl⟩
      · refine kG.iload_n 17 dX1_hasCells_16 rfl rfl ?_
        refine kG.aload_n 18 dX1_hasCells_17 rfl rfl ?_
        refine gG.getI 21 dX1_hasCells_18 fX1_19 (isS_k hs) (isS_s hs) rfl rfl ?_
        refine kG.iload_n 22 dX1_hasCells_21 rfl rfl ?_
        refine kG.isub 23 dX1_hasCells_22 rfl ?_
        refine kG.icmp_gt 30 26 dX1_hasCells_23 (by decide) rfl (fun h23 => ?_) (fun h23 => ?_)
        · refine kG.iconst (v := nI 0) 31 dX1_hasCells_30 (by decide) rfl ?_
          refine gG.zret dX1_hasCells_31 rfl rfl ?_
          exact ⟨by simp [b2, *], rfl, rfl⟩
        · refine kG.iconst (v := nI 1) 27 dX1_hasCells_26 (by decide) rfl ?_
          refine kG.goto 31 dX1_hasCells_27 (by decide) ?_
          refine gG.zret dX1_hasCells_31 rfl rfl ?_
          exact ⟨by simp [b2, *], rfl, rfl⟩
set_option maxHeartbeats 1000000 in
theorem c_cut (Γ : kGm) {μ : kM} {q : kq4} {s : Nat} (hs : isS s) (x : Int32) : gC Γ yX1_cutToLane mX1_cutToLane 1 [.ref s, .int x] μ q (fun r μ' q' => r = some (.int (if μ s 1 = nI 0 then x.toInt8.toInt32 else if μ s 1 = nI 1 then x.toInt16.toInt32 else x)) ∧ μ' = μ ∧ q' = q) := by
  refine gC.ofG (n := 0) ⟨by decide +kernel, rfl, rfl, by decide⟩ (Nat.le_of_ble_eq_true rfl) ?_
  show gG Γ mX1_cutToLane 1 0 [some (.ref s), some (.int x)] [] μ q _
  refine kG.aload_n 1 dX1_cutToLane_0 rfl rfl ?_
  refine gG.getI 4 dX1_cutToLane_1 fX1_15 (isS_k hs) (isS_s hs) rfl rfl ?_
  by_cases hs4_0 : μ s 1 = nI 0
  · rw [hs4_0]
    refine kG.lookup (off := 28) 32 dX1_cutToLane_4 (by decide) (by decide) (by decide) ?_
    refine kG.iload_n 33 dX1_cutToLane_32 rfl rfl ?_
    refine kG.i2b 34 dX1_cutToLane_33 rfl ?_
    refine gG.iret dX1_cutToLane_34 rfl ?_
    first | exact ⟨rfl, rfl, rfl⟩ | exact ⟨by rw [if_neg hs4_0, if_neg hs4_1], rfl, rfl⟩ | exact ⟨by rw [if_pos hs4_0], rfl, rfl⟩
  by_cases hs4_1 : μ s 1 = nI 1
  · rw [hs4_1]
    refine kG.lookup (off := 31) 35 dX1_cutToLane_4 (by decide) (by decide) (by decide) ?_
    refine kG.iload_n 36 dX1_cutToLane_35 rfl rfl ?_
    refine kG.i2s 37 dX1_cutToLane_36 rfl ?_
    refine gG.iret dX1_cutToLane_37 rfl ?_
    first | exact ⟨rfl, rfl, rfl⟩ | exact ⟨by rw [if_neg hs4_0, if_neg hs4_1], rfl, rfl⟩ | exact ⟨by rw [if_pos hs4_0], rfl, rfl⟩
  · refine kG.lookup (off := 34) 38 dX1_cutToLane_4 (by decide) (by have e0 := n_toInt (k := 0) (by decide) hs4_0; have e1 := n_toInt (k := 1) (by decide) hs4_1; show Op.lookupswitch.offset [(0, 28), (1, 31)] 34 _ = 34; simp only [Op.lookupswitch.offset_cons, Op.lookupswitch.offset_nil]; rw [if_neg (fun z => e0 z.symm), if_neg (fun z => e1 z.symm)]) (by decide) ?_
    refine kG.iload_n 39 dX1_cutToLane_38 rfl rfl ?_
    refine gG.iret dX1_cutToLane_39 rfl ?_
    first | exact ⟨rfl, rfl, rfl⟩ | exact ⟨by rw [if_neg hs4_0, if_neg hs4_1], rfl, rfl⟩ | exact ⟨by rw [if_pos hs4_0], rfl, rfl⟩
set_option maxHeartbeats 1000000 in
theorem c_read (Γ : kGm) {μ : kM} {q : kq4} {s : Nat} (hs : isS s) (n : Nat) (hn : n ≤ 60) (e : μ s 2 = nI n) (k : Nat) (hk : k < 2 ^ 31) : gC Γ yX1_read mX1_read 2 [.ref s, .int (nI k)] μ q (fun r μ' q' => r = some (.int (if k < n then μ (s + 1) k else nI 0)) ∧ μ' = μ ∧ q' = q) := by
  refine gC.ofG (n := 0) ⟨by decide +kernel, rfl, rfl, by decide⟩ (Nat.le_of_ble_eq_true rfl) ?_
  show gG Γ mX1_read 2 0 [some (.ref s), some (.int (nI k))] [] μ q _
  refine kG.aload_n 1 dX1_read_0 rfl rfl ?_
  refine kG.iload_n 2 dX1_read_1 rfl rfl ?_
  refine gG.callV 5 dX1_read_2 lX1_28 vX1_hasCell (c_hasCell Γ hs _) rfl rfl (isS_k hs) (isS_s hs) ⟨by decide, rfl⟩ ⟨by decide, by decide⟩ (Nat.le_of_ble_eq_true rfl) rfl (fun r2 μ2 q2 hc2 => ?_)
  obtain ⟨rfl, rfl, rfl⟩ := hc2
  refine kG.if_eq 17 8 dX1_read_5 (by decide) rfl (fun h5 => ?_) (fun h5 => ?_)
  · rw [b2_0, decide_eq_false_iff_not, e] at h5
    have hkn : ¬ k < n := fun z => h5 ⟨nI_pos hk, nI_ge z (by omega)⟩
    refine kG.iconst (v := nI 0) 18 dX1_read_17 (by decide) rfl ?_
    refine gG.iret dX1_read_18 rfl ?_
    exact ⟨by simp [hkn], rfl, rfl⟩
  · rw [b2_n0, decide_eq_true_iff, e] at h5
    have hkn : k < n := Nat.not_le.mp fun z => h5.2 (nI_le z hk)
    refine kG.aload_n 9 dX1_read_8 rfl rfl ?_
    refine gG.getP 12 dX1_read_9 fX1_9 (isS_k hs) (isS_s hs) rfl (PI_S hs) rfl ?_
    refine kG.iload_n 13 dX1_read_12 rfl rfl ?_
    refine gG.iald (n := 60) _ 14 dX1_read_13 (arS_k hs) (arS_s hs) rfl (by omega) (by decide) rfl ?_
    refine kG.goto 18 dX1_read_14 (by decide) ?_
    refine gG.iret dX1_read_18 rfl ?_
    exact ⟨by simp [hkn], rfl, rfl⟩
set_option maxHeartbeats 1000000 in
theorem c_write (Γ : kGm) {μ : kM} {q : kq4} {s : Nat} (hs : isS s) (n : Nat) (hn : n ≤ 60) (e : μ s 2 = nI n) (k : Nat) (hk : k < n) (x : Int32) : gC Γ yX1_write mX1_write 2 [.ref s, .int (nI k), .int x] μ q (fun r μ' q' => r = none ∧ μ' = uI μ (s + 1) k (if μ s 1 = nI 0 then x.toInt8.toInt32 else if μ s 1 = nI 1 then x.toInt16.toInt32 else x) ∧ q' = q) := by
  refine gC.ofG (n := 0) ⟨by decide +kernel, rfl, rfl, by decide⟩ (Nat.le_of_ble_eq_true rfl) ?_
  show gG Γ mX1_write 2 0 [some (.ref s), some (.int (nI k)), some (.int x)] [] μ q _
  refine kG.aload_n 1 dX1_write_0 rfl rfl ?_
  refine kG.iload_n 2 dX1_write_1 rfl rfl ?_
  refine gG.callV 5 dX1_write_2 lX1_28 vX1_hasCell (c_hasCell Γ hs _) rfl rfl (isS_k hs) (isS_s hs) ⟨by decide, rfl⟩ ⟨by decide, by decide⟩ (Nat.le_of_ble_eq_true rfl) rfl (fun r2 μ2 q2 hc2 => ?_)
  obtain ⟨rfl, rfl, rfl⟩ := hc2
  refine kG.if_eq 19 8 dX1_write_5 (by decide) rfl (fun h5 => ?_) (fun h5 => ?_)
  · rw [b2_0, decide_eq_false_iff_not, e] at h5
    exact absurd ⟨nI_pos (by omega), nI_ge hk (by omega)⟩ h5
  · refine kG.aload_n 9 dX1_write_8 rfl rfl ?_
    refine gG.getP 12 dX1_write_9 fX1_9 (isS_k hs) (isS_s hs) rfl (PI_S hs) rfl ?_
    refine kG.iload_n 13 dX1_write_12 rfl rfl ?_
    refine kG.aload_n 14 dX1_write_13 rfl rfl ?_
    refine kG.iload_n 15 dX1_write_14 rfl rfl ?_
    refine gG.callV 18 dX1_write_15 lX1_32 vX1_cutToLane (c_cut Γ hs _) rfl rfl (isS_k hs) (isS_s hs) ⟨by decide, rfl⟩ ⟨by decide, by decide⟩ (Nat.le_of_ble_eq_true rfl) rfl (fun r15 μ15 q15 hc15 => ?_)
    obtain ⟨rfl, rfl, rfl⟩ := hc15
    refine gG.iast (n := 60) _ 19 dX1_write_18 (arS_k hs) (arS_s hs) rfl (by omega) (by decide) rfl ?_
    refine gG.vret dX1_write_19 rfl ?_
    exact ⟨rfl, rfl, rfl⟩
def fl (μ : kM) (k : Nat) (v : Int32) (i : Nat) : kM := uA μ k (fun j => if j < i then v else μ k j)
theorem fl_0 (μ : kM) (k : Nat) (v : Int32) : fl μ k v 0 = μ := by
  funext a j
  by_cases h : a = k
  · subst h; simp [fl, uA]
  · simp [fl, uA, h]
theorem fl_s (μ : kM) (k : Nat) (v : Int32) (i : Nat) : uI (fl μ k v i) k i v = fl μ k v (i + 1) := by
  funext a j
  by_cases h : a = k
  · subst h
    simp only [uI, fl, uA, upd, if_pos]
    by_cases hj : j = i
    · subst hj; simp
    · simp only [hj, if_false]
      by_cases h1 : j < i
      · rw [if_pos h1, if_pos (by omega)]
      · rw [if_neg h1, if_neg (by omega)]
  · simp [uI, fl, uA, h]
set_option maxHeartbeats 1000000 in
theorem fill_loop (Γ : kGm) {μ : kM} {q : kq4} {k n : Nat} (hk : 0 < k ∧ k < 74) (hsh : ksh k = (10, n)) (hn : n < 1000) (v : Int32) : ∀ (m i : Nat), i + m = n → gG Γ mJ7_fill_53178 1 5 [some (.ref k), some (.int v), some (.int (nI i)), some (.int (nI n))] [] (fl μ k v i) q (fun r μ' q' => r = none ∧ μ' = fl μ k v n ∧ q' = q) := by
  intro m
  induction m with
  | zero =>
    intro i hm
    refine kG.iload_n 6 dJ7_fill_53178_5 rfl rfl ?_
    refine kG.iload_n 7 dJ7_fill_53178_6 rfl rfl ?_
    refine kG.icmp_ge 20 10 dJ7_fill_53178_7 (by decide) rfl (fun h7 => ?_) (fun h7 => ?_)
    · refine gG.vret dJ7_fill_53178_20 rfl ?_
      refine ⟨rfl, ?_, rfl⟩
      rw [show i = n by omega]
    · exact absurd (nI_le (by omega) (by omega)) h7
  | succ m ih =>
    intro i hm
    refine kG.iload_n 6 dJ7_fill_53178_5 rfl rfl ?_
    refine kG.iload_n 7 dJ7_fill_53178_6 rfl rfl ?_
    refine kG.icmp_ge 20 10 dJ7_fill_53178_7 (by decide) rfl (fun h7 => ?_) (fun h7 => ?_)
    · exact absurd h7 (nI_ge (by omega) (by omega))
    · refine kG.aload_n 11 dJ7_fill_53178_10 rfl rfl ?_
      refine kG.iload_n 12 dJ7_fill_53178_11 rfl rfl ?_
      refine kG.iload_n 13 dJ7_fill_53178_12 rfl rfl ?_
      refine gG.iast _ 14 dJ7_fill_53178_13 hk hsh rfl (by omega) hn rfl ?_
      rw [fl_s]
      refine kG.iinc (v := nI (i + 1)) 17 dJ7_fill_53178_14 rfl (nI_1 i) (by decide) rfl rfl ?_
      dsimp only [List.set]
      refine kG.goto 5 dJ7_fill_53178_17 (by decide) ?_
      exact ih (i + 1) (by omega)
set_option maxHeartbeats 1000000 in
theorem c_fill (Γ : kGm) {μ : kM} {q : kq4} {k n : Nat} (hk : 0 < k ∧ k < 74) (hsh : ksh k = (10, n)) (hn : n < 1000) (v : Int32) : gC Γ yJ7_fill_53178 mJ7_fill_53178 1 [.ref k, .int v] μ q (fun r μ' q' => r = none ∧ μ' = fl μ k v n ∧ q' = q) := by
  refine gC.ofG (n := 0) ⟨by decide +kernel, rfl, rfl, by decide⟩ (Nat.le_of_ble_eq_true rfl) ?_
  show gG Γ mJ7_fill_53178 1 0 [some (.ref k), some (.int v), none, none] [] μ q _
  refine kG.iconst (v := nI 0) 1 dJ7_fill_53178_0 (by decide) rfl ?_
  refine kG.istore_n 2 dJ7_fill_53178_1 (by decide) rfl rfl ?_
  dsimp only [List.set]
  refine kG.aload_n 3 dJ7_fill_53178_2 rfl rfl ?_
  refine gG.alen 4 dJ7_fill_53178_3 hk hsh rfl ?_
  refine kG.istore_n 5 dJ7_fill_53178_4 (by decide) rfl rfl ?_
  dsimp only [List.set]
  have h := fill_loop Γ (μ := μ) (q := q) hk hsh hn v n 0 (by omega)
  rw [fl_0] at h
  exact h
set_option maxHeartbeats 1000000 in
theorem c_renew (Γ : kGm) {μ : kM} {q : kq4} {s : Nat} (hs : isS s) (x y : Int32) : gC Γ yX1_renew mX1_renew 2 [.ref s, .int x, .int y] μ q (fun r μ' q' => r = none ∧ μ' = fl (uI (uI μ s 1 x) s 2 y) (s + 1) (nI 0) 60 ∧ q' = q) := by
  refine gC.ofG (n := 0) ⟨by decide +kernel, rfl, rfl, by decide⟩ (Nat.le_of_ble_eq_true rfl) ?_
  show gG Γ mX1_renew 2 0 [some (.ref s), some (.int x), some (.int y)] [] μ q _
  refine kG.aload_n 1 dX1_renew_0 rfl rfl ?_
  refine kG.iload_n 2 dX1_renew_1 rfl rfl ?_
  refine gG.putI 5 dX1_renew_2 fX1_15 (isS_k hs) (isS_s hs) rfl rfl ⟨rfl, rfl⟩ rfl ?_
  refine kG.aload_n 6 dX1_renew_5 rfl rfl ?_
  refine kG.iload_n 7 dX1_renew_6 rfl rfl ?_
  refine gG.putI 10 dX1_renew_7 fX1_19 (isS_k hs) (isS_s hs) rfl rfl ⟨rfl, rfl⟩ rfl ?_
  refine kG.aload_n 11 dX1_renew_10 rfl rfl ?_
  refine gG.getP 14 dX1_renew_11 fX1_9 (isS_k hs) (isS_s hs) rfl (PI_S hs) rfl ?_
  refine kG.iconst (v := nI 0) 15 dX1_renew_14 (by decide) rfl ?_
  refine gG.callS 18 dX1_renew_15 lX1_22 vJ7_fill_53178 (c_fill Γ (arS_k hs) (arS_s hs) (by decide) _) rfl rfl ⟨by decide, by decide⟩ (Nat.le_of_ble_eq_true rfl) rfl (fun r15 μ15 q15 hc15 => ?_)
  obtain ⟨rfl, rfl, rfl⟩ := hc15
  refine gG.vret dX1_renew_18 rfl ?_
  exact ⟨rfl, rfl, rfl⟩
theorem bc_key : ∀ m, m < 64 → (((((((((((nI m) - ((Int32.toUInt32 (nI m) >>> (Int32.toUInt32 (nI 1) &&& Int32.toUInt32 31)).toInt32 &&& (1431655765))) &&& 858993459) + ((Int32.toUInt32 ((nI m) - ((Int32.toUInt32 (nI m) >>> (Int32.toUInt32 (nI 1) &&& Int32.toUInt32 31)).toInt32 &&& (1431655765))) >>> (Int32.toUInt32 (nI 2) &&& Int32.toUInt32 31)).toInt32 &&& 858993459)) + (Int32.toUInt32 ((((nI m) - ((Int32.toUInt32 (nI m) >>> (Int32.toUInt32 (nI 1) &&& Int32.toUInt32 31)).toInt32 &&& (1431655765))) &&& 858993459) + ((Int32.toUInt32 ((nI m) - ((Int32.toUInt32 (nI m) >>> (Int32.toUInt32 (nI 1) &&& Int32.toUInt32 31)).toInt32 &&& (1431655765))) >>> (Int32.toUInt32 (nI 2) &&& Int32.toUInt32 31)).toInt32 &&& 858993459)) >>> (Int32.toUInt32 (nI 4) &&& Int32.toUInt32 31)).toInt32) &&& 252645135)) + (Int32.toUInt32 (((((((nI m) - ((Int32.toUInt32 (nI m) >>> (Int32.toUInt32 (nI 1) &&& Int32.toUInt32 31)).toInt32 &&& (1431655765))) &&& 858993459) + ((Int32.toUInt32 ((nI m) - ((Int32.toUInt32 (nI m) >>> (Int32.toUInt32 (nI 1) &&& Int32.toUInt32 31)).toInt32 &&& (1431655765))) >>> (Int32.toUInt32 (nI 2) &&& Int32.toUInt32 31)).toInt32 &&& 858993459)) + (Int32.toUInt32 ((((nI m) - ((Int32.toUInt32 (nI m) >>> (Int32.toUInt32 (nI 1) &&& Int32.toUInt32 31)).toInt32 &&& (1431655765))) &&& 858993459) + ((Int32.toUInt32 ((nI m) - ((Int32.toUInt32 (nI m) >>> (Int32.toUInt32 (nI 1) &&& Int32.toUInt32 31)).toInt32 &&& (1431655765))) >>> (Int32.toUInt32 (nI 2) &&& Int32.toUInt32 31)).toInt32 &&& 858993459)) >>> (Int32.toUInt32 (nI 4) &&& Int32.toUInt32 31)).toInt32) &&& 252645135)) >>> (Int32.toUInt32 (nI 8) &&& Int32.toUInt32 31)).toInt32)) + (Int32.toUInt32 (((((((((nI m) - ((Int32.toUInt32 (nI m) >>> (Int32.toUInt32 (nI 1) &&& Int32.toUInt32 31)).toInt32 &&& (1431655765))) &&& 858993459) + ((Int32.toUInt32 ((nI m) - ((Int32.toUInt32 (nI m) >>> (Int32.toUInt32 (nI 1) &&& Int32.toUInt32 31)).toInt32 &&& (1431655765))) >>> (Int32.toUInt32 (nI 2) &&& Int32.toUInt32 31)).toInt32 &&& 858993459)) + (Int32.toUInt32 ((((nI m) - ((Int32.toUInt32 (nI m) >>> (Int32.toUInt32 (nI 1) &&& Int32.toUInt32 31)).toInt32 &&& (1431655765))) &&& 858993459) + ((Int32.toUInt32 ((nI m) - ((Int32.toUInt32 (nI m) >>> (Int32.toUInt32 (nI 1) &&& Int32.toUInt32 31)).toInt32 &&& (1431655765))) >>> (Int32.toUInt32 (nI 2) &&& Int32.toUInt32 31)).toInt32 &&& 858993459)) >>> (Int32.toUInt32 (nI 4) &&& Int32.toUInt32 31)).toInt32) &&& 252645135)) + (Int32.toUInt32 (((((((nI m) - ((Int32.toUInt32 (nI m) >>> (Int32.toUInt32 (nI 1) &&& Int32.toUInt32 31)).toInt32 &&& (1431655765))) &&& 858993459) + ((Int32.toUInt32 ((nI m) - ((Int32.toUInt32 (nI m) >>> (Int32.toUInt32 (nI 1) &&& Int32.toUInt32 31)).toInt32 &&& (1431655765))) >>> (Int32.toUInt32 (nI 2) &&& Int32.toUInt32 31)).toInt32 &&& 858993459)) + (Int32.toUInt32 ((((nI m) - ((Int32.toUInt32 (nI m) >>> (Int32.toUInt32 (nI 1) &&& Int32.toUInt32 31)).toInt32 &&& (1431655765))) &&& 858993459) + ((Int32.toUInt32 ((nI m) - ((Int32.toUInt32 (nI m) >>> (Int32.toUInt32 (nI 1) &&& Int32.toUInt32 31)).toInt32 &&& (1431655765))) >>> (Int32.toUInt32 (nI 2) &&& Int32.toUInt32 31)).toInt32 &&& 858993459)) >>> (Int32.toUInt32 (nI 4) &&& Int32.toUInt32 31)).toInt32) &&& 252645135)) >>> (Int32.toUInt32 (nI 8) &&& Int32.toUInt32 31)).toInt32)) >>> (Int32.toUInt32 (nI 16) &&& Int32.toUInt32 31)).toInt32)) &&& nI 63 = nI (pcn m) := by decide +kernel
set_option maxHeartbeats 1000000 in
theorem c_bitCount (Γ : kGm) {μ : kM} {q : kq4} (m : Nat) (hm : m < 64) : gC Γ yJ6_bitCount_0f7a4 mJ6_bitCount_0f7a4 1 [.int (nI m)] μ q (fun r μ' q' => r = some (.int (nI (pcn m))) ∧ μ' = μ ∧ q' = q) := by
  refine gC.ofG (n := 0) ⟨by decide +kernel, rfl, rfl, by decide⟩ (Nat.le_of_ble_eq_true rfl) ?_
  show gG Γ mJ6_bitCount_0f7a4 1 0 [some (.int (nI m))] [] μ q _
  refine kG.iload_n 1 dJ6_bitCount_0f7a4_0 rfl rfl ?_
  refine kG.iload_n 2 dJ6_bitCount_0f7a4_1 rfl rfl ?_
  refine kG.iconst (v := nI 1) 3 dJ6_bitCount_0f7a4_2 (by decide) rfl ?_
  refine kG.iushr 4 dJ6_bitCount_0f7a4_3 rfl ?_
  refine kG.ldcw 7 dJ6_bitCount_0f7a4_4 kJ6_265 rfl ?_
  refine kG.iand 8 dJ6_bitCount_0f7a4_7 rfl ?_
  refine kG.isub 9 dJ6_bitCount_0f7a4_8 rfl ?_
  refine kG.istore_n 10 dJ6_bitCount_0f7a4_9 (by decide) rfl rfl ?_
  dsimp only [List.set]
  refine kG.iload_n 11 dJ6_bitCount_0f7a4_10 rfl rfl ?_
  refine kG.ldcw 14 dJ6_bitCount_0f7a4_11 kJ6_266 rfl ?_
  refine kG.iand 15 dJ6_bitCount_0f7a4_14 rfl ?_
  refine kG.iload_n 16 dJ6_bitCount_0f7a4_15 rfl rfl ?_
  refine kG.iconst (v := nI 2) 17 dJ6_bitCount_0f7a4_16 (by decide) rfl ?_
  refine kG.iushr 18 dJ6_bitCount_0f7a4_17 rfl ?_
  refine kG.ldcw 21 dJ6_bitCount_0f7a4_18 kJ6_266 rfl ?_
  refine kG.iand 22 dJ6_bitCount_0f7a4_21 rfl ?_
  refine kG.iadd 23 dJ6_bitCount_0f7a4_22 rfl ?_
  refine kG.istore_n 24 dJ6_bitCount_0f7a4_23 (by decide) rfl rfl ?_
  dsimp only [List.set]
  refine kG.iload_n 25 dJ6_bitCount_0f7a4_24 rfl rfl ?_
  refine kG.iload_n 26 dJ6_bitCount_0f7a4_25 rfl rfl ?_
  refine kG.iconst (v := nI 4) 27 dJ6_bitCount_0f7a4_26 (by decide) rfl ?_
  refine kG.iushr 28 dJ6_bitCount_0f7a4_27 rfl ?_
  refine kG.iadd 29 dJ6_bitCount_0f7a4_28 rfl ?_
  refine kG.ldcw 32 dJ6_bitCount_0f7a4_29 kJ6_267 rfl ?_
  refine kG.iand 33 dJ6_bitCount_0f7a4_32 rfl ?_
  refine kG.istore_n 34 dJ6_bitCount_0f7a4_33 (by decide) rfl rfl ?_
  dsimp only [List.set]
  refine kG.iload_n 35 dJ6_bitCount_0f7a4_34 rfl rfl ?_
  refine kG.iload_n 36 dJ6_bitCount_0f7a4_35 rfl rfl ?_
  refine kG.bipush (v := nI 8) 38 dJ6_bitCount_0f7a4_36 (by decide) rfl ?_
  refine kG.iushr 39 dJ6_bitCount_0f7a4_38 rfl ?_
  refine kG.iadd 40 dJ6_bitCount_0f7a4_39 rfl ?_
  refine kG.istore_n 41 dJ6_bitCount_0f7a4_40 (by decide) rfl rfl ?_
  dsimp only [List.set]
  refine kG.iload_n 42 dJ6_bitCount_0f7a4_41 rfl rfl ?_
  refine kG.iload_n 43 dJ6_bitCount_0f7a4_42 rfl rfl ?_
  refine kG.bipush (v := nI 16) 45 dJ6_bitCount_0f7a4_43 (by decide) rfl ?_
  refine kG.iushr 46 dJ6_bitCount_0f7a4_45 rfl ?_
  refine kG.iadd 47 dJ6_bitCount_0f7a4_46 rfl ?_
  refine kG.istore_n 48 dJ6_bitCount_0f7a4_47 (by decide) rfl rfl ?_
  dsimp only [List.set]
  refine kG.iload_n 49 dJ6_bitCount_0f7a4_48 rfl rfl ?_
  refine kG.bipush (v := nI 63) 51 dJ6_bitCount_0f7a4_49 (by decide) rfl ?_
  refine kG.iand 52 dJ6_bitCount_0f7a4_51 rfl ?_
  refine gG.iret dJ6_bitCount_0f7a4_52 rfl ?_
  exact ⟨congrArg (fun z => some (Value.int z)) (bc_key m hm), rfl, rfl⟩
end
section
/-! THE DOCUMENT'S WEEKS, in numbers. D: what a TEXT told (houses, persons; comes, bears; kind, town, house, burns, mends). -/
abbrev Dt : Type := Nat × Nat × (Nat → Nat) × (Nat → Nat) × (Nat → Nat) × (Nat → Nat) × (Nat → Nat) × (Nat → Nat) × (Nat → Nat)
abbrev dH (D : Dt) : Nat := D.1
abbrev dP (D : Dt) : Nat := D.2.1
abbrev dco (D : Dt) : Nat → Nat := D.2.2.1
abbrev dbe (D : Dt) : Nat → Nat := D.2.2.2.1
abbrev dkd (D : Dt) : Nat → Nat := D.2.2.2.2.1
abbrev dtw (D : Dt) : Nat → Nat := D.2.2.2.2.2.1
abbrev dho (D : Dt) : Nat → Nat := D.2.2.2.2.2.2.1
abbrev dbu (D : Dt) : Nat → Nat := D.2.2.2.2.2.2.2.1
abbrev dme (D : Dt) : Nat → Nat := D.2.2.2.2.2.2.2.2
def okD (D : Dt) : Prop := dH D ≤ 4 ∧ dP D ≤ 6 ∧ (∀ h, h < dH D → dco D h ≤ 99 ∧ 1 ≤ dbe D h ∧ dbe D h ≤ 9) ∧ ∀ p, p < dP D → dkd D p ≤ 2 ∧ dtw D p ≤ 1 ∧ dho D p < dH D ∧ dbu D p ≤ 5 ∧ dme D p ≤ 9
/-- the class holds D at the cell t -/
def TD (D : Dt) (t : Nat) (μ : kM) : Prop := μ t 8 = nI (dH D) ∧ μ t 9 = nI (dP D) ∧ (∀ h, h < dH D → μ (t + 1 + 0) h = nI (dco D h) ∧ μ (t + 1 + 1) h = nI (dbe D h)) ∧ ∀ p, p < dP D → μ (t + 1 + 2) p = nI (dkd D p) ∧ μ (t + 1 + 3) p = nI (dtw D p) ∧ μ (t + 1 + 4) p = nI (dho D p) ∧ μ (t + 1 + 5) p = nI (dbu D p) ∧ μ (t + 1 + 6) p = nI (dme D p)
theorem TD_fr {D : Dt} {t : Nat} {μ μ' : kM} (h : TD D t μ) (hf : ∀ k, t ≤ k → k ≤ t + 7 → μ' k = μ k) : TD D t μ' := by
  obtain ⟨h1, h2, h3, h4⟩ := h
  have f : ∀ j, j < 7 → μ' (t + 1 + j) = μ (t + 1 + j) := fun j hj => hf _ (by omega) (by omega)
  refine ⟨by rw [hf t (by omega) (by omega)]; exact h1, by rw [hf t (by omega) (by omega)]; exact h2, fun i hi => ?_, fun i hi => ?_⟩
  · rw [f 0 (by omega), f 1 (by omega)]; exact h3 i hi
  · rw [f 2 (by omega), f 3 (by omega), f 4 (by omega), f 5 (by omega), f 6 (by omega)]; exact h4 i hi
/-- what a week's run depends on: persons, seam, comes, bears, wants, house, mends, who is in by half, gifts by week and house -/
abbrev Cf : Type := Nat × Nat × (Nat → Nat) × (Nat → Nat) × (Nat → Nat) × (Nat → Nat) × (Nat → Nat) × (Nat → Nat → Bool) × (Nat → Nat → Nat)
abbrev cP (c : Cf) : Nat := c.1
abbrev cS (c : Cf) : Nat := c.2.1
abbrev cco (c : Cf) : Nat → Nat := c.2.2.1
abbrev cbe (c : Cf) : Nat → Nat := c.2.2.2.1
abbrev cwa (c : Cf) : Nat → Nat := c.2.2.2.2.1
abbrev cho (c : Cf) : Nat → Nat := c.2.2.2.2.2.1
abbrev cme (c : Cf) : Nat → Nat := c.2.2.2.2.2.2.1
abbrev cin (c : Cf) : Nat → Nat → Bool := c.2.2.2.2.2.2.2.1
abbrev cgs (c : Cf) : Nat → Nat → Nat := c.2.2.2.2.2.2.2.2
/-- wood, wear, who is cold -/
abbrev St3 : Type := (Nat → Nat) × (Nat → Nat) × Nat
def tk1 (c : Cf) (p : Nat) (s : St3) : St3 :=
  if 10 * cbe c (cho c p) ≤ s.2.1 (cho c p) then (s.1, s.2.1, s.2.2 ||| 2 ^ p)
  else if cwa c p ≤ s.1 (cho c p) then (fu s.1 (cho c p) (s.1 (cho c p) - cwa c p), fu s.2.1 (cho c p) (s.2.1 (cho c p) + 1), s.2.2)
  else (s.1, fu s.2.1 (cho c p) (s.2.1 (cho c p) + 1), s.2.2 ||| 2 ^ p)
def tkN (c : Cf) (f : Nat → Bool) : Nat → St3 → St3
  | 0, s => s
  | p + 1, s => if f p then tk1 c p (tkN c f p s) else tkN c f p s
def md1 (c : Cf) (p : Nat) (wr : Nat → Nat) : Nat → Nat := if 10 * cbe c (cho c p) ≤ wr (cho c p) then wr else fu wr (cho c p) (wr (cho c p) - cme c p)
def mdN (c : Cf) (f : Nat → Bool) : Nat → (Nat → Nat) → (Nat → Nat)
  | 0, wr => wr
  | p + 1, wr => if f p then md1 c p (mdN c f p wr) else mdN c f p wr
/-- a half -/
def hfS (c : Cf) (half : Nat) (wd wr : Nat → Nat) : St3 :=
  let s := tkN c (cin c half) (cP c) (wd, wr, 0)
  if half + 1 = cS c ∨ half = 13 then (s.1, mdN c (fun p => cin c half p && !s.2.2.testBit p) (cP c) s.2.1, s.2.2) else s
def bwS (c : Cf) (week : Nat) (wd : Nat → Nat) : Nat → Nat := fun h => min 99 (wd h + cco c h + cgs c week h)
/-- behind t halves -/
def smS (c : Cf) : Nat → St3
  | 0 => (fun _ => 0, fun _ => 0, 0)
  | t + 1 => hfS c (t % 14) (if t % 14 = 0 then bwS c (t / 14) (smS c t).1 else (smS c t).1) (smS c t).2.1
/-- bounds -/
def bdS (H : Nat) (wd wr : Nat → Nat) : Prop := ∀ h, h < H → wd h ≤ 99 ∧ wr h ≤ 90
def okC (H : Nat) (c : Cf) : Prop := H ≤ 4 ∧ cP c ≤ 6 ∧ 1 ≤ cS c ∧ cS c ≤ 13 ∧ (∀ h, h < H → cco c h ≤ 99 ∧ cbe c h ≤ 9) ∧ (∀ p, p < cP c → cwa c p ≤ 12 ∧ cho c p < H ∧ cme c p ≤ 9) ∧ ∀ w h, cgs c w h ≤ 1000
theorem bd_fu {H : Nat} {wd wr : Nat → Nat} {k v : Nat} (h : bdS H wd wr) (hv : v ≤ 99) : bdS H (fu wd k v) wr := fun i hi => by
  by_cases e : i = k
  · subst e; rw [fu_s]; exact ⟨hv, (h i hi).2⟩
  · rw [fu_n e]; exact h i hi
theorem bd_fu2 {H : Nat} {wd wr : Nat → Nat} {k v : Nat} (h : bdS H wd wr) (hv : v ≤ 90) : bdS H wd (fu wr k v) := fun i hi => by
  by_cases e : i = k
  · subst e; rw [fu_s]; exact ⟨(h i hi).1, hv⟩
  · rw [fu_n e]; exact h i hi
theorem tk1_bd {H : Nat} {c : Cf} {p : Nat} {s : St3} (hc : okC H c) (hp : p < cP c) (h : bdS H s.1 s.2.1) : bdS H (tk1 c p s).1 (tk1 c p s).2.1 := by
  have hh := (hc.2.2.2.2.2.1 p hp).2.1
  have hb := (hc.2.2.2.2.1 _ hh).2
  have h1 := h _ hh
  unfold tk1
  split
  · exact h
  · split
    · exact bd_fu2 (bd_fu h (by omega)) (by omega)
    · exact bd_fu2 h (by omega)
theorem tk1_lt {c : Cf} {p : Nat} {s : St3} {n : Nat} (hp : p < n) (h : s.2.2 < 2 ^ n) : (tk1 c p s).2.2 < 2 ^ n := by
  unfold tk1
  split
  · exact or_pow_lt h hp
  · split
    · exact h
    · exact or_pow_lt h hp
theorem tkN_bd {H : Nat} {c : Cf} {f : Nat → Bool} {s : St3} (hc : okC H c) (h : bdS H s.1 s.2.1) : ∀ p, p ≤ cP c → bdS H (tkN c f p s).1 (tkN c f p s).2.1
  | 0, _ => h
  | p + 1, hp => by
    have ih := tkN_bd (f := f) hc h p (by omega)
    unfold tkN
    split
    · exact tk1_bd hc (by omega) ih
    · exact ih
theorem tkN_lt {c : Cf} {f : Nat → Bool} {s : St3} {n : Nat} (h : s.2.2 < 2 ^ n) : ∀ p, p ≤ n → (tkN c f p s).2.2 < 2 ^ n
  | 0, _ => h
  | p + 1, hp => by
    have ih := tkN_lt (c := c) (f := f) h p (by omega)
    unfold tkN
    split
    · exact tk1_lt (by omega) ih
    · exact ih
theorem md1_bd {H : Nat} {c : Cf} {p : Nat} {wd wr : Nat → Nat} (h : bdS H wd wr) (hp : cho c p < H) : bdS H wd (md1 c p wr) := by
  unfold md1
  split
  · exact h
  · exact bd_fu2 h (by have := (h _ hp).2; omega)
theorem mdN_bd {H : Nat} {c : Cf} {f : Nat → Bool} {wd wr : Nat → Nat} (hc : okC H c) (h : bdS H wd wr) : ∀ p, p ≤ cP c → bdS H wd (mdN c f p wr)
  | 0, _ => h
  | p + 1, hp => by
    have ih := mdN_bd (f := f) hc h p (by omega)
    unfold mdN
    split
    · exact md1_bd ih (hc.2.2.2.2.2.1 p (by omega)).2.1
    · exact ih
theorem bw_bd {H : Nat} {c : Cf} {w : Nat} {wd wr : Nat → Nat} (h : bdS H wd wr) : bdS H (bwS c w wd) wr := fun i hi => ⟨Nat.min_le_left _ _, (h i hi).2⟩
theorem hf_bd {H : Nat} {c : Cf} {half : Nat} {wd wr : Nat → Nat} (hc : okC H c) (h : bdS H wd wr) : bdS H (hfS c half wd wr).1 (hfS c half wd wr).2.1 := by
  have h1 := tkN_bd (f := cin c half) (s := (wd, wr, 0)) hc h (cP c) (Nat.le_refl _)
  unfold hfS
  by_cases e : half + 1 = cS c ∨ half = 13
  · simp only [e, if_true]
    exact mdN_bd hc h1 _ (Nat.le_refl _)
  · simp only [e, if_false]
    exact h1
theorem hf_lt {H : Nat} {c : Cf} {half : Nat} {wd wr : Nat → Nat} (hc : okC H c) : (hfS c half wd wr).2.2 < 2 ^ cP c := by
  have h1 := tkN_lt (c := c) (f := cin c half) (s := (wd, wr, 0)) (n := cP c) (Nat.two_pow_pos _) (cP c) (Nat.le_refl _)
  unfold hfS
  by_cases e : half + 1 = cS c ∨ half = 13
  · simp only [e, if_true]; exact h1
  · simp only [e, if_false]; exact h1
theorem sm_bd {H : Nat} {c : Cf} (hc : okC H c) : ∀ t, bdS H (smS c t).1 (smS c t).2.1
  | 0 => fun _ _ => ⟨Nat.zero_le _, Nat.zero_le _⟩
  | t + 1 => by
    have ih := sm_bd hc t
    unfold smS
    apply hf_bd hc
    split
    · exact bw_bd ih
    · exact ih
theorem sm_lt {H : Nat} {c : Cf} (hc : okC H c) : ∀ t, (smS c t).2.2 < 2 ^ cP c
  | 0 => Nat.two_pow_pos _
  | t + 1 => by unfold smS; exact hf_lt hc
/-- wants of a kind -/
def wan (k b : Nat) : Nat := if k = 0 then b else if k = 1 then b + 1 else 2 * (b + 1)
theorem wan_le {k b : Nat} (hb : b ≤ 5) : wan k b ≤ 12 := by
  unfold wan
  split
  · omega
  · split <;> omega
/-- gifts, readings: how many, house, when, how much -/
abbrev Kp : Type := Nat × (Nat → Nat) × (Nat → Nat) × (Nat → Nat)
def KD (G : Kp) (k : Nat) (μ : kM) : Prop := μ k 4 = nI G.1 ∧ ∀ i, i < G.1 → μ (k + 1) i = nI (G.2.1 i) ∧ μ (k + 2) i = nI (G.2.2.1 i) ∧ μ (k + 3) i = nI (G.2.2.2 i)
theorem KD_fr {G : Kp} {k : Nat} {μ μ' : kM} (h : KD G k μ) (hf : ∀ i, k ≤ i → i ≤ k + 3 → μ' i = μ i) : KD G k μ' := by
  refine ⟨by rw [hf k (by omega) (by omega)]; exact h.1, fun i hi => ?_⟩
  rw [hf (k + 1) (by omega) (by omega), hf (k + 2) (by omega) (by omega), hf (k + 3) (by omega) (by omega)]
  exact h.2 i hi
def okG (G : Kp) : Prop := ∀ i, i < G.1 → G.2.1 i < 4 ∧ G.2.2.1 i < 1000 ∧ G.2.2.2 i ≤ 99
def gsN (G : Kp) (h w : Nat) : Nat → Nat
  | 0 => 0
  | i + 1 => gsN G h w i + (if G.2.1 i = h ∧ G.2.2.1 i = w then G.2.2.2 i else 0)
theorem gsN_le {G : Kp} {h w : Nat} (hG : okG G) : ∀ n, n ≤ G.1 → gsN G h w n ≤ 99 * n
  | 0, _ => Nat.zero_le _
  | n + 1, hn => by
    have ih := gsN_le (h := h) (w := w) hG n (by omega)
    have := (hG n (by omega)).2.2
    unfold gsN
    split <;> omega
end
section
theorem lnK_b {a : Nat} (h : isK a) : lnK a < 1000 := by rcases h with rfl | rfl <;> decide
theorem lnK_8 {a : Nat} (h : isK a) : lnK a ≤ 8 := by rcases h with rfl | rfl <;> decide
theorem mk_t {f : Nat → Bool} {p : Nat} (h : f p = true) : mk f (p + 1) = mk f p ||| 2 ^ p := by simp [mk, h]
theorem mk_f {f : Nat → Bool} {p : Nat} (h : f p = false) : mk f (p + 1) = mk f p := by simp [mk, h]
theorem nI_ne {a b : Nat} (ha : a < 2 ^ 31) (hb : b < 2 ^ 31) (h : a ≠ b) : ¬ nI a = nI b := fun z => h ((nI_eq ha hb).mp z)
set_option maxHeartbeats 1000000 in
theorem c_breaksBy (Γ : kGm) {μ : kM} {q : kq4} {t : Nat} (ht : isT t) (h be x : Nat) (hh : h < 4) (hbe : be ≤ 9) (hx : x < 2 ^ 30) (hb : μ (t + 1 + 1) h = nI be) : gC Γ yX2_breaksBy mX2_breaksBy 1 [.ref t, .int (nI h), .int (nI x)] μ q (fun r μ' q' => r = some (.int (b2 (decide (10 * be ≤ x)))) ∧ μ' = μ ∧ q' = q) := by
  refine gC.ofG (n := 0) ⟨by decide +kernel, rfl, rfl, by decide⟩ (Nat.le_of_ble_eq_true rfl) ?_
  show gG Γ mX2_breaksBy 1 0 [some (.ref t), some (.int (nI h)), some (.int (nI x))] [] μ q _
  refine kG.iload_n 1 dX2_breaksBy_0 rfl rfl ?_
  refine kG.bipush (v := nI 10) 3 dX2_breaksBy_1 (by decide) rfl ?_
  refine kG.aload_n 4 dX2_breaksBy_3 rfl rfl ?_
  refine gG.getP 7 dX2_breaksBy_4 fX2_15 (isT_k ht) (isT_s ht) rfl (PI_T ht (by decide)) rfl ?_
  refine kG.iload_n 8 dX2_breaksBy_7 rfl rfl ?_
  refine gG.iald (n := 4) _ 9 dX2_breaksBy_8 (arT_k ht (by decide)) (arT_s ht (by decide)) rfl (by omega) (by decide) rfl ?_
  refine kG.imul 10 dX2_breaksBy_9 rfl ?_
  refine kG.icmp_lt 17 13 dX2_breaksBy_10 (by decide) rfl (fun h10 => ?_) (fun h10 => ?_)
  · rw [hb, pk_mul] at h10
    have hd : ¬ 10 * be ≤ x := by have := (nI_ltI (by omega) (by omega)).mp h10; omega
    refine kG.iconst (v := nI 0) 18 dX2_breaksBy_17 (by decide) rfl ?_
    refine gG.zret dX2_breaksBy_18 rfl rfl ?_
    exact ⟨by simp [b2, hd], rfl, rfl⟩
  · rw [hb, pk_mul] at h10
    have hd : 10 * be ≤ x := Nat.not_lt.mp fun z => h10 (nI_lt z (by omega))
    refine kG.iconst (v := nI 1) 14 dX2_breaksBy_13 (by decide) rfl ?_
    refine kG.goto 18 dX2_breaksBy_14 (by decide) ?_
    refine gG.zret dX2_breaksBy_18 rfl rfl ?_
    exact ⟨by simp [b2, hd], rfl, rfl⟩
set_option maxHeartbeats 1000000 in
theorem dwel_loop (Γ : kGm) {μ : kM} {q : kq4} {t : Nat} (ht : isT t) {D : Dt} (hD : TD D t μ) (ok : okD D) (h : Nat) (hh : h < 2 ^ 30) : ∀ (m i : Nat), i + m = dP D → gG Γ mX2_dwellersOf 1 4 [some (.ref t), some (.int (nI h)), some (.int (nI (mk (fun p => decide (dho D p = h)) i))), some (.int (nI i))] [] (μ) q (fun r μ' q' => r = some (.int (nI (mk (fun p => decide (dho D p = h)) (dP D)))) ∧ μ' = μ ∧ q' = q) := by
  intro m
  induction m with
  | zero =>
    intro i hm
    refine kG.iload_n 5 dX2_dwellersOf_4 rfl rfl ?_
    refine kG.aload_n 6 dX2_dwellersOf_5 rfl rfl ?_
    refine gG.getI 9 dX2_dwellersOf_6 fX2_40 (isT_k ht) (isT_s ht) rfl rfl ?_
    refine kG.icmp_ge 38 12 dX2_dwellersOf_9 (by decide) rfl (fun h9 => ?_) (fun h9 => ?_)
    · refine kG.iload_n 39 dX2_dwellersOf_38 rfl rfl ?_
      refine gG.iret dX2_dwellersOf_39 rfl ?_
      rw [show i = dP D by omega]
      exact ⟨rfl, rfl, rfl⟩
    · rw [hD.2.1] at h9
      exact absurd (nI_le (by omega) (by have := ok.2.1; omega)) h9
  | succ m ih =>
    intro i hm
    have hP := ok.2.1
    have hH := ok.1
    have hho := (ok.2.2.2 i (by omega)).2.2.1
    refine kG.iload_n 5 dX2_dwellersOf_4 rfl rfl ?_
    refine kG.aload_n 6 dX2_dwellersOf_5 rfl rfl ?_
    refine gG.getI 9 dX2_dwellersOf_6 fX2_40 (isT_k ht) (isT_s ht) rfl rfl ?_
    refine kG.icmp_ge 38 12 dX2_dwellersOf_9 (by decide) rfl (fun h9 => ?_) (fun h9 => ?_)
    · rw [hD.2.1] at h9
      exact absurd h9 (nI_ge (by omega) (by omega))
    · refine kG.iload_n 13 dX2_dwellersOf_12 rfl rfl ?_
      refine kG.aload_n 14 dX2_dwellersOf_13 rfl rfl ?_
      refine gG.getP 17 dX2_dwellersOf_14 fX2_24 (isT_k ht) (isT_s ht) rfl (PI_T ht (by decide)) rfl ?_
      refine kG.iload_n 18 dX2_dwellersOf_17 rfl rfl ?_
      refine gG.iald (n := 6) _ 19 dX2_dwellersOf_18 (arT_k ht (by decide)) (arT_s ht (by decide)) rfl (by omega) (by decide) rfl ?_
      refine kG.iload_n 20 dX2_dwellersOf_19 rfl rfl ?_
      refine kG.icmp_ne 29 23 dX2_dwellersOf_20 (by decide) rfl (fun h20 => ?_) (fun h20 => ?_)
      · have hb : (fun p => decide (dho D p = h)) i = false := decide_eq_false (fun z => h20 (by rw [(hD.2.2.2 i (by omega)).2.2.1, z]))
        refine kG.iconst (v := nI 0) 30 dX2_dwellersOf_29 (by decide) rfl ?_
        refine kG.ior 31 dX2_dwellersOf_30 rfl ?_
        first | rw [n_shl (by omega), n_or, ← mk_t (f := (fun p => decide (dho D p = h))) hb] | rw [n_or, Nat.or_zero, ← mk_f (f := (fun p => decide (dho D p = h))) hb]
        refine kG.istore_n 32 dX2_dwellersOf_31 (by decide) rfl rfl ?_
        dsimp only [List.set]
        refine kG.iinc (v := nI (i + 1)) 35 dX2_dwellersOf_32 rfl (nI_1 i) (by decide) rfl rfl ?_
        dsimp only [List.set]
        refine kG.goto 4 dX2_dwellersOf_35 (by decide) ?_
        exact ih (i + 1) (by omega)
      · rw [(hD.2.2.2 i (by omega)).2.2.1] at h20
        have hb : (fun p => decide (dho D p = h)) i = true := decide_eq_true ((nI_eq (by omega) (by omega)).mp h20)
        refine kG.iconst (v := nI 1) 24 dX2_dwellersOf_23 (by decide) rfl ?_
        refine kG.iload_n 25 dX2_dwellersOf_24 rfl rfl ?_
        refine kG.ishl 26 dX2_dwellersOf_25 rfl ?_
        refine kG.goto 30 dX2_dwellersOf_26 (by decide) ?_
        refine kG.ior 31 dX2_dwellersOf_30 rfl ?_
        first | rw [n_shl (by omega), n_or, ← mk_t (f := (fun p => decide (dho D p = h))) hb] | rw [n_or, Nat.or_zero, ← mk_f (f := (fun p => decide (dho D p = h))) hb]
        refine kG.istore_n 32 dX2_dwellersOf_31 (by decide) rfl rfl ?_
        dsimp only [List.set]
        refine kG.iinc (v := nI (i + 1)) 35 dX2_dwellersOf_32 rfl (nI_1 i) (by decide) rfl rfl ?_
        dsimp only [List.set]
        refine kG.goto 4 dX2_dwellersOf_35 (by decide) ?_
        exact ih (i + 1) (by omega)
set_option maxHeartbeats 1000000 in
theorem c_dwellersOf (Γ : kGm) {μ : kM} {q : kq4} {t : Nat} (ht : isT t) {D : Dt} (hD : TD D t μ) (ok : okD D) (h : Nat) (hh : h < 2 ^ 30) : gC Γ yX2_dwellersOf mX2_dwellersOf 1 [.ref t, .int (nI h)] μ q (fun r μ' q' => r = some (.int (nI (mk (fun p => decide (dho D p = h)) (dP D)))) ∧ μ' = μ ∧ q' = q) := by
  refine gC.ofG (n := 0) ⟨by decide +kernel, rfl, rfl, by decide⟩ (Nat.le_of_ble_eq_true rfl) ?_
  show gG Γ mX2_dwellersOf 1 0 [some (.ref t), some (.int (nI h)), none, none] [] μ q _
  refine kG.iconst (v := nI 0) 1 dX2_dwellersOf_0 (by decide) rfl ?_
  refine kG.istore_n 2 dX2_dwellersOf_1 (by decide) rfl rfl ?_
  dsimp only [List.set]
  refine kG.iconst (v := nI 0) 3 dX2_dwellersOf_2 (by decide) rfl ?_
  refine kG.istore_n 4 dX2_dwellersOf_3 (by decide) rfl rfl ?_
  dsimp only [List.set]
  exact dwel_loop Γ ht hD ok h hh (dP D) 0 (by omega)
set_option maxHeartbeats 1000000 in
theorem town_loop (Γ : kGm) {μ : kM} {q : kq4} {t : Nat} (ht : isT t) {D : Dt} (hD : TD D t μ) (ok : okD D) (inn : Nat) (hi : inn ≤ 1) (x y : Int32) : ∀ (m i : Nat), i + m = dP D → gG Γ mX2_townIn 1 17 [some (.ref t), some (.int x), some (.int y), some (.int (nI inn)), some (.int (nI (mk (fun p => decide (dtw D p = inn)) i))), some (.int (nI i))] [] (μ) q (fun r μ' q' => r = some (.int (nI (mk (fun p => decide (dtw D p = inn)) (dP D)))) ∧ μ' = μ ∧ q' = q) := by
  intro m
  induction m with
  | zero =>
    intro i hm
    refine kG.iload 19 dX2_townIn_17 rfl rfl ?_
    refine kG.aload_n 20 dX2_townIn_19 rfl rfl ?_
    refine gG.getI 23 dX2_townIn_20 fX2_40 (isT_k ht) (isT_s ht) rfl rfl ?_
    refine kG.icmp_ge 56 26 dX2_townIn_23 (by decide) rfl (fun h23 => ?_) (fun h23 => ?_)
    · refine kG.iload 58 dX2_townIn_56 rfl rfl ?_
      refine gG.iret dX2_townIn_58 rfl ?_
      rw [show i = dP D by omega]
      exact ⟨rfl, rfl, rfl⟩
    · rw [hD.2.1] at h23
      exact absurd (nI_le (by omega) (by have := ok.2.1; omega)) h23
  | succ m ih =>
    intro i hm
    have hP := ok.2.1
    have htw := (ok.2.2.2 i (by omega)).2.1
    refine kG.iload 19 dX2_townIn_17 rfl rfl ?_
    refine kG.aload_n 20 dX2_townIn_19 rfl rfl ?_
    refine gG.getI 23 dX2_townIn_20 fX2_40 (isT_k ht) (isT_s ht) rfl rfl ?_
    refine kG.icmp_ge 56 26 dX2_townIn_23 (by decide) rfl (fun h23 => ?_) (fun h23 => ?_)
    · rw [hD.2.1] at h23
      exact absurd h23 (nI_ge (by omega) (by omega))
    · refine kG.iload 28 dX2_townIn_26 rfl rfl ?_
      refine kG.aload_n 29 dX2_townIn_28 rfl rfl ?_
      refine gG.getP 32 dX2_townIn_29 fX2_21 (isT_k ht) (isT_s ht) rfl (PI_T ht (by decide)) rfl ?_
      refine kG.iload 34 dX2_townIn_32 rfl rfl ?_
      refine gG.iald (n := 6) _ 35 dX2_townIn_34 (arT_k ht (by decide)) (arT_s ht (by decide)) rfl (by omega) (by decide) rfl ?_
      refine kG.iload_n 36 dX2_townIn_35 rfl rfl ?_
      refine kG.icmp_ne 46 39 dX2_townIn_36 (by decide) rfl (fun h36 => ?_) (fun h36 => ?_)
      · have hb : (fun p => decide (dtw D p = inn)) i = false := decide_eq_false (fun z => h36 (by rw [(hD.2.2.2 i (by omega)).2.1, z]))
        refine kG.iconst (v := nI 0) 47 dX2_townIn_46 (by decide) rfl ?_
        refine kG.ior 48 dX2_townIn_47 rfl ?_
        first | rw [n_shl (by omega), n_or, ← mk_t (f := (fun p => decide (dtw D p = inn))) hb] | rw [n_or, Nat.or_zero, ← mk_f (f := (fun p => decide (dtw D p = inn))) hb]
        refine kG.istore 50 dX2_townIn_48 (by decide) rfl rfl ?_
        dsimp only [List.set]
        refine kG.iinc (v := nI (i + 1)) 53 dX2_townIn_50 rfl (nI_1 i) (by decide) rfl rfl ?_
        dsimp only [List.set]
        refine kG.goto 17 dX2_townIn_53 (by decide) ?_
        exact ih (i + 1) (by omega)
      · rw [(hD.2.2.2 i (by omega)).2.1] at h36
        have hb : (fun p => decide (dtw D p = inn)) i = true := decide_eq_true ((nI_eq (by omega) (by omega)).mp h36)
        refine kG.iconst (v := nI 1) 40 dX2_townIn_39 (by decide) rfl ?_
        refine kG.iload 42 dX2_townIn_40 rfl rfl ?_
        refine kG.ishl 43 dX2_townIn_42 rfl ?_
        refine kG.goto 47 dX2_townIn_43 (by decide) ?_
        refine kG.ior 48 dX2_townIn_47 rfl ?_
        first | rw [n_shl (by omega), n_or, ← mk_t (f := (fun p => decide (dtw D p = inn))) hb] | rw [n_or, Nat.or_zero, ← mk_f (f := (fun p => decide (dtw D p = inn))) hb]
        refine kG.istore 50 dX2_townIn_48 (by decide) rfl rfl ?_
        dsimp only [List.set]
        refine kG.iinc (v := nI (i + 1)) 53 dX2_townIn_50 rfl (nI_1 i) (by decide) rfl rfl ?_
        dsimp only [List.set]
        refine kG.goto 17 dX2_townIn_53 (by decide) ?_
        exact ih (i + 1) (by omega)
set_option maxHeartbeats 1000000 in
theorem c_townIn (Γ : kGm) {μ : kM} {q : kq4} {t : Nat} (ht : isT t) {D : Dt} (hD : TD D t μ) (ok : okD D) (a b : Nat) (ha : a < 2 ^ 30) (hb : b < 2 ^ 30) : gC Γ yX2_townIn mX2_townIn 1 [.ref t, .int (nI a), .int (nI b)] μ q (fun r μ' q' => r = some (.int (nI (mk (fun p => decide (dtw D p = if a < b then 0 else 1)) (dP D)))) ∧ μ' = μ ∧ q' = q) := by
  refine gC.ofG (n := 0) ⟨by decide +kernel, rfl, rfl, by decide⟩ (Nat.le_of_ble_eq_true rfl) ?_
  show gG Γ mX2_townIn 1 0 [some (.ref t), some (.int (nI a)), some (.int (nI b)), none, none, none] [] μ q _
  refine kG.iload_n 1 dX2_townIn_0 rfl rfl ?_
  refine kG.iload_n 2 dX2_townIn_1 rfl rfl ?_
  refine kG.icmp_ge 9 5 dX2_townIn_2 (by decide) rfl (fun h2 => ?_) (fun h2 => ?_)
  · have e : (if a < b then 0 else 1) = 1 := if_neg (by have := (nI_leI (by omega) (by omega)).mp h2; omega)
    refine kG.iconst (v := nI 1) 10 dX2_townIn_9 (by decide) rfl ?_
    refine kG.istore_n 11 dX2_townIn_10 (by decide) rfl rfl ?_
    dsimp only [List.set]
    refine kG.iconst (v := nI 0) 12 dX2_townIn_11 (by decide) rfl ?_
    refine kG.istore 14 dX2_townIn_12 (by decide) rfl rfl ?_
    dsimp only [List.set]
    refine kG.iconst (v := nI 0) 15 dX2_townIn_14 (by decide) rfl ?_
    refine kG.istore 17 dX2_townIn_15 (by decide) rfl rfl ?_
    dsimp only [List.set]
    rw [e]
    exact town_loop Γ ht hD ok _ (by decide) _ _ (dP D) 0 (by omega)
  · have e : (if a < b then 0 else 1) = 0 := if_pos (Nat.not_le.mp fun z => h2 (nI_le z (by omega)))
    refine kG.iconst (v := nI 0) 6 dX2_townIn_5 (by decide) rfl ?_
    refine kG.goto 10 dX2_townIn_6 (by decide) ?_
    refine kG.istore_n 11 dX2_townIn_10 (by decide) rfl rfl ?_
    dsimp only [List.set]
    refine kG.iconst (v := nI 0) 12 dX2_townIn_11 (by decide) rfl ?_
    refine kG.istore 14 dX2_townIn_12 (by decide) rfl rfl ?_
    dsimp only [List.set]
    refine kG.iconst (v := nI 0) 15 dX2_townIn_14 (by decide) rfl ?_
    refine kG.istore 17 dX2_townIn_15 (by decide) rfl rfl ?_
    dsimp only [List.set]
    rw [e]
    exact town_loop Γ ht hD ok _ (by decide) _ _ (dP D) 0 (by omega)
set_option maxHeartbeats 1000000 in
theorem sum_loop (Γ : kGm) {μ : kM} {q : kq4} {k : Nat} (hk : isK k) {G : Kp} (hG : KD G k μ) (ok : okG G) (hn : G.1 ≤ lnK k) (h w : Nat) (hh : h < 2 ^ 30) (hw : w < 2 ^ 30) : ∀ (m i : Nat), i + m = G.1 → gG Γ mX0_sumOf 1 5 [some (.ref k), some (.int (nI h)), some (.int (nI w)), some (.int (nI (gsN G h w i))), some (.int (nI i))] [] (μ) q (fun r μ' q' => r = some (.int (nI (gsN G h w G.1))) ∧ μ' = μ ∧ q' = q) := by
  intro m
  induction m with
  | zero =>
    intro i hm
    have h8 := lnK_8 hk
    refine kG.iload 7 dX0_sumOf_5 rfl rfl ?_
    refine kG.aload_n 8 dX0_sumOf_7 rfl rfl ?_
    refine gG.getI 11 dX0_sumOf_8 fX0_9 (isK_k hk) (isK_s hk) rfl rfl ?_
    refine kG.icmp_ge 56 14 dX0_sumOf_11 (by decide) rfl (fun h11 => ?_) (fun h11 => ?_)
    · refine kG.iload_n 57 dX0_sumOf_56 rfl rfl ?_
      refine gG.iret dX0_sumOf_57 rfl ?_
      rw [show i = G.1 by omega]
      exact ⟨rfl, rfl, rfl⟩
    · rw [hG.1] at h11
      exact absurd (nI_le (by omega) (by omega)) h11
  | succ m ih =>
    intro i hm
    have h8 := lnK_8 hk
    obtain ⟨g1, g2, g3⟩ := hG.2 i (by omega)
    obtain ⟨o1, o2, o3⟩ := ok i (by omega)
    refine kG.iload 7 dX0_sumOf_5 rfl rfl ?_
    refine kG.aload_n 8 dX0_sumOf_7 rfl rfl ?_
    refine gG.getI 11 dX0_sumOf_8 fX0_9 (isK_k hk) (isK_s hk) rfl rfl ?_
    refine kG.icmp_ge 56 14 dX0_sumOf_11 (by decide) rfl (fun h11 => ?_) (fun h11 => ?_)
    · rw [hG.1] at h11
      exact absurd h11 (nI_ge (by omega) (by omega))
    · refine kG.iload_n 15 dX0_sumOf_14 rfl rfl ?_
      refine kG.aload_n 16 dX0_sumOf_15 rfl rfl ?_
      refine gG.getP 19 dX0_sumOf_16 fX0_24 (isK_k hk) (isK_s hk) rfl (PI_K hk (by decide) (by decide)) rfl ?_
      refine kG.iload 21 dX0_sumOf_19 rfl rfl ?_
      refine gG.iald _ 22 dX0_sumOf_21 (arK_k hk (by decide)) (arK_s hk (by decide) (by decide)) rfl (by omega) (lnK_b hk) rfl ?_
      refine kG.iload_n 23 dX0_sumOf_22 rfl rfl ?_
      refine kG.icmp_ne 47 26 dX0_sumOf_23 (by decide) rfl (fun h23 => ?_) (fun h23 => ?_)
      · have hb : ¬ (G.2.1 i = h ∧ G.2.2.1 i = w) := fun z => h23 (by rw [g1, z.1])
        refine kG.iconst (v := nI 0) 48 dX0_sumOf_47 (by decide) rfl ?_
        refine kG.iadd 49 dX0_sumOf_48 rfl ?_
        first | rw [g3, nI_add, show gsN G h w i + G.2.2.2 i = gsN G h w (i + 1) by rw [gsN, if_pos hb]] | rw [nI_add, show gsN G h w i + 0 = gsN G h w (i + 1) by rw [gsN, if_neg hb]]
        refine kG.istore_n 50 dX0_sumOf_49 (by decide) rfl rfl ?_
        dsimp only [List.set]
        refine kG.iinc (v := nI (i + 1)) 53 dX0_sumOf_50 rfl (nI_1 i) (by decide) rfl rfl ?_
        dsimp only [List.set]
        refine kG.goto 5 dX0_sumOf_53 (by decide) ?_
        exact ih (i + 1) (by omega)
      · rw [g1] at h23
        have hb1 : G.2.1 i = h := (nI_eq (by omega) (by omega)).mp h23
        refine kG.aload_n 27 dX0_sumOf_26 rfl rfl ?_
        refine gG.getP 30 dX0_sumOf_27 fX0_28 (isK_k hk) (isK_s hk) rfl (PI_K hk (by decide) (by decide)) rfl ?_
        refine kG.iload 32 dX0_sumOf_30 rfl rfl ?_
        refine gG.iald _ 33 dX0_sumOf_32 (arK_k hk (by decide)) (arK_s hk (by decide) (by decide)) rfl (by omega) (lnK_b hk) rfl ?_
        refine kG.iload_n 34 dX0_sumOf_33 rfl rfl ?_
        refine kG.icmp_ne 47 37 dX0_sumOf_34 (by decide) rfl (fun h34 => ?_) (fun h34 => ?_)
        · have hb : ¬ (G.2.1 i = h ∧ G.2.2.1 i = w) := fun z => h34 (by rw [g2, z.2])
          refine kG.iconst (v := nI 0) 48 dX0_sumOf_47 (by decide) rfl ?_
          refine kG.iadd 49 dX0_sumOf_48 rfl ?_
          first | rw [g3, nI_add, show gsN G h w i + G.2.2.2 i = gsN G h w (i + 1) by rw [gsN, if_pos hb]] | rw [nI_add, show gsN G h w i + 0 = gsN G h w (i + 1) by rw [gsN, if_neg hb]]
          refine kG.istore_n 50 dX0_sumOf_49 (by decide) rfl rfl ?_
          dsimp only [List.set]
          refine kG.iinc (v := nI (i + 1)) 53 dX0_sumOf_50 rfl (nI_1 i) (by decide) rfl rfl ?_
          dsimp only [List.set]
          refine kG.goto 5 dX0_sumOf_53 (by decide) ?_
          exact ih (i + 1) (by omega)
        · rw [g2] at h34
          have hb2 : G.2.2.1 i = w := (nI_eq (by omega) (by omega)).mp h34
          have hb : G.2.1 i = h ∧ G.2.2.1 i = w := ⟨hb1, hb2⟩
          refine kG.aload_n 38 dX0_sumOf_37 rfl rfl ?_
          refine gG.getP 41 dX0_sumOf_38 fX0_31 (isK_k hk) (isK_s hk) rfl (PI_K hk (by decide) (by decide)) rfl ?_
          refine kG.iload 43 dX0_sumOf_41 rfl rfl ?_
          refine gG.iald _ 44 dX0_sumOf_43 (arK_k hk (by decide)) (arK_s hk (by decide) (by decide)) rfl (by omega) (lnK_b hk) rfl ?_
          refine kG.goto 48 dX0_sumOf_44 (by decide) ?_
          refine kG.iadd 49 dX0_sumOf_48 rfl ?_
          first | rw [g3, nI_add, show gsN G h w i + G.2.2.2 i = gsN G h w (i + 1) by rw [gsN, if_pos hb]] | rw [nI_add, show gsN G h w i + 0 = gsN G h w (i + 1) by rw [gsN, if_neg hb]]
          refine kG.istore_n 50 dX0_sumOf_49 (by decide) rfl rfl ?_
          dsimp only [List.set]
          refine kG.iinc (v := nI (i + 1)) 53 dX0_sumOf_50 rfl (nI_1 i) (by decide) rfl rfl ?_
          dsimp only [List.set]
          refine kG.goto 5 dX0_sumOf_53 (by decide) ?_
          exact ih (i + 1) (by omega)
set_option maxHeartbeats 1000000 in
theorem c_sumOf (Γ : kGm) {μ : kM} {q : kq4} {k : Nat} (hk : isK k) {G : Kp} (hG : KD G k μ) (ok : okG G) (hn : G.1 ≤ lnK k) (h w : Nat) (hh : h < 2 ^ 30) (hw : w < 2 ^ 30) : gC Γ yX0_sumOf mX0_sumOf 1 [.ref k, .int (nI h), .int (nI w)] μ q (fun r μ' q' => r = some (.int (nI (gsN G h w G.1))) ∧ μ' = μ ∧ q' = q) := by
  refine gC.ofG (n := 0) ⟨by decide +kernel, rfl, rfl, by decide⟩ (Nat.le_of_ble_eq_true rfl) ?_
  show gG Γ mX0_sumOf 1 0 [some (.ref k), some (.int (nI h)), some (.int (nI w)), none, none] [] μ q _
  refine kG.iconst (v := nI 0) 1 dX0_sumOf_0 (by decide) rfl ?_
  refine kG.istore_n 2 dX0_sumOf_1 (by decide) rfl rfl ?_
  dsimp only [List.set]
  refine kG.iconst (v := nI 0) 3 dX0_sumOf_2 (by decide) rfl ?_
  refine kG.istore 5 dX0_sumOf_3 (by decide) rfl rfl ?_
  dsimp only [List.set]
  exact sum_loop Γ hk hG ok hn h w hh hw G.1 0 (by omega)
set_option maxHeartbeats 1000000 in
theorem c_keep (Γ : kGm) {μ : kM} {q : kq4} {k : Nat} (hk : isK k) {G : Kp} (hG : KD G k μ) (hm : μ k 0 = nI (lnK k)) (hn : G.1 ≤ lnK k) (x y z : Int32) : gC Γ yX0_keep mX0_keep 1 [.ref k, .int x, .int y, .int z] μ q (fun r μ' q' => (G.1 = lnK k ∧ r = some (.int (-4)) ∧ μ' = μ ∧ q' = q) ∨ (G.1 < lnK k ∧ r = some (.int (nI G.1)) ∧ μ' = uI (uI (uI (uI μ (k + 1) G.1 x) (k + 2) G.1 y) (k + 3) G.1 z) k 4 (nI (G.1 + 1)) ∧ q' = q)) := by
  refine gC.ofG (n := 0) ⟨by decide +kernel, rfl, rfl, by decide⟩ (Nat.le_of_ble_eq_true rfl) ?_
  show gG Γ mX0_keep 1 0 [some (.ref k), some (.int x), some (.int y), some (.int z)] [] μ q _
  have h8 := lnK_8 hk
  refine kG.aload_n 1 dX0_keep_0 rfl rfl ?_
  refine gG.getI 4 dX0_keep_1 fX0_9 (isK_k hk) (isK_s hk) rfl rfl ?_
  refine kG.aload_n 5 dX0_keep_4 rfl rfl ?_
  refine gG.getI 8 dX0_keep_5 fX0_21 (isK_k hk) (isK_s hk) rfl rfl ?_
  refine kG.icmp_lt 14 11 dX0_keep_8 (by decide) rfl (fun h8_ => ?_) (fun h8_ => ?_)
  · rw [hG.1, hm] at h8_
    have hlt := (nI_ltI (by omega) (by omega)).mp h8_
    refine kG.aload_n 15 dX0_keep_14 rfl rfl ?_
    refine gG.getP 18 dX0_keep_15 fX0_24 (isK_k hk) (isK_s hk) rfl (PI_K hk (by decide) (by decide)) rfl ?_
    refine kG.aload_n 19 dX0_keep_18 rfl rfl ?_
    refine gG.getI 22 dX0_keep_19 fX0_9 (isK_k hk) (isK_s hk) rfl rfl ?_
    refine kG.iload_n 23 dX0_keep_22 rfl rfl ?_
    refine gG.iast G.1 24 dX0_keep_23 (arK_k hk (by decide)) (arK_s hk (by decide) (by decide)) hG.1 hlt (lnK_b hk) rfl ?_
    refine kG.aload_n 25 dX0_keep_24 rfl rfl ?_
    refine gG.getP 28 dX0_keep_25 fX0_28 (isK_k hk) (isK_s hk) rfl (PI_K hk (by decide) (by decide)) rfl ?_
    refine kG.aload_n 29 dX0_keep_28 rfl rfl ?_
    refine gG.getI 32 dX0_keep_29 fX0_9 (isK_k hk) (isK_s hk) rfl rfl ?_
    refine kG.iload_n 33 dX0_keep_32 rfl rfl ?_
    refine gG.iast G.1 34 dX0_keep_33 (arK_k hk (by decide)) (arK_s hk (by decide) (by decide)) (by rw [uI_off (by omega)]; exact hG.1) hlt (lnK_b hk) rfl ?_
    refine kG.aload_n 35 dX0_keep_34 rfl rfl ?_
    refine gG.getP 38 dX0_keep_35 fX0_31 (isK_k hk) (isK_s hk) rfl (PI_K hk (by decide) (by decide)) rfl ?_
    refine kG.aload_n 39 dX0_keep_38 rfl rfl ?_
    refine gG.getI 42 dX0_keep_39 fX0_9 (isK_k hk) (isK_s hk) rfl rfl ?_
    refine kG.iload_n 43 dX0_keep_42 rfl rfl ?_
    refine gG.iast G.1 44 dX0_keep_43 (arK_k hk (by decide)) (arK_s hk (by decide) (by decide)) (by rw [uI_off (by omega), uI_off (by omega)]; exact hG.1) hlt (lnK_b hk) rfl ?_
    refine kG.aload_n 45 dX0_keep_44 rfl rfl ?_
    refine kG.dup 46 dX0_keep_45 rfl rfl ?_
    refine gG.getI 49 dX0_keep_46 fX0_9 (isK_k hk) (isK_s hk) rfl rfl ?_
    have e4 : uI (uI (uI μ (k + 1) G.1 x) (k + 2) G.1 y) (k + 3) G.1 z k 4 = nI G.1 := by rw [uI_off (by omega), uI_off (by omega), uI_off (by omega)]; exact hG.1
    rw [e4]
    refine kG.dup_x1 50 dX0_keep_49 rfl rfl rfl ?_
    refine kG.iconst (v := nI 1) 51 dX0_keep_50 (by decide) rfl ?_
    refine kG.iadd 52 dX0_keep_51 rfl ?_
    rw [show nI G.1 + nI 1 = nI (G.1 + 1) from nI_1 _]
    refine gG.putI 55 dX0_keep_52 fX0_9 (isK_k hk) (isK_s hk) rfl rfl ⟨rfl, rfl⟩ rfl ?_
    refine gG.iret dX0_keep_55 rfl ?_
    exact Or.inr ⟨hlt, rfl, rfl, rfl⟩
  · rw [hG.1, hm] at h8_
    have hlt0 : ¬ G.1 < lnK k := fun z => h8_ (nI_lt z (by omega))
    have hlt : G.1 = lnK k := by omega
    refine kG.bipush (v := (-4)) 13 dX0_keep_11 (by decide) rfl ?_
    refine gG.iret dX0_keep_13 rfl ?_
    exact Or.inl ⟨hlt, rfl, rfl, rfl⟩
set_option maxHeartbeats 1000000 in
theorem c_takeBack (Γ : kGm) {μ : kM} {q : kq4} {k : Nat} (hk : isK k) {G : Kp} (hG : KD G k μ) (hn : G.1 ≤ lnK k) (x : Int32) : gC Γ yX0_takeBack mX0_takeBack 1 [.ref k, .int x] μ q (fun r μ' q' => ((x < 0 ∨ nI G.1 < x) ∧ r = some (.int (-2)) ∧ μ' = μ ∧ q' = q) ∨ ∃ i : Nat, i ≤ G.1 ∧ x = nI i ∧ r = some (.int (nI (G.1 - i))) ∧ μ' = uI μ k 4 (nI (G.1 - i)) ∧ q' = q) := by
  refine gC.ofG (n := 0) ⟨by decide +kernel, rfl, rfl, by decide⟩ (Nat.le_of_ble_eq_true rfl) ?_
  show gG Γ mX0_takeBack 1 0 [some (.ref k), some (.int x)] [] μ q _
  have h8 := lnK_8 hk
  refine kG.iload_n 1 dX0_takeBack_0 rfl rfl ?_
  refine kG.if_lt 12 4 dX0_takeBack_1 (by decide) rfl (fun h1 => ?_) (fun h1 => ?_)
  · refine kG.bipush (v := (-2)) 14 dX0_takeBack_12 (by decide) rfl ?_
    refine gG.iret dX0_takeBack_14 rfl ?_
    first | exact Or.inl ⟨Or.inl h1, rfl, rfl, rfl⟩ | exact Or.inl ⟨Or.inr hb, rfl, rfl, rfl⟩
  · refine kG.iload_n 5 dX0_takeBack_4 rfl rfl ?_
    refine kG.aload_n 6 dX0_takeBack_5 rfl rfl ?_
    refine gG.getI 9 dX0_takeBack_6 fX0_9 (isK_k hk) (isK_s hk) rfl rfl ?_
    refine kG.icmp_le 15 12 dX0_takeBack_9 (by decide) rfl (fun h9 => ?_) (fun h9 => ?_)
    · rw [hG.1] at h9
      obtain ⟨i, hi, rfl⟩ := n_le (n := G.1) (by omega) h1 (Int32.not_lt.mpr h9)
      refine kG.aload_n 16 dX0_takeBack_15 rfl rfl ?_
      refine kG.dup 17 dX0_takeBack_16 rfl rfl ?_
      refine gG.getI 20 dX0_takeBack_17 fX0_9 (isK_k hk) (isK_s hk) rfl rfl ?_
      refine kG.iload_n 21 dX0_takeBack_20 rfl rfl ?_
      rw [hG.1]
      refine kG.isub 22 dX0_takeBack_21 rfl ?_
      rw [pk_sub hi]
      refine gG.putI 25 dX0_takeBack_22 fX0_9 (isK_k hk) (isK_s hk) rfl rfl ⟨rfl, rfl⟩ rfl ?_
      refine kG.aload_n 26 dX0_takeBack_25 rfl rfl ?_
      refine gG.getI 29 dX0_takeBack_26 fX0_9 (isK_k hk) (isK_s hk) rfl rfl ?_
      refine gG.iret dX0_takeBack_29 rfl ?_
      exact Or.inr ⟨i, hi, rfl, by rw [uI_same], rfl, rfl⟩
    · rw [hG.1] at h9
      have hb : nI G.1 < x := Int32.not_le.mp h9
      refine kG.bipush (v := (-2)) 14 dX0_takeBack_12 (by decide) rfl ?_
      refine gG.iret dX0_takeBack_14 rfl ?_
      first | exact Or.inl ⟨Or.inl h1, rfl, rfl, rfl⟩ | exact Or.inl ⟨Or.inr hb, rfl, rfl, rfl⟩
end
section
theorem TW_lt {t w k : Nat} (ht : isT t) (hw : isW w) (h : k ≤ t + 7) : k < 27 ∧ 27 ≤ w := by
  rcases ht with rfl | rfl <;> rcases hw with rfl | rfl <;> omega
/-- the first n places of the cell k hold f -/
def An (k n : Nat) (f : Nat → Nat) (μ : kM) : Prop := ∀ h, h < n → μ k h = nI (f h)
theorem An_uI {k n j v : Nat} {f : Nat → Nat} {μ : kM} (h : An k n f μ) : An k n (fu f j v) (uI μ k j (nI v)) := fun i hi => by
  by_cases e : i = j
  · subst e; rw [uI_same, fu_s]
  · rw [uI_ne (Or.inr e), fu_n e]; exact h i hi
theorem An_off {k n a j : Nat} {v : Int32} {f : Nat → Nat} {μ : kM} (h : An k n f μ) (e : k ≠ a) : An k n f (uI μ a j v) := fun i hi => by rw [uI_off e]; exact h i hi
theorem An_fr {k n : Nat} {f : Nat → Nat} {μ μ' : kM} (h : An k n f μ) (e : μ' k = μ k) : An k n f μ' := fun i hi => by rw [e]; exact h i hi
theorem tq_stq {q : kq4} {w t : Nat} (h : isW w) : tq (stq q w t) w = t := by rcases h with rfl | rfl <;> rfl
theorem PI_W7s {q : kq4} {w t : Nat} (h : isW w) : PI (stq q w t) w 7 = some t := by rw [PI_W7 h, tq_stq h]
def smN (X : Nat → Nat) : Nat → Nat
  | 0 => 0
  | n + 1 => smN X n + X n
theorem smN_le {X : Nat → Nat} {b : Nat} : ∀ n, (∀ h, h < n → X h ≤ b) → smN X n ≤ b * n
  | 0, _ => Nat.zero_le _
  | n + 1, h => by
    have := smN_le n (fun i hi => h i (by omega))
    have := h n (by omega)
    unfold smN
    rw [Nat.mul_succ]
    omega
def chN (C : Nat → Nat) (S : Nat) : Nat → Nat
  | 0 => 0
  | n + 1 => chN C S n + pcn (C n &&& S)
theorem cnt_le (f : Nat → Bool) : ∀ n, cnt f n ≤ n
  | 0 => Nat.le_refl _
  | n + 1 => by
    have := cnt_le f n
    unfold cnt
    split <;> omega
theorem pcn_le (m : Nat) : pcn m ≤ 6 := cnt_le _ 6
theorem chN_le (C : Nat → Nat) (S : Nat) : ∀ n, chN C S n ≤ 6 * n
  | 0 => Nat.le_refl _
  | n + 1 => by
    have := chN_le C S n
    have := pcn_le (C n &&& S)
    unfold chN
    omega
def rdB (X : Nat → Nat → Nat) (G : Kp) : Nat → Bool
  | 0 => true
  | n + 1 => rdB X G n && decide (X (G.2.1 n) (G.2.2.1 n) = G.2.2.2 n)
theorem rdB_f {X : Nat → Nat → Nat} {G : Kp} {i : Nat} (h : ¬ X (G.2.1 i) (G.2.2.1 i) = G.2.2.2 i) : ∀ n, i < n → rdB X G n = false
  | 0, hi => absurd hi (Nat.not_lt_zero _)
  | n + 1, hi => by
    unfold rdB
    by_cases e : i = n
    · subst e; simp [h]
    · rw [rdB_f h n (by omega)]; rfl
set_option maxHeartbeats 1000000 in
theorem c_woodAt (Γ : kGm) {μ : kM} {q : kq4} {w : Nat} (hw : isW w) (h tm : Nat) (hh : h < 4) (ht : tm < 140) : gC Γ yX3_woodAt mX3_woodAt 1 [.ref w, .int (nI h), .int (nI tm)] μ q (fun r μ' q' => r = some (.int (μ (w + 1 + 0) (h * 140 + tm))) ∧ μ' = μ ∧ q' = q) := by
  refine gC.ofG (n := 0) ⟨by decide +kernel, rfl, rfl, by decide⟩ (Nat.le_of_ble_eq_true rfl) ?_
  show gG Γ mX3_woodAt 1 0 [some (.ref w), some (.int (nI h)), some (.int (nI tm))] [] μ q _
  refine kG.aload_n 1 dX3_woodAt_0 rfl rfl ?_
  refine gG.getP 4 dX3_woodAt_1 fX3_9 (isW_k hw) (isW_s hw) rfl (PI_W hw (by decide)) rfl ?_
  refine kG.iload_n 5 dX3_woodAt_4 rfl rfl ?_
  refine kG.sipush (v := nI 140) 8 dX3_woodAt_5 (by decide) rfl ?_
  refine kG.imul 9 dX3_woodAt_8 rfl ?_
  refine kG.iload_n 10 dX3_woodAt_9 rfl rfl ?_
  refine kG.iadd 11 dX3_woodAt_10 rfl ?_
  refine gG.iald (n := 560) (h * 140 + tm) 12 dX3_woodAt_11 (arW_k hw (by decide)) (arW_s hw (by decide)) (by rw [pk_mul, nI_add]) (by omega) (by decide) rfl ?_
  refine gG.iret dX3_woodAt_12 rfl ?_
  exact ⟨rfl, rfl, rfl⟩
set_option maxHeartbeats 1000000 in
theorem c_wearAt (Γ : kGm) {μ : kM} {q : kq4} {w : Nat} (hw : isW w) (h tm : Nat) (hh : h < 4) (ht : tm < 140) : gC Γ yX3_wearAt mX3_wearAt 1 [.ref w, .int (nI h), .int (nI tm)] μ q (fun r μ' q' => r = some (.int (μ (w + 1 + 1) (h * 140 + tm))) ∧ μ' = μ ∧ q' = q) := by
  refine gC.ofG (n := 0) ⟨by decide +kernel, rfl, rfl, by decide⟩ (Nat.le_of_ble_eq_true rfl) ?_
  show gG Γ mX3_wearAt 1 0 [some (.ref w), some (.int (nI h)), some (.int (nI tm))] [] μ q _
  refine kG.aload_n 1 dX3_wearAt_0 rfl rfl ?_
  refine gG.getP 4 dX3_wearAt_1 fX3_15 (isW_k hw) (isW_s hw) rfl (PI_W hw (by decide)) rfl ?_
  refine kG.iload_n 5 dX3_wearAt_4 rfl rfl ?_
  refine kG.sipush (v := nI 140) 8 dX3_wearAt_5 (by decide) rfl ?_
  refine kG.imul 9 dX3_wearAt_8 rfl ?_
  refine kG.iload_n 10 dX3_wearAt_9 rfl rfl ?_
  refine kG.iadd 11 dX3_wearAt_10 rfl ?_
  refine gG.iald (n := 560) (h * 140 + tm) 12 dX3_wearAt_11 (arW_k hw (by decide)) (arW_s hw (by decide)) (by rw [pk_mul, nI_add]) (by omega) (by decide) rfl ?_
  refine gG.iret dX3_wearAt_12 rfl ?_
  exact ⟨rfl, rfl, rfl⟩
set_option maxHeartbeats 1000000 in
theorem c_coldAt (Γ : kGm) {μ : kM} {q : kq4} {w : Nat} (hw : isW w) (tm : Nat) (ht : tm < 140) : gC Γ yX3_coldAt mX3_coldAt 1 [.ref w, .int (nI tm)] μ q (fun r μ' q' => r = some (.int (μ (w + 1 + 2) tm)) ∧ μ' = μ ∧ q' = q) := by
  refine gC.ofG (n := 0) ⟨by decide +kernel, rfl, rfl, by decide⟩ (Nat.le_of_ble_eq_true rfl) ?_
  show gG Γ mX3_coldAt 1 0 [some (.ref w), some (.int (nI tm))] [] μ q _
  refine kG.aload_n 1 dX3_coldAt_0 rfl rfl ?_
  refine gG.getP 4 dX3_coldAt_1 fX3_18 (isW_k hw) (isW_s hw) rfl (PI_W hw (by decide)) rfl ?_
  refine kG.iload_n 5 dX3_coldAt_4 rfl rfl ?_
  refine gG.iald (n := 140) _ 6 dX3_coldAt_5 (arW_k hw (by decide)) (arW_s hw (by decide)) rfl (by omega) (by decide) rfl ?_
  refine gG.iret dX3_coldAt_6 rfl ?_
  exact ⟨rfl, rfl, rfl⟩
set_option maxHeartbeats 1000000 in
theorem wtog_loop (Γ : kGm) {μ : kM} {q : kq4} {w : Nat} (hw : isW w) (htq : isT (tq q w)) {D : Dt} (hD : TD D (tq q w) μ) (ok : okD D) (tm : Nat) (ht : tm < 140) (X : Nat → Nat) (hX : ∀ h, h < dH D → μ (w + 1 + 1) (h * 140 + tm) = nI (X h)) : ∀ (m i : Nat), i + m = dH D → gG Γ mX3_wearTogether 2 4 [some (.ref w), some (.int (nI tm)), some (.int (nI (smN X i))), some (.int (nI i))] [] (μ) q (fun r μ' q' => r = some (.int (nI (smN X (dH D)))) ∧ μ' = μ ∧ q' = q) := by
  intro m
  induction m with
  | zero =>
    intro i hm
    refine kG.iload_n 5 dX3_wearTogether_4 rfl rfl ?_
    refine kG.aload_n 6 dX3_wearTogether_5 rfl rfl ?_
    refine gG.getP 9 dX3_wearTogether_6 fX3_43 (isW_k hw) (isW_s hw) rfl (PI_W7 hw) rfl ?_
    refine gG.getI 12 dX3_wearTogether_9 fX3_91 (isT_k htq) (isT_s htq) rfl rfl ?_
    refine kG.icmp_ge 30 15 dX3_wearTogether_12 (by decide) rfl (fun h12 => ?_) (fun h12 => ?_)
    · refine kG.iload_n 31 dX3_wearTogether_30 rfl rfl ?_
      refine gG.iret dX3_wearTogether_31 rfl ?_
      rw [show i = dH D by omega]
      exact ⟨rfl, rfl, rfl⟩
    · rw [hD.1] at h12
      exact absurd (nI_le (by omega) (by have := ok.1; omega)) h12
  | succ m ih =>
    intro i hm
    have hH := ok.1
    refine kG.iload_n 5 dX3_wearTogether_4 rfl rfl ?_
    refine kG.aload_n 6 dX3_wearTogether_5 rfl rfl ?_
    refine gG.getP 9 dX3_wearTogether_6 fX3_43 (isW_k hw) (isW_s hw) rfl (PI_W7 hw) rfl ?_
    refine gG.getI 12 dX3_wearTogether_9 fX3_91 (isT_k htq) (isT_s htq) rfl rfl ?_
    refine kG.icmp_ge 30 15 dX3_wearTogether_12 (by decide) rfl (fun h12 => ?_) (fun h12 => ?_)
    · rw [hD.1] at h12
      exact absurd h12 (nI_ge (by omega) (by omega))
    · refine kG.iload_n 16 dX3_wearTogether_15 rfl rfl ?_
      refine kG.aload_n 17 dX3_wearTogether_16 rfl rfl ?_
      refine kG.iload_n 18 dX3_wearTogether_17 rfl rfl ?_
      refine kG.iload_n 19 dX3_wearTogether_18 rfl rfl ?_
      refine gG.callV 22 dX3_wearTogether_19 lX3_120 vX3_wearAt (c_wearAt Γ hw i tm (by omega) ht) rfl rfl (isW_k hw) (isW_s hw) ⟨by decide, rfl⟩ ⟨by decide, by decide⟩ (Nat.le_of_ble_eq_true rfl) rfl (fun r19 μ19 q19 hc19 => ?_)
      obtain ⟨rfl, rfl, rfl⟩ := hc19
      refine kG.iadd 23 dX3_wearTogether_22 rfl ?_
      rw [hX i (by omega), nI_add, show smN X i + X i = smN X (i + 1) from rfl]
      refine kG.istore_n 24 dX3_wearTogether_23 (by decide) rfl rfl ?_
      dsimp only [List.set]
      refine kG.iinc (v := nI (i + 1)) 27 dX3_wearTogether_24 rfl (nI_1 i) (by decide) rfl rfl ?_
      dsimp only [List.set]
      refine kG.goto 4 dX3_wearTogether_27 (by decide) ?_
      exact ih (i + 1) (by omega)
set_option maxHeartbeats 1000000 in
theorem c_wearTogether (Γ : kGm) {μ : kM} {q : kq4} {w : Nat} (hw : isW w) (htq : isT (tq q w)) {D : Dt} (hD : TD D (tq q w) μ) (ok : okD D) (tm : Nat) (ht : tm < 140) (X : Nat → Nat) (hX : ∀ h, h < dH D → μ (w + 1 + 1) (h * 140 + tm) = nI (X h)) : gC Γ yX3_wearTogether mX3_wearTogether 2 [.ref w, .int (nI tm)] μ q (fun r μ' q' => r = some (.int (nI (smN X (dH D)))) ∧ μ' = μ ∧ q' = q) := by
  refine gC.ofG (n := 0) ⟨by decide +kernel, rfl, rfl, by decide⟩ (Nat.le_of_ble_eq_true rfl) ?_
  show gG Γ mX3_wearTogether 2 0 [some (.ref w), some (.int (nI tm)), none, none] [] μ q _
  refine kG.iconst (v := nI 0) 1 dX3_wearTogether_0 (by decide) rfl ?_
  refine kG.istore_n 2 dX3_wearTogether_1 (by decide) rfl rfl ?_
  dsimp only [List.set]
  refine kG.iconst (v := nI 0) 3 dX3_wearTogether_2 (by decide) rfl ?_
  refine kG.istore_n 4 dX3_wearTogether_3 (by decide) rfl rfl ?_
  dsimp only [List.set]
  exact wtog_loop Γ hw htq hD ok tm ht X hX (dH D) 0 (by omega)
set_option maxHeartbeats 1000000 in
theorem chil_loop (Γ : kGm) {μ : kM} {q : kq4} {w : Nat} (hw : isW w) (C : Nat → Nat) (S wk : Nat) (hS : S < 64) (hwk : wk < 10) (hC : ∀ t, t < (wk + 1) * 14 → μ (w + 1 + 2) t = nI (C t) ∧ C t < 64) : ∀ (m i : Nat), i + m = (wk + 1) * 14 → gG Γ mX3_chillsOf 2 5 [some (.ref w), some (.int (nI S)), some (.int (nI wk)), some (.int (nI (chN C S i))), some (.int (nI i))] [] (μ) q (fun r μ' q' => r = some (.int (nI (chN C S ((wk + 1) * 14)))) ∧ μ' = μ ∧ q' = q) := by
  intro m
  induction m with
  | zero =>
    intro i hm
    refine kG.iload 7 dX3_chillsOf_5 rfl rfl ?_
    refine kG.iload_n 8 dX3_chillsOf_7 rfl rfl ?_
    refine kG.iconst (v := nI 1) 9 dX3_chillsOf_8 (by decide) rfl ?_
    refine kG.iadd 10 dX3_chillsOf_9 rfl ?_
    refine kG.bipush (v := nI 14) 12 dX3_chillsOf_10 (by decide) rfl ?_
    refine kG.imul 13 dX3_chillsOf_12 rfl ?_
    refine kG.icmp_ge 45 16 dX3_chillsOf_13 (by decide) rfl (fun h13 => ?_) (fun h13 => ?_)
    · refine kG.iload_n 46 dX3_chillsOf_45 rfl rfl ?_
      refine gG.iret dX3_chillsOf_46 rfl ?_
      rw [show i = (wk + 1) * 14 by omega]
      exact ⟨rfl, rfl, rfl⟩
    · rw [nI_add, pk_mul] at h13
      exact absurd (nI_le (by omega) (by omega)) h13
  | succ m ih =>
    intro i hm
    refine kG.iload 7 dX3_chillsOf_5 rfl rfl ?_
    refine kG.iload_n 8 dX3_chillsOf_7 rfl rfl ?_
    refine kG.iconst (v := nI 1) 9 dX3_chillsOf_8 (by decide) rfl ?_
    refine kG.iadd 10 dX3_chillsOf_9 rfl ?_
    refine kG.bipush (v := nI 14) 12 dX3_chillsOf_10 (by decide) rfl ?_
    refine kG.imul 13 dX3_chillsOf_12 rfl ?_
    refine kG.icmp_ge 45 16 dX3_chillsOf_13 (by decide) rfl (fun h13 => ?_) (fun h13 => ?_)
    · rw [nI_add, pk_mul] at h13
      exact absurd h13 (nI_ge (by omega) (by omega))
    · refine kG.iload 18 dX3_chillsOf_16 rfl rfl ?_
      refine kG.sipush (v := nI 140) 21 dX3_chillsOf_18 (by decide) rfl ?_
      refine kG.icmp_ge 45 24 dX3_chillsOf_21 (by decide) rfl (fun h21 => ?_) (fun h21 => ?_)
      · exact absurd h21 (nI_ge (by omega) (by omega))
      · refine kG.iload_n 25 dX3_chillsOf_24 rfl rfl ?_
        refine kG.aload_n 26 dX3_chillsOf_25 rfl rfl ?_
        refine gG.getP 29 dX3_chillsOf_26 fX3_18 (isW_k hw) (isW_s hw) rfl (PI_W hw (by decide)) rfl ?_
        refine kG.iload 31 dX3_chillsOf_29 rfl rfl ?_
        refine gG.iald (n := 140) _ 32 dX3_chillsOf_31 (arW_k hw (by decide)) (arW_s hw (by decide)) rfl (by omega) (by decide) rfl ?_
        refine kG.iload_n 33 dX3_chillsOf_32 rfl rfl ?_
        refine kG.iand 34 dX3_chillsOf_33 rfl ?_
        rw [(hC i (by omega)).1, n_and]
        refine gG.callS 37 dX3_chillsOf_34 lX3_123 vJ6_bitCount_0f7a4 (c_bitCount Γ _ (Nat.lt_of_le_of_lt Nat.and_le_left (hC i (by omega)).2)) rfl rfl ⟨by decide, by decide⟩ (Nat.le_of_ble_eq_true rfl) rfl (fun r34 μ34 q34 hc34 => ?_)
        obtain ⟨rfl, rfl, rfl⟩ := hc34
        refine kG.iadd 38 dX3_chillsOf_37 rfl ?_
        rw [nI_add, show chN C S i + pcn (C i &&& S) = chN C S (i + 1) from rfl]
        refine kG.istore_n 39 dX3_chillsOf_38 (by decide) rfl rfl ?_
        dsimp only [List.set]
        refine kG.iinc (v := nI (i + 1)) 42 dX3_chillsOf_39 rfl (nI_1 i) (by decide) rfl rfl ?_
        dsimp only [List.set]
        refine kG.goto 5 dX3_chillsOf_42 (by decide) ?_
        exact ih (i + 1) (by omega)
set_option maxHeartbeats 1000000 in
theorem c_chillsOf (Γ : kGm) {μ : kM} {q : kq4} {w : Nat} (hw : isW w) (C : Nat → Nat) (S wk : Nat) (hS : S < 64) (hwk : wk < 10) (hC : ∀ t, t < (wk + 1) * 14 → μ (w + 1 + 2) t = nI (C t) ∧ C t < 64) : gC Γ yX3_chillsOf mX3_chillsOf 2 [.ref w, .int (nI S), .int (nI wk)] μ q (fun r μ' q' => r = some (.int (nI (chN C S ((wk + 1) * 14)))) ∧ μ' = μ ∧ q' = q) := by
  refine gC.ofG (n := 0) ⟨by decide +kernel, rfl, rfl, by decide⟩ (Nat.le_of_ble_eq_true rfl) ?_
  show gG Γ mX3_chillsOf 2 0 [some (.ref w), some (.int (nI S)), some (.int (nI wk)), none, none] [] μ q _
  refine kG.iconst (v := nI 0) 1 dX3_chillsOf_0 (by decide) rfl ?_
  refine kG.istore_n 2 dX3_chillsOf_1 (by decide) rfl rfl ?_
  dsimp only [List.set]
  refine kG.iconst (v := nI 0) 3 dX3_chillsOf_2 (by decide) rfl ?_
  refine kG.istore 5 dX3_chillsOf_3 (by decide) rfl rfl ?_
  dsimp only [List.set]
  exact chil_loop Γ hw C S wk hS hwk hC ((wk + 1) * 14) 0 (by omega)
set_option maxHeartbeats 1000000 in
theorem arew_loop (Γ : kGm) {μ : kM} {q : kq4} {k : Nat} (hk : isK k) {G : Kp} (hG : KD G k μ) (hn : G.1 ≤ lnK k) {w : Nat} (hw : isW w) (ok : ∀ i, i < G.1 → G.2.1 i < 4 ∧ G.2.2.1 i < 140 ∧ G.2.2.2 i ≤ 99) (X : Nat → Nat → Nat) (hX : ∀ i, i < G.1 → μ (w + 1 + 1) (G.2.1 i * 140 + G.2.2.1 i) = nI (X (G.2.1 i) (G.2.2.1 i)) ∧ X (G.2.1 i) (G.2.2.1 i) < 2 ^ 30) : ∀ (m i : Nat), i + m = G.1 → (rdB X G i = true) → gG Γ mX0_areWearOf 2 2 [some (.ref k), some (.ref w), some (.int (nI i))] [] (μ) q (fun r μ' q' => r = some (.int (b2 (rdB X G G.1))) ∧ μ' = μ ∧ q' = q) := by
  intro m
  induction m with
  | zero =>
    intro i hm hr
    have h8 := lnK_8 hk
    refine kG.iload_n 3 dX0_areWearOf_2 rfl rfl ?_
    refine kG.aload_n 4 dX0_areWearOf_3 rfl rfl ?_
    refine gG.getI 7 dX0_areWearOf_4 fX0_9 (isK_k hk) (isK_s hk) rfl rfl ?_
    refine kG.icmp_ge 43 10 dX0_areWearOf_7 (by decide) rfl (fun h7 => ?_) (fun h7 => ?_)
    · refine kG.iconst (v := nI 1) 44 dX0_areWearOf_43 (by decide) rfl ?_
      refine gG.zret dX0_areWearOf_44 rfl rfl ?_
      exact ⟨by rw [show G.1 = i by omega, hr]; rfl, rfl, rfl⟩
    · rw [hG.1] at h7
      exact absurd (nI_le (by omega) (by omega)) h7
  | succ m ih =>
    intro i hm hr
    have h8 := lnK_8 hk
    obtain ⟨g1, g2, g3⟩ := hG.2 i (by omega)
    obtain ⟨o1, o2, o3⟩ := ok i (by omega)
    obtain ⟨x1, x2⟩ := hX i (by omega)
    refine kG.iload_n 3 dX0_areWearOf_2 rfl rfl ?_
    refine kG.aload_n 4 dX0_areWearOf_3 rfl rfl ?_
    refine gG.getI 7 dX0_areWearOf_4 fX0_9 (isK_k hk) (isK_s hk) rfl rfl ?_
    refine kG.icmp_ge 43 10 dX0_areWearOf_7 (by decide) rfl (fun h7 => ?_) (fun h7 => ?_)
    · rw [hG.1] at h7
      exact absurd h7 (nI_ge (by omega) (by omega))
    · refine kG.aload_n 11 dX0_areWearOf_10 rfl rfl ?_
      refine kG.aload_n 12 dX0_areWearOf_11 rfl rfl ?_
      refine gG.getP 15 dX0_areWearOf_12 fX0_24 (isK_k hk) (isK_s hk) rfl (PI_K hk (by decide) (by decide)) rfl ?_
      refine kG.iload_n 16 dX0_areWearOf_15 rfl rfl ?_
      refine gG.iald _ 17 dX0_areWearOf_16 (arK_k hk (by decide)) (arK_s hk (by decide) (by decide)) rfl (by omega) (lnK_b hk) rfl ?_
      rw [g1]
      refine kG.aload_n 18 dX0_areWearOf_17 rfl rfl ?_
      refine gG.getP 21 dX0_areWearOf_18 fX0_28 (isK_k hk) (isK_s hk) rfl (PI_K hk (by decide) (by decide)) rfl ?_
      refine kG.iload_n 22 dX0_areWearOf_21 rfl rfl ?_
      refine gG.iald _ 23 dX0_areWearOf_22 (arK_k hk (by decide)) (arK_s hk (by decide) (by decide)) rfl (by omega) (lnK_b hk) rfl ?_
      rw [g2]
      refine gG.callV 26 dX0_areWearOf_23 lX0_34 vX3_wearAt (c_wearAt Γ hw (G.2.1 i) (G.2.2.1 i) (by omega) (by omega)) rfl rfl (isW_k hw) (isW_s hw) ⟨by decide, rfl⟩ ⟨by decide, by decide⟩ (Nat.le_of_ble_eq_true rfl) rfl (fun r23 μ23 q23 hc23 => ?_)
      obtain ⟨rfl, rfl, rfl⟩ := hc23
      refine kG.aload_n 27 dX0_areWearOf_26 rfl rfl ?_
      refine gG.getP 30 dX0_areWearOf_27 fX0_31 (isK_k hk) (isK_s hk) rfl (PI_K hk (by decide) (by decide)) rfl ?_
      refine kG.iload_n 31 dX0_areWearOf_30 rfl rfl ?_
      refine gG.iald _ 32 dX0_areWearOf_31 (arK_k hk (by decide)) (arK_s hk (by decide) (by decide)) rfl (by omega) (lnK_b hk) rfl ?_
      refine kG.icmp_eq 37 35 dX0_areWearOf_32 (by decide) rfl (fun h32 => ?_) (fun h32 => ?_)
      · rw [x1, g3] at h32
        have e := (nI_eq (by omega) (by omega)).mp h32
        refine kG.iinc (v := nI (i + 1)) 40 dX0_areWearOf_37 rfl (nI_1 i) (by decide) rfl rfl ?_
        dsimp only [List.set]
        refine kG.goto 2 dX0_areWearOf_40 (by decide) ?_
        exact ih (i + 1) (by omega) (by simp [rdB, hr, e])
      · rw [x1, g3] at h32
        have e : ¬ X (G.2.1 i) (G.2.2.1 i) = G.2.2.2 i := fun z => h32 (by rw [z])
        refine kG.iconst (v := nI 0) 36 dX0_areWearOf_35 (by decide) rfl ?_
        refine gG.zret dX0_areWearOf_36 rfl rfl ?_
        exact ⟨by rw [rdB_f e G.1 (by omega)]; rfl, rfl, rfl⟩
set_option maxHeartbeats 1000000 in
theorem c_areWearOf (Γ : kGm) {μ : kM} {q : kq4} {k : Nat} (hk : isK k) {G : Kp} (hG : KD G k μ) (hn : G.1 ≤ lnK k) {w : Nat} (hw : isW w) (ok : ∀ i, i < G.1 → G.2.1 i < 4 ∧ G.2.2.1 i < 140 ∧ G.2.2.2 i ≤ 99) (X : Nat → Nat → Nat) (hX : ∀ i, i < G.1 → μ (w + 1 + 1) (G.2.1 i * 140 + G.2.2.1 i) = nI (X (G.2.1 i) (G.2.2.1 i)) ∧ X (G.2.1 i) (G.2.2.1 i) < 2 ^ 30) : gC Γ yX0_areWearOf mX0_areWearOf 2 [.ref k, .ref w] μ q (fun r μ' q' => r = some (.int (b2 (rdB X G G.1))) ∧ μ' = μ ∧ q' = q) := by
  refine gC.ofG (n := 0) ⟨by decide +kernel, rfl, rfl, by decide⟩ (Nat.le_of_ble_eq_true rfl) ?_
  show gG Γ mX0_areWearOf 2 0 [some (.ref k), some (.ref w), none] [] μ q _
  refine kG.iconst (v := nI 0) 1 dX0_areWearOf_0 (by decide) rfl ?_
  refine kG.istore_n 2 dX0_areWearOf_1 (by decide) rfl rfl ?_
  dsimp only [List.set]
  exact arew_loop Γ hk hG hn hw ok X hX G.1 0 (by omega) rfl
theorem kMZ_weak {Γ : kGm} {mi : kMI} {R : Room} {cs : Nat × Nat} {pc : Nat} {L : List (Option Value)} {st : List Value} {ω : kWd} {Q Q' : Option Value → kWd → Prop} (h : kG Γ mi R cs pc L st ω (kMZ Γ R Q)) (hq : ∀ r ω', Q r ω' → Q' r ω') : kG Γ mi R cs pc L st ω (kMZ Γ R Q') := by
  intro p e s m args below meth c H locs ls C P S V T hT X
  obtain ⟨t, h1, o, h2, h3, ⟨⟨r, ω', e1, e2, e3⟩, hF⟩, hE⟩ := h p e s m args below meth c H locs ls C P S V T hT X
  exact ⟨t, h1, o, h2, h3, ⟨⟨r, ω', e1, hq r ω' e2, e3⟩, hF⟩, hE⟩
theorem gG_weak {Γ : kGm} {mi : kMI} {d pc : Nat} {L : List (Option Value)} {st : List Value} {μ : kM} {q : kq4} {Q Q' : Option Value → kM → kq4 → Prop} (h : gG Γ mi d pc L st μ q Q) (hq : ∀ r μ' q', Q r μ' q' → Q' r μ' q') : gG Γ mi d pc L st μ q Q' := kMZ_weak h (fun r _ ⟨μ', q', e, h⟩ => ⟨μ', q', e, hq r μ' q' h⟩)
set_option maxHeartbeats 1000000 in
theorem prep_loop (Γ : kGm) {μ : kM} {q : kq4} {w : Nat} (hw : isW w) {t : Nat} (ht : isT t) {D : Dt} (hD : TD D t μ) (ok : okD D) (aw : Int32) (μw : Nat → Int32) : ∀ (m i : Nat) (μ1 : kM), i + m = dP D → (∀ k, k ≠ w → k ≠ w + 1 + 5 → μ1 k = μ k) → (μ1 w = μw) → (An (w + 1 + 5) i (fun p => wan (dkd D p) (dbu D p)) μ1) → gG Γ mX3_prepare 2 34 [some (.ref w), some (.ref t), some (.int aw), some (.int (nI i))] [] (μ1) (stq q w t) (fun r μ' q' => r = none ∧ q' = stq q w t ∧ (∀ k, k ≠ w → k ≠ w + 1 + 5 → μ' k = μ k) ∧ μ' w = μw ∧ An (w + 1 + 5) (dP D) (fun p => wan (dkd D p) (dbu D p)) μ') := by
  intro m
  induction m with
  | zero =>
    intro i μ1 hm h1 h2 h3
    have hD1 : TD D t μ1 := TD_fr hD (fun k a b => by have := TW_lt ht hw b; exact h1 k (by omega) (by omega))
    refine kG.iload_n 35 dX3_prepare_34 rfl rfl ?_
    refine kG.aload_n 36 dX3_prepare_35 rfl rfl ?_
    refine gG.getP 39 dX3_prepare_36 fX3_43 (isW_k hw) (isW_s hw) rfl (PI_W7s hw) rfl ?_
    refine gG.getI 42 dX3_prepare_39 fX3_54 (isT_k ht) (isT_s ht) rfl rfl ?_
    refine kG.icmp_ge 78 45 dX3_prepare_42 (by decide) rfl (fun h42 => ?_) (fun h42 => ?_)
    · refine gG.vret dX3_prepare_78 rfl ?_
      exact ⟨rfl, rfl, h1, h2, by rw [show dP D = i by omega]; exact h3⟩
    · rw [hD1.2.1] at h42
      exact absurd (nI_le (by omega) (by have := ok.2.1; omega)) h42
  | succ m ih =>
    intro i μ1 hm h1 h2 h3
    have hD1 : TD D t μ1 := TD_fr hD (fun k a b => by have := TW_lt ht hw b; exact h1 k (by omega) (by omega))
    have hP := ok.2.1
    obtain ⟨d1, d2, d3, d4, d5⟩ := hD1.2.2.2 i (by omega)
    obtain ⟨k1, k2, k3, k4, k5⟩ := ok.2.2.2 i (by omega)
    refine kG.iload_n 35 dX3_prepare_34 rfl rfl ?_
    refine kG.aload_n 36 dX3_prepare_35 rfl rfl ?_
    refine gG.getP 39 dX3_prepare_36 fX3_43 (isW_k hw) (isW_s hw) rfl (PI_W7s hw) rfl ?_
    refine gG.getI 42 dX3_prepare_39 fX3_54 (isT_k ht) (isT_s ht) rfl rfl ?_
    refine kG.icmp_ge 78 45 dX3_prepare_42 (by decide) rfl (fun h42 => ?_) (fun h42 => ?_)
    · rw [hD1.2.1] at h42
      exact absurd h42 (nI_ge (by omega) (by omega))
    · refine kG.aload_n 46 dX3_prepare_45 rfl rfl ?_
      refine gG.getP 49 dX3_prepare_46 fX3_27 (isW_k hw) (isW_s hw) rfl (PI_W hw (by decide)) rfl ?_
      refine kG.iload_n 50 dX3_prepare_49 rfl rfl ?_
      refine kG.aload_n 51 dX3_prepare_50 rfl rfl ?_
      refine gG.getP 54 dX3_prepare_51 fX3_43 (isW_k hw) (isW_s hw) rfl (PI_W7s hw) rfl ?_
      refine gG.getP 57 dX3_prepare_54 fX3_57 (isT_k ht) (isT_s ht) rfl (PI_T ht (by decide)) rfl ?_
      refine kG.iload_n 58 dX3_prepare_57 rfl rfl ?_
      refine gG.iald (n := 6) _ 59 dX3_prepare_58 (arT_k ht (by decide)) (arT_s ht (by decide)) rfl (by omega) (by decide) rfl ?_
      rw [d1]
      refine kG.aload_n 60 dX3_prepare_59 rfl rfl ?_
      refine gG.getP 63 dX3_prepare_60 fX3_43 (isW_k hw) (isW_s hw) rfl (PI_W7s hw) rfl ?_
      refine gG.getP 66 dX3_prepare_63 fX3_60 (isT_k ht) (isT_s ht) rfl (PI_T ht (by decide)) rfl ?_
      refine kG.iload_n 67 dX3_prepare_66 rfl rfl ?_
      refine gG.iald (n := 6) _ 68 dX3_prepare_67 (arT_k ht (by decide)) (arT_s ht (by decide)) rfl (by omega) (by decide) rfl ?_
      rw [d4]
      refine gG.callSN 71 dX3_prepare_68 (lX3_63 Γ) vX4_wantsOf (c_wantsOf Γ (dkd D i) _ (by omega)) rfl rfl ⟨by decide, by decide⟩ (Nat.le_of_ble_eq_true rfl) rfl (fun r68 μ68 q68 hc68 => ?_)
      obtain ⟨rfl, rfl, rfl⟩ := hc68
      rw [show (if dkd D i = 0 then nI (dbu D i) else if dkd D i = 1 then nI (dbu D i) + nI 1 else nI 2 * (nI (dbu D i) + nI 1)) = nI (wan (dkd D i) (dbu D i)) by rw [nI_add, pk_mul]; unfold wan; split; rfl; split <;> rfl]
      refine gG.iast (n := 6) _ 72 dX3_prepare_71 (arW_k hw (by decide)) (arW_s hw (by decide)) rfl (by omega) (by decide) rfl ?_
      refine kG.iinc (v := nI (i + 1)) 75 dX3_prepare_72 rfl (nI_1 i) (by decide) rfl rfl ?_
      dsimp only [List.set]
      refine kG.goto 34 dX3_prepare_75 (by decide) ?_
      refine ih (i + 1) _ (by omega) (fun k a b => by rw [uI_off b]; exact h1 k a b) (by rw [uI_off (by omega)]; exact h2) (fun j hj => ?_)
      by_cases e : j = i
      · subst e; rw [uI_same]
      · rw [uI_ne (Or.inr e)]; exact h3 j (by omega)
set_option maxHeartbeats 1000000 in
theorem c_prepare (Γ : kGm) {μ : kM} {q : kq4} {w : Nat} (hw : isW w) {t : Nat} (ht : isT t) {D : Dt} (hD : TD D t μ) (ok : okD D) (aw : Int32) : gC Γ yX3_prepare mX3_prepare 2 [.ref w, .ref t, .int aw] μ q (fun r μ' q' => r = none ∧ q' = stq q w t ∧ (∀ k, k ≠ w → k ≠ w + 1 + 5 → μ' k = μ k) ∧ (μ' w 8 = aw ∧ μ' w 9 = μ t 7 ∧ μ' w 10 = -9 ∧ μ' w 11 = nI 0) ∧ An (w + 1 + 5) (dP D) (fun p => wan (dkd D p) (dbu D p)) μ') := by
  refine gC.ofG (n := 0) ⟨by decide +kernel, rfl, rfl, by decide⟩ (Nat.le_of_ble_eq_true rfl) ?_
  show gG Γ mX3_prepare 2 0 [some (.ref w), some (.ref t), some (.int aw), none] [] μ q _
  refine kG.aload_n 1 dX3_prepare_0 rfl rfl ?_
  refine kG.aload_n 2 dX3_prepare_1 rfl rfl ?_
  refine gG.putP 5 dX3_prepare_2 fX3_43 (isW_k hw) (isW_s hw) rfl rfl ⟨fun _ => rfl, fun _ => rfl⟩ (sP_wk hw) rfl ?_
  refine kG.aload_n 6 dX3_prepare_5 rfl rfl ?_
  refine kG.iload_n 7 dX3_prepare_6 rfl rfl ?_
  refine gG.putI 10 dX3_prepare_7 fX3_30 (isW_k hw) (isW_s hw) rfl rfl ⟨rfl, rfl⟩ rfl ?_
  refine kG.aload_n 11 dX3_prepare_10 rfl rfl ?_
  refine kG.aload_n 12 dX3_prepare_11 rfl rfl ?_
  refine gG.getP 15 dX3_prepare_12 fX3_43 (isW_k hw) (isW_s hw) rfl (PI_W7s hw) rfl ?_
  refine gG.getI 18 dX3_prepare_15 fX3_51 (isT_k ht) (isT_s ht) rfl rfl ?_
  have et : uI μ w 8 aw t 7 = μ t 7 := by have := TW_lt (k := t) ht hw (by omega); rw [uI_off (by omega)]
  rw [et]
  refine gG.putI 21 dX3_prepare_18 fX3_34 (isW_k hw) (isW_s hw) rfl rfl ⟨rfl, rfl⟩ rfl ?_
  refine kG.aload_n 22 dX3_prepare_21 rfl rfl ?_
  refine kG.bipush (v := (-9)) 24 dX3_prepare_22 (by decide) rfl ?_
  refine gG.putI 27 dX3_prepare_24 fX3_37 (isW_k hw) (isW_s hw) rfl rfl ⟨rfl, rfl⟩ rfl ?_
  refine kG.aload_n 28 dX3_prepare_27 rfl rfl ?_
  refine kG.iconst (v := nI 0) 29 dX3_prepare_28 (by decide) rfl ?_
  refine gG.putI 32 dX3_prepare_29 fX3_40 (isW_k hw) (isW_s hw) rfl rfl ⟨rfl, rfl⟩ rfl ?_
  refine kG.iconst (v := nI 0) 33 dX3_prepare_32 (by decide) rfl ?_
  refine kG.istore_n 34 dX3_prepare_33 (by decide) rfl rfl ?_
  dsimp only [List.set]
  refine gG_weak (prep_loop Γ hw ht hD ok aw _ (dP D) 0 _ (by omega) (fun k a b => by rw [uI_off a, uI_off a, uI_off a, uI_off a]) rfl (fun j hj => absurd hj (Nat.not_lt_zero _))) (fun r μ2 q2 z => ?_)
  obtain ⟨z1, z2, z3, z4, z5⟩ := z
  refine ⟨z1, z2, z3, ?_, z5⟩
  rw [z4]
  refine ⟨?_, ?_, ?_, ?_⟩
  · rw [uI_ne (Or.inr (by decide)), uI_ne (Or.inr (by decide)), uI_ne (Or.inr (by decide)), uI_same]
  · rw [uI_ne (Or.inr (by decide)), uI_ne (Or.inr (by decide)), uI_same]
  · rw [uI_ne (Or.inr (by decide)), uI_same]
  · rw [uI_same]
end
