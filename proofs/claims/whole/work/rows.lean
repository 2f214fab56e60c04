section
-- ===== PART A: goes FIRST, ahead of the names: the tables' words, and 'selects' of the private methods out of them =====
/-- a private method of a class that the tables say can be made, by its rows of tables_1 -/
def lw_okq (q : MethodName × Nat) : Prop := (q.1.cls ≠ "java/lang/invoke/MethodHandle" ∧ q.1.cls ≠ "java/lang/invoke/VarHandle") ∧ Cond.instantiable q.1.cls q.2 ∈ tables_1 ∧ Cond.privateMethod q.1 ∈ tables_1 ∧ Cond.instanceMethod q.1 ∈ tables_1
theorem lw_p0 : lw_okq (⟨"TwoTowns", "refusalOfCells", "(IIII)I"⟩, 11) := ⟨⟨by decide +kernel, by decide +kernel⟩, List.mem_of_getElem? (i := 12) (by decide +kernel), List.mem_of_getElem? (i := 212) (by decide +kernel), List.mem_of_getElem? (i := 213) (by decide +kernel)⟩
theorem lw_p1 : lw_okq (⟨"TwoTowns", "refusalOfLane", "(II)I"⟩, 11) := ⟨⟨by decide +kernel, by decide +kernel⟩, List.mem_of_getElem? (i := 12) (by decide +kernel), List.mem_of_getElem? (i := 216) (by decide +kernel), List.mem_of_getElem? (i := 217) (by decide +kernel)⟩
theorem lw_p2 : lw_okq (⟨"TwoTowns", "faultBy", "(I)I"⟩, 11) := ⟨⟨by decide +kernel, by decide +kernel⟩, List.mem_of_getElem? (i := 12) (by decide +kernel), List.mem_of_getElem? (i := 230) (by decide +kernel), List.mem_of_getElem? (i := 231) (by decide +kernel)⟩
theorem lw_p3 : lw_okq (⟨"TwoTowns", "firstFault", "(LTwoTowns$Sheet;II)I"⟩, 11) := ⟨⟨by decide +kernel, by decide +kernel⟩, List.mem_of_getElem? (i := 12) (by decide +kernel), List.mem_of_getElem? (i := 238) (by decide +kernel), List.mem_of_getElem? (i := 239) (by decide +kernel)⟩
theorem lw_p4 : lw_okq (⟨"TwoTowns$Told", "headGoesOn", "(I)Z"⟩, 12) := ⟨⟨by decide +kernel, by decide +kernel⟩, List.mem_of_getElem? (i := 49) (by decide +kernel), List.mem_of_getElem? (i := 258) (by decide +kernel), List.mem_of_getElem? (i := 259) (by decide +kernel)⟩
theorem lw_p5 : lw_okq (⟨"TwoTowns$Told", "houseGoesOn", "(II)Z"⟩, 12) := ⟨⟨by decide +kernel, by decide +kernel⟩, List.mem_of_getElem? (i := 49) (by decide +kernel), List.mem_of_getElem? (i := 268) (by decide +kernel), List.mem_of_getElem? (i := 269) (by decide +kernel)⟩
theorem lw_p6 : lw_okq (⟨"TwoTowns$Told", "personGoesOn", "(II)Z"⟩, 12) := ⟨⟨by decide +kernel, by decide +kernel⟩, List.mem_of_getElem? (i := 49) (by decide +kernel), List.mem_of_getElem? (i := 272) (by decide +kernel), List.mem_of_getElem? (i := 273) (by decide +kernel)⟩
theorem lw_p7 : lw_okq (⟨"TwoTowns$Told", "opens", "(I)Z"⟩, 12) := ⟨⟨by decide +kernel, by decide +kernel⟩, List.mem_of_getElem? (i := 49) (by decide +kernel), List.mem_of_getElem? (i := 279) (by decide +kernel), List.mem_of_getElem? (i := 280) (by decide +kernel)⟩
theorem lw_p8 : lw_okq (⟨"TwoTowns", "isHouse", "(I)Z"⟩, 11) := ⟨⟨by decide +kernel, by decide +kernel⟩, List.mem_of_getElem? (i := 12) (by decide +kernel), List.mem_of_getElem? (i := 291) (by decide +kernel), List.mem_of_getElem? (i := 292) (by decide +kernel)⟩
theorem lw_p9 : lw_okq (⟨"TwoTowns", "isPerson", "(I)Z"⟩, 11) := ⟨⟨by decide +kernel, by decide +kernel⟩, List.mem_of_getElem? (i := 12) (by decide +kernel), List.mem_of_getElem? (i := 299) (by decide +kernel), List.mem_of_getElem? (i := 300) (by decide +kernel)⟩
theorem lw_p10 : lw_okq (⟨"TwoTowns", "isAway", "(I)Z"⟩, 11) := ⟨⟨by decide +kernel, by decide +kernel⟩, List.mem_of_getElem? (i := 12) (by decide +kernel), List.mem_of_getElem? (i := 306) (by decide +kernel), List.mem_of_getElem? (i := 307) (by decide +kernel)⟩
theorem lw_p11 : lw_okq (⟨"TwoTowns", "freshWeeks", "()LTwoTowns$Weeks;"⟩, 11) := ⟨⟨by decide +kernel, by decide +kernel⟩, List.mem_of_getElem? (i := 12) (by decide +kernel), List.mem_of_getElem? (i := 344) (by decide +kernel), List.mem_of_getElem? (i := 345) (by decide +kernel)⟩
theorem lw_p12 : lw_okq (⟨"TwoTowns$Weeks", "bringWood", "(I)V"⟩, 12) := ⟨⟨by decide +kernel, by decide +kernel⟩, List.mem_of_getElem? (i := 110) (by decide +kernel), List.mem_of_getElem? (i := 364) (by decide +kernel), List.mem_of_getElem? (i := 365) (by decide +kernel)⟩
theorem lw_p13 : lw_okq (⟨"TwoTowns$Weeks", "takeWood", "(I)I"⟩, 12) := ⟨⟨by decide +kernel, by decide +kernel⟩, List.mem_of_getElem? (i := 110) (by decide +kernel), List.mem_of_getElem? (i := 375) (by decide +kernel), List.mem_of_getElem? (i := 376) (by decide +kernel)⟩
theorem lw_p14 : lw_okq (⟨"TwoTowns$Weeks", "mend", "(I)V"⟩, 12) := ⟨⟨by decide +kernel, by decide +kernel⟩, List.mem_of_getElem? (i := 110) (by decide +kernel), List.mem_of_getElem? (i := 383) (by decide +kernel), List.mem_of_getElem? (i := 384) (by decide +kernel)⟩
theorem lw_p15 : lw_okq (⟨"TwoTowns$Weeks", "note", "(II)V"⟩, 12) := ⟨⟨by decide +kernel, by decide +kernel⟩, List.mem_of_getElem? (i := 110) (by decide +kernel), List.mem_of_getElem? (i := 388) (by decide +kernel), List.mem_of_getElem? (i := 389) (by decide +kernel)⟩
def lw_privs_1 : List (MethodName × Nat) := [(⟨"TwoTowns", "refusalOfCells", "(IIII)I"⟩, 11), (⟨"TwoTowns", "refusalOfLane", "(II)I"⟩, 11), (⟨"TwoTowns", "faultBy", "(I)I"⟩, 11), (⟨"TwoTowns", "firstFault", "(LTwoTowns$Sheet;II)I"⟩, 11), (⟨"TwoTowns$Told", "headGoesOn", "(I)Z"⟩, 12), (⟨"TwoTowns$Told", "houseGoesOn", "(II)Z"⟩, 12), (⟨"TwoTowns$Told", "personGoesOn", "(II)Z"⟩, 12), (⟨"TwoTowns$Told", "opens", "(I)Z"⟩, 12), (⟨"TwoTowns", "isHouse", "(I)Z"⟩, 11), (⟨"TwoTowns", "isPerson", "(I)Z"⟩, 11), (⟨"TwoTowns", "isAway", "(I)Z"⟩, 11), (⟨"TwoTowns", "freshWeeks", "()LTwoTowns$Weeks;"⟩, 11), (⟨"TwoTowns$Weeks", "bringWood", "(I)V"⟩, 12), (⟨"TwoTowns$Weeks", "takeWood", "(I)I"⟩, 12), (⟨"TwoTowns$Weeks", "mend", "(I)V"⟩, 12), (⟨"TwoTowns$Weeks", "note", "(II)V"⟩, 12)]
theorem lw_r1 : ∀ q ∈ lw_privs_1, lw_okq q := List.forall_mem_cons.mpr ⟨lw_p0, List.forall_mem_cons.mpr ⟨lw_p1, List.forall_mem_cons.mpr ⟨lw_p2, List.forall_mem_cons.mpr ⟨lw_p3, List.forall_mem_cons.mpr ⟨lw_p4, List.forall_mem_cons.mpr ⟨lw_p5, List.forall_mem_cons.mpr ⟨lw_p6, List.forall_mem_cons.mpr ⟨lw_p7, List.forall_mem_cons.mpr ⟨lw_p8, List.forall_mem_cons.mpr ⟨lw_p9, List.forall_mem_cons.mpr ⟨lw_p10, List.forall_mem_cons.mpr ⟨lw_p11, List.forall_mem_cons.mpr ⟨lw_p12, List.forall_mem_cons.mpr ⟨lw_p13, List.forall_mem_cons.mpr ⟨lw_p14, List.forall_mem_cons.mpr ⟨lw_p15, fun _ h => absurd h List.not_mem_nil⟩⟩⟩⟩⟩⟩⟩⟩⟩⟩⟩⟩⟩⟩⟩⟩
theorem lw_p16 : lw_okq (⟨"TwoTowns", "everybody", "()I"⟩, 11) := ⟨⟨by decide +kernel, by decide +kernel⟩, List.mem_of_getElem? (i := 12) (by decide +kernel), List.mem_of_getElem? (i := 433) (by decide +kernel), List.mem_of_getElem? (i := 434) (by decide +kernel)⟩
theorem lw_p17 : lw_okq (⟨"TwoTowns", "lessWearWithout", "(II)I"⟩, 11) := ⟨⟨by decide +kernel, by decide +kernel⟩, List.mem_of_getElem? (i := 12) (by decide +kernel), List.mem_of_getElem? (i := 471) (by decide +kernel), List.mem_of_getElem? (i := 472) (by decide +kernel)⟩
theorem lw_p18 : lw_okq (⟨"TwoTowns", "whoIsIn", "(I)I"⟩, 11) := ⟨⟨by decide +kernel, by decide +kernel⟩, List.mem_of_getElem? (i := 12) (by decide +kernel), List.mem_of_getElem? (i := 496) (by decide +kernel), List.mem_of_getElem? (i := 497) (by decide +kernel)⟩
theorem lw_p19 : lw_okq (⟨"TwoTowns", "readingsAreSoInTrial", "()Z"⟩, 11) := ⟨⟨by decide +kernel, by decide +kernel⟩, List.mem_of_getElem? (i := 12) (by decide +kernel), List.mem_of_getElem? (i := 517) (by decide +kernel), List.mem_of_getElem? (i := 518) (by decide +kernel)⟩
theorem lw_p20 : lw_okq (⟨"TwoTowns$Sheet", "cutToLane", "(I)I"⟩, 3) := ⟨⟨by decide +kernel, by decide +kernel⟩, List.mem_of_getElem? (i := 156) (by decide +kernel), List.mem_of_getElem? (i := 560) (by decide +kernel), List.mem_of_getElem? (i := 561) (by decide +kernel)⟩
theorem lw_p21 : lw_okq (⟨"TwoTowns", "tellDweller", "(I)I"⟩, 11) := ⟨⟨by decide +kernel, by decide +kernel⟩, List.mem_of_getElem? (i := 12) (by decide +kernel), List.mem_of_getElem? (i := 579) (by decide +kernel), List.mem_of_getElem? (i := 580) (by decide +kernel)⟩
theorem lw_p22 : lw_okq (⟨"TwoTowns", "leaveInTrace", "(I)V"⟩, 11) := ⟨⟨by decide +kernel, by decide +kernel⟩, List.mem_of_getElem? (i := 12) (by decide +kernel), List.mem_of_getElem? (i := 583) (by decide +kernel), List.mem_of_getElem? (i := 584) (by decide +kernel)⟩
theorem lw_p23 : lw_okq (⟨"TwoTowns", "tellHearty", "(I)I"⟩, 11) := ⟨⟨by decide +kernel, by decide +kernel⟩, List.mem_of_getElem? (i := 12) (by decide +kernel), List.mem_of_getElem? (i := 587) (by decide +kernel), List.mem_of_getElem? (i := 588) (by decide +kernel)⟩
theorem lw_p24 : lw_okq (⟨"TwoTowns", "tellFroward", "(I)I"⟩, 11) := ⟨⟨by decide +kernel, by decide +kernel⟩, List.mem_of_getElem? (i := 12) (by decide +kernel), List.mem_of_getElem? (i := 591) (by decide +kernel), List.mem_of_getElem? (i := 592) (by decide +kernel)⟩
theorem lw_p25 : lw_okq (⟨"TwoTownsModel", "against", "(IIII)I"⟩, 36) := ⟨⟨by decide +kernel, by decide +kernel⟩, List.mem_of_getElem? (i := 615) (by decide +kernel), List.mem_of_getElem? (i := 744) (by decide +kernel), List.mem_of_getElem? (i := 745) (by decide +kernel)⟩
theorem lw_p26 : lw_okq (⟨"TwoTownsModel", "fails", "(I)I"⟩, 36) := ⟨⟨by decide +kernel, by decide +kernel⟩, List.mem_of_getElem? (i := 615) (by decide +kernel), List.mem_of_getElem? (i := 748) (by decide +kernel), List.mem_of_getElem? (i := 749) (by decide +kernel)⟩
theorem lw_p27 : lw_okq (⟨"TwoTownsModel", "readAll", "(I)Z"⟩, 36) := ⟨⟨by decide +kernel, by decide +kernel⟩, List.mem_of_getElem? (i := 615) (by decide +kernel), List.mem_of_getElem? (i := 752) (by decide +kernel), List.mem_of_getElem? (i := 753) (by decide +kernel)⟩
theorem lw_p28 : lw_okq (⟨"TwoTownsModel", "isSign", "(II)Z"⟩, 36) := ⟨⟨by decide +kernel, by decide +kernel⟩, List.mem_of_getElem? (i := 615) (by decide +kernel), List.mem_of_getElem? (i := 756) (by decide +kernel), List.mem_of_getElem? (i := 757) (by decide +kernel)⟩
theorem lw_p29 : lw_okq (⟨"TwoTownsModel", "readTheSeam", "(I)Z"⟩, 36) := ⟨⟨by decide +kernel, by decide +kernel⟩, List.mem_of_getElem? (i := 615) (by decide +kernel), List.mem_of_getElem? (i := 760) (by decide +kernel), List.mem_of_getElem? (i := 761) (by decide +kernel)⟩
theorem lw_p30 : lw_okq (⟨"TwoTownsModel", "digit", "(III)I"⟩, 36) := ⟨⟨by decide +kernel, by decide +kernel⟩, List.mem_of_getElem? (i := 615) (by decide +kernel), List.mem_of_getElem? (i := 764) (by decide +kernel), List.mem_of_getElem? (i := 765) (by decide +kernel)⟩
theorem lw_p31 : lw_okq (⟨"TwoTownsModel", "readOneHouse", "(I)Z"⟩, 36) := ⟨⟨by decide +kernel, by decide +kernel⟩, List.mem_of_getElem? (i := 615) (by decide +kernel), List.mem_of_getElem? (i := 768) (by decide +kernel), List.mem_of_getElem? (i := 769) (by decide +kernel)⟩
def lw_privs_2 : List (MethodName × Nat) := [(⟨"TwoTowns", "everybody", "()I"⟩, 11), (⟨"TwoTowns", "lessWearWithout", "(II)I"⟩, 11), (⟨"TwoTowns", "whoIsIn", "(I)I"⟩, 11), (⟨"TwoTowns", "readingsAreSoInTrial", "()Z"⟩, 11), (⟨"TwoTowns$Sheet", "cutToLane", "(I)I"⟩, 3), (⟨"TwoTowns", "tellDweller", "(I)I"⟩, 11), (⟨"TwoTowns", "leaveInTrace", "(I)V"⟩, 11), (⟨"TwoTowns", "tellHearty", "(I)I"⟩, 11), (⟨"TwoTowns", "tellFroward", "(I)I"⟩, 11), (⟨"TwoTownsModel", "against", "(IIII)I"⟩, 36), (⟨"TwoTownsModel", "fails", "(I)I"⟩, 36), (⟨"TwoTownsModel", "readAll", "(I)Z"⟩, 36), (⟨"TwoTownsModel", "isSign", "(II)Z"⟩, 36), (⟨"TwoTownsModel", "readTheSeam", "(I)Z"⟩, 36), (⟨"TwoTownsModel", "digit", "(III)I"⟩, 36), (⟨"TwoTownsModel", "readOneHouse", "(I)Z"⟩, 36)]
theorem lw_r2 : ∀ q ∈ lw_privs_2, lw_okq q := List.forall_mem_cons.mpr ⟨lw_p16, List.forall_mem_cons.mpr ⟨lw_p17, List.forall_mem_cons.mpr ⟨lw_p18, List.forall_mem_cons.mpr ⟨lw_p19, List.forall_mem_cons.mpr ⟨lw_p20, List.forall_mem_cons.mpr ⟨lw_p21, List.forall_mem_cons.mpr ⟨lw_p22, List.forall_mem_cons.mpr ⟨lw_p23, List.forall_mem_cons.mpr ⟨lw_p24, List.forall_mem_cons.mpr ⟨lw_p25, List.forall_mem_cons.mpr ⟨lw_p26, List.forall_mem_cons.mpr ⟨lw_p27, List.forall_mem_cons.mpr ⟨lw_p28, List.forall_mem_cons.mpr ⟨lw_p29, List.forall_mem_cons.mpr ⟨lw_p30, List.forall_mem_cons.mpr ⟨lw_p31, fun _ h => absurd h List.not_mem_nil⟩⟩⟩⟩⟩⟩⟩⟩⟩⟩⟩⟩⟩⟩⟩⟩
theorem lw_p32 : lw_okq (⟨"TwoTownsModel", "readPerson", "(I)Z"⟩, 36) := ⟨⟨by decide +kernel, by decide +kernel⟩, List.mem_of_getElem? (i := 615) (by decide +kernel), List.mem_of_getElem? (i := 772) (by decide +kernel), List.mem_of_getElem? (i := 773) (by decide +kernel)⟩
theorem lw_p33 : lw_okq (⟨"TwoTownsModel", "isHouse", "(I)Z"⟩, 36) := ⟨⟨by decide +kernel, by decide +kernel⟩, List.mem_of_getElem? (i := 615) (by decide +kernel), List.mem_of_getElem? (i := 780) (by decide +kernel), List.mem_of_getElem? (i := 781) (by decide +kernel)⟩
theorem lw_p34 : lw_okq (⟨"TwoTownsModel", "isPerson", "(I)Z"⟩, 36) := ⟨⟨by decide +kernel, by decide +kernel⟩, List.mem_of_getElem? (i := 615) (by decide +kernel), List.mem_of_getElem? (i := 788) (by decide +kernel), List.mem_of_getElem? (i := 789) (by decide +kernel)⟩
theorem lw_p35 : lw_okq (⟨"TwoTownsModel", "wants", "(I)I"⟩, 36) := ⟨⟨by decide +kernel, by decide +kernel⟩, List.mem_of_getElem? (i := 615) (by decide +kernel), List.mem_of_getElem? (i := 792) (by decide +kernel), List.mem_of_getElem? (i := 793) (by decide +kernel)⟩
theorem lw_p36 : lw_okq (⟨"TwoTownsModel", "layGift", "(IIII)V"⟩, 36) := ⟨⟨by decide +kernel, by decide +kernel⟩, List.mem_of_getElem? (i := 615) (by decide +kernel), List.mem_of_getElem? (i := 811) (by decide +kernel), List.mem_of_getElem? (i := 812) (by decide +kernel)⟩
theorem lw_p37 : lw_okq (⟨"TwoTownsModel", "goTo", "(II)V"⟩, 36) := ⟨⟨by decide +kernel, by decide +kernel⟩, List.mem_of_getElem? (i := 615) (by decide +kernel), List.mem_of_getElem? (i := 826) (by decide +kernel), List.mem_of_getElem? (i := 827) (by decide +kernel)⟩
theorem lw_p38 : lw_okq (⟨"TwoTownsModel", "beginWeek", "(I)V"⟩, 36) := ⟨⟨by decide +kernel, by decide +kernel⟩, List.mem_of_getElem? (i := 615) (by decide +kernel), List.mem_of_getElem? (i := 830) (by decide +kernel), List.mem_of_getElem? (i := 831) (by decide +kernel)⟩
theorem lw_p39 : lw_okq (⟨"TwoTownsModel", "goHalf", "(II)V"⟩, 36) := ⟨⟨by decide +kernel, by decide +kernel⟩, List.mem_of_getElem? (i := 615) (by decide +kernel), List.mem_of_getElem? (i := 834) (by decide +kernel), List.mem_of_getElem? (i := 835) (by decide +kernel)⟩
theorem lw_p40 : lw_okq (⟨"TwoTownsModel", "townIn", "(I)I"⟩, 36) := ⟨⟨by decide +kernel, by decide +kernel⟩, List.mem_of_getElem? (i := 615) (by decide +kernel), List.mem_of_getElem? (i := 838) (by decide +kernel), List.mem_of_getElem? (i := 839) (by decide +kernel)⟩
theorem lw_p41 : lw_okq (⟨"TwoTownsModel", "turn", "(I)V"⟩, 36) := ⟨⟨by decide +kernel, by decide +kernel⟩, List.mem_of_getElem? (i := 615) (by decide +kernel), List.mem_of_getElem? (i := 842) (by decide +kernel), List.mem_of_getElem? (i := 843) (by decide +kernel)⟩
theorem lw_p42 : lw_okq (⟨"TwoTownsModel", "isBroken", "(I)Z"⟩, 36) := ⟨⟨by decide +kernel, by decide +kernel⟩, List.mem_of_getElem? (i := 615) (by decide +kernel), List.mem_of_getElem? (i := 846) (by decide +kernel), List.mem_of_getElem? (i := 847) (by decide +kernel)⟩
theorem lw_p43 : lw_okq (⟨"TwoTownsModel", "mend", "(I)V"⟩, 36) := ⟨⟨by decide +kernel, by decide +kernel⟩, List.mem_of_getElem? (i := 615) (by decide +kernel), List.mem_of_getElem? (i := 850) (by decide +kernel), List.mem_of_getElem? (i := 851) (by decide +kernel)⟩
theorem lw_p44 : lw_okq (⟨"TwoTownsModel", "goWeeks", "(I)V"⟩, 36) := ⟨⟨by decide +kernel, by decide +kernel⟩, List.mem_of_getElem? (i := 615) (by decide +kernel), List.mem_of_getElem? (i := 866) (by decide +kernel), List.mem_of_getElem? (i := 867) (by decide +kernel)⟩
theorem lw_p45 : lw_okq (⟨"TwoTownsModel", "allNow", "()I"⟩, 36) := ⟨⟨by decide +kernel, by decide +kernel⟩, List.mem_of_getElem? (i := 615) (by decide +kernel), List.mem_of_getElem? (i := 874) (by decide +kernel), List.mem_of_getElem? (i := 875) (by decide +kernel)⟩
theorem lw_p46 : lw_okq (⟨"TwoTownsModel", "allChills", "()I"⟩, 36) := ⟨⟨by decide +kernel, by decide +kernel⟩, List.mem_of_getElem? (i := 615) (by decide +kernel), List.mem_of_getElem? (i := 878) (by decide +kernel), List.mem_of_getElem? (i := 879) (by decide +kernel)⟩
theorem lw_p47 : lw_okq (⟨"TwoTownsModel", "awayNow", "()I"⟩, 36) := ⟨⟨by decide +kernel, by decide +kernel⟩, List.mem_of_getElem? (i := 615) (by decide +kernel), List.mem_of_getElem? (i := 898) (by decide +kernel), List.mem_of_getElem? (i := 899) (by decide +kernel)⟩
def lw_privs_3 : List (MethodName × Nat) := [(⟨"TwoTownsModel", "readPerson", "(I)Z"⟩, 36), (⟨"TwoTownsModel", "isHouse", "(I)Z"⟩, 36), (⟨"TwoTownsModel", "isPerson", "(I)Z"⟩, 36), (⟨"TwoTownsModel", "wants", "(I)I"⟩, 36), (⟨"TwoTownsModel", "layGift", "(IIII)V"⟩, 36), (⟨"TwoTownsModel", "goTo", "(II)V"⟩, 36), (⟨"TwoTownsModel", "beginWeek", "(I)V"⟩, 36), (⟨"TwoTownsModel", "goHalf", "(II)V"⟩, 36), (⟨"TwoTownsModel", "townIn", "(I)I"⟩, 36), (⟨"TwoTownsModel", "turn", "(I)V"⟩, 36), (⟨"TwoTownsModel", "isBroken", "(I)Z"⟩, 36), (⟨"TwoTownsModel", "mend", "(I)V"⟩, 36), (⟨"TwoTownsModel", "goWeeks", "(I)V"⟩, 36), (⟨"TwoTownsModel", "allNow", "()I"⟩, 36), (⟨"TwoTownsModel", "allChills", "()I"⟩, 36), (⟨"TwoTownsModel", "awayNow", "()I"⟩, 36)]
theorem lw_r3 : ∀ q ∈ lw_privs_3, lw_okq q := List.forall_mem_cons.mpr ⟨lw_p32, List.forall_mem_cons.mpr ⟨lw_p33, List.forall_mem_cons.mpr ⟨lw_p34, List.forall_mem_cons.mpr ⟨lw_p35, List.forall_mem_cons.mpr ⟨lw_p36, List.forall_mem_cons.mpr ⟨lw_p37, List.forall_mem_cons.mpr ⟨lw_p38, List.forall_mem_cons.mpr ⟨lw_p39, List.forall_mem_cons.mpr ⟨lw_p40, List.forall_mem_cons.mpr ⟨lw_p41, List.forall_mem_cons.mpr ⟨lw_p42, List.forall_mem_cons.mpr ⟨lw_p43, List.forall_mem_cons.mpr ⟨lw_p44, List.forall_mem_cons.mpr ⟨lw_p45, List.forall_mem_cons.mpr ⟨lw_p46, List.forall_mem_cons.mpr ⟨lw_p47, fun _ h => absurd h List.not_mem_nil⟩⟩⟩⟩⟩⟩⟩⟩⟩⟩⟩⟩⟩⟩⟩⟩
theorem lw_p48 : lw_okq (⟨"TwoTownsModel", "layAway", "(I)V"⟩, 36) := ⟨⟨by decide +kernel, by decide +kernel⟩, List.mem_of_getElem? (i := 615) (by decide +kernel), List.mem_of_getElem? (i := 905) (by decide +kernel), List.mem_of_getElem? (i := 906) (by decide +kernel)⟩
theorem lw_p49 : lw_okq (⟨"TwoTownsModel", "isWarmIn", "(I)Z"⟩, 36) := ⟨⟨by decide +kernel, by decide +kernel⟩, List.mem_of_getElem? (i := 615) (by decide +kernel), List.mem_of_getElem? (i := 913) (by decide +kernel), List.mem_of_getElem? (i := 914) (by decide +kernel)⟩
theorem lw_p50 : lw_okq (⟨"TwoTownsModel", "lessWear", "(II)I"⟩, 36) := ⟨⟨by decide +kernel, by decide +kernel⟩, List.mem_of_getElem? (i := 615) (by decide +kernel), List.mem_of_getElem? (i := 922) (by decide +kernel), List.mem_of_getElem? (i := 923) (by decide +kernel)⟩
theorem lw_p51 : lw_okq (⟨"TwoTownsModel", "allWear", "(I)I"⟩, 36) := ⟨⟨by decide +kernel, by decide +kernel⟩, List.mem_of_getElem? (i := 615) (by decide +kernel), List.mem_of_getElem? (i := 926) (by decide +kernel), List.mem_of_getElem? (i := 927) (by decide +kernel)⟩
theorem lw_p52 : lw_okq (⟨"TwoTownsModel", "halvesOf", "(II)I"⟩, 36) := ⟨⟨by decide +kernel, by decide +kernel⟩, List.mem_of_getElem? (i := 615) (by decide +kernel), List.mem_of_getElem? (i := 937) (by decide +kernel), List.mem_of_getElem? (i := 938) (by decide +kernel)⟩
theorem lw_p53 : lw_okq (⟨"TwoTownsModel", "timeOf", "(I)I"⟩, 36) := ⟨⟨by decide +kernel, by decide +kernel⟩, List.mem_of_getElem? (i := 615) (by decide +kernel), List.mem_of_getElem? (i := 941) (by decide +kernel), List.mem_of_getElem? (i := 942) (by decide +kernel)⟩
theorem lw_p54 : lw_okq (⟨"TwoTownsModel", "areSo", "()Z"⟩, 36) := ⟨⟨by decide +kernel, by decide +kernel⟩, List.mem_of_getElem? (i := 615) (by decide +kernel), List.mem_of_getElem? (i := 965) (by decide +kernel), List.mem_of_getElem? (i := 966) (by decide +kernel)⟩
theorem lw_p55 : lw_okq (⟨"TwoTownsModel", "lost", "(I)J"⟩, 36) := ⟨⟨by decide +kernel, by decide +kernel⟩, List.mem_of_getElem? (i := 615) (by decide +kernel), List.mem_of_getElem? (i := 997) (by decide +kernel), List.mem_of_getElem? (i := 998) (by decide +kernel)⟩
theorem lw_p56 : lw_okq (⟨"TwoTownsModel", "begins", "(I)V"⟩, 36) := ⟨⟨by decide +kernel, by decide +kernel⟩, List.mem_of_getElem? (i := 615) (by decide +kernel), List.mem_of_getElem? (i := 1009) (by decide +kernel), List.mem_of_getElem? (i := 1010) (by decide +kernel)⟩
def lw_privs_4 : List (MethodName × Nat) := [(⟨"TwoTownsModel", "layAway", "(I)V"⟩, 36), (⟨"TwoTownsModel", "isWarmIn", "(I)Z"⟩, 36), (⟨"TwoTownsModel", "lessWear", "(II)I"⟩, 36), (⟨"TwoTownsModel", "allWear", "(I)I"⟩, 36), (⟨"TwoTownsModel", "halvesOf", "(II)I"⟩, 36), (⟨"TwoTownsModel", "timeOf", "(I)I"⟩, 36), (⟨"TwoTownsModel", "areSo", "()Z"⟩, 36), (⟨"TwoTownsModel", "lost", "(I)J"⟩, 36), (⟨"TwoTownsModel", "begins", "(I)V"⟩, 36)]
theorem lw_r4 : ∀ q ∈ lw_privs_4, lw_okq q := List.forall_mem_cons.mpr ⟨lw_p48, List.forall_mem_cons.mpr ⟨lw_p49, List.forall_mem_cons.mpr ⟨lw_p50, List.forall_mem_cons.mpr ⟨lw_p51, List.forall_mem_cons.mpr ⟨lw_p52, List.forall_mem_cons.mpr ⟨lw_p53, List.forall_mem_cons.mpr ⟨lw_p54, List.forall_mem_cons.mpr ⟨lw_p55, List.forall_mem_cons.mpr ⟨lw_p56, fun _ h => absurd h List.not_mem_nil⟩⟩⟩⟩⟩⟩⟩⟩⟩
def lw_privs : List (MethodName × Nat) := lw_privs_1 ++ (lw_privs_2 ++ (lw_privs_3 ++ (lw_privs_4)))
def lw_tbl : List Cond := k2_sels lw_privs ++ tables_1
theorem lw_privs_ok : ∀ q ∈ lw_privs, lw_okq q := by
  show ∀ q ∈ lw_privs_1 ++ (lw_privs_2 ++ (lw_privs_3 ++ (lw_privs_4))), lw_okq q
  exact List.forall_mem_append.mpr ⟨lw_r1, List.forall_mem_append.mpr ⟨lw_r2, List.forall_mem_append.mpr ⟨lw_r3, lw_r4⟩⟩⟩
end
section
/-! ===== BEGIN words of one list among another's, by their places ===== -/
theorem goodIn_r {big : List Cond} (ws : List Cond) (ps : List Nat) (hp : ws = ps.filterMap (fun i => big[i]?)) (h : ws.all goodWord = true) : GoodIn big ws := by
  intro w hw
  have h1 := List.all_eq_true.mp h w hw
  rw [hp] at hw
  obtain ⟨i, -, hi⟩ := List.mem_filterMap.mp hw
  have hm : w ∈ big := by first | exact List.mem_of_getElem? hi | exact List.getElem?_mem hi
  exact ⟨hm, good_of_word h1⟩
theorem goodIn_app {big a b : List Cond} (ha : GoodIn big a) (hb : GoodIn big b) : GoodIn big (a ++ b) := fun w h => (List.mem_append.mp h).elim (ha w) (hb w)
theorem goodIn_ca {big a b : List Cond} {c : Cond} (ha : GoodIn big (c :: a)) (hb : GoodIn big b) : GoodIn big (c :: (a ++ b)) := fun w h => (List.mem_cons.mp h).elim (fun e => ha w (List.mem_cons.mpr (Or.inl e))) (fun h => (List.mem_append.mp h).elim (fun h => ha w (List.mem_cons.mpr (Or.inr h))) (hb w))
theorem goodIn_sub {big ws : List Cond} (hm : ∀ w ∈ ws, w ∈ big) (h : ws.all goodWord = true) : GoodIn big ws := fun w hw => ⟨hm w hw, good_of_word (List.all_eq_true.mp h w hw)⟩
/-! ===== END ===== -/
/-! ===== BEGIN printed: names, fields, word lists, decode rows ===== -/
def RX0 : String := "TwoTowns$Kept"
def TX0 : u_T := fun k => match k with
  | 0 => ("TwoTowns$Kept", "most", "I", true)
  | 1 => ("TwoTowns$Kept", "house", "[I", true)
  | 2 => ("TwoTowns$Kept", "when", "[I", true)
  | 3 => ("TwoTowns$Kept", "amount", "[I", true)
  | _ => ("TwoTowns$Kept", "count", "I", false)
def tyX0 : Nat → FieldType := fun k => match k with
  | 0 => .int
  | 1 => .array .int
  | 2 => .array .int
  | 3 => .array .int
  | _ => .int
abbrev wsX00 : List Cond := u_ws RX0 TX0 5
theorem nmX0 : ∀ a, a < 5 → ∀ b, b < 5 → a ≠ b → (TX0 a).2.1 ≠ (TX0 b).2.1 := by decide +kernel
theorem tyX0_ok : ∀ k, k < 5 → parseFieldDescriptor (TX0 k).2.2.1 = some (tyX0 k) := by decide +kernel
abbrev cX0_init : ByteArray := prog_2_method_1_code
def yX0_init : MethodName := ⟨RX0, "<init>", "(I)V"⟩
abbrev cX0_keep : ByteArray := prog_2_method_2_code
def yX0_keep : MethodName := ⟨RX0, "keep", "(III)I"⟩
abbrev cX0_takeBack : ByteArray := prog_2_method_3_code
def yX0_takeBack : MethodName := ⟨RX0, "takeBack", "(I)I"⟩
abbrev cX0_sumOf : ByteArray := prog_2_method_4_code
def yX0_sumOf : MethodName := ⟨RX0, "sumOf", "(II)I"⟩
abbrev cX0_areWearOf : ByteArray := prog_2_method_5_code
def yX0_areWearOf : MethodName := ⟨RX0, "areWearOf", "(LTwoTowns$Weeks;)Z"⟩
def RX1 : String := "TwoTowns$Sheet"
def TX1 : u_T := fun k => match k with
  | 0 => ("TwoTowns$Sheet", "cells", "[I", true)
  | 1 => ("TwoTowns$Sheet", "lane", "I", false)
  | _ => ("TwoTowns$Sheet", "length", "I", false)
def tyX1 : Nat → FieldType := fun k => match k with
  | 0 => .array .int
  | 1 => .int
  | _ => .int
abbrev wsX10 : List Cond := u_ws RX1 TX1 3
theorem nmX1 : ∀ a, a < 3 → ∀ b, b < 3 → a ≠ b → (TX1 a).2.1 ≠ (TX1 b).2.1 := by decide +kernel
theorem tyX1_ok : ∀ k, k < 3 → parseFieldDescriptor (TX1 k).2.2.1 = some (tyX1 k) := by decide +kernel
abbrev cX1_init : ByteArray := prog_3_method_1_code
def yX1_init : MethodName := ⟨RX1, "<init>", "()V"⟩
abbrev cX1_renew : ByteArray := prog_3_method_2_code
def yX1_renew : MethodName := ⟨RX1, "renew", "(II)V"⟩
abbrev cX1_hasNothing : ByteArray := prog_3_method_3_code
def yX1_hasNothing : MethodName := ⟨RX1, "hasNothing", "()Z"⟩
abbrev cX1_hasCell : ByteArray := prog_3_method_4_code
def yX1_hasCell : MethodName := ⟨RX1, "hasCell", "(I)Z"⟩
abbrev cX1_hasCells : ByteArray := prog_3_method_5_code
def yX1_hasCells : MethodName := ⟨RX1, "hasCells", "(II)Z"⟩
abbrev cX1_read : ByteArray := prog_3_method_6_code
def yX1_read : MethodName := ⟨RX1, "read", "(I)I"⟩
abbrev cX1_write : ByteArray := prog_3_method_7_code
def yX1_write : MethodName := ⟨RX1, "write", "(II)V"⟩
abbrev cX1_cutToLane : ByteArray := prog_3_method_8_code
def yX1_cutToLane : MethodName := ⟨RX1, "cutToLane", "(I)I"⟩
def RX2 : String := "TwoTowns$Told"
def TX2 : u_T := fun k => match k with
  | 0 => ("TwoTowns$Told", "comes", "[I", true)
  | 1 => ("TwoTowns$Told", "bears", "[I", true)
  | 2 => ("TwoTowns$Told", "kind", "[I", true)
  | 3 => ("TwoTowns$Told", "town", "[I", true)
  | 4 => ("TwoTowns$Told", "house", "[I", true)
  | 5 => ("TwoTowns$Told", "burns", "[I", true)
  | 6 => ("TwoTowns$Told", "mends", "[I", true)
  | 7 => ("TwoTowns$Told", "seam", "I", false)
  | 8 => ("TwoTowns$Told", "houses", "I", false)
  | 9 => ("TwoTowns$Told", "persons", "I", false)
  | 10 => ("TwoTowns$Told", "part", "I", false)
  | _ => ("TwoTowns$Told", "place", "I", false)
def tyX2 : Nat → FieldType := fun k => match k with
  | 0 => .array .int
  | 1 => .array .int
  | 2 => .array .int
  | 3 => .array .int
  | 4 => .array .int
  | 5 => .array .int
  | 6 => .array .int
  | 7 => .int
  | 8 => .int
  | 9 => .int
  | 10 => .int
  | _ => .int
abbrev wsX20 : List Cond := u_ws RX2 TX2 12
theorem nmX2 : ∀ a, a < 12 → ∀ b, b < 12 → a ≠ b → (TX2 a).2.1 ≠ (TX2 b).2.1 := by decide +kernel
theorem tyX2_ok : ∀ k, k < 12 → parseFieldDescriptor (TX2 k).2.2.1 = some (tyX2 k) := by decide +kernel
abbrev cX2_init : ByteArray := prog_4_method_1_code
def yX2_init : MethodName := ⟨RX2, "<init>", "()V"⟩
abbrev cX2_begin : ByteArray := prog_4_method_2_code
def yX2_begin : MethodName := ⟨RX2, "begin", "()V"⟩
abbrev cX2_isWhole : ByteArray := prog_4_method_3_code
def yX2_isWhole : MethodName := ⟨RX2, "isWhole", "()Z"⟩
abbrev cX2_goesOn : ByteArray := prog_4_method_4_code
def yX2_goesOn : MethodName := ⟨RX2, "goesOn", "(I)Z"⟩
abbrev cX2_headGoesOn : ByteArray := prog_4_method_5_code
def yX2_headGoesOn : MethodName := ⟨RX2, "headGoesOn", "(I)Z"⟩
abbrev cX2_opens : ByteArray := prog_4_method_6_code
def yX2_opens : MethodName := ⟨RX2, "opens", "(I)Z"⟩
abbrev cX2_houseGoesOn : ByteArray := prog_4_method_7_code
def yX2_houseGoesOn : MethodName := ⟨RX2, "houseGoesOn", "(II)Z"⟩
abbrev cX2_personGoesOn : ByteArray := prog_4_method_8_code
def yX2_personGoesOn : MethodName := ⟨RX2, "personGoesOn", "(II)Z"⟩
abbrev cX2_isIn : ByteArray := prog_4_method_9_code
def yX2_isIn : MethodName := ⟨RX2, "isIn", "(III)Z"⟩
abbrev cX2_digitOf : ByteArray := prog_4_method_10_code
def yX2_digitOf : MethodName := ⟨RX2, "digitOf", "(I)I"⟩
abbrev cX2_kindOf : ByteArray := prog_4_method_11_code
def yX2_kindOf : MethodName := ⟨RX2, "kindOf", "(I)I"⟩
abbrev cX2_breaksBy : ByteArray := prog_4_method_12_code
def yX2_breaksBy : MethodName := ⟨RX2, "breaksBy", "(II)Z"⟩
abbrev cX2_dwellersOf : ByteArray := prog_4_method_13_code
def yX2_dwellersOf : MethodName := ⟨RX2, "dwellersOf", "(I)I"⟩
abbrev cX2_townIn : ByteArray := prog_4_method_14_code
def yX2_townIn : MethodName := ⟨RX2, "townIn", "(II)I"⟩
def RX3 : String := "TwoTowns$Weeks"
def TX3 : u_T := fun k => match k with
  | 0 => ("TwoTowns$Weeks", "woods", "[I", true)
  | 1 => ("TwoTowns$Weeks", "wears", "[I", true)
  | 2 => ("TwoTowns$Weeks", "colds", "[I", true)
  | 3 => ("TwoTowns$Weeks", "woodNow", "[I", true)
  | 4 => ("TwoTowns$Weeks", "wearNow", "[I", true)
  | 5 => ("TwoTowns$Weeks", "wants", "[I", true)
  | 6 => ("TwoTowns$Weeks", "gifts", "LTwoTowns$Kept;", true)
  | 7 => ("TwoTowns$Weeks", "told", "LTwoTowns$Told;", false)
  | 8 => ("TwoTowns$Weeks", "away", "I", false)
  | 9 => ("TwoTowns$Weeks", "seam", "I", false)
  | 10 => ("TwoTowns$Weeks", "moreHouse", "I", false)
  | _ => ("TwoTowns$Weeks", "moreWood", "I", false)
def tyX3 : Nat → FieldType := fun k => match k with
  | 0 => .array .int
  | 1 => .array .int
  | 2 => .array .int
  | 3 => .array .int
  | 4 => .array .int
  | 5 => .array .int
  | 6 => .object "TwoTowns$Kept"
  | 7 => .object "TwoTowns$Told"
  | 8 => .int
  | 9 => .int
  | 10 => .int
  | _ => .int
abbrev wsX30 : List Cond := u_ws RX3 TX3 12
theorem nmX3 : ∀ a, a < 12 → ∀ b, b < 12 → a ≠ b → (TX3 a).2.1 ≠ (TX3 b).2.1 := by decide +kernel
theorem tyX3_ok : ∀ k, k < 12 → parseFieldDescriptor (TX3 k).2.2.1 = some (tyX3 k) := by decide +kernel
abbrev cX3_init : ByteArray := prog_5_method_1_code
def yX3_init : MethodName := ⟨RX3, "<init>", "(LTwoTowns$Told;LTwoTowns$Kept;)V"⟩
abbrev cX3_prepare : ByteArray := prog_5_method_2_code
def yX3_prepare : MethodName := ⟨RX3, "prepare", "(LTwoTowns$Told;I)V"⟩
abbrev cX3_live : ByteArray := prog_5_method_3_code
def yX3_live : MethodName := ⟨RX3, "live", "(II)Z"⟩
abbrev cX3_bringWood : ByteArray := prog_5_method_4_code
def yX3_bringWood : MethodName := ⟨RX3, "bringWood", "(I)V"⟩
abbrev cX3_takeWood : ByteArray := prog_5_method_5_code
def yX3_takeWood : MethodName := ⟨RX3, "takeWood", "(I)I"⟩
abbrev cX3_mend : ByteArray := prog_5_method_6_code
def yX3_mend : MethodName := ⟨RX3, "mend", "(I)V"⟩
abbrev cX3_note : ByteArray := prog_5_method_7_code
def yX3_note : MethodName := ⟨RX3, "note", "(II)V"⟩
abbrev cX3_woodAt : ByteArray := prog_5_method_8_code
def yX3_woodAt : MethodName := ⟨RX3, "woodAt", "(II)I"⟩
abbrev cX3_wearAt : ByteArray := prog_5_method_9_code
def yX3_wearAt : MethodName := ⟨RX3, "wearAt", "(II)I"⟩
abbrev cX3_coldAt : ByteArray := prog_5_method_10_code
def yX3_coldAt : MethodName := ⟨RX3, "coldAt", "(I)I"⟩
abbrev cX3_wearTogether : ByteArray := prog_5_method_11_code
def yX3_wearTogether : MethodName := ⟨RX3, "wearTogether", "(I)I"⟩
abbrev cX3_chillsOf : ByteArray := prog_5_method_12_code
def yX3_chillsOf : MethodName := ⟨RX3, "chillsOf", "(II)I"⟩
def RX4 : String := "TwoTowns"
def TX4 : u_T := fun k => match k with
  | 0 => ("TwoTowns", "sheets", "[LTwoTowns$Sheet;", true)
  | 1 => ("TwoTowns", "gifts", "LTwoTowns$Kept;", true)
  | 2 => ("TwoTowns", "readings", "LTwoTowns$Kept;", true)
  | 3 => ("TwoTowns", "told", "LTwoTowns$Told;", false)
  | 4 => ("TwoTowns", "draft", "LTwoTowns$Told;", false)
  | 5 => ("TwoTowns", "real", "LTwoTowns$Weeks;", true)
  | 6 => ("TwoTowns", "trial", "LTwoTowns$Weeks;", true)
  | 7 => ("TwoTowns", "away", "I", false)
  | 8 => ("TwoTowns", "realIsFresh", "Z", false)
  | 9 => ("TwoTowns", "trace", "I", false)
  | _ => ("TwoTowns", "fault", "I", false)
def tyX4 : Nat → FieldType := fun k => match k with
  | 0 => .array (.object "TwoTowns$Sheet")
  | 1 => .object "TwoTowns$Kept"
  | 2 => .object "TwoTowns$Kept"
  | 3 => .object "TwoTowns$Told"
  | 4 => .object "TwoTowns$Told"
  | 5 => .object "TwoTowns$Weeks"
  | 6 => .object "TwoTowns$Weeks"
  | 7 => .int
  | 8 => .boolean
  | 9 => .int
  | _ => .int
abbrev wsX40 : List Cond := u_ws RX4 TX4 11
theorem nmX4 : ∀ a, a < 11 → ∀ b, b < 11 → a ≠ b → (TX4 a).2.1 ≠ (TX4 b).2.1 := by decide +kernel
theorem tyX4_ok : ∀ k, k < 11 → parseFieldDescriptor (TX4 k).2.2.1 = some (tyX4 k) := by decide +kernel
abbrev cX4_init : ByteArray := prog_1_method_1_code
def yX4_init : MethodName := ⟨RX4, "<init>", "()V"⟩
abbrev cX4_houses : ByteArray := prog_1_method_2_code
def yX4_houses : MethodName := ⟨RX4, "houses", "(IIII)I"⟩
abbrev cX4_ofHouse : ByteArray := prog_1_method_3_code
def yX4_ofHouse : MethodName := ⟨RX4, "ofHouse", "(II)I"⟩
abbrev cX4_ofPerson : ByteArray := prog_1_method_4_code
def yX4_ofPerson : MethodName := ⟨RX4, "ofPerson", "(II)I"⟩
abbrev cX4_seam : ByteArray := prog_1_method_5_code
def yX4_seam : MethodName := ⟨RX4, "seam", "(I)I"⟩
abbrev cX4_away : ByteArray := prog_1_method_6_code
def yX4_away : MethodName := ⟨RX4, "away", "(IZ)I"⟩
abbrev cX4_gift : ByteArray := prog_1_method_7_code
def yX4_gift : MethodName := ⟨RX4, "gift", "(III)I"⟩
abbrev cX4_undo : ByteArray := prog_1_method_8_code
def yX4_undo : MethodName := ⟨RX4, "undo", "(I)I"⟩
abbrev cX4_wood : ByteArray := prog_1_method_9_code
def yX4_wood : MethodName := ⟨RX4, "wood", "(III)I"⟩
abbrev cX4_wear : ByteArray := prog_1_method_10_code
def yX4_wear : MethodName := ⟨RX4, "wear", "(III)I"⟩
abbrev cX4_cold : ByteArray := prog_1_method_11_code
def yX4_cold : MethodName := ⟨RX4, "cold", "(II)I"⟩
abbrev cX4_chills : ByteArray := prog_1_method_12_code
def yX4_chills : MethodName := ⟨RX4, "chills", "(II)I"⟩
abbrev cX4_all : ByteArray := prog_1_method_13_code
def yX4_all : MethodName := ⟨RX4, "all", "()I"⟩
abbrev cX4_breaks : ByteArray := prog_1_method_14_code
def yX4_breaks : MethodName := ⟨RX4, "breaks", "(I)I"⟩
abbrev cX4_best : ByteArray := prog_1_method_15_code
def yX4_best : MethodName := ⟨RX4, "best", "(I)I"⟩
abbrev cX4_blame : ByteArray := prog_1_method_16_code
def yX4_blame : MethodName := ⟨RX4, "blame", "(I)I"⟩
abbrev cX4_warm : ByteArray := prog_1_method_17_code
def yX4_warm : MethodName := ⟨RX4, "warm", "(I)I"⟩
abbrev cX4_logs : ByteArray := prog_1_method_18_code
def yX4_logs : MethodName := ⟨RX4, "logs", "(I)I"⟩
abbrev cX4_pays : ByteArray := prog_1_method_19_code
def yX4_pays : MethodName := ⟨RX4, "pays", "(III)J"⟩
abbrev cX4_together : ByteArray := prog_1_method_20_code
def yX4_together : MethodName := ⟨RX4, "together", "(III)I"⟩
abbrev cX4_third : ByteArray := prog_1_method_21_code
def yX4_third : MethodName := ⟨RX4, "third", "(I)I"⟩
abbrev cX4_row : ByteArray := prog_1_method_22_code
def yX4_row : MethodName := ⟨RX4, "row", "(IIII)I"⟩
abbrev cX4_reading : ByteArray := prog_1_method_23_code
def yX4_reading : MethodName := ⟨RX4, "reading", "(IIII)I"⟩
abbrev cX4_back : ByteArray := prog_1_method_24_code
def yX4_back : MethodName := ⟨RX4, "back", "(I)I"⟩
abbrev cX4_gone : ByteArray := prog_1_method_25_code
def yX4_gone : MethodName := ⟨RX4, "gone", "()I"⟩
abbrev cX4_seams : ByteArray := prog_1_method_26_code
def yX4_seams : MethodName := ⟨RX4, "seams", "()I"⟩
abbrev cX4_kinds : ByteArray := prog_1_method_27_code
def yX4_kinds : MethodName := ⟨RX4, "kinds", "(I)I"⟩
abbrev cX4_odds : ByteArray := prog_1_method_28_code
def yX4_odds : MethodName := ⟨RX4, "odds", "(II)J"⟩
abbrev cX4_sheet : ByteArray := prog_1_method_29_code
def yX4_sheet : MethodName := ⟨RX4, "sheet", "(III)I"⟩
abbrev cX4_lose : ByteArray := prog_1_method_30_code
def yX4_lose : MethodName := ⟨RX4, "lose", "(I)I"⟩
abbrev cX4_put : ByteArray := prog_1_method_31_code
def yX4_put : MethodName := ⟨RX4, "put", "(III)I"⟩
abbrev cX4_cell : ByteArray := prog_1_method_32_code
def yX4_cell : MethodName := ⟨RX4, "cell", "(III)J"⟩
abbrev cX4_copy : ByteArray := prog_1_method_33_code
def yX4_copy : MethodName := ⟨RX4, "copy", "(IIIII)I"⟩
abbrev cX4_tell : ByteArray := prog_1_method_34_code
def yX4_tell : MethodName := ⟨RX4, "tell", "(I)I"⟩
abbrev cX4_knock : ByteArray := prog_1_method_35_code
def yX4_knock : MethodName := ⟨RX4, "knock", "(I)I"⟩
abbrev cX4_as : ByteArray := prog_1_method_36_code
def yX4_as : MethodName := ⟨RX4, "as", "(II)I"⟩
abbrev cX4_trace : ByteArray := prog_1_method_37_code
def yX4_trace : MethodName := ⟨RX4, "trace", "()I"⟩
abbrev cX4_fault : ByteArray := prog_1_method_38_code
def yX4_fault : MethodName := ⟨RX4, "fault", "()I"⟩
abbrev cX4_many : ByteArray := prog_1_method_39_code
def yX4_many : MethodName := ⟨RX4, "many", "(I)I"⟩
abbrev cX4_isHouse : ByteArray := prog_1_method_40_code
def yX4_isHouse : MethodName := ⟨RX4, "isHouse", "(I)Z"⟩
abbrev cX4_isPerson : ByteArray := prog_1_method_41_code
def yX4_isPerson : MethodName := ⟨RX4, "isPerson", "(I)Z"⟩
abbrev cX4_isAway : ByteArray := prog_1_method_42_code
def yX4_isAway : MethodName := ⟨RX4, "isAway", "(I)Z"⟩
abbrev cX4_isSheet : ByteArray := prog_1_method_43_code
def yX4_isSheet : MethodName := ⟨RX4, "isSheet", "(I)Z"⟩
abbrev cX4_isLane : ByteArray := prog_1_method_44_code
def yX4_isLane : MethodName := ⟨RX4, "isLane", "(I)Z"⟩
abbrev cX4_isWeek : ByteArray := prog_1_method_45_code
def yX4_isWeek : MethodName := ⟨RX4, "isWeek", "(I)Z"⟩
abbrev cX4_isTime : ByteArray := prog_1_method_46_code
def yX4_isTime : MethodName := ⟨RX4, "isTime", "(II)Z"⟩
abbrev cX4_isWhich : ByteArray := prog_1_method_47_code
def yX4_isWhich : MethodName := ⟨RX4, "isWhich", "(I)Z"⟩
abbrev cX4_timeOf : ByteArray := prog_1_method_48_code
def yX4_timeOf : MethodName := ⟨RX4, "timeOf", "(II)I"⟩
abbrev cX4_everybody : ByteArray := prog_1_method_49_code
def yX4_everybody : MethodName := ⟨RX4, "everybody", "()I"⟩
abbrev cX4_whoIsIn : ByteArray := prog_1_method_50_code
def yX4_whoIsIn : MethodName := ⟨RX4, "whoIsIn", "(I)I"⟩
abbrev cX4_faultBy : ByteArray := prog_1_method_51_code
def yX4_faultBy : MethodName := ⟨RX4, "faultBy", "(I)I"⟩
abbrev cX4_refusalOfLane : ByteArray := prog_1_method_52_code
def yX4_refusalOfLane : MethodName := ⟨RX4, "refusalOfLane", "(II)I"⟩
abbrev cX4_refusalOfCells : ByteArray := prog_1_method_53_code
def yX4_refusalOfCells : MethodName := ⟨RX4, "refusalOfCells", "(IIII)I"⟩
abbrev cX4_firstFault : ByteArray := prog_1_method_54_code
def yX4_firstFault : MethodName := ⟨RX4, "firstFault", "(LTwoTowns$Sheet;II)I"⟩
abbrev cX4_freshWeeks : ByteArray := prog_1_method_55_code
def yX4_freshWeeks : MethodName := ⟨RX4, "freshWeeks", "()LTwoTowns$Weeks;"⟩
abbrev cX4_lessWearWithout : ByteArray := prog_1_method_56_code
def yX4_lessWearWithout : MethodName := ⟨RX4, "lessWearWithout", "(II)I"⟩
abbrev cX4_readingsAreSoInTrial : ByteArray := prog_1_method_57_code
def yX4_readingsAreSoInTrial : MethodName := ⟨RX4, "readingsAreSoInTrial", "()Z"⟩
abbrev cX4_ofShare : ByteArray := prog_1_method_58_code
def yX4_ofShare : MethodName := ⟨RX4, "ofShare", "(III)J"⟩
abbrev cX4_commonDivisor : ByteArray := prog_1_method_59_code
def yX4_commonDivisor : MethodName := ⟨RX4, "commonDivisor", "(II)I"⟩
abbrev cX4_wantsOf : ByteArray := prog_1_method_60_code
def yX4_wantsOf : MethodName := ⟨RX4, "wantsOf", "(II)I"⟩
abbrev cX4_leaveInTrace : ByteArray := prog_1_method_61_code
def yX4_leaveInTrace : MethodName := ⟨RX4, "leaveInTrace", "(I)V"⟩
abbrev cX4_tellDweller : ByteArray := prog_1_method_62_code
def yX4_tellDweller : MethodName := ⟨RX4, "tellDweller", "(I)I"⟩
abbrev cX4_tellHearty : ByteArray := prog_1_method_63_code
def yX4_tellHearty : MethodName := ⟨RX4, "tellHearty", "(I)I"⟩
abbrev cX4_tellFroward : ByteArray := prog_1_method_64_code
def yX4_tellFroward : MethodName := ⟨RX4, "tellFroward", "(I)I"⟩
def RX5 : String := "TwoTownsModel"
def TX5 : u_T := fun k => match k with
  | 0 => ("TwoTownsModel", "fault", "I", false)
  | 1 => ("TwoTownsModel", "trace", "I", false)
  | 2 => ("TwoTownsModel", "sorts", "[I", true)
  | 3 => ("TwoTownsModel", "sheetLong", "[I", true)
  | 4 => ("TwoTownsModel", "cells", "[I", true)
  | 5 => ("TwoTownsModel", "seam", "I", false)
  | 6 => ("TwoTownsModel", "houses", "I", false)
  | 7 => ("TwoTownsModel", "persons", "I", false)
  | 8 => ("TwoTownsModel", "comes", "[I", true)
  | 9 => ("TwoTownsModel", "bears", "[I", true)
  | 10 => ("TwoTownsModel", "kind", "[I", true)
  | 11 => ("TwoTownsModel", "town", "[I", true)
  | 12 => ("TwoTownsModel", "house", "[I", true)
  | 13 => ("TwoTownsModel", "burns", "[I", true)
  | 14 => ("TwoTownsModel", "mends", "[I", true)
  | 15 => ("TwoTownsModel", "isAway", "[Z", true)
  | 16 => ("TwoTownsModel", "at", "I", false)
  | 17 => ("TwoTownsModel", "readSeam", "I", false)
  | 18 => ("TwoTownsModel", "readHouses", "I", false)
  | 19 => ("TwoTownsModel", "readMany", "I", false)
  | 20 => ("TwoTownsModel", "readHouse", "[I", true)
  | 21 => ("TwoTownsModel", "read", "[I", true)
  | 22 => ("TwoTownsModel", "gifts", "I", false)
  | 23 => ("TwoTownsModel", "giftTo", "[I", true)
  | 24 => ("TwoTownsModel", "giftIn", "[I", true)
  | 25 => ("TwoTownsModel", "giftMuch", "[I", true)
  | 26 => ("TwoTownsModel", "woodOf", "[I", true)
  | 27 => ("TwoTownsModel", "wearOf", "[I", true)
  | 28 => ("TwoTownsModel", "chillsOf", "[I", true)
  | 29 => ("TwoTownsModel", "brokeIn", "[I", true)
  | 30 => ("TwoTownsModel", "coldNow", "I", false)
  | 31 => ("TwoTownsModel", "readings", "I", false)
  | 32 => ("TwoTownsModel", "readOf", "[I", true)
  | 33 => ("TwoTownsModel", "readWeek", "[I", true)
  | 34 => ("TwoTownsModel", "readHalf", "[I", true)
  | _ => ("TwoTownsModel", "readWear", "[I", true)
def tyX5 : Nat → FieldType := fun k => match k with
  | 0 => .int
  | 1 => .int
  | 2 => .array .int
  | 3 => .array .int
  | 4 => .array .int
  | 5 => .int
  | 6 => .int
  | 7 => .int
  | 8 => .array .int
  | 9 => .array .int
  | 10 => .array .int
  | 11 => .array .int
  | 12 => .array .int
  | 13 => .array .int
  | 14 => .array .int
  | 15 => .array .boolean
  | 16 => .int
  | 17 => .int
  | 18 => .int
  | 19 => .int
  | 20 => .array .int
  | 21 => .array .int
  | 22 => .int
  | 23 => .array .int
  | 24 => .array .int
  | 25 => .array .int
  | 26 => .array .int
  | 27 => .array .int
  | 28 => .array .int
  | 29 => .array .int
  | 30 => .int
  | 31 => .int
  | 32 => .array .int
  | 33 => .array .int
  | 34 => .array .int
  | _ => .array .int
abbrev wsX50 : List Cond := u_ws RX5 TX5 36
theorem nmX5 : ∀ a, a < 36 → ∀ b, b < 36 → a ≠ b → (TX5 a).2.1 ≠ (TX5 b).2.1 := by decide +kernel
theorem tyX5_ok : ∀ k, k < 36 → parseFieldDescriptor (TX5 k).2.2.1 = some (tyX5 k) := by decide +kernel
abbrev cX5_init : ByteArray := prog_7_method_1_code
def yX5_init : MethodName := ⟨RX5, "<init>", "()V"⟩
abbrev cX5_fails : ByteArray := prog_7_method_3_code
def yX5_fails : MethodName := ⟨RX5, "fails", "(I)I"⟩
abbrev cX5_lost : ByteArray := prog_7_method_4_code
def yX5_lost : MethodName := ⟨RX5, "lost", "(I)J"⟩
abbrev cX5_within : ByteArray := prog_7_method_5_code
def yX5_within : MethodName := ⟨RX5, "within", "(III)Z"⟩
abbrev cX5_isSheet : ByteArray := prog_7_method_6_code
def yX5_isSheet : MethodName := ⟨RX5, "isSheet", "(I)Z"⟩
abbrev cX5_isSort : ByteArray := prog_7_method_7_code
def yX5_isSort : MethodName := ⟨RX5, "isSort", "(I)Z"⟩
abbrev cX5_against : ByteArray := prog_7_method_8_code
def yX5_against : MethodName := ⟨RX5, "against", "(IIII)I"⟩
abbrev cX5_isHouse : ByteArray := prog_7_method_9_code
def yX5_isHouse : MethodName := ⟨RX5, "isHouse", "(I)Z"⟩
abbrev cX5_isPerson : ByteArray := prog_7_method_10_code
def yX5_isPerson : MethodName := ⟨RX5, "isPerson", "(I)Z"⟩
abbrev cX5_isWeek : ByteArray := prog_7_method_11_code
def yX5_isWeek : MethodName := ⟨RX5, "isWeek", "(I)Z"⟩
abbrev cX5_isHalf : ByteArray := prog_7_method_12_code
def yX5_isHalf : MethodName := ⟨RX5, "isHalf", "(I)Z"⟩
abbrev cX5_digit : ByteArray := prog_7_method_13_code
def yX5_digit : MethodName := ⟨RX5, "digit", "(III)I"⟩
abbrev cX5_isSign : ByteArray := prog_7_method_14_code
def yX5_isSign : MethodName := ⟨RX5, "isSign", "(II)Z"⟩
abbrev cX5_houses : ByteArray := prog_7_method_15_code
def yX5_houses : MethodName := ⟨RX5, "houses", "(IIII)I"⟩
abbrev cX5_readAll : ByteArray := prog_7_method_16_code
def yX5_readAll : MethodName := ⟨RX5, "readAll", "(I)Z"⟩
abbrev cX5_readTheSeam : ByteArray := prog_7_method_17_code
def yX5_readTheSeam : MethodName := ⟨RX5, "readTheSeam", "(I)Z"⟩
abbrev cX5_readOneHouse : ByteArray := prog_7_method_18_code
def yX5_readOneHouse : MethodName := ⟨RX5, "readOneHouse", "(I)Z"⟩
abbrev cX5_readPerson : ByteArray := prog_7_method_19_code
def yX5_readPerson : MethodName := ⟨RX5, "readPerson", "(I)Z"⟩
abbrev cX5_ofHouse : ByteArray := prog_7_method_20_code
def yX5_ofHouse : MethodName := ⟨RX5, "ofHouse", "(II)I"⟩
abbrev cX5_wants : ByteArray := prog_7_method_21_code
def yX5_wants : MethodName := ⟨RX5, "wants", "(I)I"⟩
abbrev cX5_ofPerson : ByteArray := prog_7_method_22_code
def yX5_ofPerson : MethodName := ⟨RX5, "ofPerson", "(II)I"⟩
abbrev cX5_seam : ByteArray := prog_7_method_23_code
def yX5_seam : MethodName := ⟨RX5, "seam", "(I)I"⟩
abbrev cX5_away : ByteArray := prog_7_method_24_code
def yX5_away : MethodName := ⟨RX5, "away", "(IZ)I"⟩
abbrev cX5_layGift : ByteArray := prog_7_method_25_code
def yX5_layGift : MethodName := ⟨RX5, "layGift", "(IIII)V"⟩
abbrev cX5_gift : ByteArray := prog_7_method_26_code
def yX5_gift : MethodName := ⟨RX5, "gift", "(III)I"⟩
abbrev cX5_undo : ByteArray := prog_7_method_27_code
def yX5_undo : MethodName := ⟨RX5, "undo", "(I)I"⟩
abbrev cX5_isBroken : ByteArray := prog_7_method_28_code
def yX5_isBroken : MethodName := ⟨RX5, "isBroken", "(I)Z"⟩
abbrev cX5_townIn : ByteArray := prog_7_method_29_code
def yX5_townIn : MethodName := ⟨RX5, "townIn", "(I)I"⟩
abbrev cX5_beginWeek : ByteArray := prog_7_method_30_code
def yX5_beginWeek : MethodName := ⟨RX5, "beginWeek", "(I)V"⟩
abbrev cX5_turn : ByteArray := prog_7_method_31_code
def yX5_turn : MethodName := ⟨RX5, "turn", "(I)V"⟩
abbrev cX5_mend : ByteArray := prog_7_method_32_code
def yX5_mend : MethodName := ⟨RX5, "mend", "(I)V"⟩
abbrev cX5_goHalf : ByteArray := prog_7_method_33_code
def yX5_goHalf : MethodName := ⟨RX5, "goHalf", "(II)V"⟩
abbrev cX5_goTo : ByteArray := prog_7_method_34_code
def yX5_goTo : MethodName := ⟨RX5, "goTo", "(II)V"⟩
abbrev cX5_goWeeks : ByteArray := prog_7_method_35_code
def yX5_goWeeks : MethodName := ⟨RX5, "goWeeks", "(I)V"⟩
abbrev cX5_allChills : ByteArray := prog_7_method_36_code
def yX5_allChills : MethodName := ⟨RX5, "allChills", "()I"⟩
abbrev cX5_wood : ByteArray := prog_7_method_37_code
def yX5_wood : MethodName := ⟨RX5, "wood", "(III)I"⟩
abbrev cX5_wear : ByteArray := prog_7_method_38_code
def yX5_wear : MethodName := ⟨RX5, "wear", "(III)I"⟩
abbrev cX5_cold : ByteArray := prog_7_method_39_code
def yX5_cold : MethodName := ⟨RX5, "cold", "(II)I"⟩
abbrev cX5_chills : ByteArray := prog_7_method_40_code
def yX5_chills : MethodName := ⟨RX5, "chills", "(II)I"⟩
abbrev cX5_allNow : ByteArray := prog_7_method_41_code
def yX5_allNow : MethodName := ⟨RX5, "allNow", "()I"⟩
abbrev cX5_all : ByteArray := prog_7_method_42_code
def yX5_all : MethodName := ⟨RX5, "all", "()I"⟩
abbrev cX5_breaks : ByteArray := prog_7_method_43_code
def yX5_breaks : MethodName := ⟨RX5, "breaks", "(I)I"⟩
abbrev cX5_best : ByteArray := prog_7_method_44_code
def yX5_best : MethodName := ⟨RX5, "best", "(I)I"⟩
abbrev cX5_blame : ByteArray := prog_7_method_45_code
def yX5_blame : MethodName := ⟨RX5, "blame", "(I)I"⟩
abbrev cX5_size : ByteArray := prog_7_method_46_code
def yX5_size : MethodName := ⟨RX5, "size", "(I)I"⟩
abbrev cX5_awayNow : ByteArray := prog_7_method_47_code
def yX5_awayNow : MethodName := ⟨RX5, "awayNow", "()I"⟩
abbrev cX5_layAway : ByteArray := prog_7_method_48_code
def yX5_layAway : MethodName := ⟨RX5, "layAway", "(I)V"⟩
abbrev cX5_warm : ByteArray := prog_7_method_49_code
def yX5_warm : MethodName := ⟨RX5, "warm", "(I)I"⟩
abbrev cX5_isWarmIn : ByteArray := prog_7_method_50_code
def yX5_isWarmIn : MethodName := ⟨RX5, "isWarmIn", "(I)Z"⟩
abbrev cX5_logs : ByteArray := prog_7_method_51_code
def yX5_logs : MethodName := ⟨RX5, "logs", "(I)I"⟩
abbrev cX5_allWear : ByteArray := prog_7_method_52_code
def yX5_allWear : MethodName := ⟨RX5, "allWear", "(I)I"⟩
abbrev cX5_lessWear : ByteArray := prog_7_method_53_code
def yX5_lessWear : MethodName := ⟨RX5, "lessWear", "(II)I"⟩
abbrev cX5_inLeastTerms : ByteArray := prog_7_method_54_code
def yX5_inLeastTerms : MethodName := ⟨RX5, "inLeastTerms", "(JJI)J"⟩
abbrev cX5_pays : ByteArray := prog_7_method_55_code
def yX5_pays : MethodName := ⟨RX5, "pays", "(III)J"⟩
abbrev cX5_timeOf : ByteArray := prog_7_method_56_code
def yX5_timeOf : MethodName := ⟨RX5, "timeOf", "(I)I"⟩
abbrev cX5_halvesOf : ByteArray := prog_7_method_57_code
def yX5_halvesOf : MethodName := ⟨RX5, "halvesOf", "(II)I"⟩
abbrev cX5_together : ByteArray := prog_7_method_58_code
def yX5_together : MethodName := ⟨RX5, "together", "(III)I"⟩
abbrev cX5_third : ByteArray := prog_7_method_59_code
def yX5_third : MethodName := ⟨RX5, "third", "(I)I"⟩
abbrev cX5_row : ByteArray := prog_7_method_60_code
def yX5_row : MethodName := ⟨RX5, "row", "(IIII)I"⟩
abbrev cX5_reading : ByteArray := prog_7_method_61_code
def yX5_reading : MethodName := ⟨RX5, "reading", "(IIII)I"⟩
abbrev cX5_back : ByteArray := prog_7_method_62_code
def yX5_back : MethodName := ⟨RX5, "back", "(I)I"⟩
abbrev cX5_areSo : ByteArray := prog_7_method_63_code
def yX5_areSo : MethodName := ⟨RX5, "areSo", "()Z"⟩
abbrev cX5_gone : ByteArray := prog_7_method_64_code
def yX5_gone : MethodName := ⟨RX5, "gone", "()I"⟩
abbrev cX5_seams : ByteArray := prog_7_method_65_code
def yX5_seams : MethodName := ⟨RX5, "seams", "()I"⟩
abbrev cX5_kinds : ByteArray := prog_7_method_66_code
def yX5_kinds : MethodName := ⟨RX5, "kinds", "(I)I"⟩
abbrev cX5_odds : ByteArray := prog_7_method_67_code
def yX5_odds : MethodName := ⟨RX5, "odds", "(II)J"⟩
abbrev cX5_sheet : ByteArray := prog_7_method_68_code
def yX5_sheet : MethodName := ⟨RX5, "sheet", "(III)I"⟩
abbrev cX5_lose : ByteArray := prog_7_method_69_code
def yX5_lose : MethodName := ⟨RX5, "lose", "(I)I"⟩
abbrev cX5_put : ByteArray := prog_7_method_70_code
def yX5_put : MethodName := ⟨RX5, "put", "(III)I"⟩
abbrev cX5_cell : ByteArray := prog_7_method_71_code
def yX5_cell : MethodName := ⟨RX5, "cell", "(III)J"⟩
abbrev cX5_copy : ByteArray := prog_7_method_72_code
def yX5_copy : MethodName := ⟨RX5, "copy", "(IIIII)I"⟩
abbrev cX5_begins : ByteArray := prog_7_method_73_code
def yX5_begins : MethodName := ⟨RX5, "begins", "(I)V"⟩
abbrev cX5_tell : ByteArray := prog_7_method_74_code
def yX5_tell : MethodName := ⟨RX5, "tell", "(I)I"⟩
abbrev cX5_knock : ByteArray := prog_7_method_75_code
def yX5_knock : MethodName := ⟨RX5, "knock", "(I)I"⟩
abbrev cX5_as : ByteArray := prog_7_method_76_code
def yX5_as : MethodName := ⟨RX5, "as", "(II)I"⟩
abbrev cX5_trace : ByteArray := prog_7_method_77_code
def yX5_trace : MethodName := ⟨RX5, "trace", "()I"⟩
abbrev cX5_fault : ByteArray := prog_7_method_78_code
def yX5_fault : MethodName := ⟨RX5, "fault", "()I"⟩
abbrev cX5_many : ByteArray := prog_7_method_79_code
def yX5_many : MethodName := ⟨RX5, "many", "(I)I"⟩
def RJ6 : String := "java/lang/Integer"
def TJ6 : u_T := fun k => match k with
  | _ => ("", "", "", false)
def tyJ6 : Nat → FieldType := fun k => match k with
  | _ => .int
abbrev wsJ60 : List Cond := u_ws RJ6 TJ6 0
theorem nmJ6 : ∀ a, a < 0 → ∀ b, b < 0 → a ≠ b → (TJ6 a).2.1 ≠ (TJ6 b).2.1 := by decide +kernel
theorem tyJ6_ok : ∀ k, k < 0 → parseFieldDescriptor (TJ6 k).2.2.1 = some (tyJ6 k) := by decide +kernel
abbrev cJ6_bitCount_0f7a4 : ByteArray := prog_8_method_49_code
def yJ6_bitCount_0f7a4 : MethodName := ⟨RJ6, "bitCount", "(I)I"⟩
def RJ9 : String := "java/lang/Math"
def TJ9 : u_T := fun k => match k with
  | _ => ("", "", "", false)
def tyJ9 : Nat → FieldType := fun k => match k with
  | _ => .int
abbrev wsJ90 : List Cond := u_ws RJ9 TJ9 0
theorem nmJ9 : ∀ a, a < 0 → ∀ b, b < 0 → a ≠ b → (TJ9 a).2.1 ≠ (TJ9 b).2.1 := by decide +kernel
theorem tyJ9_ok : ∀ k, k < 0 → parseFieldDescriptor (TJ9 k).2.2.1 = some (tyJ9 k) := by decide +kernel
abbrev cJ9_max_7cf53 : ByteArray := prog_9_method_65_code
def yJ9_max_7cf53 : MethodName := ⟨RJ9, "max", "(II)I"⟩
abbrev cJ9_min_7cf53 : ByteArray := prog_9_method_69_code
def yJ9_min_7cf53 : MethodName := ⟨RJ9, "min", "(II)I"⟩
def RJ10 : String := "java/lang/System"
def TJ10 : u_T := fun k => match k with
  | _ => ("", "", "", false)
def tyJ10 : Nat → FieldType := fun k => match k with
  | _ => .int
abbrev wsJ100 : List Cond := u_ws RJ10 TJ10 0
theorem nmJ10 : ∀ a, a < 0 → ∀ b, b < 0 → a ≠ b → (TJ10 a).2.1 ≠ (TJ10 b).2.1 := by decide +kernel
theorem tyJ10_ok : ∀ k, k < 0 → parseFieldDescriptor (TJ10 k).2.2.1 = some (tyJ10 k) := by decide +kernel
def RJ7 : String := "java/util/Arrays"
def TJ7 : u_T := fun k => match k with
  | _ => ("", "", "", false)
def tyJ7 : Nat → FieldType := fun k => match k with
  | _ => .int
abbrev wsJ70 : List Cond := u_ws RJ7 TJ7 0
theorem nmJ7 : ∀ a, a < 0 → ∀ b, b < 0 → a ≠ b → (TJ7 a).2.1 ≠ (TJ7 b).2.1 := by decide +kernel
theorem tyJ7_ok : ∀ k, k < 0 → parseFieldDescriptor (TJ7 k).2.2.1 = some (tyJ7 k) := by decide +kernel
abbrev cJ7_fill_53178 : ByteArray := prog_11_method_103_code
def yJ7_fill_53178 : MethodName := ⟨RJ7, "fill", "([II)V"⟩
def RL : String := "TwoTownsLaw"
abbrev cL_law : ByteArray := code
def yL_law : MethodName := ⟨RL, "law", "([I)Z"⟩
abbrev vwCl : List vw_C := [(RX0, TX0, 5), (RX1, TX1, 3), (RX2, TX2, 12), (RX3, TX3, 12), (RX4, TX4, 11), (RX5, TX5, 36)]
end
section
/-! THE GROUND: one world for all methods. Cell 0 is the script; the cells 1 .. are those that the run makes, in the order in which they are made. mu: whole numbers of a cell; pi: its references. -/
def kTS : List Cond := lw_tbl.filter goodWord
abbrev kWd : Type := Nat × (Nat → Nat → Int32) × (Nat → Nat → Option Nat)
abbrev kGm : Type := Launch × va_G × (Nat → ClassId) × Nat × Nat × Nat × (Nat → Int32)
abbrev kMI : Type := String × ByteArray × Nat × Option FieldType × String
abbrev kZ : Type := List Frame → Array Value → State → State → Prop
abbrev kb (Γ : kGm) : Nat := Γ.2.2.2.1
abbrev kbs (Γ : kGm) : Nat := Γ.2.2.2.2.1
abbrev kLn (Γ : kGm) : Nat := Γ.2.2.2.2.2.1
abbrev kxs (Γ : kGm) : Nat → Int32 := Γ.2.2.2.2.2.2
def kad (Γ : kGm) (k : Nat) : Nat := if k = 0 then kb Γ else kbs Γ + k
def kcv (Γ : kGm) : Value → Value
  | .ref k => .ref (kad Γ k)
  | v => v
def kA (Γ : kGm) : Nat → Prop := fun q => kbs Γ < q
/-- the kind of each cell (0 .. 5 a class, 10 ints, 11 booleans, 12 references) and its length -/
def kSH : List (Nat × Nat) := [(10, 0),
  (4, 11), (12, 4), (0, 5), (10, 6), (10, 6), (10, 6), (0, 5), (10, 8), (10, 8), (10, 8),
  (2, 12), (10, 4), (10, 4), (10, 6), (10, 6), (10, 6), (10, 6), (10, 6), (2, 12), (10, 4), (10, 4), (10, 6), (10, 6), (10, 6), (10, 6), (10, 6),
  (3, 12), (10, 560), (10, 560), (10, 140), (10, 4), (10, 4), (10, 6), (3, 12), (10, 560), (10, 560), (10, 140), (10, 4), (10, 4), (10, 6),
  (1, 3), (10, 60), (1, 3), (10, 60), (1, 3), (10, 60), (1, 3), (10, 60),
  (5, 36), (10, 4), (10, 4), (10, 240), (10, 4), (10, 4), (10, 6), (10, 6), (10, 6), (10, 6), (10, 6), (11, 6), (10, 8), (10, 30), (10, 7), (10, 7), (10, 7), (10, 4), (10, 4), (10, 6), (10, 4), (10, 8), (10, 8), (10, 8), (10, 8)]
def ksh (k : Nat) : Nat × Nat := kSH.getD k (99, 0)
/-- which fields of a class are whole numbers -/
def kint (c j : Nat) : Bool := match c with
  | 0 => j == 0 || j == 4
  | 1 => j == 1 || j == 2
  | 2 => decide (7 ≤ j)
  | 3 => decide (8 ≤ j)
  | 4 => decide (7 ≤ j)
  | _ => j == 0 || j == 1 || j == 5 || j == 6 || j == 7 || j == 16 || j == 17 || j == 18 || j == 19 || j == 22 || j == 30 || j == 31
def kN (c : Nat) : Nat := match c with
  | 0 => 5
  | 1 => 3
  | 2 => 12
  | 3 => 12
  | 4 => 11
  | _ => 36
def kT (c : Nat) : u_T := match c with
  | 0 => TX0
  | 1 => TX1
  | 2 => TX2
  | 3 => TX3
  | 4 => TX4
  | _ => TX5
def kR (c : Nat) : String := match c with
  | 0 => RX0
  | 1 => RX1
  | 2 => RX2
  | 3 => RX3
  | 4 => RX4
  | _ => RX5
def kTy (c : Nat) : Nat → FieldType := match c with
  | 0 => tyX0
  | 1 => tyX1
  | 2 => tyX2
  | 3 => tyX3
  | 4 => tyX4
  | _ => tyX5
def kFE (own : String) (i ci j : Nat) : Prop := ci < 6 ∧ j < kN ci ∧ Cond.fieldLink own i (kT ci j).1 (kT ci j).2.1 (kT ci j).2.2.1 ∈ kTS
def kfv (Γ : kGm) (ω : kWd) (c k j : Nat) : Value := if kint c j = true then .int (ω.2.1 k j) else va_rf ((ω.2.2 k j).map (kad Γ))
def kfs (Γ : kGm) (ω : kWd) (c k : Nat) : List Value := (List.range (kN c)).map (kfv Γ ω c k)
def kent (Γ : kGm) (ω : kWd) (k : Nat) : va_E :=
  if (ksh k).1 = 10 then .inl (Γ.2.2.1 0, (ksh k).2, .inl (ω.2.1 k)) else
  if (ksh k).1 = 11 then .inl (Γ.2.2.1 1, (ksh k).2, .inl (ω.2.1 k)) else
  if (ksh k).1 = 12 then .inl (Γ.2.2.1 2, (ksh k).2, .inr (.inr (.inr (.inr (fun j => (ω.2.2 k j).map (kad Γ)))))) else
  .inr ((ksh k).1, kfs Γ ω (ksh k).1 k)
def kws (Γ : kGm) (ω : kWd) : va_W := (List.range (ω.1 - 1)).map (fun k => (kbs Γ + (k + 1), kent Γ ω (k + 1)))
def kRep (Γ : kGm) (ω : kWd) (H : Heap) : Prop := 0 < ω.1 ∧ (ω.1 < 74 → H.size = kbs Γ + ω.1) ∧ va_P Γ.2.1 vwCl (kws Γ ω) H
def sA (ω : kWd) (k : Nat) (f : Nat → Int32) : kWd := (ω.1, fun a => if a = k then f else ω.2.1 a, ω.2.2)
def sI (ω : kWd) (k j : Nat) (v : Int32) : kWd := sA ω k (upd (ω.2.1 k) j v)
def sP (ω : kWd) (k j : Nat) (p : Option Nat) : kWd := (ω.1, ω.2.1, fun a => if a = k then va_up (ω.2.2 k) j p else ω.2.2 a)
abbrev kN1 : Cond := .methodLinkNest RX4 31 yX2_init RX4
abbrev kN2 : Cond := .methodLinkNest RX4 65 yX1_init RX4
abbrev kN3 : Cond := .methodLinkNest RX3 63 yX4_wantsOf RX4
def kty (Γ : kGm) : List (ClassId × FieldType) := [(Γ.2.2.1 0, .int), (Γ.2.2.1 1, .boolean), (Γ.2.2.1 2, .object RX1)]
def kKS (Γ : kGm) (U : State) : Prop := va_K Γ.2.1 vwCl (kty Γ) U ∧ va_Nw kN1 U ∧ va_Nw kN2 U ∧ va_Nw kN3 U ∧ va_AO RX1 U
def kCx (Γ : kGm) (mi : kMI) (p : Program) (s : State) (m : MethodId) (args : Array Value) (meth : Method) (c : Code) : Prop :=
  p.tables.exec = Jvm.exec ∧ c.code = mi.2.1 ∧ meth.sig.returnType = mi.2.2.2.1 ∧ c.maxLocals = mi.2.2.1 ∧ s.vm.findClass mi.1 = some m.cls ∧ (∀ w ∈ kTS, w.before args s = true) ∧ meth.locks = false ∧ (mi.2.2.2.2 = "<init>" → meth.name = "<init>") ∧ kKS Γ s ∧ kbs Γ < s.heap.size ∧ (mi.1 = RL → va_X (kb Γ) (kLn Γ) (kxs Γ) s s.heap ∧ kb Γ < s.heap.size ∧ kb Γ ≤ kbs Γ)
def kLv (Γ : kGm) (nL : Nat) (L : List (Option Value)) (ls : Array Slot) : Prop := ls.size = nL ∧ lv_wf ls ∧ ∀ (k : Nat) (v : Value), L[k]? = some (some v) → ls[k]? = some (Slot.val (kcv Γ v))
def kG (Γ : kGm) (mi : kMI) (R : Room) (cs : Nat × Nat) (pc : Nat) (L : List (Option Value)) (st : List Value) (ω : kWd) (Z : kZ) : Prop :=
  ∀ (p : Program) (e : Env) (s : State) (m : MethodId) (args : Array Value) (below : List Frame) (meth : Method) (c : Code) (H : Heap) (locs : List Loc) (ls : Array Slot),
    kCx Γ mi p s m args meth c → kRep Γ ω H → va_S (kA Γ) s.heap H locs → kLv Γ mi.2.2.1 L ls → W p Γ.1 e R s m args below meth c H locs cs.1 cs.2 (Z below args s) (F0 m pc ls (st.map (kcv Γ)))
def kQc (Γ : kGm) (Q : Option Value → kWd → Prop) : Array Value → State → Outcome → State → Prop := fun _ st oc t => (∃ (r : Option Value) (ω : kWd), oc = .returned (r.map (kcv Γ)) ∧ Q r ω ∧ kRep Γ ω t.heap) ∧ va_F (kA Γ) st t
def kMZ (Γ : kGm) (R : Room) (Q : Option Value → kWd → Prop) : kZ := fun below args s => MQ below (kQc Γ Q) args s R.cells R.slots (kA Γ)
abbrev kWs (y : MethodName) (mi : kMI) : List Cond := Cond.code y mi.2.1 mi.2.2.1 mi.2.2.2.1 :: kTS
def kC (Γ : kGm) (y : MethodName) (mi : kMI) (R : Room) (as : List Value) (ω : kWd) (Q : Option Value → kWd → Prop) : Prop :=
  Met Γ.1 y (kWs y mi) R (va_Pc (as.map (kcv Γ)) (fun U => kRep Γ ω U.heap ∧ kKS Γ U)) (kQc Γ Q) R.cells R.slots (kA Γ)
abbrev kRm (d mc ms : Nat) : Room := { frames := d, cells := mc, slots := ms, locals := 40 * d }
/-! what the world's list is -/
theorem kws_len (Γ : kGm) (ω : kWd) : (kws Γ ω).length = ω.1 - 1 := by simp [kws]
theorem kws_at {Γ : kGm} {ω : kWd} {k : Nat} (h : 0 < k) (h2 : k < ω.1) : (kws Γ ω)[k - 1]? = some (kad Γ k, kent Γ ω k) := by
  have e : k - 1 + 1 = k := by omega
  have h3 : k - 1 < ω.1 - 1 := by omega
  simp [kws, List.getElem?_map, List.getElem?_range h3, e, kad, Nat.ne_of_gt h]
theorem kws_get {Γ : kGm} {ω : kWd} {i : Nat} {q : Nat × va_E} (h : (kws Γ ω)[i]? = some q) : i < ω.1 - 1 ∧ q = (kbs Γ + (i + 1), kent Γ ω (i + 1)) := by
  have hl : i < (kws Γ ω).length := (List.getElem?_eq_some_iff.mp h).1
  rw [kws_len] at hl
  refine ⟨hl, ?_⟩
  rw [kws, List.getElem?_map, List.getElem?_range hl] at h
  exact (Option.some.inj h).symm
theorem kws_D (Γ : kGm) (ω : kWd) : va_D (kA Γ) (kws Γ ω) := by
  refine ⟨fun i j p q hi hj hpq => ?_, fun k q hk => ?_⟩
  · obtain ⟨-, rfl⟩ := kws_get hi
    obtain ⟨-, rfl⟩ := kws_get hj
    simp only at hpq
    omega
  · obtain ⟨-, rfl⟩ := kws_get hk
    show kbs Γ < kbs Γ + (k + 1)
    omega
theorem kws_set {Γ : kGm} {ω ω' : kWd} {k : Nat} (h : 0 < k) (h2 : k < ω.1) (e1 : ω'.1 = ω.1) (e2 : ∀ a, a ≠ k → kent Γ ω' a = kent Γ ω a) : (kws Γ ω).set (k - 1) (kad Γ k, kent Γ ω' k) = kws Γ ω' := by
  apply List.ext_getElem?
  intro i
  by_cases hi : i = k - 1
  · subst hi
    rw [List.getElem?_set_self (by rw [kws_len]; omega), kws_at h (by rw [e1]; exact h2)]
  · rw [List.getElem?_set_ne (Ne.symm hi)]
    simp only [kws, List.getElem?_map, e1]
    by_cases hl : i < ω.1 - 1
    · rw [List.getElem?_range hl]
      simp only [Option.map_some]
      rw [e2 (i + 1) (by omega)]
    · rw [List.getElem?_eq_none (by simpa using hl)]
      rfl
theorem kent_off_sA {Γ : kGm} {ω : kWd} {k a : Nat} {f : Nat → Int32} (h : a ≠ k) : kent Γ (sA ω k f) a = kent Γ ω a := by
  have e : ∀ c, kfs Γ (sA ω k f) c a = kfs Γ ω c a := fun c => by
    unfold kfs
    congr 1
    funext j
    simp [kfv, sA, h]
  simp only [kent, e]
  simp [sA, h]
theorem kent_off_sP {Γ : kGm} {ω : kWd} {k a j : Nat} {p : Option Nat} (h : a ≠ k) : kent Γ (sP ω k j p) a = kent Γ ω a := by
  have e : ∀ c, kfs Γ (sP ω k j p) c a = kfs Γ ω c a := fun c => by
    unfold kfs
    congr 1
    funext i
    simp [kfv, sP, h]
  simp only [kent, e]
  simp [sP, h]
theorem kws_sA {Γ : kGm} {ω : kWd} {k : Nat} {f : Nat → Int32} (h : 0 < k) (h2 : k < ω.1) : (kws Γ ω).set (k - 1) (kad Γ k, kent Γ (sA ω k f) k) = kws Γ (sA ω k f) := kws_set h h2 rfl (fun _ ha => kent_off_sA ha)
theorem kws_sP {Γ : kGm} {ω : kWd} {k j : Nat} {p : Option Nat} (h : 0 < k) (h2 : k < ω.1) : (kws Γ ω).set (k - 1) (kad Γ k, kent Γ (sP ω k j p) k) = kws Γ (sP ω k j p) := kws_set h h2 rfl (fun _ ha => kent_off_sP ha)
theorem kent_obj {Γ : kGm} {ω : kWd} {k c : Nat} (h : (ksh k).1 = c) (hc : c < 6) : kent Γ ω k = .inr (c, kfs Γ ω c k) := by
  unfold kent
  rw [h, if_neg (by omega), if_neg (by omega), if_neg (by omega)]
theorem kent_i {Γ : kGm} {ω : kWd} {k n : Nat} (h : ksh k = (10, n)) : kent Γ ω k = .inl (Γ.2.2.1 0, n, .inl (ω.2.1 k)) := by
  unfold kent
  rw [h]; rfl
theorem kent_z {Γ : kGm} {ω : kWd} {k n : Nat} (h : ksh k = (11, n)) : kent Γ ω k = .inl (Γ.2.2.1 1, n, .inl (ω.2.1 k)) := by
  unfold kent
  rw [h]; rfl
theorem kent_q {Γ : kGm} {ω : kWd} {k n : Nat} (h : ksh k = (12, n)) : kent Γ ω k = .inl (Γ.2.2.1 2, n, .inr (.inr (.inr (.inr (fun j => (ω.2.2 k j).map (kad Γ)))))) := by
  unfold kent
  rw [h]; rfl
theorem kfs_get {Γ : kGm} {ω : kWd} {c k j : Nat} (h : j < kN c) : (kfs Γ ω c k)[j]? = some (kfv Γ ω c k j) := by
  simp [kfs, List.getElem?_map, List.getElem?_range h]
theorem kfs_len (Γ : kGm) (ω : kWd) (c k : Nat) : (kfs Γ ω c k).length = kN c := by simp [kfs]
theorem kfs_set {Γ : kGm} {ω ω' : kWd} {c k j : Nat} {v : Value} (h : j < kN c) (e : kfv Γ ω' c k j = v) (e2 : ∀ i, i ≠ j → kfv Γ ω' c k i = kfv Γ ω c k i) : (kfs Γ ω c k).set j v = kfs Γ ω' c k := by
  apply List.ext_getElem?
  intro i
  by_cases hi : i = j
  · subst hi
    rw [List.getElem?_set_self (by rw [kfs_len]; exact h), kfs_get h, e]
  · rw [List.getElem?_set_ne (Ne.symm hi)]
    simp only [kfs, List.getElem?_map]
    by_cases hl : i < kN c
    · rw [List.getElem?_range hl]
      simp only [Option.map_some]
      rw [e2 i hi]
    · rw [List.getElem?_eq_none (by simpa using hl)]
      rfl
theorem kfv_int {Γ : kGm} {ω : kWd} {c k j : Nat} (h : kint c j = true) : kfv Γ ω c k j = .int (ω.2.1 k j) := by simp [kfv, h]
theorem kfv_ref {Γ : kGm} {ω : kWd} {c k j : Nat} (h : kint c j = false) : kfv Γ ω c k j = va_rf ((ω.2.2 k j).map (kad Γ)) := by simp [kfv, h]
theorem kfs_sI {Γ : kGm} {ω : kWd} {c k j : Nat} {x : Int32} (h : j < kN c) (hi : kint c j = true) : (kfs Γ ω c k).set j (.int x) = kfs Γ (sI ω k j x) c k := by
  refine kfs_set h ?_ (fun i hij => ?_)
  · rw [kfv_int hi]; simp [sI, sA, upd]
  · simp [kfv, sI, sA, upd, hij]
theorem kfs_sP {Γ : kGm} {ω : kWd} {c k j i : Nat} (h : j < kN c) (hi : kint c j = false) : (kfs Γ ω c k).set j (.ref (kad Γ i)) = kfs Γ (sP ω k j (some i)) c k := by
  refine kfs_set h ?_ (fun a haj => ?_)
  · rw [kfv_ref hi]; simp [sP, va_up, va_rf]
  · simp [kfv, sP, va_up, haj]
/-! words -/
theorem kTS_good : ∀ w ∈ kTS, (w.onTables && w.keeps) = true ∨ ∃ ty, w = .arrayClass ty := fun w h => good_of_word (List.mem_filter.mp h).2
theorem kTS_i {w : Cond} (i : Nat) (h : lw_tbl[i]? = some w) (hg : goodWord w = true) : w ∈ kTS := List.mem_filter.mpr ⟨List.mem_of_getElem? h, hg⟩
theorem kGood_sub {ws : List Cond} (h : ∀ w ∈ ws, w ∈ kTS) : GoodIn kTS ws := fun w hw => ⟨h w hw, kTS_good w (h w hw)⟩
theorem kKS.warm {Γ : kGm} {s U : State} (h : kKS Γ s) (hW : s.WarmedH U.vm) : kKS Γ U := ⟨va_K.moved hW.alike h.1, va_Nw.warmM hW h.2.1, va_Nw.warmM hW h.2.2.1, va_Nw.warmM hW h.2.2.2.1, va_AO.moved hW.alike h.2.2.2.2⟩
theorem kKS.call {Γ : kGm} {U : State} {g : JFrame} {mk : MethodId} {a : Array Value} (h : kKS Γ U) : kKS Γ (U.calling g mk a) := ⟨va_K.moved (u := U) (U := U.calling g mk a) (Vm.Alike.refl U.vm) h.1, va_Nw.same rfl rfl h.2.1, va_Nw.same rfl rfl h.2.2.1, va_Nw.same rfl rfl h.2.2.2.1, va_AO.moved (u := U) (U := U.calling g mk a) (Vm.Alike.refl U.vm) h.2.2.2.2⟩
theorem kTS_l {ws : List Cond} (ps : List Nat) (h : ws = ps.filterMap (fun i => lw_tbl[i]?)) (hg : ws.all goodWord = true) : ∀ w ∈ ws, w ∈ kTS := fun w hw => by
  refine List.mem_filter.mpr ⟨?_, List.all_eq_true.mp hg w hw⟩
  rw [h] at hw
  obtain ⟨i, -, hi⟩ := List.mem_filterMap.mp hw
  exact List.mem_of_getElem? hi
theorem kin0 : ∀ w ∈ u_ws RX0 TX0 5, w ∈ kTS := kTS_l [93, 95, 97, 99, 101] (by decide +kernel) (by decide +kernel)
theorem kin1 : ∀ w ∈ u_ws RX1 TX1 3, w ∈ kTS := kTS_l [223, 225, 227] (by decide +kernel) (by decide +kernel)
theorem kin2 : ∀ w ∈ u_ws RX2 TX2 12, w ∈ kTS := kTS_l [141, 143, 145, 147, 149, 151, 153, 155, 157, 159, 161, 163] (by decide +kernel) (by decide +kernel)
theorem kin3 : ∀ w ∈ u_ws RX3 TX3 12, w ∈ kTS := kTS_l [188, 190, 192, 194, 196, 198, 200, 202, 204, 206, 208, 210] (by decide +kernel) (by decide +kernel)
theorem kin4 : ∀ w ∈ u_ws RX4 TX4 11, w ∈ kTS := kTS_l [241, 243, 245, 247, 249, 251, 253, 255, 257, 259, 261] (by decide +kernel) (by decide +kernel)
theorem kin5 : ∀ w ∈ u_ws RX5 TX5 36, w ∈ kTS := kTS_l [713, 715, 717, 719, 721, 723, 725, 727, 729, 731, 733, 735, 737, 739, 741, 743, 745, 747, 749, 751, 753, 755, 757, 759, 761, 763, 765, 767, 769, 771, 773, 775, 777, 779, 781, 783] (by decide +kernel) (by decide +kernel)
theorem kcl {ci : Nat} (h : ci < 6) : vwCl[ci]? = some (kR ci, kT ci, kN ci) ∧ (∀ w ∈ u_ws (kR ci) (kT ci) (kN ci), w ∈ kTS) ∧ (∀ k, k < kN ci → parseFieldDescriptor (kT ci k).2.2.1 = some (kTy ci k)) ∧ (∀ a, a < kN ci → ∀ b, b < kN ci → a ≠ b → (kT ci a).2.1 ≠ (kT ci b).2.1) := by
  match ci, h with
  | 0, _ => exact ⟨rfl, kin0, tyX0_ok, nmX0⟩
  | 1, _ => exact ⟨rfl, kin1, tyX1_ok, nmX1⟩
  | 2, _ => exact ⟨rfl, kin2, tyX2_ok, nmX2⟩
  | 3, _ => exact ⟨rfl, kin3, tyX3_ok, nmX3⟩
  | 4, _ => exact ⟨rfl, kin4, tyX4_ok, nmX4⟩
  | 5, _ => exact ⟨rfl, kin5, tyX5_ok, nmX5⟩
theorem kmax_s : Cond.static Lib.Math.max.name ∈ kTS := kTS_i 85 (by decide +kernel) (by decide +kernel)
theorem kmin_s : Cond.static Lib.Math.min.name ∈ kTS := kTS_i 429 (by decide +kernel) (by decide +kernel)
theorem kmath_i : Cond.initialized "java/lang/Math" ∈ kTS := kTS_i 60 (by decide +kernel) (by decide +kernel)
theorem kmax_c : Cond.code Lib.Math.max.name Lib.Math.max.code 2 (some .int) ∈ kTS := kTS_i 86 (by decide +kernel) (by decide +kernel)
theorem kmin_c : Cond.code Lib.Math.min.name Lib.Math.min.code 2 (some .int) ∈ kTS := kTS_i 430 (by decide +kernel) (by decide +kernel)
theorem kobj_i : Cond.instanceMethod objectInit ∈ kTS := kTS_i 74 (by decide +kernel) (by decide +kernel)
theorem kobj_c : Cond.code objectInit ⟨#[0xb1]⟩ 1 none ∈ kTS := kTS_i 75 (by decide +kernel) (by decide +kernel)
theorem karr_i : Cond.arrayClass .int ∈ kTS := kTS_i 104 (by decide +kernel) (by decide +kernel)
theorem karr_z : Cond.arrayClass .boolean ∈ kTS := kTS_i 786 (by decide +kernel) (by decide +kernel)
theorem kcopy_n : Cond.native arraycopyName ∈ kTS := kTS_i 630 (by decide +kernel) (by decide +kernel)
theorem kcopy_s : Cond.static arraycopyName ∈ kTS := kTS_i 629 (by decide +kernel) (by decide +kernel)
theorem kcopy_i : Cond.initialized "java/lang/System" ∈ kTS := kTS_i 67 (by decide +kernel) (by decide +kernel)
/-! locals by their places -/
theorem kcv_cat (Γ : kGm) (v : Value) : (kcv Γ v).category = v.category := by cases v <;> rfl
def kok (L : List (Option Value)) (i : Nat) : Bool := match i with
  | 0 => true
  | i + 1 => match L[i]? with
    | some (some v) => v.category == 1
    | _ => true
def kLl (Γ : kGm) (L : List (Option Value)) : List (Nat × Value) := (List.range L.length).filterMap (fun k => (L[k]?.join).map (fun v => (k, kcv Γ v)))
theorem kLl_mem {Γ : kGm} {L : List (Option Value)} {q : Nat × Value} : q ∈ kLl Γ L ↔ ∃ v, L[q.1]? = some (some v) ∧ q.2 = kcv Γ v := by
  constructor
  · intro h
    obtain ⟨k, hk, e⟩ := List.mem_filterMap.mp h
    cases hL : L[k]? with
    | none => rw [hL] at e; cases e
    | some o =>
      cases o with
      | none => rw [hL] at e; cases e
      | some v =>
        rw [hL] at e
        obtain rfl := Option.some.inj e
        exact ⟨v, hL, rfl⟩
  · rintro ⟨v, h1, h2⟩
    refine List.mem_filterMap.mpr ⟨q.1, List.mem_range.mpr (List.getElem?_eq_some_iff.mp h1).1, ?_⟩
    rw [h1]
    show some (q.1, kcv Γ v) = some q
    rw [← h2]
theorem kLl_get {Γ : kGm} {L : List (Option Value)} {i : Nat} {x : Int32} (h : L[i]? = some (some (.int x))) : ∃ j : Nat, (kLl Γ L)[j]? = some (i, Value.int x) := List.getElem?_of_mem (kLl_mem.mpr ⟨_, h, rfl⟩)
theorem kLv_has {Γ : kGm} {nL : Nat} {L : List (Option Value)} {ls : Array Slot} (V : kLv Γ nL L ls) : lv_has ls nL (kLl Γ L) := ⟨V.1, V.2.1, fun q hq => by
  obtain ⟨v, h1, h2⟩ := kLl_mem.mp hq
  rw [h2]
  exact V.2.2 _ _ h1⟩
theorem kok_use {L : List (Option Value)} {i k : Nat} {v : Value} (h : kok L i = true) (hk : k + 1 = i) (hv : L[k]? = some (some v)) : v.category = 1 := by
  subst hk
  simp only [kok, hv] at h
  simpa using h
theorem kLv_set1 {Γ : kGm} {nL i : Nat} {L : List (Option Value)} {ls ls' : Array Slot} {x : Value} {y : Value} (V : kLv Γ nL L ls) (hxy : kcv Γ x = y) (ho : kok L i = true) (h : lv_has ls' nL ((i, y) :: (kLl Γ L).filter (fun q => !(q.1 == i) && !(q.1 + 1 == i && q.2.category == 2)))) : kLv Γ nL (L.set i (some x)) ls' := by
  refine ⟨h.1, h.2.1, fun k v hk => ?_⟩
  by_cases hki : k = i
  · subst hki
    have hl : k < (L.set k (some x)).length := (List.getElem?_eq_some_iff.mp hk).1
    rw [List.length_set] at hl
    rw [List.getElem?_set_self hl] at hk
    cases hk
    rw [hxy]
    exact h.2.2 (k, y) List.mem_cons_self
  · rw [List.getElem?_set_ne (Ne.symm hki)] at hk
    refine h.2.2 (k, kcv Γ v) (List.mem_cons_of_mem _ (List.mem_filter.mpr ⟨kLl_mem.mpr ⟨v, hk, rfl⟩, ?_⟩))
    have h2 : ¬ (k + 1 = i ∧ (kcv Γ v).category = 2) := by
      rintro ⟨a, b⟩
      rw [kcv_cat, kok_use ho a hk] at b
      cases b
    simp only [Bool.and_eq_true, Bool.not_eq_true', beq_eq_false_iff_ne, ne_eq]
    refine ⟨hki, ?_⟩
    rw [Bool.and_eq_false_iff]
    by_cases ha : k + 1 = i
    · exact Or.inr (by simp only [beq_eq_false_iff_ne, ne_eq]; exact fun b => h2 ⟨ha, b⟩)
    · exact Or.inl (by simp only [beq_eq_false_iff_ne, ne_eq]; exact ha)
theorem kLv_set2 {Γ : kGm} {nL i : Nat} {L : List (Option Value)} {ls ls' : Array Slot} {x : Int64} (V : kLv Γ nL L ls) (ho : kok L i = true) (h : lv_has ls' nL ((i, .long x) :: (kLl Γ L).filter (fun q => !(q.1 == i) && (!(q.1 == i + 1) && !(q.1 + 1 == i && q.2.category == 2))))) : kLv Γ nL ((L.set i (some (.long x))).set (i + 1) none) ls' := by
  refine ⟨h.1, h.2.1, fun k v hk => ?_⟩
  by_cases hk1 : k = i + 1
  · subst hk1
    have hl : i + 1 < ((L.set i (some (.long x))).set (i + 1) none).length := (List.getElem?_eq_some_iff.mp hk).1
    rw [List.length_set] at hl
    rw [List.getElem?_set_self hl] at hk
    cases hk
  · rw [List.getElem?_set_ne (Ne.symm hk1)] at hk
    by_cases hki : k = i
    · subst hki
      have hl : k < (L.set k (some (Value.long x))).length := (List.getElem?_eq_some_iff.mp hk).1
      rw [List.length_set] at hl
      rw [List.getElem?_set_self hl] at hk
      cases hk
      exact h.2.2 (k, .long x) List.mem_cons_self
    · rw [List.getElem?_set_ne (Ne.symm hki)] at hk
      refine h.2.2 (k, kcv Γ v) (List.mem_cons_of_mem _ (List.mem_filter.mpr ⟨kLl_mem.mpr ⟨v, hk, rfl⟩, ?_⟩))
      have h2 : ¬ (k + 1 = i ∧ (kcv Γ v).category = 2) := by
        rintro ⟨a, b⟩
        rw [kcv_cat, kok_use ho a hk] at b
        cases b
      simp only [Bool.and_eq_true, Bool.not_eq_true', beq_eq_false_iff_ne, ne_eq]
      refine ⟨hki, hk1, ?_⟩
      rw [Bool.and_eq_false_iff]
      by_cases ha : k + 1 = i
      · exact Or.inr (by simp only [beq_eq_false_iff_ne, ne_eq]; exact fun b => h2 ⟨ha, b⟩)
      · exact Or.inl (by simp only [beq_eq_false_iff_ne, ne_eq]; exact ha)
/-- L' knows no more than L -/
def kLe : List (Option Value) → List (Option Value) → Prop
  | [], _ => True
  | none :: a, _ :: b => kLe a b
  | some v :: a, x :: b => x = some v ∧ kLe a b
  | none :: a, [] => kLe a []
  | some _ :: _, [] => False
theorem kLe_get : ∀ {L' L : List (Option Value)} (_ : kLe L' L) {k : Nat} {v : Value}, L'[k]? = some (some v) → L[k]? = some (some v)
  | [], _, _, k, v, hk => by simp at hk
  | none :: a, x :: b, h, 0, v, hk => by simp at hk
  | none :: a, x :: b, h, k + 1, v, hk => by
    rw [List.getElem?_cons_succ] at hk ⊢
    exact kLe_get (L' := a) (L := b) h hk
  | some w :: a, x :: b, h, 0, v, hk => by
    rw [List.getElem?_cons_zero] at hk ⊢
    cases hk
    rw [h.1]
  | some w :: a, x :: b, h, k + 1, v, hk => by
    rw [List.getElem?_cons_succ] at hk ⊢
    exact kLe_get (L' := a) (L := b) h.2 hk
  | none :: a, [], h, 0, v, hk => by simp at hk
  | none :: a, [], h, k + 1, v, hk => by
    rw [List.getElem?_cons_succ] at hk
    have := kLe_get (L' := a) (L := []) h hk
    simp at this
/-- the locals with which a method begins -/
def kEnA : List Value → List (Option Value)
  | [] => []
  | v :: vs => if v.category = 2 then some v :: none :: kEnA vs else some v :: kEnA vs
def kEn (n : Nat) (vs : List Value) : List (Option Value) := kEnA vs ++ List.replicate (n - (kEnA vs).length) none
theorem kEnA_args (Γ : kGm) : ∀ (vs : List Value) (i k : Nat) (v : Value), (kEnA vs)[k]? = some (some v) → (i + k, kcv Γ v) ∈ lv_args i (vs.map (kcv Γ))
  | [], i, k, v, h => by simp [kEnA] at h
  | w :: vs, i, k, v, h => by
    simp only [kEnA] at h
    simp only [List.map_cons, lv_args, kcv_cat]
    by_cases hc : w.category = 2
    · rw [if_pos hc] at h ⊢
      match k, h with
      | 0, h =>
        rw [List.getElem?_cons_zero] at h
        cases h
        exact List.mem_cons_self
      | 1, h =>
        rw [List.getElem?_cons_succ, List.getElem?_cons_zero] at h
        cases h
      | k + 2, h =>
        rw [List.getElem?_cons_succ, List.getElem?_cons_succ] at h
        have := kEnA_args Γ vs (i + 2) k v h
        rw [show i + (k + 2) = i + 2 + k by omega]
        exact List.mem_cons_of_mem _ this
    · rw [if_neg hc] at h ⊢
      match k, h with
      | 0, h =>
        rw [List.getElem?_cons_zero] at h
        cases h
        exact List.mem_cons_self
      | k + 1, h =>
        rw [List.getElem?_cons_succ] at h
        have := kEnA_args Γ vs (i + 1) k v h
        rw [show i + (k + 1) = i + 1 + k by omega]
        exact List.mem_cons_of_mem _ this
theorem kEnA_len (Γ : kGm) : ∀ (vs : List Value), (lg_sl (vs.map (kcv Γ))).length = (kEnA vs).length
  | [] => rfl
  | w :: vs => by
    have ih := kEnA_len Γ vs
    simp only [lg_sl, List.map_cons, List.flatMap_cons, List.length_append, kcv_cat, kEnA] at ih ⊢
    by_cases hc : w.category = 2
    · rw [if_pos hc, if_pos hc]
      simp only [List.length_cons, List.length_nil]
      omega
    · rw [if_neg hc, if_neg hc]
      simp only [List.length_cons, List.length_nil]
      omega
theorem kEn_get {n : Nat} {vs : List Value} {k : Nat} {v : Value} (h : (kEn n vs)[k]? = some (some v)) : (kEnA vs)[k]? = some (some v) := by
  unfold kEn at h
  by_cases hl : k < (kEnA vs).length
  · rwa [List.getElem?_append_left hl] at h
  · rw [List.getElem?_append_right (by omega)] at h
    have := List.eq_of_mem_replicate (List.mem_of_getElem? h)
    cases this
section KR
variable {Γ : kGm} {mi : kMI} {R : Room} {cs : Nat × Nat} {pc : Nat} {L : List (Option Value)} {st : List Value} {ω : kWd} {Z : kZ}
theorem kG.iconst {n : Int} {v : Int32} (pc' : Nat) (hd : decode mi.2.1 pc = .ok (.iconst n, 1)) (hv : Int32.ofInt n = v) (hp : pc + 1 = pc') (kk : kG Γ mi R cs pc' L (.int v :: st) ω Z) : kG Γ mi R cs pc L st ω Z := by
  intro p e s m args below meth c H locs ls C P S V
  exact lv_iconst C.1 C.2.1 hd hv (by subst hp; exact kk p e s m args below meth c H locs ls C P S V)
theorem kG.bipush {n : Int} {v : Int32} (pc' : Nat) (hd : decode mi.2.1 pc = .ok (.bipush n, 2)) (hv : (Int8.ofInt n).toInt32 = v) (hp : pc + 2 = pc') (kk : kG Γ mi R cs pc' L (.int v :: st) ω Z) : kG Γ mi R cs pc L st ω Z := by
  intro p e s m args below meth c H locs ls C P S V
  exact lv_bipush C.1 C.2.1 hd hv (by subst hp; exact kk p e s m args below meth c H locs ls C P S V)
theorem kG.sipush {n : Int} {v : Int32} (pc' : Nat) (hd : decode mi.2.1 pc = .ok (.sipush n, 3)) (hv : (Int16.ofInt n).toInt32 = v) (hp : pc + 3 = pc') (kk : kG Γ mi R cs pc' L (.int v :: st) ω Z) : kG Γ mi R cs pc L st ω Z := by
  intro p e s m args below meth c H locs ls C P S V
  exact lv_sipush C.1 C.2.1 hd hv (by subst hp; exact kk p e s m args below meth c H locs ls C P S V)
theorem kG.lconst {n : Fin 2} {v : Int64} (pc' : Nat) (hd : decode mi.2.1 pc = .ok (.lconst n, 1)) (hv : Int64.ofNat (n : Nat) = v) (hp : pc + 1 = pc') (kk : kG Γ mi R cs pc' L (.long v :: st) ω Z) : kG Γ mi R cs pc L st ω Z := by
  intro p e s m args below meth c H locs ls C P S V
  exact lv_lconst C.1 C.2.1 hd hv (by subst hp; exact kk p e s m args below meth c H locs ls C P S V)
theorem kG.ldc2 {i : Nat} {v : Int64} (pc' : Nat) (hd : decode mi.2.1 pc = .ok (.ldc2_w i, 3)) (hc : Cond.constantLong mi.1 i v ∈ kTS) (hp : pc + 3 = pc') (kk : kG Γ mi R cs pc' L (.long v :: st) ω Z) : kG Γ mi R cs pc L st ω Z := by
  intro p e s m args below meth c H locs ls C P S V
  exact lv_ldc2 C.1 C.2.1 C.2.2.2.2.1 (C.2.2.2.2.2.1 _ hc) hd (by subst hp; exact kk p e s m args below meth c H locs ls C P S V)
theorem kG.ldcw {i : Nat} {v : Int32} (pc' : Nat) (hd : decode mi.2.1 pc = .ok (.ldc_w i, 3)) (hc : Cond.constant mi.1 i v ∈ kTS) (hp : pc + 3 = pc') (kk : kG Γ mi R cs pc' L (.int v :: st) ω Z) : kG Γ mi R cs pc L st ω Z := by
  intro p e s m args below meth c H locs ls C P S V
  exact lv_ldcw C.1 C.2.1 C.2.2.2.2.1 (C.2.2.2.2.2.1 _ hc) hd (by subst hp; exact kk p e s m args below meth c H locs ls C P S V)
theorem kG.iload_n {k : Fin 4} {x : Int32} (pc' : Nat) (hd : decode mi.2.1 pc = .ok (.iload_n k, 1)) (hl : L[(k : Nat)]? = some (some (.int x))) (hp : pc + 1 = pc') (kk : kG Γ mi R cs pc' L (.int x :: st) ω Z) : kG Γ mi R cs pc L st ω Z := by
  intro p e s m args below meth c H locs ls C P S V
  exact lv_iload_n C.1 C.2.1 hd rfl (V.2.2 _ _ hl) (by subst hp; exact kk p e s m args below meth c H locs ls C P S V)
theorem kG.iload {i : Nat} {x : Int32} (pc' : Nat) (hd : decode mi.2.1 pc = .ok (.iload i, 2)) (hl : L[i]? = some (some (.int x))) (hp : pc + 2 = pc') (kk : kG Γ mi R cs pc' L (.int x :: st) ω Z) : kG Γ mi R cs pc L st ω Z := by
  intro p e s m args below meth c H locs ls C P S V
  exact lv_iload C.1 C.2.1 hd (V.2.2 _ _ hl) (by subst hp; exact kk p e s m args below meth c H locs ls C P S V)
theorem kG.lload_n {k : Fin 4} {x : Int64} (pc' : Nat) (hd : decode mi.2.1 pc = .ok (.lload_n k, 1)) (hl : L[(k : Nat)]? = some (some (.long x))) (hp : pc + 1 = pc') (kk : kG Γ mi R cs pc' L (.long x :: st) ω Z) : kG Γ mi R cs pc L st ω Z := by
  intro p e s m args below meth c H locs ls C P S V
  exact lv_lload_n C.1 C.2.1 hd rfl (V.2.2 _ _ hl) (by subst hp; exact kk p e s m args below meth c H locs ls C P S V)
theorem kG.lload {i : Nat} {x : Int64} (pc' : Nat) (hd : decode mi.2.1 pc = .ok (.lload i, 2)) (hl : L[i]? = some (some (.long x))) (hp : pc + 2 = pc') (kk : kG Γ mi R cs pc' L (.long x :: st) ω Z) : kG Γ mi R cs pc L st ω Z := by
  intro p e s m args below meth c H locs ls C P S V
  exact lv_lload C.1 C.2.1 hd (V.2.2 _ _ hl) (by subst hp; exact kk p e s m args below meth c H locs ls C P S V)
theorem kG.aload_n {k : Fin 4} {x : Nat} (pc' : Nat) (hd : decode mi.2.1 pc = .ok (.aload_n k, 1)) (hl : L[(k : Nat)]? = some (some (.ref x))) (hp : pc + 1 = pc') (kk : kG Γ mi R cs pc' L (.ref x :: st) ω Z) : kG Γ mi R cs pc L st ω Z := by
  intro p e s m args below meth c H locs ls C P S V
  exact lv_aload_n C.1 C.2.1 hd rfl (V.2.2 _ _ hl) (by subst hp; exact kk p e s m args below meth c H locs ls C P S V)
theorem kG.aload {i : Nat} {x : Nat} (pc' : Nat) (hd : decode mi.2.1 pc = .ok (.aload i, 2)) (hl : L[i]? = some (some (.ref x))) (hp : pc + 2 = pc') (kk : kG Γ mi R cs pc' L (.ref x :: st) ω Z) : kG Γ mi R cs pc L st ω Z := by
  intro p e s m args below meth c H locs ls C P S V
  exact lv_aload C.1 C.2.1 hd (V.2.2 _ _ hl) (by subst hp; exact kk p e s m args below meth c H locs ls C P S V)
theorem kG.istore_n {k : Fin 4} {x : Int32} (pc' : Nat) (hd : decode mi.2.1 pc = .ok (.istore_n k, 1)) (hn : (k : Nat) < mi.2.2.1) (ho : kok L k = true) (hp : pc + 1 = pc') (kk : kG Γ mi R cs pc' (L.set k (some (.int x))) st ω Z) : kG Γ mi R cs pc L (.int x :: st) ω Z := by
  intro p e s m args below meth c H locs ls C P S V
  refine lv_istore_n (x := x) C.1 C.2.1 hd rfl (kLv_has V) hn rfl (fun ls' hl => ?_)
  subst hp
  exact kk p e s m args below meth c H locs ls' C P S (kLv_set1 V rfl ho hl)
theorem kG.istore {i : Nat} {x : Int32} (pc' : Nat) (hd : decode mi.2.1 pc = .ok (.istore i, 2)) (hn : i < mi.2.2.1) (ho : kok L i = true) (hp : pc + 2 = pc') (kk : kG Γ mi R cs pc' (L.set i (some (.int x))) st ω Z) : kG Γ mi R cs pc L (.int x :: st) ω Z := by
  intro p e s m args below meth c H locs ls C P S V
  refine lv_istore (x := x) C.1 C.2.1 hd (kLv_has V) hn rfl (fun ls' hl => ?_)
  subst hp
  exact kk p e s m args below meth c H locs ls' C P S (kLv_set1 V rfl ho hl)
theorem kG.astore_n {k : Fin 4} {x : Nat} (pc' : Nat) (hd : decode mi.2.1 pc = .ok (.astore_n k, 1)) (hn : (k : Nat) < mi.2.2.1) (ho : kok L k = true) (hp : pc + 1 = pc') (kk : kG Γ mi R cs pc' (L.set k (some (.ref x))) st ω Z) : kG Γ mi R cs pc L (.ref x :: st) ω Z := by
  intro p e s m args below meth c H locs ls C P S V
  refine lv_astore_n (x := (kad Γ x)) C.1 C.2.1 hd rfl (kLv_has V) hn rfl (fun ls' hl => ?_)
  subst hp
  exact kk p e s m args below meth c H locs ls' C P S (kLv_set1 V rfl ho hl)
theorem kG.astore {i : Nat} {x : Nat} (pc' : Nat) (hd : decode mi.2.1 pc = .ok (.astore i, 2)) (hn : i < mi.2.2.1) (ho : kok L i = true) (hp : pc + 2 = pc') (kk : kG Γ mi R cs pc' (L.set i (some (.ref x))) st ω Z) : kG Γ mi R cs pc L (.ref x :: st) ω Z := by
  intro p e s m args below meth c H locs ls C P S V
  refine lv_astore (x := (kad Γ x)) C.1 C.2.1 hd (kLv_has V) hn rfl (fun ls' hl => ?_)
  subst hp
  exact kk p e s m args below meth c H locs ls' C P S (kLv_set1 V rfl ho hl)
theorem kG.lstore_n {k : Fin 4} {x : Int64} (pc' : Nat) (hd : decode mi.2.1 pc = .ok (.lstore_n k, 1)) (hn : (k : Nat) + 1 < mi.2.2.1) (ho : kok L k = true) (hp : pc + 1 = pc') (kk : kG Γ mi R cs pc' ((L.set k (some (.long x))).set (k + 1) none) st ω Z) : kG Γ mi R cs pc L (.long x :: st) ω Z := by
  intro p e s m args below meth c H locs ls C P S V
  refine lv_lstore_n (x := x) C.1 C.2.1 hd rfl (kLv_has V) hn rfl (fun ls' hl => ?_)
  subst hp
  exact kk p e s m args below meth c H locs ls' C P S (kLv_set2 V ho hl)
theorem kG.lstore {i : Nat} {x : Int64} (pc' : Nat) (hd : decode mi.2.1 pc = .ok (.lstore i, 2)) (hn : i + 1 < mi.2.2.1) (ho : kok L i = true) (hp : pc + 2 = pc') (kk : kG Γ mi R cs pc' ((L.set i (some (.long x))).set (i + 1) none) st ω Z) : kG Γ mi R cs pc L (.long x :: st) ω Z := by
  intro p e s m args below meth c H locs ls C P S V
  refine lv_lstore (x := x) C.1 C.2.1 hd (kLv_has V) hn rfl (fun ls' hl => ?_)
  subst hp
  exact kk p e s m args below meth c H locs ls' C P S (kLv_set2 V ho hl)
theorem kG.iinc {i : Nat} {n : Int} {x v : Int32} (pc' : Nat) (hd : decode mi.2.1 pc = .ok (.iinc i n, 3)) (hl : L[i]? = some (some (.int x))) (hv : x + Int32.ofInt n = v) (hn : i < mi.2.2.1) (ho : kok L i = true) (hp : pc + 3 = pc') (kk : kG Γ mi R cs pc' (L.set i (some (.int v))) st ω Z) : kG Γ mi R cs pc L st ω Z := by
  intro p e s m args below meth c H locs ls C P S V
  obtain ⟨j, hj⟩ := kLl_get (Γ := Γ) hl
  refine lv_iinc (x := x) (v := v) C.1 C.2.1 hd (kLv_has V) hj hv hn rfl (fun ls' hl => ?_)
  subst hp
  exact kk p e s m args below meth c H locs ls' C P S (kLv_set1 (x := .int v) V rfl ho hl)
theorem kG.iadd {x y : Int32} (pc' : Nat) (hd : decode mi.2.1 pc = .ok (.iadd, 1)) (hp : pc + 1 = pc') (kk : kG Γ mi R cs pc' L (.int (x + y) :: st) ω Z) : kG Γ mi R cs pc L (.int y :: .int x :: st) ω Z := by
  intro p e s m args below meth c H locs ls C P S V
  exact lv_iadd C.1 C.2.1 hd (by subst hp; exact kk p e s m args below meth c H locs ls C P S V)
theorem kG.isub {x y : Int32} (pc' : Nat) (hd : decode mi.2.1 pc = .ok (.isub, 1)) (hp : pc + 1 = pc') (kk : kG Γ mi R cs pc' L (.int (x - y) :: st) ω Z) : kG Γ mi R cs pc L (.int y :: .int x :: st) ω Z := by
  intro p e s m args below meth c H locs ls C P S V
  exact lv_isub C.1 C.2.1 hd (by subst hp; exact kk p e s m args below meth c H locs ls C P S V)
theorem kG.imul {x y : Int32} (pc' : Nat) (hd : decode mi.2.1 pc = .ok (.imul, 1)) (hp : pc + 1 = pc') (kk : kG Γ mi R cs pc' L (.int (x * y) :: st) ω Z) : kG Γ mi R cs pc L (.int y :: .int x :: st) ω Z := by
  intro p e s m args below meth c H locs ls C P S V
  exact lv_imul C.1 C.2.1 hd (by subst hp; exact kk p e s m args below meth c H locs ls C P S V)
theorem kG.iand {x y : Int32} (pc' : Nat) (hd : decode mi.2.1 pc = .ok (.iand, 1)) (hp : pc + 1 = pc') (kk : kG Γ mi R cs pc' L (.int (x &&& y) :: st) ω Z) : kG Γ mi R cs pc L (.int y :: .int x :: st) ω Z := by
  intro p e s m args below meth c H locs ls C P S V
  exact lv_iand C.1 C.2.1 hd (by subst hp; exact kk p e s m args below meth c H locs ls C P S V)
theorem kG.ior {x y : Int32} (pc' : Nat) (hd : decode mi.2.1 pc = .ok (.ior, 1)) (hp : pc + 1 = pc') (kk : kG Γ mi R cs pc' L (.int (x ||| y) :: st) ω Z) : kG Γ mi R cs pc L (.int y :: .int x :: st) ω Z := by
  intro p e s m args below meth c H locs ls C P S V
  exact lv_ior C.1 C.2.1 hd (by subst hp; exact kk p e s m args below meth c H locs ls C P S V)
theorem kG.ixor {x y : Int32} (pc' : Nat) (hd : decode mi.2.1 pc = .ok (.ixor, 1)) (hp : pc + 1 = pc') (kk : kG Γ mi R cs pc' L (.int (x ^^^ y) :: st) ω Z) : kG Γ mi R cs pc L (.int y :: .int x :: st) ω Z := by
  intro p e s m args below meth c H locs ls C P S V
  exact lv_ixor C.1 C.2.1 hd (by subst hp; exact kk p e s m args below meth c H locs ls C P S V)
theorem kG.ishl {x y : Int32} (pc' : Nat) (hd : decode mi.2.1 pc = .ok (.ishl, 1)) (hp : pc + 1 = pc') (kk : kG Γ mi R cs pc' L (.int (x <<< (y &&& 31)) :: st) ω Z) : kG Γ mi R cs pc L (.int y :: .int x :: st) ω Z := by
  intro p e s m args below meth c H locs ls C P S V
  exact lv_ishl C.1 C.2.1 hd (by subst hp; exact kk p e s m args below meth c H locs ls C P S V)
theorem kG.ishr {x y : Int32} (pc' : Nat) (hd : decode mi.2.1 pc = .ok (.ishr, 1)) (hp : pc + 1 = pc') (kk : kG Γ mi R cs pc' L (.int (x >>> (y &&& 31)) :: st) ω Z) : kG Γ mi R cs pc L (.int y :: .int x :: st) ω Z := by
  intro p e s m args below meth c H locs ls C P S V
  exact lv_ishr C.1 C.2.1 hd (by subst hp; exact kk p e s m args below meth c H locs ls C P S V)
theorem kG.ladd {x y : Int64} (pc' : Nat) (hd : decode mi.2.1 pc = .ok (.ladd, 1)) (hp : pc + 1 = pc') (kk : kG Γ mi R cs pc' L (.long (x + y) :: st) ω Z) : kG Γ mi R cs pc L (.long y :: .long x :: st) ω Z := by
  intro p e s m args below meth c H locs ls C P S V
  exact lv_ladd C.1 C.2.1 hd (by subst hp; exact kk p e s m args below meth c H locs ls C P S V)
theorem kG.idiv {x y : Int32} (pc' : Nat) (hd : decode mi.2.1 pc = .ok (.idiv, 1)) (hp : pc + 1 = pc') (hne : ¬ y = 0) (kk : kG Γ mi R cs pc' L (.int (x / y) :: st) ω Z) : kG Γ mi R cs pc L (.int y :: .int x :: st) ω Z := by
  intro p e s m args below meth c H locs ls C P S V
  exact lv_idiv C.1 C.2.1 hd hne (by subst hp; exact kk p e s m args below meth c H locs ls C P S V)
theorem kG.irem {x y : Int32} (pc' : Nat) (hd : decode mi.2.1 pc = .ok (.irem, 1)) (hp : pc + 1 = pc') (hne : ¬ y = 0) (kk : kG Γ mi R cs pc' L (.int (x - x / y * y) :: st) ω Z) : kG Γ mi R cs pc L (.int y :: .int x :: st) ω Z := by
  intro p e s m args below meth c H locs ls C P S V
  exact lv_irem C.1 C.2.1 hd hne (by subst hp; exact kk p e s m args below meth c H locs ls C P S V)
theorem kG.ldiv {x y : Int64} (pc' : Nat) (hd : decode mi.2.1 pc = .ok (.ldiv, 1)) (hp : pc + 1 = pc') (hne : ¬ y = 0) (kk : kG Γ mi R cs pc' L (.long (x / y) :: st) ω Z) : kG Γ mi R cs pc L (.long y :: .long x :: st) ω Z := by
  intro p e s m args below meth c H locs ls C P S V
  exact lv_ldiv C.1 C.2.1 hd hne (by subst hp; exact kk p e s m args below meth c H locs ls C P S V)
theorem kG.lrem {x y : Int64} (pc' : Nat) (hd : decode mi.2.1 pc = .ok (.lrem, 1)) (hp : pc + 1 = pc') (hne : ¬ y = 0) (kk : kG Γ mi R cs pc' L (.long (x - x / y * y) :: st) ω Z) : kG Γ mi R cs pc L (.long y :: .long x :: st) ω Z := by
  intro p e s m args below meth c H locs ls C P S V
  exact lv_lrem C.1 C.2.1 hd hne (by subst hp; exact kk p e s m args below meth c H locs ls C P S V)
theorem kG.iushr {x y : Int32} (pc' : Nat) (hd : decode mi.2.1 pc = .ok (.iushr, 1)) (hp : pc + 1 = pc') (kk : kG Γ mi R cs pc' L (.int ((x.toUInt32 >>> (y.toUInt32 &&& Int32.toUInt32 31)).toInt32) :: st) ω Z) : kG Γ mi R cs pc L (.int y :: .int x :: st) ω Z := by
  intro p e s m args below meth c H locs ls C P S V
  exact lv_iushr C.1 C.2.1 hd rfl (by subst hp; exact kk p e s m args below meth c H locs ls C P S V)
theorem kG.lshl {x : Int64} {y : Int32} (pc' : Nat) (hd : decode mi.2.1 pc = .ok (.lshl, 1)) (hp : pc + 1 = pc') (kk : kG Γ mi R cs pc' L (.long (x <<< (y.toInt64 &&& 63)) :: st) ω Z) : kG Γ mi R cs pc L (.int y :: .long x :: st) ω Z := by
  intro p e s m args below meth c H locs ls C P S V
  exact lv_lshl C.1 C.2.1 hd rfl (by subst hp; exact kk p e s m args below meth c H locs ls C P S V)
theorem kG.lcmp {x y : Int64} (pc' : Nat) (hd : decode mi.2.1 pc = .ok (.lcmp, 1)) (hp : pc + 1 = pc') (kk : kG Γ mi R cs pc' L (.int (lg_cmp x y) :: st) ω Z) : kG Γ mi R cs pc L (.long y :: .long x :: st) ω Z := by
  intro p e s m args below meth c H locs ls C P S V
  exact W.lcmp C.1 C.2.1 hd (by subst hp; exact kk p e s m args below meth c H locs ls C P S V)
theorem kG.i2l {x : Int32} (pc' : Nat) (hd : decode mi.2.1 pc = .ok (.i2l, 1)) (hp : pc + 1 = pc') (kk : kG Γ mi R cs pc' L (.long x.toInt64 :: st) ω Z) : kG Γ mi R cs pc L (.int x :: st) ω Z := by
  intro p e s m args below meth c H locs ls C P S V
  exact lv_i2l C.1 C.2.1 hd rfl (by subst hp; exact kk p e s m args below meth c H locs ls C P S V)
theorem kG.i2b {x : Int32} (pc' : Nat) (hd : decode mi.2.1 pc = .ok (.i2b, 1)) (hp : pc + 1 = pc') (kk : kG Γ mi R cs pc' L (.int x.toInt8.toInt32 :: st) ω Z) : kG Γ mi R cs pc L (.int x :: st) ω Z := by
  intro p e s m args below meth c H locs ls C P S V
  exact lv_i2b C.1 C.2.1 hd rfl (by subst hp; exact kk p e s m args below meth c H locs ls C P S V)
theorem kG.i2s {x : Int32} (pc' : Nat) (hd : decode mi.2.1 pc = .ok (.i2s, 1)) (hp : pc + 1 = pc') (kk : kG Γ mi R cs pc' L (.int x.toInt16.toInt32 :: st) ω Z) : kG Γ mi R cs pc L (.int x :: st) ω Z := by
  intro p e s m args below meth c H locs ls C P S V
  exact lv_i2s C.1 C.2.1 hd rfl (by subst hp; exact kk p e s m args below meth c H locs ls C P S V)
theorem kG.dup {v : Value} (pc' : Nat) (hd : decode mi.2.1 pc = .ok (.dup, 1)) (hv : v.category = 1) (hp : pc + 1 = pc') (kk : kG Γ mi R cs pc' L (v :: v :: st) ω Z) : kG Γ mi R cs pc L (v :: st) ω Z := by
  intro p e s m args below meth c H locs ls C P S V
  exact lv_dup C.1 C.2.1 hd (by rw [kcv_cat]; exact hv) (by subst hp; exact kk p e s m args below meth c H locs ls C P S V)
theorem kG.dup_x1 {v w : Value} (pc' : Nat) (hd : decode mi.2.1 pc = .ok (.dup_x1, 1)) (hv : v.category = 1) (hw : w.category = 1) (hp : pc + 1 = pc') (kk : kG Γ mi R cs pc' L (v :: w :: v :: st) ω Z) : kG Γ mi R cs pc L (v :: w :: st) ω Z := by
  intro p e s m args below meth c H locs ls C P S V
  exact lv_dup_x1 C.1 C.2.1 hd (by rw [kcv_cat]; exact hv) (by rw [kcv_cat]; exact hw) (by subst hp; exact kk p e s m args below meth c H locs ls C P S V)
theorem kG.dup2 {v w : Value} (pc' : Nat) (hd : decode mi.2.1 pc = .ok (.dup2, 1)) (hv : v.category = 1) (hw : w.category = 1) (hp : pc + 1 = pc') (kk : kG Γ mi R cs pc' L (v :: w :: v :: w :: st) ω Z) : kG Γ mi R cs pc L (v :: w :: st) ω Z := by
  intro p e s m args below meth c H locs ls C P S V
  exact lv_dup2_11 C.1 C.2.1 hd (by rw [kcv_cat]; exact hv) (by rw [kcv_cat]; exact hw) (by subst hp; exact kk p e s m args below meth c H locs ls C P S V)
theorem kG.pop {v : Value} (pc' : Nat) (hd : decode mi.2.1 pc = .ok (.pop, 1)) (hv : v.category = 1) (hp : pc + 1 = pc') (kk : kG Γ mi R cs pc' L st ω Z) : kG Γ mi R cs pc L (v :: st) ω Z := by
  intro p e s m args below meth c H locs ls C P S V
  exact lv_pop C.1 C.2.1 hd (by rw [kcv_cat]; exact hv) (by subst hp; exact kk p e s m args below meth c H locs ls C P S V)
theorem kG.icmp_eq {x y : Int32} {off : Int} (tgt pc' : Nat) (hd : decode mi.2.1 pc = .ok (.if_icmp .eq off, 3)) (ht : (pc : Int) + off = (tgt : Int)) (hp : pc + 3 = pc') (kt : x = y → kG Γ mi R cs tgt L st ω Z) (kf : ¬ x = y → kG Γ mi R cs pc' L st ω Z) : kG Γ mi R cs pc L (.int y :: .int x :: st) ω Z := by
  intro p e s m args below meth c H locs ls C P S V
  subst hp
  exact lv_icmp_eq C.1 C.2.1 hd ht (fun h => kt h p e s m args below meth c H locs ls C P S V) (fun h => kf h p e s m args below meth c H locs ls C P S V)
theorem kG.if_eq {x : Int32} {off : Int} (tgt pc' : Nat) (hd : decode mi.2.1 pc = .ok (.ifCond .eq off, 3)) (ht : (pc : Int) + off = (tgt : Int)) (hp : pc + 3 = pc') (kt : x = 0 → kG Γ mi R cs tgt L st ω Z) (kf : ¬ x = 0 → kG Γ mi R cs pc' L st ω Z) : kG Γ mi R cs pc L (.int x :: st) ω Z := by
  intro p e s m args below meth c H locs ls C P S V
  subst hp
  exact lv_if_eq C.1 C.2.1 hd ht (fun h => kt h p e s m args below meth c H locs ls C P S V) (fun h => kf h p e s m args below meth c H locs ls C P S V)
theorem kG.icmp_ne {x y : Int32} {off : Int} (tgt pc' : Nat) (hd : decode mi.2.1 pc = .ok (.if_icmp .ne off, 3)) (ht : (pc : Int) + off = (tgt : Int)) (hp : pc + 3 = pc') (kt : ¬ x = y → kG Γ mi R cs tgt L st ω Z) (kf : x = y → kG Γ mi R cs pc' L st ω Z) : kG Γ mi R cs pc L (.int y :: .int x :: st) ω Z := by
  intro p e s m args below meth c H locs ls C P S V
  subst hp
  exact lv_icmp_ne C.1 C.2.1 hd ht (fun h => kt h p e s m args below meth c H locs ls C P S V) (fun h => kf h p e s m args below meth c H locs ls C P S V)
theorem kG.if_ne {x : Int32} {off : Int} (tgt pc' : Nat) (hd : decode mi.2.1 pc = .ok (.ifCond .ne off, 3)) (ht : (pc : Int) + off = (tgt : Int)) (hp : pc + 3 = pc') (kt : ¬ x = 0 → kG Γ mi R cs tgt L st ω Z) (kf : x = 0 → kG Γ mi R cs pc' L st ω Z) : kG Γ mi R cs pc L (.int x :: st) ω Z := by
  intro p e s m args below meth c H locs ls C P S V
  subst hp
  exact lv_if_ne C.1 C.2.1 hd ht (fun h => kt h p e s m args below meth c H locs ls C P S V) (fun h => kf h p e s m args below meth c H locs ls C P S V)
theorem kG.icmp_lt {x y : Int32} {off : Int} (tgt pc' : Nat) (hd : decode mi.2.1 pc = .ok (.if_icmp .lt off, 3)) (ht : (pc : Int) + off = (tgt : Int)) (hp : pc + 3 = pc') (kt : x < y → kG Γ mi R cs tgt L st ω Z) (kf : ¬ x < y → kG Γ mi R cs pc' L st ω Z) : kG Γ mi R cs pc L (.int y :: .int x :: st) ω Z := by
  intro p e s m args below meth c H locs ls C P S V
  subst hp
  exact lv_icmp_lt C.1 C.2.1 hd ht (fun h => kt h p e s m args below meth c H locs ls C P S V) (fun h => kf h p e s m args below meth c H locs ls C P S V)
theorem kG.if_lt {x : Int32} {off : Int} (tgt pc' : Nat) (hd : decode mi.2.1 pc = .ok (.ifCond .lt off, 3)) (ht : (pc : Int) + off = (tgt : Int)) (hp : pc + 3 = pc') (kt : x < 0 → kG Γ mi R cs tgt L st ω Z) (kf : ¬ x < 0 → kG Γ mi R cs pc' L st ω Z) : kG Γ mi R cs pc L (.int x :: st) ω Z := by
  intro p e s m args below meth c H locs ls C P S V
  subst hp
  exact lv_if_lt C.1 C.2.1 hd ht (fun h => kt h p e s m args below meth c H locs ls C P S V) (fun h => kf h p e s m args below meth c H locs ls C P S V)
theorem kG.icmp_ge {x y : Int32} {off : Int} (tgt pc' : Nat) (hd : decode mi.2.1 pc = .ok (.if_icmp .ge off, 3)) (ht : (pc : Int) + off = (tgt : Int)) (hp : pc + 3 = pc') (kt : y ≤ x → kG Γ mi R cs tgt L st ω Z) (kf : ¬ y ≤ x → kG Γ mi R cs pc' L st ω Z) : kG Γ mi R cs pc L (.int y :: .int x :: st) ω Z := by
  intro p e s m args below meth c H locs ls C P S V
  subst hp
  exact lv_icmp_ge C.1 C.2.1 hd ht (fun h => kt h p e s m args below meth c H locs ls C P S V) (fun h => kf h p e s m args below meth c H locs ls C P S V)
theorem kG.if_ge {x : Int32} {off : Int} (tgt pc' : Nat) (hd : decode mi.2.1 pc = .ok (.ifCond .ge off, 3)) (ht : (pc : Int) + off = (tgt : Int)) (hp : pc + 3 = pc') (kt : 0 ≤ x → kG Γ mi R cs tgt L st ω Z) (kf : ¬ 0 ≤ x → kG Γ mi R cs pc' L st ω Z) : kG Γ mi R cs pc L (.int x :: st) ω Z := by
  intro p e s m args below meth c H locs ls C P S V
  subst hp
  exact lv_if_ge C.1 C.2.1 hd ht (fun h => kt h p e s m args below meth c H locs ls C P S V) (fun h => kf h p e s m args below meth c H locs ls C P S V)
theorem kG.icmp_gt {x y : Int32} {off : Int} (tgt pc' : Nat) (hd : decode mi.2.1 pc = .ok (.if_icmp .gt off, 3)) (ht : (pc : Int) + off = (tgt : Int)) (hp : pc + 3 = pc') (kt : y < x → kG Γ mi R cs tgt L st ω Z) (kf : ¬ y < x → kG Γ mi R cs pc' L st ω Z) : kG Γ mi R cs pc L (.int y :: .int x :: st) ω Z := by
  intro p e s m args below meth c H locs ls C P S V
  subst hp
  exact lv_icmp_gt C.1 C.2.1 hd ht (fun h => kt h p e s m args below meth c H locs ls C P S V) (fun h => kf h p e s m args below meth c H locs ls C P S V)
theorem kG.if_gt {x : Int32} {off : Int} (tgt pc' : Nat) (hd : decode mi.2.1 pc = .ok (.ifCond .gt off, 3)) (ht : (pc : Int) + off = (tgt : Int)) (hp : pc + 3 = pc') (kt : 0 < x → kG Γ mi R cs tgt L st ω Z) (kf : ¬ 0 < x → kG Γ mi R cs pc' L st ω Z) : kG Γ mi R cs pc L (.int x :: st) ω Z := by
  intro p e s m args below meth c H locs ls C P S V
  subst hp
  exact lv_if_gt C.1 C.2.1 hd ht (fun h => kt h p e s m args below meth c H locs ls C P S V) (fun h => kf h p e s m args below meth c H locs ls C P S V)
theorem kG.icmp_le {x y : Int32} {off : Int} (tgt pc' : Nat) (hd : decode mi.2.1 pc = .ok (.if_icmp .le off, 3)) (ht : (pc : Int) + off = (tgt : Int)) (hp : pc + 3 = pc') (kt : x ≤ y → kG Γ mi R cs tgt L st ω Z) (kf : ¬ x ≤ y → kG Γ mi R cs pc' L st ω Z) : kG Γ mi R cs pc L (.int y :: .int x :: st) ω Z := by
  intro p e s m args below meth c H locs ls C P S V
  subst hp
  exact lv_icmp_le C.1 C.2.1 hd ht (fun h => kt h p e s m args below meth c H locs ls C P S V) (fun h => kf h p e s m args below meth c H locs ls C P S V)
theorem kG.if_le {x : Int32} {off : Int} (tgt pc' : Nat) (hd : decode mi.2.1 pc = .ok (.ifCond .le off, 3)) (ht : (pc : Int) + off = (tgt : Int)) (hp : pc + 3 = pc') (kt : x ≤ 0 → kG Γ mi R cs tgt L st ω Z) (kf : ¬ x ≤ 0 → kG Γ mi R cs pc' L st ω Z) : kG Γ mi R cs pc L (.int x :: st) ω Z := by
  intro p e s m args below meth c H locs ls C P S V
  subst hp
  exact lv_if_le C.1 C.2.1 hd ht (fun h => kt h p e s m args below meth c H locs ls C P S V) (fun h => kf h p e s m args below meth c H locs ls C P S V)
theorem kG.goto {off : Int} (tgt : Nat) (hd : decode mi.2.1 pc = .ok (.goto off, 3)) (ht : (pc : Int) + off = (tgt : Int)) (kk : kG Γ mi R cs tgt L st ω Z) : kG Γ mi R cs pc L st ω Z := by
  intro p e s m args below meth c H locs ls C P S V
  exact lv_goto C.1 C.2.1 hd ht (kk p e s m args below meth c H locs ls C P S V)
theorem kG.tableIn {dflt lo hi : Int} {offs : Array Int} {len : Nat} {x : Int32} {off : Int} (tgt : Nat) (hd : decode mi.2.1 pc = .ok (.tableswitch dflt lo hi offs, len)) (h1 : ¬ x.toInt < lo) (h2 : ¬ hi < x.toInt) (ho : offs[(x.toInt - lo).toNat]? = some off) (ht : (pc : Int) + off = (tgt : Int)) (kk : kG Γ mi R cs tgt L st ω Z) : kG Γ mi R cs pc L (.int x :: st) ω Z := by
  intro p e s m args below meth c H locs ls C P S V
  exact lv_tableIn C.1 C.2.1 hd h1 h2 ho ht (kk p e s m args below meth c H locs ls C P S V)
theorem kG.tableOut {dflt lo hi : Int} {offs : Array Int} {len : Nat} {x : Int32} (tgt : Nat) (hd : decode mi.2.1 pc = .ok (.tableswitch dflt lo hi offs, len)) (h : x.toInt < lo ∨ hi < x.toInt) (ht : (pc : Int) + dflt = (tgt : Int)) (kk : kG Γ mi R cs tgt L st ω Z) : kG Γ mi R cs pc L (.int x :: st) ω Z := by
  intro p e s m args below meth c H locs ls C P S V
  exact lv_tableOut C.1 C.2.1 hd h ht (kk p e s m args below meth c H locs ls C P S V)
theorem kG.lookup {dflt : Int} {ps : Array (Int × Int)} {len : Nat} {x : Int32} {off : Int} (tgt : Nat) (hd : decode mi.2.1 pc = .ok (.lookupswitch dflt ps, len)) (hps : (ps.toList.zip (ps.toList.drop 1)).all (fun (a, next) => a.1 < next.1) = true) (ho : Op.lookupswitch.offset ps.toList dflt x.toInt = off) (ht : (pc : Int) + off = (tgt : Int)) (kk : kG Γ mi R cs tgt L st ω Z) : kG Γ mi R cs pc L (.int x :: st) ω Z := by
  intro p e s m args below meth c H locs ls C P S V
  exact lv_lookup C.1 C.2.1 hd hps ho ht (kk p e s m args below meth c H locs ls C P S V)
theorem kG.sub {L' : List (Option Value)} (h : kLe L' L) (kk : kG Γ mi R cs pc L' st ω Z) : kG Γ mi R cs pc L st ω Z := by
  intro p e s m args below meth c H locs ls C P S V
  exact kk p e s m args below meth c H locs ls C P S ⟨V.1, V.2.1, fun k v hk => V.2.2 k v (kLe_get h hk)⟩
theorem kG.topi {x : Int32} (kk : ∀ y : Int32, y = x → kG Γ mi R cs pc L (.int y :: st) ω Z) : kG Γ mi R cs pc L (.int x :: st) ω Z := kk x rfl
theorem kG.widen {a b : Nat} (h1 : cs.1 ≤ a) (h2 : cs.2 ≤ b) (kk : kG Γ mi R (a, b) pc L st ω Z) : kG Γ mi R cs pc L st ω Z := by
  intro p e s m args below meth c H locs ls C P S V
  exact W.widen h1 h2 (kk p e s m args below meth c H locs ls C P S V)
/-! fields -/
theorem kS_put {A : Nat → Prop} {H0 H H1 : Heap} {locs : List Loc} {a k : Nat} (h : va_S A H0 H locs) (z : H1.size = H.size) (oq : ∀ q : Nat, q ≠ a → H1[q]? = H[q]?) (ha : A a) : va_S A H0 H1 (locs ++ [⟨a, k⟩]) := va_S.put h z oq ha
theorem kad_A {Γ : kGm} {k : Nat} (h : 0 < k) : kA Γ (kad Γ k) := by
  unfold kad kA
  rw [if_neg (by omega)]
  omega
theorem kG.getI {i ci j k : Nat} (pc' : Nat) (hd : decode mi.2.1 pc = .ok (.getfield i, 3)) (hf : kFE mi.1 i ci j) (hk : 0 < k ∧ k < ω.1) (hs : (ksh k).1 = ci) (hi : kint ci j = true) (hp : pc + 3 = pc') (kk : kG Γ mi R cs pc' L (.int (ω.2.1 k j) :: st) ω Z) : kG Γ mi R cs pc L (.ref k :: st) ω Z := by
  intro p e s m args below meth c H locs ls C P S V
  obtain ⟨hc6, hj, hlink⟩ := hf
  obtain ⟨hc, hin, hty, hnm⟩ := kcl hc6
  subst hp
  exact va_get C.1 C.2.1 C.2.2.2.2.2.1 hin C.2.2.2.2.1 C.2.2.2.2.2.2.2.2.1.1 P.2.2 (k - 1) (by rw [kws_at hk.1 hk.2, kent_obj hs hc6]) hc j hj (C.2.2.2.2.2.1 _ hlink) (fun x h => h) (by rw [kfs_get hj, kfv_int hi]; rfl) hd (kk p e s m args below meth c H locs ls C P S V)
theorem kG.getP {i ci j k q : Nat} (pc' : Nat) (hd : decode mi.2.1 pc = .ok (.getfield i, 3)) (hf : kFE mi.1 i ci j) (hk : 0 < k ∧ k < ω.1) (hs : (ksh k).1 = ci) (hi : kint ci j = false) (hq : ω.2.2 k j = some q) (hp : pc + 3 = pc') (kk : kG Γ mi R cs pc' L (.ref q :: st) ω Z) : kG Γ mi R cs pc L (.ref k :: st) ω Z := by
  intro p e s m args below meth c H locs ls C P S V
  obtain ⟨hc6, hj, hlink⟩ := hf
  obtain ⟨hc, hin, hty, hnm⟩ := kcl hc6
  subst hp
  exact va_get C.1 C.2.1 C.2.2.2.2.2.1 hin C.2.2.2.2.1 C.2.2.2.2.2.2.2.2.1.1 P.2.2 (k - 1) (by rw [kws_at hk.1 hk.2, kent_obj hs hc6]) hc j hj (C.2.2.2.2.2.1 _ hlink) (fun x h => h) (v := .ref (kad Γ q)) (by rw [kfs_get hj, kfv_ref hi, hq]; rfl) hd (kk p e s m args below meth c H locs ls C P S V)
/-- a put, with what it leaves of the heap -/
theorem kput {p : Program} {l : Launch} {e : Env} {s : State} {m : MethodId} {args : Array Value} {below : List Frame} {meth : Method} {c : Code} {H : Heap} {locs : List Loc} {cells slots : Nat} {Q : State → Prop} {ls : Array Slot} {rest : List Value} {i ci j k : Nat} {v : Value} {ω' : kWd} (C : kCx Γ mi p s m args meth c) (P : kRep Γ ω H) (S : va_S (kA Γ) s.heap H locs)
    (hd : decode mi.2.1 pc = .ok (.putfield i, 3)) (hf : kFE mi.1 i ci j) (hk : 0 < k ∧ k < ω.1) (hs : (ksh k).1 = ci) (hfin : (kT ci j).2.2.2 = false ∨ (mi.2.2.2.2 = "<init>" ∧ (kT ci j).1 = mi.1)) (hn : narrow (kTy ci j) v = v) (hfit : fits (kTy ci j) v = true)
    (e1 : (kws Γ ω).set (k - 1) (kad Γ k, .inr (ci, (kfs Γ ω ci k).set j v)) = kws Γ ω') (e0 : ω'.1 = ω.1)
    (kk : ∀ (H1 : Heap) (locs1 : List Loc), kRep Γ ω' H1 → va_S (kA Γ) s.heap H1 locs1 → W p l e R s m args below meth c H1 locs1 cells slots Q (F0 m (pc + 3) ls rest)) : W p l e R s m args below meth c H locs cells slots Q (F0 m pc ls (v :: .ref (kad Γ k) :: rest)) := by
  obtain ⟨hc6, hj, hlink⟩ := hf
  obtain ⟨hc, hin, hty, hnm⟩ := kcl hc6
  have hts := C.2.2.2.2.2.1
  have hown := C.2.2.2.2.1
  have hK := C.2.2.2.2.2.2.2.2.1.1
  have he : (kws Γ ω)[k - 1]? = some (kad Γ k, .inr (ci, kfs Γ ω ci k)) := by rw [kws_at hk.1 hk.2, kent_obj hs hc6]
  have hap := va_apart (own := mi.1) hts hin (kTy ci) hty hnm hK hc
  obtain ⟨r, h1, cell, q1, q2, q3, q4⟩ := P.2.2 (k - 1) _ he
  have hr : r = (kR ci, kT ci, kN ci) := Option.some.inj (h1.symm.trans hc)
  subst hr
  obtain ⟨hS, hfc, kC, hkC, hkind⟩ := hK.1 ci _ hc
  obtain ⟨cf, kf, fi, f, hi, hsl⟩ := hS j hj
  have hst := (u_facts hfc hkC (u_lays hts hin hj) hi).1
  have hlt : f.slot < cell.slots.size := by rw [hsl]; exact k2_hasslot (q4 j hj)
  have fin : ∀ H1 : Heap, H1[kad Γ k]? = some (cell.setSlot f.slot v) → H1.size = H.size → (∀ q, q ≠ kad Γ k → H1[q]? = H[q]?) → kRep Γ ω' H1 ∧ va_S (kA Γ) s.heap H1 (locs ++ [⟨kad Γ k, f.slot⟩]) := by
    intro H1 a1 a2 a3
    rw [hsl] at a1 ⊢
    refine ⟨⟨by rw [e0]; exact P.1, fun h => by rw [a2, e0]; exact P.2.1 (by rw [← e0]; exact h), ?_⟩, S.put a2 a3 (kad_A hk.1)⟩
    rw [← e1]
    exact P.2.2.set (kws_D Γ ω) he ⟨_, hc, t_OB.to (V := updV (vp_V (kfs Γ ω ci k)) j v) ⟨_, a1, q2, q3, t_set q4 hap hj v⟩ (fun a _ => vp_updV_set (by rw [kfs_len]; exact hj) v a)⟩ a3
  have hlay := hts _ (hin _ (u_in_lay hj))
  unfold u_lay at hlay
  cases hfb : (kT ci j).2.2.2 with
  | false =>
    rw [hfb, if_neg (by decide)] at hlay
    have h6 := u_store hfc hkC hkind hlay hi (hty j hj) hn hfit
    refine W.putK C.1 C.2.1 (f := f) ⟨hown, hts _ hlink, ⟨_, _, _, hi⟩, hst⟩ (by rw [q2]; exact h6) q1 q3 hlt rfl rfl hd fun H1 a1 a2 a3 => ?_
    exact kk H1 _ (fin H1 a1 a2 a3).1 (fin H1 a1 a2 a3).2
  | true =>
    rw [hfb, if_pos rfl] at hlay
    rcases hfin with h | ⟨hin2, hdecl⟩
    · rw [hfb] at h; cases h
    have hcf : m.cls = cf := by
      obtain ⟨_, _, c', _, _, _, -, -, hf', -, -, -, hown2, -⟩ := Cond.laysFinal_spec hlay
      have e3 : c' = cf := by have := hi.symm.trans hf'; simp at this; exact this.1.symm
      rw [hdecl] at hown2
      rw [← e3]; exact Option.some.inj (hown.symm.trans hown2)
    have h6 := u_fits hfc hkC hkind (Or.inr hlay) hi (hty j hj) hn hfit
    refine W.putFinK C.1 C.2.1 hown (hts _ hlink) hi hst hcf (C.2.2.2.2.2.2.2.1 hin2) (by rw [q2]; exact h6) q1 q3 hlt rfl rfl hd fun H1 a1 a2 a3 => ?_
    exact kk H1 _ (fin H1 a1 a2 a3).1 (fin H1 a1 a2 a3).2
theorem kG.putI {i ci j k : Nat} {x : Int32} (pc' : Nat) (hd : decode mi.2.1 pc = .ok (.putfield i, 3)) (hf : kFE mi.1 i ci j) (hk : 0 < k ∧ k < ω.1) (hs : (ksh k).1 = ci) (hi : kint ci j = true) (hfin : (kT ci j).2.2.2 = false ∨ (mi.2.2.2.2 = "<init>" ∧ (kT ci j).1 = mi.1)) (hn : narrow (kTy ci j) (.int x) = .int x ∧ fits (kTy ci j) (.int x) = true) (hp : pc + 3 = pc') (kk : kG Γ mi R cs pc' L st (sI ω k j x) Z) : kG Γ mi R cs pc L (.int x :: .ref k :: st) ω Z := by
  intro p e s m args below meth c H locs ls C P S V
  subst hp
  refine kput (ω' := sI ω k j x) C P S hd hf hk hs hfin hn.1 hn.2 ?_ rfl (fun H1 locs1 P1 S1 => kk p e s m args below meth c H1 locs1 ls C P1 S1 V)
  show (kws Γ ω).set (k - 1) (kad Γ k, .inr (ci, (kfs Γ ω ci k).set j (.int x))) = _
  rw [kfs_sI hf.2.1 hi, ← kent_obj (ω := sI ω k j x) hs hf.1]
  exact kws_sA hk.1 hk.2
theorem kG.putP {i ci j k q : Nat} (pc' : Nat) (hd : decode mi.2.1 pc = .ok (.putfield i, 3)) (hf : kFE mi.1 i ci j) (hk : 0 < k ∧ k < ω.1) (hs : (ksh k).1 = ci) (hi : kint ci j = false) (hfin : (kT ci j).2.2.2 = false ∨ (mi.2.2.2.2 = "<init>" ∧ (kT ci j).1 = mi.1)) (hn : (∀ x, narrow (kTy ci j) (.ref x) = .ref x) ∧ ∀ x, fits (kTy ci j) (.ref x) = true) (hp : pc + 3 = pc') (kk : kG Γ mi R cs pc' L st (sP ω k j (some q)) Z) : kG Γ mi R cs pc L (.ref q :: .ref k :: st) ω Z := by
  intro p e s m args below meth c H locs ls C P S V
  subst hp
  refine kput (ω' := sP ω k j (some q)) C P S hd hf hk hs hfin (hn.1 _) (hn.2 _) ?_ rfl (fun H1 locs1 P1 S1 => kk p e s m args below meth c H1 locs1 ls C P1 S1 V)
  show (kws Γ ω).set (k - 1) (kad Γ k, .inr (ci, (kfs Γ ω ci k).set j (.ref (kad Γ q)))) = _
  rw [kfs_sP hf.2.1 hi, ← kent_obj (ω := sP ω k j (some q)) hs hf.1]
  exact kws_sP hk.1 hk.2
/-! arrays -/
theorem kG.iald {k n q : Nat} {x : Int32} (pc' : Nat) (hd : decode mi.2.1 pc = .ok (.iaload, 1)) (hk : 0 < k ∧ k < ω.1) (hs : ksh k = (10, n)) (hx : x = nI q) (hq : q < n) (hb : n < 1000) (hp : pc + 1 = pc') (kk : kG Γ mi R cs pc' L (.int (ω.2.1 k q) :: st) ω Z) : kG Γ mi R cs pc L (.int x :: .ref k :: st) ω Z := by
  intro p e s m args below meth c H locs ls C P S V
  subst hp; subst hx
  have h := kk p e s m args below meth c H locs ls C P S V
  refine va_iald C.1 C.2.1 C.2.2.2.2.2.2.2.2.1.1 P.2.2 (k - 1) 0 (by rw [kws_at hk.1 hk.2, kent_i hs]) rfl (vp_in_nI hq (by omega)) hd ?_
  rw [nI_clamp (by omega)]
  exact h
theorem kG.zald {k n q : Nat} {x : Int32} (pc' : Nat) (hd : decode mi.2.1 pc = .ok (.baload, 1)) (hk : 0 < k ∧ k < ω.1) (hs : ksh k = (11, n)) (hx : x = nI q) (hq : q < n) (hb : n < 1000) (hp : pc + 1 = pc') (kk : kG Γ mi R cs pc' L (.int (ω.2.1 k q) :: st) ω Z) : kG Γ mi R cs pc L (.int x :: .ref k :: st) ω Z := by
  intro p e s m args below meth c H locs ls C P S V
  subst hp; subst hx
  have h := kk p e s m args below meth c H locs ls C P S V
  refine va_zald C.1 C.2.1 C.2.2.2.2.2.2.2.2.1.1 P.2.2 (k - 1) 1 (by rw [kws_at hk.1 hk.2, kent_z hs]) rfl (vp_in_nI hq (by omega)) hd ?_
  rw [nI_clamp (by omega)]
  exact h
theorem kG.aald {k n q r : Nat} {x : Int32} (pc' : Nat) (hd : decode mi.2.1 pc = .ok (.aaload, 1)) (hk : 0 < k ∧ k < ω.1) (hs : ksh k = (12, n)) (hx : x = nI q) (hq : q < n) (hb : n < 1000) (hr : ω.2.2 k q = some r) (hp : pc + 1 = pc') (kk : kG Γ mi R cs pc' L (.ref r :: st) ω Z) : kG Γ mi R cs pc L (.int x :: .ref k :: st) ω Z := by
  intro p e s m args below meth c H locs ls C P S V
  subst hp; subst hx
  have h := kk p e s m args below meth c H locs ls C P S V
  refine va_aldq C.1 C.2.1 C.2.2.2.2.2.2.2.2.1.1 P.2.2 (k - 1) 2 (by rw [kws_at hk.1 hk.2, kent_q hs]) rfl (vp_in_nI hq (by omega)) hd ?_
  rw [nI_clamp (by omega)]
  simp only [hr]
  exact h
theorem kast {p : Program} {l : Launch} {e : Env} {s : State} {m : MethodId} {args : Array Value} {below : List Frame} {meth : Method} {c : Code} {H : Heap} {locs : List Loc} {cells slots : Nat} {Q : State → Prop} {g : JFrame} {k q : Nat} {ω' : kWd} (P : kRep Γ ω H) (S : va_S (kA Γ) s.heap H locs) (hk : 0 < k ∧ k < ω.1) (e0 : ω'.1 = ω.1) {x0 : va_E}
    (he : (kws Γ ω)[k - 1]? = some (kad Γ k, x0)) {x1 : va_E} (e1 : (kws Γ ω).set (k - 1) (kad Γ k, x1) = kws Γ ω') {cell' : Cell} (h' : ∀ H1 : Heap, H1[kad Γ k]? = some cell' → va_at Γ.2.1 vwCl (kad Γ k, x1) H1)
    (kk : ∀ (H1 : Heap) (locs1 : List Loc), kRep Γ ω' H1 → va_S (kA Γ) s.heap H1 locs1 → W p l e R s m args below meth c H1 locs1 cells slots Q g) :
    ∀ H1 : Heap, H1[kad Γ k]? = some cell' → H1.size = H.size → (∀ z, z ≠ kad Γ k → H1[z]? = H[z]?) → W p l e R s m args below meth c H1 (locs ++ [⟨kad Γ k, q⟩]) cells slots Q g := by
  intro H1 a1 a2 a3
  refine kk H1 _ ⟨by rw [e0]; exact P.1, fun h => by rw [a2, e0]; exact P.2.1 (by rw [← e0]; exact h), ?_⟩ (S.put a2 a3 (kad_A hk.1))
  rw [← e1]
  exact P.2.2.set (kws_D Γ ω) he (h' H1 a1) a3
theorem kG.iast {k n q : Nat} {i x : Int32} (pc' : Nat) (hd : decode mi.2.1 pc = .ok (.iastore, 1)) (hk : 0 < k ∧ k < ω.1) (hs : ksh k = (10, n)) (hx : i = nI q) (hq : q < n) (hb : n < 1000) (hp : pc + 1 = pc') (kk : kG Γ mi R cs pc' L st (sI ω k q x) Z) : kG Γ mi R cs pc L (.int x :: .int i :: .ref k :: st) ω Z := by
  intro p e s m args below meth c H locs ls C P S V
  subst hp; subst hx
  have he : (kws Γ ω)[k - 1]? = some (kad Γ k, .inl (Γ.2.2.1 0, n, .inl (ω.2.1 k))) := by rw [kws_at hk.1 hk.2, kent_i hs]
  have hin : ¬ (nI q < 0 ∨ n ≤ (nI q).toNatClampNeg) := vp_in_nI hq (by omega)
  refine W.iast (cell := vp_cell (Γ.2.2.1 0) (n, .inl (ω.2.1 k))) C.1 C.2.1 (P.2.2 (k - 1) _ he) ((C.2.2.2.2.2.2.2.2.1.1.2 0 _ rfl).1 n (fun j => .int (ω.2.1 k j))) (fun h => by cases h) (by show ¬ (nI q < 0 ∨ (arrV _ _ _).slots.size ≤ _); rw [arrV_size]; exact hin) rfl rfl hd ?_
  refine kast (ω := ω) (ω' := sI ω k q x) P S hk rfl he (x1 := .inl (Γ.2.2.1 0, n, .inl (upd (ω.2.1 k) q x))) ?_ (fun H1 h => ?_) (fun H1 locs1 P1 S1 => kk p e s m args below meth c H1 locs1 ls C P1 S1 V)
  · have h := kws_sA (Γ := Γ) (ω := ω) (f := upd (ω.2.1 k) q x) hk.1 hk.2
    rw [kent_i hs] at h
    have e2 : (sA ω k (upd (ω.2.1 k) q x)).2.1 k = upd (ω.2.1 k) q x := by simp [sA]
    rw [e2] at h
    exact h
  · show H1[kad Γ k]? = some (vp_cell _ _)
    rw [h, nI_clamp (by omega), vp_cell_i, vp_cell_i, arrV_store]
    congr 2
    funext z
    by_cases hz : z = q
    · subst hz; simp [updV, upd]
    · simp [updV, upd, hz]
theorem kG.zast {k n q : Nat} {i x : Int32} (pc' : Nat) (hd : decode mi.2.1 pc = .ok (.bastore, 1)) (hk : 0 < k ∧ k < ω.1) (hs : ksh k = (11, n)) (hx : i = nI q) (hq : q < n) (hb : n < 1000) (hx1 : x &&& 1 = x) (hp : pc + 1 = pc') (kk : kG Γ mi R cs pc' L st (sI ω k q x) Z) : kG Γ mi R cs pc L (.int x :: .int i :: .ref k :: st) ω Z := by
  intro p e s m args below meth c H locs ls C P S V
  subst hp; subst hx
  have he : (kws Γ ω)[k - 1]? = some (kad Γ k, .inl (Γ.2.2.1 1, n, .inl (ω.2.1 k))) := by rw [kws_at hk.1 hk.2, kent_z hs]
  have hin : ¬ (nI q < 0 ∨ n ≤ (nI q).toNatClampNeg) := vp_in_nI hq (by omega)
  refine W.zast (cell := vp_cell (Γ.2.2.1 1) (n, .inl (ω.2.1 k))) C.1 C.2.1 (P.2.2 (k - 1) _ he) ((C.2.2.2.2.2.2.2.2.1.1.2 1 _ rfl).1 n (fun j => .int (ω.2.1 k j))) (fun h => by cases h) (by show ¬ (nI q < 0 ∨ (arrV _ _ _).slots.size ≤ _); rw [arrV_size]; exact hin) rfl rfl hd ?_
  refine kast (ω := ω) (ω' := sI ω k q x) P S hk rfl he (x1 := .inl (Γ.2.2.1 1, n, .inl (upd (ω.2.1 k) q x))) ?_ (fun H1 h => ?_) (fun H1 locs1 P1 S1 => kk p e s m args below meth c H1 locs1 ls C P1 S1 V)
  · have h := kws_sA (Γ := Γ) (ω := ω) (f := upd (ω.2.1 k) q x) hk.1 hk.2
    rw [kent_z hs] at h
    have e2 : (sA ω k (upd (ω.2.1 k) q x)).2.1 k = upd (ω.2.1 k) q x := by simp [sA]
    rw [e2] at h
    exact h
  · show H1[kad Γ k]? = some (vp_cell _ _)
    rw [h, nI_clamp (by omega), vp_cell_i, vp_cell_i, arrV_store]
    congr 2
    funext z
    by_cases hz : z = q
    · subst hz; simp [updV, upd, narrow, hx1]
    · simp [updV, upd, hz]
theorem kG.aast {k n q v ci : Nat} {i : Int32} (pc' : Nat) (hd : decode mi.2.1 pc = .ok (.aastore, 1)) (hk : 0 < k ∧ k < ω.1) (hs : ksh k = (12, n)) (hx : i = nI q) (hq : q < n) (hb : n < 1000) (hv : 0 < v ∧ v < ω.1) (hsv : (ksh v).1 = 1) (hp : pc + 1 = pc') (kk : kG Γ mi R cs pc' L st (sP ω k q (some v)) Z) : kG Γ mi R cs pc L (.ref v :: .int i :: .ref k :: st) ω Z := by
  intro p e s m args below meth c H locs ls C P S V
  subst hp; subst hx
  have he : (kws Γ ω)[k - 1]? = some (kad Γ k, .inl (Γ.2.2.1 2, n, .inr (.inr (.inr (.inr (fun j => (ω.2.2 k j).map (kad Γ))))))) := by rw [kws_at hk.1 hk.2, kent_q hs]
  have hev : (kws Γ ω)[v - 1]? = some (kad Γ v, .inr (1, kfs Γ ω 1 v)) := by rw [kws_at hv.1 hv.2, kent_obj hsv (by omega)]
  have hK := C.2.2.2.2.2.2.2.2.1.1
  have hin : ¬ (nI q < 0 ∨ n ≤ (nI q).toNatClampNeg) := vp_in_nI hq (by omega)
  have hlt : (nI q).toNatClampNeg < n := Nat.not_le.mp fun z => hin (Or.inr z)
  have h0 : ¬ nI q < 0 := fun z => hin (Or.inl z)
  obtain ⟨r', hr', cellV, g1, g2, g3, -⟩ := P.2.2 (v - 1) _ hev
  have hcls := (hK.1 1 (RX1, TX1, 3) rfl).2
  obtain ⟨kA', comp, k1, k2, k3, -⟩ := (hK.2 2 _ rfl).2
  have hcomp : comp = Γ.2.1.1 1 := Option.some.inj (k3.symm.trans hcls.1)
  subst hcomp
  obtain ⟨kC, hkC, -⟩ := hcls.2
  refine W.aast (cell := vp_cell (Γ.2.2.1 2) (n, .inr (.inr (.inr (.inr (fun j => (ω.2.2 k j).map (kad Γ))))))) C.1 C.2.1 (P.2.2 (k - 1) _ he) (fun q h => by cases h) (fun h => by cases h) k1 k2 rfl hkC ⟨h0, by show _ < (arrV _ _ _).slots.size; rw [arrV_size]; exact hlt⟩ g1 (fun q h => by rw [g3] at h; cases h) (by rw [g2]; exact hkC) (by rw [g2]; exact va_assign hcls) rfl rfl hd ?_
  refine kast (ω := ω) (ω' := sP ω k q (some v)) P S hk rfl he (x1 := .inl (Γ.2.2.1 2, n, .inr (.inr (.inr (.inr (va_up (fun j => (ω.2.2 k j).map (kad Γ)) q (some (kad Γ v)))))))) ?_ (fun H1 h => ?_) (fun H1 locs1 P1 S1 => kk p e s m args below meth c H1 locs1 ls C P1 S1 V)
  · have h := kws_sP (Γ := Γ) (ω := ω) (j := q) (p := some v) hk.1 hk.2
    rw [kent_q hs] at h
    have e2 : (fun j => ((sP ω k q (some v)).2.2 k j).map (kad Γ)) = va_up (fun j => (ω.2.2 k j).map (kad Γ)) q (some (kad Γ v)) := by
      funext j
      by_cases hj : j = q
      · subst hj; simp [sP, va_up]
      · simp [sP, va_up, hj]
    rw [e2] at h
    exact h
  · show H1[kad Γ k]? = some (vp_cell _ _)
    rw [h, nI_clamp (by omega), vp_cell_q, vp_cell_q, arrV_store]
    congr 2
    funext z
    by_cases hz : z = q
    · subst hz; simp [updV, va_up, va_rf]
    · simp [updV, va_up, hz]
theorem kG.alen {k n : Nat} {v : Int32} (pc' : Nat) (hd : decode mi.2.1 pc = .ok (.arraylength, 1)) (hk : 0 < k ∧ k < ω.1) (hs : ksh k = (10, n)) (hv : nI n = v) (hp : pc + 1 = pc') (kk : kG Γ mi R cs pc' L (.int v :: st) ω Z) : kG Γ mi R cs pc L (.ref k :: st) ω Z := by
  intro p e s m args below meth c H locs ls C P S V
  subst hp
  exact va_alen (x := (n, .inl (ω.2.1 k))) C.1 C.2.1 C.2.2.2.2.2.2.2.2.1.1 P.2.2 (k - 1) 0 (by rw [kws_at hk.1 hk.2, kent_i hs]) (ty := .int) rfl hv hd (kk p e s m args below meth c H locs ls C P S V)
/-! the law's script -/
theorem kG.sld {q : Nat} {x : Int32} (pc' : Nat) (hd : decode mi.2.1 pc = .ok (.iaload, 1)) (hm : mi.1 = RL) (hx : x = nI q) (hq : q < kLn Γ) (hb : q < 1000) (hp : pc + 1 = pc') (kk : kG Γ mi R cs pc' L (.int (kxs Γ q) :: st) ω Z) : kG Γ mi R cs pc L (.int x :: .ref 0 :: st) ω Z := by
  intro p e s m args below meth c H locs ls C P S V
  subst hp; subst hx
  obtain ⟨hX, hbl, hbA⟩ := C.2.2.2.2.2.2.2.2.2.2 hm
  have h := kk p e s m args below meth c H locs ls C P S V
  refine va_sld C.1 C.2.1 hX hbl (show ¬ kA Γ (kb Γ) from Nat.not_lt.mpr hbA) S (i := nI q) ?_ hd ?_
  · intro z
    rcases z with z | z
    · exact nI_pos (by omega) z
    · rw [nI_clamp (by omega)] at z; omega
  · rw [nI_clamp (by omega)]
    exact h
theorem kG.slen {v : Int32} (pc' : Nat) (hd : decode mi.2.1 pc = .ok (.arraylength, 1)) (hm : mi.1 = RL) (hv : nI (kLn Γ) = v) (hp : pc + 1 = pc') (kk : kG Γ mi R cs pc' L (.int v :: st) ω Z) : kG Γ mi R cs pc L (.ref 0 :: st) ω Z := by
  intro p e s m args below meth c H locs ls C P S V
  subst hp; subst hv
  obtain ⟨hX, hbl, hbA⟩ := C.2.2.2.2.2.2.2.2.2.2 hm
  exact va_slen C.1 C.2.1 hX hbl (show ¬ kA Γ (kb Γ) from Nat.not_lt.mpr hbA) S hd (kk p e s m args below meth c H locs ls C P S V)
/-! returns -/
theorem kret {s : State} {args : Array Value} {H : Heap} {locs : List Loc} {Q : Option Value → kWd → Prop} {r : Option Value} (P : kRep Γ ω H) (S : va_S (kA Γ) s.heap H locs) (hq : Q r ω) : ∀ t : State, t.heap = H → s.WarmedH t.vm → kQc Γ Q args s (.returned (r.map (kcv Γ))) t :=
  fun t ht _ => ⟨⟨r, ω, rfl, hq, by rw [ht]; exact P⟩, S.F ht⟩
theorem kG.iret {Q : Option Value → kWd → Prop} {x : Int32} (hd : decode mi.2.1 pc = .ok (.ireturn, 1)) (hr : mi.2.2.2.1 = some .int) (hc : cs.1 ≤ R.cells ∧ cs.2 ≤ R.slots) (hq : Q (some (.int x)) ω) : kG Γ mi R cs pc L [.int x] ω (kMZ Γ R Q) := by
  intro p e s m args below meth c H locs ls C P S V
  exact W.widen hc.1 hc.2 (W.iret C.1 C.2.1 (C.2.2.1.trans hr) (kret (r := some (.int x)) P S hq) S.2.2 hd C.2.2.2.2.2.2.1)
theorem kG.zret {Q : Option Value → kWd → Prop} {x : Int32} (hd : decode mi.2.1 pc = .ok (.ireturn, 1)) (hr : mi.2.2.2.1 = some .boolean) (hx : x &&& 1 = x) (hc : cs.1 ≤ R.cells ∧ cs.2 ≤ R.slots) (hq : Q (some (.int x)) ω) : kG Γ mi R cs pc L [.int x] ω (kMZ Γ R Q) := by
  intro p e s m args below meth c H locs ls C P S V
  exact W.widen hc.1 hc.2 (W.zret C.1 C.2.1 (C.2.2.1.trans hr) (by show Value.int (x &&& 1) = _; rw [hx]) (kret (r := some (.int x)) P S hq) S.2.2 hd C.2.2.2.2.2.2.1)
theorem kG.lret {Q : Option Value → kWd → Prop} {x : Int64} (hd : decode mi.2.1 pc = .ok (.lreturn, 1)) (hr : mi.2.2.2.1 = some .long) (hc : cs.1 ≤ R.cells ∧ cs.2 ≤ R.slots) (hq : Q (some (.long x)) ω) : kG Γ mi R cs pc L [.long x] ω (kMZ Γ R Q) := by
  intro p e s m args below meth c H locs ls C P S V
  exact W.widen hc.1 hc.2 (W.lret C.1 C.2.1 (C.2.2.1.trans hr) (kret (r := some (.long x)) P S hq) S.2.2 hd C.2.2.2.2.2.2.1)
theorem kG.aret {Q : Option Value → kWd → Prop} {k : Nat} {n : String} (hd : decode mi.2.1 pc = .ok (.areturn, 1)) (hr : mi.2.2.2.1 = some (.object n)) (hc : cs.1 ≤ R.cells ∧ cs.2 ≤ R.slots) (hq : Q (some (.ref k)) ω) : kG Γ mi R cs pc L [.ref k] ω (kMZ Γ R Q) := by
  intro p e s m args below meth c H locs ls C P S V
  exact W.widen hc.1 hc.2 (W.aret C.1 C.2.1 (C.2.2.1.trans hr) (Or.inl ⟨n, rfl⟩) (Or.inr ⟨_, rfl⟩) (kret (r := some (.ref k)) P S hq) S.2.2 hd C.2.2.2.2.2.2.1)
theorem kG.vret {Q : Option Value → kWd → Prop} (hd : decode mi.2.1 pc = .ok (.return_, 1)) (hr : mi.2.2.2.1 = none) (hc : cs.1 ≤ R.cells ∧ cs.2 ≤ R.slots) (hq : Q none ω) : kG Γ mi R cs pc L [] ω (kMZ Γ R Q) := by
  intro p e s m args below meth c H locs ls C P S V
  exact W.widen hc.1 hc.2 (W.vret C.1 C.2.1 (C.2.2.1.trans hr) (kret (r := none) P S hq) S.2.2 hd C.2.2.2.2.2.2.1)
/-! a method's contract out of its body -/
theorem kC.ofG {y : MethodName} {as : List Value} {Q : Option Value → kWd → Prop} (hy : plainName y.cls = true) (hcl : y.cls = mi.1) (hnm : y.name = mi.2.2.2.2) (hL : mi.1 ≠ RL) (hn : (kEnA as).length ≤ mi.2.2.1) (h : kG Γ mi R (0, 0) 0 (kEn mi.2.2.1 as) [] ω (kMZ Γ R Q)) : kC Γ y mi R as ω Q := by
  refine Met.ofW (cc := mi.2.1) (maxL := mi.2.2.1) (ret := mi.2.2.2.1) hy rfl ?_
  intro p e s m args below meth c s₁ B hml hv
  obtain ⟨rfl, hP, hK⟩ := hv
  have hts := atoms_spec (ws := kWs y mi) B.pre
  have hown : s.vm.findClass y.cls = some m.cls := findClass_of_methodNamed B.named
  have hin : meth.name = y.name := (name_of_methodNamed B.named B.method).1
  have hl := lv_entry (as.map (kcv Γ)) (n := mi.2.2.1) (by rw [kEnA_len]; exact hn)
  rw [lg_entry_eq]
  refine h p e s m _ below meth c s.heap [] _ ⟨B.exec, B.bytes, B.returns, hml, by rw [← hcl]; exact hown, fun w hw => hts w (List.mem_cons_of_mem _ hw), B.notSynchronized, fun e => by rw [hin, hnm]; exact e, hK, ?_, fun e => absurd e hL⟩ hP va_S.rf ⟨hl.1, hl.2.1, fun k v hk => ?_⟩
  · by_cases h74 : ω.1 < 74
    · rw [hP.2.1 h74]; have := hP.1; omega
    · have := (hP.2.2 0 _ (kws_at (k := 1) (by omega) (by omega))).lt
      have h2 : kbs Γ + 1 < s.heap.size := by simpa [kad] using this
      omega
  · have := kEnA_args Γ as 0 k v (kEn_get hk)
    rw [Nat.zero_add] at this
    exact hl.2.2 _ this
theorem kC.weak {y : MethodName} {as : List Value} {Q Q' : Option Value → kWd → Prop} (h : kC Γ y mi R as ω Q) (hq : ∀ r ω', Q r ω' → Q' r ω') : kC Γ y mi R as ω Q' := by
  intro p e ha hc hk s m args below hf hpre hP hK
  obtain ⟨k, o, h1, h2, h3, ⟨⟨r, ω', e1, e2, e3⟩, hF⟩, hE⟩ := h p e ha hc hk s m args below hf hpre hP hK
  exact ⟨k, o, h1, h2, h3, ⟨⟨r, ω', e1, hq r ω' e2, e3⟩, hF⟩, hE⟩
/-! calls -/
theorem kblind (Γ : kGm) (av : List Value) (ω : kWd) : FrameBlind (va_Pc av (fun U => kRep Γ ω U.heap ∧ kKS Γ U)) := fun _ _ _ _ q => ⟨q.1, q.2.1, q.2.2.call⟩
theorem krun {p : Program} {e : Env} {s : State} {m : MethodId} {args : Array Value} {below : List Frame} {meth : Method} {c : Code} {H : Heap} {locs : List Loc} {cells slots mc ms : Nat} {Qw : State → Prop} {ls : Array Slot} {st0 rest : List Value} {Q' : Option Value → kWd → Prop} {a : Array Value}
    (hr : va_Run p Γ.1 e R s m args below meth c H locs cells slots mc ms (F0 m pc ls st0) rest (kQc Γ Q' a) (kA Γ)) (S : va_S (kA Γ) s.heap H locs)
    (kk : ∀ (r : Option Value) (ω' : kWd) (H1 : Heap) (locs1 : List Loc), Q' r ω' → kRep Γ ω' H1 → va_S (kA Γ) s.heap H1 locs1 → W p Γ.1 e R s m args below meth c H1 locs1 (cells + mc) (slots + ms) Qw (F0 m (pc + 3) ls ((r.map (kcv Γ)).toList ++ rest))) : W p Γ.1 e R s m args below meth c H locs cells slots Qw (F0 m pc ls st0) := by
  intro T hT X
  obtain ⟨v, st₀, t, T', L', h0, X', hL, e1, e2, ⟨⟨r, ω', hv, hq, hb⟩, hz, hk⟩, st⟩ := hr T hT X
  cases hv
  rw [h0] at hz hk
  obtain ⟨t2, a1, b1⟩ := kk r ω' T'.heap (locs ++ L') hq (by rw [e1]; exact hb)
    ⟨Nat.le_trans S.1 (by rw [e1]; exact hz), fun q h1 h2 => by rw [e1, hk q (Nat.lt_of_lt_of_le h1 S.1) h2]; exact S.2.1 q h1 h2, fun q hq => by
      rcases List.mem_append.mp hq with h | h
      · exact S.2.2 q h
      · exact hL q h⟩ T' rfl X'
  exact ⟨t2, st t2 a1, b1⟩
theorem kmap_st {stk As st : List Value} {v : List Value} (h : stk = As.reverse ++ (v ++ st)) : stk.map (kcv Γ) = (As.map (kcv Γ)).reverse ++ (v.map (kcv Γ) ++ st.map (kcv Γ)) := by
  rw [h, List.map_append, List.map_reverse, List.map_append]
theorem ksum_st (st : List Value) : ((st.map (kcv Γ)).map fun v => v.category).sum = (st.map fun v => v.category).sum := by
  rw [List.map_map]
  congr 1
  apply List.map_congr_left
  intro v _
  exact kcv_cat Γ v
theorem kret_st {r : Option Value} {st : List Value} : (r.map (kcv Γ)).toList ++ st.map (kcv Γ) = (r.toList ++ st).map (kcv Γ) := by
  cases r <;> rfl
def kDs (y : MethodName) (n : Nat) : Prop := y.cls ≠ "java/lang/invoke/MethodHandle" ∧ y.cls ≠ "java/lang/invoke/VarHandle" ∧ (parseMethodDescriptor y.desc).map (fun d => d.parameters.length) = some n
def kVm (y : MethodName) (mi : kMI) (n : Nat) : Prop := Cond.instanceMethod y ∈ kTS ∧ Cond.selects y.cls y y ∈ kTS ∧ Cond.initialized y.cls ∈ kTS ∧ Cond.code y mi.2.1 mi.2.2.1 mi.2.2.2.1 ∈ kTS ∧ kDs y n
def kSm (y : MethodName) (mi : kMI) (n : Nat) : Prop := Cond.static y ∈ kTS ∧ Cond.initialized y.cls ∈ kTS ∧ Cond.code y mi.2.1 mi.2.2.1 mi.2.2.2.1 ∈ kTS ∧ kDs y n
def kIm (y : MethodName) (mi : kMI) (n : Nat) : Prop := Cond.instanceMethod y ∈ kTS ∧ Cond.initialized y.cls ∈ kTS ∧ Cond.code y mi.2.1 mi.2.2.1 mi.2.2.2.1 ∈ kTS ∧ kDs y n ∧ y.name = "<init>" ∧ mi.2.2.2.1 = none
theorem kWs_in {y : MethodName} {mi' : kMI} (h : Cond.code y mi'.2.1 mi'.2.2.1 mi'.2.2.2.1 ∈ kTS) : GoodIn kTS (kWs y mi') := kGood_sub fun w hw => by
  rcases List.mem_cons.mp hw with rfl | hw
  · exact h
  · exact hw
theorem kG.callV {i n k ci : Nat} {y : MethodName} {mi' : kMI} {R' : Room} {As stk : List Value} {Q' : Option Value → kWd → Prop} (pc' : Nat) (hd : decode mi.2.1 pc = .ok (.invokevirtual i, 3)) (hl : Cond.methodLink mi.1 i y ∈ kTS) (hv : kVm y mi' n) (hM : kC Γ y mi' R' (.ref k :: As) ω Q') (hst : stk = As.reverse ++ ([.ref k] ++ st)) (hn : As.length = n) (hk : 0 < k ∧ k < ω.1) (hs : (ksh k).1 = ci ∧ ci < 6) (hcls : kR ci = y.cls)
    (hR : R'.frames + 1 ≤ R.frames ∧ 8 + (mi'.2.2.1 + 11) + R'.locals ≤ R.locals) (hW : (st.map fun v => v.category).sum ≤ 8) (hcs : cs.1 + R'.cells ≤ R.cells ∧ cs.2 + R'.slots ≤ R.slots) (hp : pc + 3 = pc')
    (kk : ∀ (r : Option Value) (ω' : kWd), Q' r ω' → kG Γ mi R (cs.1 + R'.cells, cs.2 + R'.slots) pc' L (r.toList ++ st) ω' Z) : kG Γ mi R cs pc L stk ω Z := by
  intro p e s m args below meth c H locs ls C P S V
  subst hp
  obtain ⟨hi, hse, hini, hcode, hds⟩ := hv
  have hts := C.2.2.2.2.2.1
  have hKS := C.2.2.2.2.2.2.2.2.1
  obtain ⟨hc, -, -, -⟩ := kcl hs.2
  have he : (kws Γ ω)[k - 1]? = some (kad Γ k, .inr (ci, kfs Γ ω ci k)) := by rw [kws_at hk.1 hk.2, kent_obj hs.1 hs.2]
  have hrecv : ∃ cellB : Cell, H[kad Γ k]? = some cellB ∧ cellB.vm.isStatics = false ∧ s.vm.findClass y.cls = some cellB.cls := by
    have := va_recv hKS.1 P.2.2 hc he
    rw [← hcls]
    exact this
  have run := va_runV (l := Γ.1) (e := e) (R := R) (below := below) (meth := meth) (H := H) (locs := locs) (cells := cs.1) (slots := cs.2) (As := As.map (kcv Γ)) (rest := st.map (kcv Γ)) (n := n) (C := y.cls) (g := F0 m pc ls (stk.map (kcv Γ))) ⟨C.1, C.2.1, C.2.2.2.1, C.2.2.2.2.1, hts⟩ hM
    ⟨callB_of n hts (kWs_in hcode) rfl rfl rfl (hts _ hini) (hts _ hl) hds hR, hts _ hi, hts _ hse⟩
    ⟨kblind Γ _ ω, hrecv, fun U hU hW => ⟨rfl, by rw [hU]; exact P, hKS.warm hW⟩⟩ rfl (by rw [List.length_map]; exact hn) V.1 (kmap_st (v := [.ref k]) hst) (by show 2 * 0 + _ ≤ 8; rw [ksum_st]; omega) hd hcs
  refine krun run S (fun r ω' H1 locs1 hq P1 S1 => ?_)
  rw [kret_st]
  exact kk r ω' hq p e s m args below meth c H1 locs1 ls C P1 S1 V
theorem kG.callS {i n : Nat} {y : MethodName} {mi' : kMI} {R' : Room} {As stk : List Value} {Q' : Option Value → kWd → Prop} (pc' : Nat) (hd : decode mi.2.1 pc = .ok (.invokestatic i, 3)) (hl : Cond.methodLink mi.1 i y ∈ kTS) (hv : kSm y mi' n) (hM : kC Γ y mi' R' As ω Q') (hst : stk = As.reverse ++ ([] ++ st)) (hn : As.length = n)
    (hR : R'.frames + 1 ≤ R.frames ∧ 8 + (mi'.2.2.1 + 11) + R'.locals ≤ R.locals) (hW : (st.map fun v => v.category).sum ≤ 8) (hcs : cs.1 + R'.cells ≤ R.cells ∧ cs.2 + R'.slots ≤ R.slots) (hp : pc + 3 = pc')
    (kk : ∀ (r : Option Value) (ω' : kWd), Q' r ω' → kG Γ mi R (cs.1 + R'.cells, cs.2 + R'.slots) pc' L (r.toList ++ st) ω' Z) : kG Γ mi R cs pc L stk ω Z := by
  intro p e s m args below meth c H locs ls C P S V
  subst hp
  obtain ⟨hi, hini, hcode, hds⟩ := hv
  have hts := C.2.2.2.2.2.1
  have hKS := C.2.2.2.2.2.2.2.2.1
  have run := va_runS (l := Γ.1) (e := e) (R := R) (below := below) (meth := meth) (H := H) (locs := locs) (cells := cs.1) (slots := cs.2) (As := As.map (kcv Γ)) (rest := st.map (kcv Γ)) (n := n) (g := F0 m pc ls (stk.map (kcv Γ))) ⟨C.1, C.2.1, C.2.2.2.1, C.2.2.2.2.1, hts⟩ hM
    ⟨callB_of n hts (kWs_in hcode) rfl rfl rfl (hts _ hini) (hts _ hl) hds hR, hts _ hi⟩
    ⟨kblind Γ _ ω, fun U hU hW => ⟨rfl, by rw [hU]; exact P, hKS.warm hW⟩⟩ rfl (by rw [List.length_map]; exact hn) V.1 (kmap_st (v := []) hst) (by show 2 * 0 + _ ≤ 8; rw [ksum_st]; omega) hd hcs
  refine krun run S (fun r ω' H1 locs1 hq P1 S1 => ?_)
  rw [kret_st]
  exact kk r ω' hq p e s m args below meth c H1 locs1 ls C P1 S1 V
/-- wantsOf, out of Weeks (a nest mate's private method) -/
theorem kG.callSN {i n : Nat} {y : MethodName} {host : String} {mi' : kMI} {R' : Room} {As stk : List Value} {Q' : Option Value → kWd → Prop} (pc' : Nat) (hd : decode mi.2.1 pc = .ok (.invokestatic i, 3)) (hl : ∀ s, kKS Γ s → va_Nw (.methodLinkNest mi.1 i y host) s) (hv : kSm y mi' n) (hM : kC Γ y mi' R' As ω Q') (hst : stk = As.reverse ++ ([] ++ st)) (hn : As.length = n)
    (hR : R'.frames + 1 ≤ R.frames ∧ 8 + (mi'.2.2.1 + 11) + R'.locals ≤ R.locals) (hW : (st.map fun v => v.category).sum ≤ 8) (hcs : cs.1 + R'.cells ≤ R.cells ∧ cs.2 + R'.slots ≤ R.slots) (hp : pc + 3 = pc')
    (kk : ∀ (r : Option Value) (ω' : kWd), Q' r ω' → kG Γ mi R (cs.1 + R'.cells, cs.2 + R'.slots) pc' L (r.toList ++ st) ω' Z) : kG Γ mi R cs pc L stk ω Z := by
  intro p e s m args below meth c H locs ls C P S V
  subst hp
  obtain ⟨hi, hini, hcode, hds⟩ := hv
  have hts := C.2.2.2.2.2.1
  have hKS := C.2.2.2.2.2.2.2.2.1
  have run := va_runSN (l := Γ.1) (e := e) (R := R) (below := below) (meth := meth) (H := H) (locs := locs) (cells := cs.1) (slots := cs.2) (As := As.map (kcv Γ)) (rest := st.map (kcv Γ)) (n := n) (g := F0 m pc ls (stk.map (kcv Γ))) ⟨C.1, C.2.1, C.2.2.2.1, C.2.2.2.2.1, hts⟩ hM
    ⟨va_cnB n hts (kWs_in hcode) rfl rfl rfl (hl s hKS) (hts _ hini) hds hR, hts _ hi, trivial⟩
    ⟨kblind Γ _ ω, fun U hU hW => ⟨rfl, by rw [hU]; exact P, hKS.warm hW⟩⟩ rfl (by rw [List.length_map]; exact hn) V.1 (kmap_st (v := []) hst) (by show 2 * 0 + _ ≤ 8; rw [ksum_st]; omega) hd hcs
  refine krun run S (fun r ω' H1 locs1 hq P1 S1 => ?_)
  rw [kret_st]
  exact kk r ω' hq p e s m args below meth c H1 locs1 ls C P1 S1 V
theorem kG.callI {i n k : Nat} {y : MethodName} {mi' : kMI} {R' : Room} {As stk : List Value} {Q' : Option Value → kWd → Prop} (pc' : Nat) (hd : decode mi.2.1 pc = .ok (.invokespecial i, 3)) (hl : Cond.methodLink mi.1 i y ∈ kTS) (hv : kIm y mi' n) (hM : kC Γ y mi' R' (.ref k :: As) ω Q') (hst : stk = As.reverse ++ ([.ref k] ++ st)) (hn : As.length = n)
    (hR : R'.frames + 1 ≤ R.frames ∧ 8 + (mi'.2.2.1 + 11) + R'.locals ≤ R.locals) (hW : (st.map fun v => v.category).sum ≤ 8) (hcs : cs.1 + R'.cells ≤ R.cells ∧ cs.2 + R'.slots ≤ R.slots) (hp : pc + 3 = pc')
    (kk : ∀ (r : Option Value) (ω' : kWd), Q' r ω' → kG Γ mi R (cs.1 + R'.cells, cs.2 + R'.slots) pc' L (r.toList ++ st) ω' Z) : kG Γ mi R cs pc L stk ω Z := by
  intro p e s m args below meth c H locs ls C P S V
  subst hp
  obtain ⟨hi, hini, hcode, hds, hnm, hno⟩ := hv
  have hts := C.2.2.2.2.2.1
  have hKS := C.2.2.2.2.2.2.2.2.1
  have hcode' : Cond.code y mi'.2.1 mi'.2.2.1 none ∈ kTS := by rw [← hno]; exact hcode
  have run := va_runI (l := Γ.1) (e := e) (R := R) (below := below) (meth := meth) (H := H) (locs := locs) (cells := cs.1) (slots := cs.2) (b := kad Γ k) (As := As.map (kcv Γ)) (rest := st.map (kcv Γ)) (n := n) (maxL := mi'.2.2.1) (bytes := mi'.2.1) (g := F0 m pc ls (stk.map (kcv Γ))) ⟨C.1, C.2.1, C.2.2.2.1, C.2.2.2.2.1, hts⟩ hM
    ⟨callB_of (ws' := kTS) n hts (kWs_in hcode) (by show Cond.code y _ _ mi'.2.2.2.1 :: _ = _; rw [hno]) rfl rfl (hts _ hini) (hts _ hl) hds hR, hnm, hts _ hi⟩
    ⟨kblind Γ _ ω, fun U hU hW => ⟨rfl, by rw [hU]; exact P, hKS.warm hW⟩⟩ rfl (by rw [List.length_map]; exact hn) V.1 (kmap_st (v := [.ref k]) hst) (by show 2 * 0 + _ ≤ 8; rw [ksum_st]; omega) hd hcs
  refine krun run S (fun r ω' H1 locs1 hq P1 S1 => ?_)
  rw [kret_st]
  exact kk r ω' hq p e s m args below meth c H1 locs1 ls C P1 S1 V
theorem kG.callIN {i n k : Nat} {y : MethodName} {host : String} {mi' : kMI} {R' : Room} {As stk : List Value} {Q' : Option Value → kWd → Prop} (pc' : Nat) (hd : decode mi.2.1 pc = .ok (.invokespecial i, 3)) (hl : ∀ s, kKS Γ s → va_Nw (.methodLinkNest mi.1 i y host) s) (hv : kIm y mi' n) (hM : kC Γ y mi' R' (.ref k :: As) ω Q') (hst : stk = As.reverse ++ ([.ref k] ++ st)) (hn : As.length = n)
    (hR : R'.frames + 1 ≤ R.frames ∧ 8 + (mi'.2.2.1 + 11) + R'.locals ≤ R.locals) (hW : (st.map fun v => v.category).sum ≤ 8) (hcs : cs.1 + R'.cells ≤ R.cells ∧ cs.2 + R'.slots ≤ R.slots) (hp : pc + 3 = pc')
    (kk : ∀ (r : Option Value) (ω' : kWd), Q' r ω' → kG Γ mi R (cs.1 + R'.cells, cs.2 + R'.slots) pc' L (r.toList ++ st) ω' Z) : kG Γ mi R cs pc L stk ω Z := by
  intro p e s m args below meth c H locs ls C P S V
  subst hp
  obtain ⟨hi, hini, hcode, hds, hnm, hno⟩ := hv
  have hts := C.2.2.2.2.2.1
  have hKS := C.2.2.2.2.2.2.2.2.1
  have run := va_runIN (l := Γ.1) (e := e) (R := R) (below := below) (meth := meth) (H := H) (locs := locs) (cells := cs.1) (slots := cs.2) (b := kad Γ k) (As := As.map (kcv Γ)) (rest := st.map (kcv Γ)) (n := n) (maxL := mi'.2.2.1) (bytes := mi'.2.1) (g := F0 m pc ls (stk.map (kcv Γ))) ⟨C.1, C.2.1, C.2.2.2.1, C.2.2.2.2.1, hts⟩ hM
    ⟨va_cnB (ws' := kTS) n hts (kWs_in hcode) (by show Cond.code y _ _ mi'.2.2.2.1 :: _ = _; rw [hno]) rfl rfl (hl s hKS) (hts _ hini) hds hR, hnm, hts _ hi⟩
    ⟨kblind Γ _ ω, fun U hU hW => ⟨rfl, by rw [hU]; exact P, hKS.warm hW⟩⟩ rfl (by rw [List.length_map]; exact hn) V.1 (kmap_st (v := [.ref k]) hst) (by show 2 * 0 + _ ≤ 8; rw [ksum_st]; omega) hd hcs
  refine krun run S (fun r ω' H1 locs1 hq P1 S1 => ?_)
  rw [kret_st]
  exact kk r ω' hq p e s m args below meth c H1 locs1 ls C P1 S1 V
/-! the library's own -/
theorem kG.mmax {i : Nat} {x y : Int32} (pc' : Nat) (hd : decode mi.2.1 pc = .ok (.invokestatic i, 3)) (hl : Cond.methodLink mi.1 i Lib.Math.max.name ∈ kTS) (hc : cs.1 ≤ R.cells ∧ cs.2 ≤ R.slots) (hR : 1 ≤ R.frames ∧ (st.map fun v => v.category).sum + 13 ≤ R.locals) (hp : pc + 3 = pc') (kk : kG Γ mi R cs pc' L (.int (if x < y then y else x) :: st) ω Z) : kG Γ mi R cs pc L (.int y :: .int x :: st) ω Z := by
  intro p e s m args below meth c H locs ls C P S V
  subst hp
  have hts := C.2.2.2.2.2.1
  exact va_mmax C.1 C.2.1 (C.2.2.2.1.trans V.1.symm) C.2.2.2.2.1 (hts _ hl) (hts _ kmax_s) (hts _ kmath_i) (hts _ kmax_c) hR.1 (by rw [ksum_st]; exact hR.2) hc.1 hc.2 hd (kk p e s m args below meth c H locs ls C P S V)
theorem kG.mmin {i : Nat} {x y : Int32} (pc' : Nat) (hd : decode mi.2.1 pc = .ok (.invokestatic i, 3)) (hl : Cond.methodLink mi.1 i Lib.Math.min.name ∈ kTS) (hc : cs.1 ≤ R.cells ∧ cs.2 ≤ R.slots) (hR : 1 ≤ R.frames ∧ (st.map fun v => v.category).sum + 13 ≤ R.locals) (hp : pc + 3 = pc') (kk : kG Γ mi R cs pc' L (.int (if y < x then y else x) :: st) ω Z) : kG Γ mi R cs pc L (.int y :: .int x :: st) ω Z := by
  intro p e s m args below meth c H locs ls C P S V
  subst hp
  have hts := C.2.2.2.2.2.1
  exact va_mmin C.1 C.2.1 (C.2.2.2.1.trans V.1.symm) C.2.2.2.2.1 (hts _ hl) (hts _ kmin_s) (hts _ kmath_i) (hts _ kmin_c) hR.1 (by rw [ksum_st]; exact hR.2) hc.1 hc.2 hd (kk p e s m args below meth c H locs ls C P S V)
theorem kG.objInit {i k : Nat} (pc' : Nat) (hd : decode mi.2.1 pc = .ok (.invokespecial i, 3)) (hl : Cond.methodLink mi.1 i objectInit ∈ kTS) (hR : 1 ≤ R.frames ∧ (st.map fun v => v.category).sum + 12 ≤ R.locals) (hp : pc + 3 = pc') (kk : kG Γ mi R cs pc' L st ω Z) : kG Γ mi R cs pc L (.ref k :: st) ω Z := by
  intro p e s m args below meth c H locs ls C P S V
  subst hp
  have hts := C.2.2.2.2.2.1
  exact W.objInit C.1 C.2.1 C.2.2.2.2.1 (hts _ hl) (hts _ kobj_i) (hts _ kobj_c) rfl (V.1.trans C.2.2.2.1.symm) rfl hd hR.1 (by show 2 * 0 + _ + 12 ≤ _; rw [ksum_st]; omega) (kk p e s m args below meth c H locs ls C P S V)
/-! new cells -/
theorem kws_push {Γ : kGm} {ω : kWd} (h : 0 < ω.1) : kws Γ (ω.1 + 1, ω.2) = kws Γ ω ++ [(kad Γ ω.1, kent Γ ω ω.1)] := by
  have e : ω.1 + 1 - 1 = (ω.1 - 1) + 1 := by omega
  have e2 : ω.1 - 1 + 1 = ω.1 := by omega
  unfold kws
  show (List.range (ω.1 + 1 - 1)).map _ = _
  rw [e, List.range_succ, List.map_append]
  have e3 : kad Γ ω.1 = kbs Γ + ω.1 := by unfold kad; rw [if_neg (by omega)]
  simp only [List.map_cons, List.map_nil, e2, e3]
  rfl
theorem knew {p : Program} {e : Env} {s : State} {m : MethodId} {args : Array Value} {below : List Frame} {meth : Method} {c : Code} {H H1 : Heap} {locs : List Loc} {cells slots : Nat} {Qw : State → Prop} {g : JFrame} (P : kRep Γ ω H) (S : va_S (kA Γ) s.heap H locs) (z : H1.size = H.size + 1) (o : ∀ q, q < H.size → H1[q]? = H[q]?) (ha : va_at Γ.2.1 vwCl (kad Γ ω.1, kent Γ ω ω.1) H1)
    (kk : kRep Γ (ω.1 + 1, ω.2) H1 → va_S (kA Γ) s.heap H1 locs → W p Γ.1 e R s m args below meth c H1 locs cells slots Qw g) : W p Γ.1 e R s m args below meth c H1 locs cells slots Qw g := by
  refine kk ⟨Nat.succ_pos _, fun h => by rw [z, P.2.1 (Nat.lt_of_succ_lt h)]; rfl, ?_⟩ ⟨Nat.le_trans S.1 (by omega), fun q h1 h2 => (o q (Nat.lt_of_lt_of_le h1 S.1)).trans (S.2.1 q h1 h2), S.2.2⟩
  rw [kws_push P.1]
  refine va_P.app (P.2.2.kept (fun k q hk => o q.1 ((P.2.2 k q hk).lt))) (fun k q hk => ?_)
  have hz : k < 1 := (List.getElem?_eq_some_iff.mp hk).1
  rw [show k = 0 by omega] at hk
  cases hk
  exact ha
theorem kad_sz {Γ : kGm} {ω : kWd} {H : Heap} (P : kRep Γ ω H) (h74 : ω.1 < 74) : H.size = kad Γ ω.1 := by
  rw [P.2.1 h74]
  unfold kad
  rw [if_neg (by have := P.1; omega)]
theorem kG.new {i ci : Nat} (pc' : Nat) (h74 : ω.1 < 74) (hd : decode mi.2.1 pc = .ok (.new i, 3)) (hc6 : ci < 6) (hl : Cond.classLink mi.1 i (kR ci) ∈ kTS) (hin : Cond.instantiable (kR ci) (kN ci) ∈ kTS) (hini : Cond.initialized (kR ci) ∈ kTS) (hs : (ksh ω.1).1 = ci) (h0 : ∀ j, ω.2.1 ω.1 j = 0) (h1 : ∀ j, ω.2.2 ω.1 j = none) (hdf : ∀ j, j < kN ci → defaultValue (kTy ci j) = if kint ci j = true then .int 0 else .null) (hcs : cs.1 + 1 ≤ R.cells ∧ cs.2 + kN ci ≤ R.slots) (hp : pc + 3 = pc') (kk : kG Γ mi R (cs.1 + 1, cs.2 + kN ci) pc' L (.ref ω.1 :: st) (ω.1 + 1, ω.2) Z) : kG Γ mi R cs pc L st ω Z := by
  intro p e s m args below meth c H locs ls C P S V
  subst hp
  obtain ⟨hc, hw, hty, hnm⟩ := kcl hc6
  have hts := C.2.2.2.2.2.1
  have hKn := C.2.2.2.2.2.2.2.2.1.1.1 ci _ hc
  refine W.newcK C.1 C.2.1 C.2.2.2.2.1 (hts _ hl) (hts _ hin) (hts _ hini) rfl hd hcs.1 hcs.2 hKn.2.1 (kad_sz P h74) fun H1 kC hkC e1 z1 o1 => ?_
  rw [← kad_sz P h74] at z1 o1
  refine knew P S z1 o1 ?_ (fun P1 S1 => kk p e s m args below meth c H1 locs ls C P1 S1 V)
  rw [kent_obj hs hc6]
  refine ⟨_, hc, (u_born (kTy ci) hts hw hKn hkC e1 hty).to (fun j hj => ?_)⟩
  rw [hdf j hj]
  unfold vp_V
  rw [List.getD_eq_getElem?_getD, kfs_get hj]
  simp only [kfv, h0, h1, Option.getD_some]
  rfl
theorem kG.newa {n : Nat} {x : Int32} (pc' : Nat) (h74 : ω.1 < 74) (hd : decode mi.2.1 pc = .ok (.newarray .int, 2)) (hs : ksh ω.1 = (10, n)) (hx : x = nI n) (hb : n < 1000) (h0 : ∀ j, ω.2.1 ω.1 j = 0) (hcs : cs.1 + 1 ≤ R.cells ∧ cs.2 + n ≤ R.slots) (hp : pc + 2 = pc') (kk : kG Γ mi R (cs.1 + 1, cs.2 + n) pc' L (.ref ω.1 :: st) (ω.1 + 1, ω.2) Z) : kG Γ mi R cs pc L (.int x :: st) ω Z := by
  intro p e s m args below meth c H locs ls C P S V
  subst hp; subst hx
  have hts := C.2.2.2.2.2.1
  have hK := C.2.2.2.2.2.2.2.2.1.1
  refine va_newaK (atype := .int) C.1 C.2.1 (hts _ karr_i) rfl hd (n := nI n) (N := n) rfl (nI_pos (by omega)) (nI_clamp (by omega)) (by show n * 4 ≤ _; omega) hcs.1 hcs.2 (kad_sz P h74) fun H1 cA e1 z1 o1 hA hNm => ?_
  rw [← kad_sz P h74] at z1 o1
  refine knew P S z1 o1 ?_ (fun P1 S1 => kk p e s m args below meth c H1 locs ls C P1 S1 V)
  have hcA : Γ.2.2.1 0 = cA := Option.some.inj ((show s.vm.findClass _ = some (Γ.2.2.1 0) from (hK.2 0 _ rfl).2).symm.trans hNm)
  rw [kent_i hs]
  show H1[_]? = some (vp_cell _ _)
  rw [e1, hcA, vp_cell_i]
  congr 2
  funext j
  rw [h0]
  rfl
theorem kG.newz {n : Nat} {x : Int32} (pc' : Nat) (h74 : ω.1 < 74) (hd : decode mi.2.1 pc = .ok (.newarray .boolean, 2)) (hs : ksh ω.1 = (11, n)) (hx : x = nI n) (hb : n < 1000) (h0 : ∀ j, ω.2.1 ω.1 j = 0) (hcs : cs.1 + 1 ≤ R.cells ∧ cs.2 + n ≤ R.slots) (hp : pc + 2 = pc') (kk : kG Γ mi R (cs.1 + 1, cs.2 + n) pc' L (.ref ω.1 :: st) (ω.1 + 1, ω.2) Z) : kG Γ mi R cs pc L (.int x :: st) ω Z := by
  intro p e s m args below meth c H locs ls C P S V
  subst hp; subst hx
  have hts := C.2.2.2.2.2.1
  have hK := C.2.2.2.2.2.2.2.2.1.1
  refine va_newaK (atype := .boolean) C.1 C.2.1 (hts _ karr_z) rfl hd (n := nI n) (N := n) rfl (nI_pos (by omega)) (nI_clamp (by omega)) (by show n * 1 ≤ _; omega) hcs.1 hcs.2 (kad_sz P h74) fun H1 cA e1 z1 o1 hA hNm => ?_
  rw [← kad_sz P h74] at z1 o1
  refine knew P S z1 o1 ?_ (fun P1 S1 => kk p e s m args below meth c H1 locs ls C P1 S1 V)
  have hcA : Γ.2.2.1 1 = cA := Option.some.inj ((show s.vm.findClass _ = some (Γ.2.2.1 1) from (hK.2 1 _ rfl).2).symm.trans hNm)
  rw [kent_z hs]
  show H1[_]? = some (vp_cell _ _)
  rw [e1, hcA, vp_cell_i]
  congr 2
  funext j
  rw [h0]
  rfl
theorem kG.newq {i n : Nat} {x : Int32} (pc' : Nat) (h74 : ω.1 < 74) (hd : decode mi.2.1 pc = .ok (.anewarray i, 3)) (hl : Cond.classLink mi.1 i RX1 ∈ kTS) (hs : ksh ω.1 = (12, n)) (hx : x = nI n) (hb : n < 1000) (h1 : ∀ j, ω.2.2 ω.1 j = none) (hcs : cs.1 + 1 ≤ R.cells ∧ cs.2 + n ≤ R.slots) (hp : pc + 3 = pc') (kk : kG Γ mi R (cs.1 + 1, cs.2 + n) pc' L (.ref ω.1 :: st) (ω.1 + 1, ω.2) Z) : kG Γ mi R cs pc L (.int x :: st) ω Z := by
  intro p e s m args below meth c H locs ls C P S V
  subst hp; subst hx
  have hts := C.2.2.2.2.2.1
  have hKS := C.2.2.2.2.2.2.2.2.1
  have hK := hKS.1
  have hcl : (nI n).toNatClampNeg = n := nI_clamp (by omega)
  refine W.anew C.1 C.2.1 C.2.2.2.2.1 (hts _ hl) (va_AO.use hKS.2.2.2.2) rfl hd rfl (nI_pos (by omega)) (by rw [hcl]; omega) hcs.1 (by rw [hcl]; exact hcs.2) fun cA kA' comp f1 f2 f3 f4 => ?_
  rw [hcl]
  generalize hH1 : H.push ({ cls := cA, slots := Array.replicate n .null, vm := .none } : Cell) = H1
  have z1 : H1.size = H.size + 1 := by rw [← hH1, Array.size_push]
  have e1 : H1[H.size]? = some (arrV cA n (fun _ => .null)) := by rw [← hH1, Array.getElem?_push_size, ← arrV_new]
  have o1 : ∀ q : Nat, q < H.size → H1[q]? = H[q]? := fun q hq => by rw [← hH1, Array.getElem?_push, if_neg (Nat.ne_of_lt hq)]
  have hk2 := kk p e s m args below meth c H1 locs ls C
  rw [kad_sz P h74]
  refine knew P S z1 o1 ?_ (fun P1 S1 => hk2 P1 S1 V)
  obtain ⟨kA2, comp2, k1, k2, k3, k4⟩ := (hK.2 2 _ rfl).2
  have hcA : Γ.2.2.1 2 = cA := Option.some.inj (k4.symm.trans f1)
  rw [kent_q hs]
  show H1[_]? = some (vp_cell _ _)
  rw [← kad_sz P h74, e1, hcA, vp_cell_q]
  congr 2
  funext j
  rw [h1]
  rfl
/-! System.arraycopy of ints -/
theorem kG.copy {i k0 k1 n0 n1 sp dp n : Nat} {xs xd xn : Int32} (pc' : Nat) (h74 : ω.1 = 74) (hd : decode mi.2.1 pc = .ok (.invokestatic i, 3)) (hl : Cond.methodLink mi.1 i arraycopyName ∈ kTS) (hk0 : 0 < k0 ∧ k0 < ω.1) (hk1 : 0 < k1 ∧ k1 < ω.1) (hs0 : ksh k0 = (10, n0)) (hs1 : ksh k1 = (10, n1)) (e0 : xs = nI sp) (e1 : xd = nI dp) (e2 : xn = nI n) (h0 : sp + n ≤ n0) (h1 : dp + n ≤ n1) (hb : n0 < 1000 ∧ n1 < 1000) (hR : 1 ≤ R.frames ∧ (st.map fun v => v.category).sum + (nativeFrameWords "java/lang/System" "arraycopy" 5 + 11) ≤ R.locals) (hp : pc + 3 = pc') (kk : kG Γ mi R cs pc' L st (sA ω k1 (va_cpy (ω.2.1 k0) (ω.2.1 k1) sp dp n)) Z) : kG Γ mi R cs pc L (.int xn :: .int xd :: .ref k1 :: .int xs :: .ref k0 :: st) ω Z := by
  intro p e s m args below meth c H locs ls C P S V
  subst hp; subst e0; subst e1; subst e2
  have hts := C.2.2.2.2.2.1
  have hK := C.2.2.2.2.2.2.2.2.1.1
  have c0 : (nI sp).toNatClampNeg = sp := nI_clamp (by omega)
  have c1 : (nI dp).toNatClampNeg = dp := nI_clamp (by omega)
  have c2 : (nI n).toNatClampNeg = n := nI_clamp (by omega)
  have he0 : (kws Γ ω)[k0 - 1]? = some (kad Γ k0, .inl (Γ.2.2.1 0, n0, .inl (ω.2.1 k0))) := by rw [kws_at hk0.1 hk0.2, kent_i hs0]
  have he1 : (kws Γ ω)[k1 - 1]? = some (kad Γ k1, .inl (Γ.2.2.1 0, n1, .inl (ω.2.1 k1))) := by rw [kws_at hk1.1 hk1.2, kent_i hs1]
  refine va_copyi C.1 C.2.1 (C.2.2.2.1.trans V.1.symm) C.2.2.2.2.1 (hts _ hl) (hts _ kcopy_n) (hts _ kcopy_s) (hts _ kcopy_i) hK P.2.2 (kws_D Γ ω) S (k0 - 1) (k1 - 1) 0 0 he0 he1 (ty := .int) rfl rfl rfl (nI_pos (by omega)) (nI_pos (by omega)) (nI_pos (by omega)) (by rw [c0, c2]; exact h0) (by rw [c1, c2]; exact h1) (fun _ _ => rfl) hR.1 (by rw [ksum_st]; exact hR.2) hd (fun H1 locs1 hP hD hS => ?_)
  rw [c0, c1, c2] at hP
  refine kk p e s m args below meth c H1 locs1 ls C ⟨P.1, fun h => absurd h (by show ¬ ω.1 < 74; omega), ?_⟩ hS V
  have h := kws_sA (Γ := Γ) (ω := ω) (f := va_cpy (ω.2.1 k0) (ω.2.1 k1) sp dp n) hk1.1 hk1.2
  rw [kent_i hs1] at h
  have e2 : (sA ω k1 (va_cpy (ω.2.1 k0) (ω.2.1 k1) sp dp n)).2.1 k1 = va_cpy (ω.2.1 k0) (ω.2.1 k1) sp dp n := by simp [sA]
  rw [e2] at h
  rw [← h]
  exact hP

end KR
end
section
abbrev mX0_init : kMI := (RX0, cX0_init, 2, none, "<init>")
abbrev mX0_keep : kMI := (RX0, cX0_keep, 4, some .int, "keep")
abbrev mX0_takeBack : kMI := (RX0, cX0_takeBack, 2, some .int, "takeBack")
abbrev mX0_sumOf : kMI := (RX0, cX0_sumOf, 5, some .int, "sumOf")
abbrev mX0_areWearOf : kMI := (RX0, cX0_areWearOf, 3, some .boolean, "areWearOf")
abbrev mX1_init : kMI := (RX1, cX1_init, 1, none, "<init>")
abbrev mX1_renew : kMI := (RX1, cX1_renew, 3, none, "renew")
abbrev mX1_hasNothing : kMI := (RX1, cX1_hasNothing, 1, some .boolean, "hasNothing")
abbrev mX1_hasCell : kMI := (RX1, cX1_hasCell, 2, some .boolean, "hasCell")
abbrev mX1_hasCells : kMI := (RX1, cX1_hasCells, 3, some .boolean, "hasCells")
abbrev mX1_read : kMI := (RX1, cX1_read, 2, some .int, "read")
abbrev mX1_write : kMI := (RX1, cX1_write, 3, none, "write")
abbrev mX1_cutToLane : kMI := (RX1, cX1_cutToLane, 2, some .int, "cutToLane")
abbrev mX2_init : kMI := (RX2, cX2_init, 1, none, "<init>")
abbrev mX2_begin : kMI := (RX2, cX2_begin, 1, none, "begin")
abbrev mX2_isWhole : kMI := (RX2, cX2_isWhole, 1, some .boolean, "isWhole")
abbrev mX2_goesOn : kMI := (RX2, cX2_goesOn, 3, some .boolean, "goesOn")
abbrev mX2_headGoesOn : kMI := (RX2, cX2_headGoesOn, 3, some .boolean, "headGoesOn")
abbrev mX2_opens : kMI := (RX2, cX2_opens, 2, some .boolean, "opens")
abbrev mX2_houseGoesOn : kMI := (RX2, cX2_houseGoesOn, 4, some .boolean, "houseGoesOn")
abbrev mX2_personGoesOn : kMI := (RX2, cX2_personGoesOn, 4, some .boolean, "personGoesOn")
abbrev mX2_isIn : kMI := (RX2, cX2_isIn, 3, some .boolean, "isIn")
abbrev mX2_digitOf : kMI := (RX2, cX2_digitOf, 1, some .int, "digitOf")
abbrev mX2_kindOf : kMI := (RX2, cX2_kindOf, 1, some .int, "kindOf")
abbrev mX2_breaksBy : kMI := (RX2, cX2_breaksBy, 3, some .boolean, "breaksBy")
abbrev mX2_dwellersOf : kMI := (RX2, cX2_dwellersOf, 4, some .int, "dwellersOf")
abbrev mX2_townIn : kMI := (RX2, cX2_townIn, 6, some .int, "townIn")
abbrev mX3_init : kMI := (RX3, cX3_init, 3, none, "<init>")
abbrev mX3_prepare : kMI := (RX3, cX3_prepare, 4, none, "prepare")
abbrev mX3_live : kMI := (RX3, cX3_live, 9, some .boolean, "live")
abbrev mX3_bringWood : kMI := (RX3, cX3_bringWood, 5, none, "bringWood")
abbrev mX3_takeWood : kMI := (RX3, cX3_takeWood, 5, some .int, "takeWood")
abbrev mX3_mend : kMI := (RX3, cX3_mend, 4, none, "mend")
abbrev mX3_note : kMI := (RX3, cX3_note, 4, none, "note")
abbrev mX3_woodAt : kMI := (RX3, cX3_woodAt, 3, some .int, "woodAt")
abbrev mX3_wearAt : kMI := (RX3, cX3_wearAt, 3, some .int, "wearAt")
abbrev mX3_coldAt : kMI := (RX3, cX3_coldAt, 2, some .int, "coldAt")
abbrev mX3_wearTogether : kMI := (RX3, cX3_wearTogether, 4, some .int, "wearTogether")
abbrev mX3_chillsOf : kMI := (RX3, cX3_chillsOf, 5, some .int, "chillsOf")
abbrev mX4_init : kMI := (RX4, cX4_init, 2, none, "<init>")
abbrev mX4_houses : kMI := (RX4, cX4_houses, 8, some .int, "houses")
abbrev mX4_ofHouse : kMI := (RX4, cX4_ofHouse, 3, some .int, "ofHouse")
abbrev mX4_ofPerson : kMI := (RX4, cX4_ofPerson, 3, some .int, "ofPerson")
abbrev mX4_seam : kMI := (RX4, cX4_seam, 3, some .int, "seam")
abbrev mX4_away : kMI := (RX4, cX4_away, 3, some .int, "away")
abbrev mX4_gift : kMI := (RX4, cX4_gift, 4, some .int, "gift")
abbrev mX4_undo : kMI := (RX4, cX4_undo, 2, some .int, "undo")
abbrev mX4_wood : kMI := (RX4, cX4_wood, 4, some .int, "wood")
abbrev mX4_wear : kMI := (RX4, cX4_wear, 4, some .int, "wear")
abbrev mX4_cold : kMI := (RX4, cX4_cold, 3, some .int, "cold")
abbrev mX4_chills : kMI := (RX4, cX4_chills, 3, some .int, "chills")
abbrev mX4_all : kMI := (RX4, cX4_all, 1, some .int, "all")
abbrev mX4_breaks : kMI := (RX4, cX4_breaks, 4, some .int, "breaks")
abbrev mX4_best : kMI := (RX4, cX4_best, 6, some .int, "best")
abbrev mX4_blame : kMI := (RX4, cX4_blame, 4, some .int, "blame")
abbrev mX4_warm : kMI := (RX4, cX4_warm, 6, some .int, "warm")
abbrev mX4_logs : kMI := (RX4, cX4_logs, 4, some .int, "logs")
abbrev mX4_pays : kMI := (RX4, cX4_pays, 8, some .long, "pays")
abbrev mX4_together : kMI := (RX4, cX4_together, 5, some .int, "together")
abbrev mX4_third : kMI := (RX4, cX4_third, 4, some .int, "third")
abbrev mX4_row : kMI := (RX4, cX4_row, 8, some .int, "row")
abbrev mX4_reading : kMI := (RX4, cX4_reading, 5, some .int, "reading")
abbrev mX4_back : kMI := (RX4, cX4_back, 2, some .int, "back")
abbrev mX4_gone : kMI := (RX4, cX4_gone, 3, some .int, "gone")
abbrev mX4_seams : kMI := (RX4, cX4_seams, 3, some .int, "seams")
abbrev mX4_kinds : kMI := (RX4, cX4_kinds, 4, some .int, "kinds")
abbrev mX4_odds : kMI := (RX4, cX4_odds, 5, some .long, "odds")
abbrev mX4_sheet : kMI := (RX4, cX4_sheet, 4, some .int, "sheet")
abbrev mX4_lose : kMI := (RX4, cX4_lose, 2, some .int, "lose")
abbrev mX4_put : kMI := (RX4, cX4_put, 4, some .int, "put")
abbrev mX4_cell : kMI := (RX4, cX4_cell, 4, some .long, "cell")
abbrev mX4_copy : kMI := (RX4, cX4_copy, 8, some .int, "copy")
abbrev mX4_tell : kMI := (RX4, cX4_tell, 2, some .int, "tell")
abbrev mX4_knock : kMI := (RX4, cX4_knock, 2, some .int, "knock")
abbrev mX4_as : kMI := (RX4, cX4_as, 3, some .int, "as")
abbrev mX4_trace : kMI := (RX4, cX4_trace, 1, some .int, "trace")
abbrev mX4_fault : kMI := (RX4, cX4_fault, 1, some .int, "fault")
abbrev mX4_many : kMI := (RX4, cX4_many, 2, some .int, "many")
abbrev mX4_isHouse : kMI := (RX4, cX4_isHouse, 2, some .boolean, "isHouse")
abbrev mX4_isPerson : kMI := (RX4, cX4_isPerson, 2, some .boolean, "isPerson")
abbrev mX4_isAway : kMI := (RX4, cX4_isAway, 2, some .boolean, "isAway")
abbrev mX4_isSheet : kMI := (RX4, cX4_isSheet, 1, some .boolean, "isSheet")
abbrev mX4_isLane : kMI := (RX4, cX4_isLane, 1, some .boolean, "isLane")
abbrev mX4_isWeek : kMI := (RX4, cX4_isWeek, 1, some .boolean, "isWeek")
abbrev mX4_isTime : kMI := (RX4, cX4_isTime, 2, some .boolean, "isTime")
abbrev mX4_isWhich : kMI := (RX4, cX4_isWhich, 1, some .boolean, "isWhich")
abbrev mX4_timeOf : kMI := (RX4, cX4_timeOf, 2, some .int, "timeOf")
abbrev mX4_everybody : kMI := (RX4, cX4_everybody, 1, some .int, "everybody")
abbrev mX4_whoIsIn : kMI := (RX4, cX4_whoIsIn, 2, some .int, "whoIsIn")
abbrev mX4_faultBy : kMI := (RX4, cX4_faultBy, 2, some .int, "faultBy")
abbrev mX4_refusalOfLane : kMI := (RX4, cX4_refusalOfLane, 3, some .int, "refusalOfLane")
abbrev mX4_refusalOfCells : kMI := (RX4, cX4_refusalOfCells, 6, some .int, "refusalOfCells")
abbrev mX4_firstFault : kMI := (RX4, cX4_firstFault, 5, some .int, "firstFault")
abbrev mX4_freshWeeks : kMI := (RX4, cX4_freshWeeks, 1, some (.object "TwoTowns$Weeks"), "freshWeeks")
abbrev mX4_lessWearWithout : kMI := (RX4, cX4_lessWearWithout, 4, some .int, "lessWearWithout")
abbrev mX4_readingsAreSoInTrial : kMI := (RX4, cX4_readingsAreSoInTrial, 1, some .boolean, "readingsAreSoInTrial")
abbrev mX4_ofShare : kMI := (RX4, cX4_ofShare, 4, some .long, "ofShare")
abbrev mX4_commonDivisor : kMI := (RX4, cX4_commonDivisor, 6, some .int, "commonDivisor")
abbrev mX4_wantsOf : kMI := (RX4, cX4_wantsOf, 2, some .int, "wantsOf")
abbrev mX4_leaveInTrace : kMI := (RX4, cX4_leaveInTrace, 2, none, "leaveInTrace")
abbrev mX4_tellDweller : kMI := (RX4, cX4_tellDweller, 2, some .int, "tellDweller")
abbrev mX4_tellHearty : kMI := (RX4, cX4_tellHearty, 2, some .int, "tellHearty")
abbrev mX4_tellFroward : kMI := (RX4, cX4_tellFroward, 2, some .int, "tellFroward")
abbrev mX5_init : kMI := (RX5, cX5_init, 1, none, "<init>")
abbrev mX5_fails : kMI := (RX5, cX5_fails, 2, some .int, "fails")
abbrev mX5_lost : kMI := (RX5, cX5_lost, 2, some .long, "lost")
abbrev mX5_within : kMI := (RX5, cX5_within, 3, some .boolean, "within")
abbrev mX5_isSheet : kMI := (RX5, cX5_isSheet, 1, some .boolean, "isSheet")
abbrev mX5_isSort : kMI := (RX5, cX5_isSort, 1, some .boolean, "isSort")
abbrev mX5_against : kMI := (RX5, cX5_against, 5, some .int, "against")
abbrev mX5_isHouse : kMI := (RX5, cX5_isHouse, 2, some .boolean, "isHouse")
abbrev mX5_isPerson : kMI := (RX5, cX5_isPerson, 2, some .boolean, "isPerson")
abbrev mX5_isWeek : kMI := (RX5, cX5_isWeek, 1, some .boolean, "isWeek")
abbrev mX5_isHalf : kMI := (RX5, cX5_isHalf, 1, some .boolean, "isHalf")
abbrev mX5_digit : kMI := (RX5, cX5_digit, 4, some .int, "digit")
abbrev mX5_isSign : kMI := (RX5, cX5_isSign, 3, some .boolean, "isSign")
abbrev mX5_houses : kMI := (RX5, cX5_houses, 8, some .int, "houses")
abbrev mX5_readAll : kMI := (RX5, cX5_readAll, 2, some .boolean, "readAll")
abbrev mX5_readTheSeam : kMI := (RX5, cX5_readTheSeam, 4, some .boolean, "readTheSeam")
abbrev mX5_readOneHouse : kMI := (RX5, cX5_readOneHouse, 5, some .boolean, "readOneHouse")
abbrev mX5_readPerson : kMI := (RX5, cX5_readPerson, 6, some .boolean, "readPerson")
abbrev mX5_ofHouse : kMI := (RX5, cX5_ofHouse, 3, some .int, "ofHouse")
abbrev mX5_wants : kMI := (RX5, cX5_wants, 3, some .int, "wants")
abbrev mX5_ofPerson : kMI := (RX5, cX5_ofPerson, 3, some .int, "ofPerson")
abbrev mX5_seam : kMI := (RX5, cX5_seam, 3, some .int, "seam")
abbrev mX5_away : kMI := (RX5, cX5_away, 4, some .int, "away")
abbrev mX5_layGift : kMI := (RX5, cX5_layGift, 5, none, "layGift")
abbrev mX5_gift : kMI := (RX5, cX5_gift, 4, some .int, "gift")
abbrev mX5_undo : kMI := (RX5, cX5_undo, 2, some .int, "undo")
abbrev mX5_isBroken : kMI := (RX5, cX5_isBroken, 2, some .boolean, "isBroken")
abbrev mX5_townIn : kMI := (RX5, cX5_townIn, 2, some .int, "townIn")
abbrev mX5_beginWeek : kMI := (RX5, cX5_beginWeek, 3, none, "beginWeek")
abbrev mX5_turn : kMI := (RX5, cX5_turn, 4, none, "turn")
abbrev mX5_mend : kMI := (RX5, cX5_mend, 3, none, "mend")
abbrev mX5_goHalf : kMI := (RX5, cX5_goHalf, 6, none, "goHalf")
abbrev mX5_goTo : kMI := (RX5, cX5_goTo, 5, none, "goTo")
abbrev mX5_goWeeks : kMI := (RX5, cX5_goWeeks, 2, none, "goWeeks")
abbrev mX5_allChills : kMI := (RX5, cX5_allChills, 3, some .int, "allChills")
abbrev mX5_wood : kMI := (RX5, cX5_wood, 4, some .int, "wood")
abbrev mX5_wear : kMI := (RX5, cX5_wear, 4, some .int, "wear")
abbrev mX5_cold : kMI := (RX5, cX5_cold, 3, some .int, "cold")
abbrev mX5_chills : kMI := (RX5, cX5_chills, 3, some .int, "chills")
abbrev mX5_allNow : kMI := (RX5, cX5_allNow, 1, some .int, "allNow")
abbrev mX5_all : kMI := (RX5, cX5_all, 1, some .int, "all")
abbrev mX5_breaks : kMI := (RX5, cX5_breaks, 2, some .int, "breaks")
abbrev mX5_best : kMI := (RX5, cX5_best, 7, some .int, "best")
abbrev mX5_blame : kMI := (RX5, cX5_blame, 5, some .int, "blame")
abbrev mX5_size : kMI := (RX5, cX5_size, 3, some .int, "size")
abbrev mX5_awayNow : kMI := (RX5, cX5_awayNow, 3, some .int, "awayNow")
abbrev mX5_layAway : kMI := (RX5, cX5_layAway, 3, none, "layAway")
abbrev mX5_warm : kMI := (RX5, cX5_warm, 5, some .int, "warm")
abbrev mX5_isWarmIn : kMI := (RX5, cX5_isWarmIn, 3, some .boolean, "isWarmIn")
abbrev mX5_logs : kMI := (RX5, cX5_logs, 4, some .int, "logs")
abbrev mX5_allWear : kMI := (RX5, cX5_allWear, 4, some .int, "allWear")
abbrev mX5_lessWear : kMI := (RX5, cX5_lessWear, 6, some .int, "lessWear")
abbrev mX5_inLeastTerms : kMI := (RX5, cX5_inLeastTerms, 11, some .long, "inLeastTerms")
abbrev mX5_pays : kMI := (RX5, cX5_pays, 7, some .long, "pays")
abbrev mX5_timeOf : kMI := (RX5, cX5_timeOf, 2, some .int, "timeOf")
abbrev mX5_halvesOf : kMI := (RX5, cX5_halvesOf, 8, some .int, "halvesOf")
abbrev mX5_together : kMI := (RX5, cX5_together, 4, some .int, "together")
abbrev mX5_third : kMI := (RX5, cX5_third, 4, some .int, "third")
abbrev mX5_row : kMI := (RX5, cX5_row, 8, some .int, "row")
abbrev mX5_reading : kMI := (RX5, cX5_reading, 5, some .int, "reading")
abbrev mX5_back : kMI := (RX5, cX5_back, 2, some .int, "back")
abbrev mX5_areSo : kMI := (RX5, cX5_areSo, 2, some .boolean, "areSo")
abbrev mX5_gone : kMI := (RX5, cX5_gone, 4, some .int, "gone")
abbrev mX5_seams : kMI := (RX5, cX5_seams, 4, some .int, "seams")
abbrev mX5_kinds : kMI := (RX5, cX5_kinds, 5, some .int, "kinds")
abbrev mX5_odds : kMI := (RX5, cX5_odds, 6, some .long, "odds")
abbrev mX5_sheet : kMI := (RX5, cX5_sheet, 5, some .int, "sheet")
abbrev mX5_lose : kMI := (RX5, cX5_lose, 3, some .int, "lose")
abbrev mX5_put : kMI := (RX5, cX5_put, 4, some .int, "put")
abbrev mX5_cell : kMI := (RX5, cX5_cell, 4, some .long, "cell")
abbrev mX5_copy : kMI := (RX5, cX5_copy, 10, some .int, "copy")
abbrev mX5_begins : kMI := (RX5, cX5_begins, 2, none, "begins")
abbrev mX5_tell : kMI := (RX5, cX5_tell, 3, some .int, "tell")
abbrev mX5_knock : kMI := (RX5, cX5_knock, 2, some .int, "knock")
abbrev mX5_as : kMI := (RX5, cX5_as, 3, some .int, "as")
abbrev mX5_trace : kMI := (RX5, cX5_trace, 1, some .int, "trace")
abbrev mX5_fault : kMI := (RX5, cX5_fault, 1, some .int, "fault")
abbrev mX5_many : kMI := (RX5, cX5_many, 2, some .int, "many")
abbrev mJ6_bitCount_0f7a4 : kMI := (RJ6, cJ6_bitCount_0f7a4, 1, some .int, "bitCount")
abbrev mJ9_max_7cf53 : kMI := (RJ9, cJ9_max_7cf53, 2, some .int, "max")
abbrev mJ9_min_7cf53 : kMI := (RJ9, cJ9_min_7cf53, 2, some .int, "min")
abbrev mJ7_fill_53178 : kMI := (RJ7, cJ7_fill_53178, 4, none, "fill")
abbrev mL_law : kMI := (RL, cL_law, 4, some .boolean, "law")
theorem vX0_init : kIm yX0_init mX0_init 1 := ⟨kTS_i 81 (by decide +kernel) (by decide +kernel), kTS_i 59 (by decide +kernel) (by decide +kernel), kTS_i 82 (by decide +kernel) (by decide +kernel), ⟨by decide +kernel, by decide +kernel, by decide +kernel⟩, rfl, rfl⟩
theorem vX0_keep : kVm yX0_keep mX0_keep 3 := ⟨kTS_i 382 (by decide +kernel) (by decide +kernel), kTS_i 383 (by decide +kernel) (by decide +kernel), kTS_i 59 (by decide +kernel) (by decide +kernel), kTS_i 384 (by decide +kernel) (by decide +kernel), ⟨by decide +kernel, by decide +kernel, by decide +kernel⟩⟩
theorem vX0_takeBack : kVm yX0_takeBack mX0_takeBack 1 := ⟨kTS_i 390 (by decide +kernel) (by decide +kernel), kTS_i 391 (by decide +kernel) (by decide +kernel), kTS_i 59 (by decide +kernel) (by decide +kernel), kTS_i 392 (by decide +kernel) (by decide +kernel), ⟨by decide +kernel, by decide +kernel, by decide +kernel⟩⟩
theorem vX0_sumOf : kVm yX0_sumOf mX0_sumOf 2 := ⟨kTS_i 425 (by decide +kernel) (by decide +kernel), kTS_i 426 (by decide +kernel) (by decide +kernel), kTS_i 59 (by decide +kernel) (by decide +kernel), kTS_i 427 (by decide +kernel) (by decide +kernel), ⟨by decide +kernel, by decide +kernel, by decide +kernel⟩⟩
theorem vX0_areWearOf : kVm yX0_areWearOf mX0_areWearOf 1 := ⟨kTS_i 578 (by decide +kernel) (by decide +kernel), kTS_i 579 (by decide +kernel) (by decide +kernel), kTS_i 59 (by decide +kernel) (by decide +kernel), kTS_i 580 (by decide +kernel) (by decide +kernel), ⟨by decide +kernel, by decide +kernel, by decide +kernel⟩⟩
theorem vX1_init : kIm yX1_init mX1_init 0 := ⟨kTS_i 215 (by decide +kernel) (by decide +kernel), kTS_i 63 (by decide +kernel) (by decide +kernel), kTS_i 216 (by decide +kernel) (by decide +kernel), ⟨by decide +kernel, by decide +kernel, by decide +kernel⟩, rfl, rfl⟩
theorem vX1_renew : kVm yX1_renew mX1_renew 2 := ⟨kTS_i 599 (by decide +kernel) (by decide +kernel), kTS_i 600 (by decide +kernel) (by decide +kernel), kTS_i 63 (by decide +kernel) (by decide +kernel), kTS_i 601 (by decide +kernel) (by decide +kernel), ⟨by decide +kernel, by decide +kernel, by decide +kernel⟩⟩
theorem vX1_hasNothing : kVm yX1_hasNothing mX1_hasNothing 0 := ⟨kTS_i 283 (by decide +kernel) (by decide +kernel), kTS_i 284 (by decide +kernel) (by decide +kernel), kTS_i 63 (by decide +kernel) (by decide +kernel), kTS_i 285 (by decide +kernel) (by decide +kernel), ⟨by decide +kernel, by decide +kernel, by decide +kernel⟩⟩
theorem vX1_hasCell : kVm yX1_hasCell mX1_hasCell 1 := ⟨kTS_i 307 (by decide +kernel) (by decide +kernel), kTS_i 308 (by decide +kernel) (by decide +kernel), kTS_i 63 (by decide +kernel) (by decide +kernel), kTS_i 309 (by decide +kernel) (by decide +kernel), ⟨by decide +kernel, by decide +kernel, by decide +kernel⟩⟩
theorem vX1_hasCells : kVm yX1_hasCells mX1_hasCells 2 := ⟨kTS_i 291 (by decide +kernel) (by decide +kernel), kTS_i 292 (by decide +kernel) (by decide +kernel), kTS_i 63 (by decide +kernel) (by decide +kernel), kTS_i 293 (by decide +kernel) (by decide +kernel), ⟨by decide +kernel, by decide +kernel, by decide +kernel⟩⟩
theorem vX1_read : kVm yX1_read mX1_read 1 := ⟨kTS_i 303 (by decide +kernel) (by decide +kernel), kTS_i 304 (by decide +kernel) (by decide +kernel), kTS_i 63 (by decide +kernel) (by decide +kernel), kTS_i 305 (by decide +kernel) (by decide +kernel), ⟨by decide +kernel, by decide +kernel, by decide +kernel⟩⟩
theorem vX1_write : kVm yX1_write mX1_write 2 := ⟨kTS_i 613 (by decide +kernel) (by decide +kernel), kTS_i 614 (by decide +kernel) (by decide +kernel), kTS_i 63 (by decide +kernel) (by decide +kernel), kTS_i 615 (by decide +kernel) (by decide +kernel), ⟨by decide +kernel, by decide +kernel, by decide +kernel⟩⟩
theorem vX1_cutToLane : kVm yX1_cutToLane mX1_cutToLane 1 := ⟨kTS_i 618 (by decide +kernel) (by decide +kernel), kTS_i 20 (by decide +kernel) (by decide +kernel), kTS_i 63 (by decide +kernel) (by decide +kernel), kTS_i 619 (by decide +kernel) (by decide +kernel), ⟨by decide +kernel, by decide +kernel, by decide +kernel⟩⟩
theorem vX2_init : kIm yX2_init mX2_init 0 := ⟨kTS_i 108 (by decide +kernel) (by decide +kernel), kTS_i 61 (by decide +kernel) (by decide +kernel), kTS_i 109 (by decide +kernel) (by decide +kernel), ⟨by decide +kernel, by decide +kernel, by decide +kernel⟩, rfl, rfl⟩
theorem vX2_begin : kVm yX2_begin mX2_begin 0 := ⟨kTS_i 299 (by decide +kernel) (by decide +kernel), kTS_i 300 (by decide +kernel) (by decide +kernel), kTS_i 61 (by decide +kernel) (by decide +kernel), kTS_i 301 (by decide +kernel) (by decide +kernel), ⟨by decide +kernel, by decide +kernel, by decide +kernel⟩⟩
theorem vX2_isWhole : kVm yX2_isWhole mX2_isWhole 0 := ⟨kTS_i 340 (by decide +kernel) (by decide +kernel), kTS_i 341 (by decide +kernel) (by decide +kernel), kTS_i 61 (by decide +kernel) (by decide +kernel), kTS_i 342 (by decide +kernel) (by decide +kernel), ⟨by decide +kernel, by decide +kernel, by decide +kernel⟩⟩
theorem vX2_goesOn : kVm yX2_goesOn mX2_goesOn 1 := ⟨kTS_i 311 (by decide +kernel) (by decide +kernel), kTS_i 312 (by decide +kernel) (by decide +kernel), kTS_i 61 (by decide +kernel) (by decide +kernel), kTS_i 313 (by decide +kernel) (by decide +kernel), ⟨by decide +kernel, by decide +kernel, by decide +kernel⟩⟩
theorem vX2_headGoesOn : kVm yX2_headGoesOn mX2_headGoesOn 1 := ⟨kTS_i 316 (by decide +kernel) (by decide +kernel), kTS_i 4 (by decide +kernel) (by decide +kernel), kTS_i 61 (by decide +kernel) (by decide +kernel), kTS_i 317 (by decide +kernel) (by decide +kernel), ⟨by decide +kernel, by decide +kernel, by decide +kernel⟩⟩
theorem vX2_opens : kVm yX2_opens mX2_opens 1 := ⟨kTS_i 337 (by decide +kernel) (by decide +kernel), kTS_i 7 (by decide +kernel) (by decide +kernel), kTS_i 61 (by decide +kernel) (by decide +kernel), kTS_i 338 (by decide +kernel) (by decide +kernel), ⟨by decide +kernel, by decide +kernel, by decide +kernel⟩⟩
theorem vX2_houseGoesOn : kVm yX2_houseGoesOn mX2_houseGoesOn 2 := ⟨kTS_i 326 (by decide +kernel) (by decide +kernel), kTS_i 5 (by decide +kernel) (by decide +kernel), kTS_i 61 (by decide +kernel) (by decide +kernel), kTS_i 327 (by decide +kernel) (by decide +kernel), ⟨by decide +kernel, by decide +kernel, by decide +kernel⟩⟩
theorem vX2_personGoesOn : kVm yX2_personGoesOn mX2_personGoesOn 2 := ⟨kTS_i 330 (by decide +kernel) (by decide +kernel), kTS_i 6 (by decide +kernel) (by decide +kernel), kTS_i 61 (by decide +kernel) (by decide +kernel), kTS_i 331 (by decide +kernel) (by decide +kernel), ⟨by decide +kernel, by decide +kernel, by decide +kernel⟩⟩
theorem vX2_isIn : kSm yX2_isIn mX2_isIn 3 := ⟨kTS_i 322 (by decide +kernel) (by decide +kernel), kTS_i 61 (by decide +kernel) (by decide +kernel), kTS_i 323 (by decide +kernel) (by decide +kernel), ⟨by decide +kernel, by decide +kernel, by decide +kernel⟩⟩
theorem vX2_digitOf : kSm yX2_digitOf mX2_digitOf 1 := ⟨kTS_i 319 (by decide +kernel) (by decide +kernel), kTS_i 61 (by decide +kernel) (by decide +kernel), kTS_i 320 (by decide +kernel) (by decide +kernel), ⟨by decide +kernel, by decide +kernel, by decide +kernel⟩⟩
theorem vX2_kindOf : kSm yX2_kindOf mX2_kindOf 1 := ⟨kTS_i 333 (by decide +kernel) (by decide +kernel), kTS_i 61 (by decide +kernel) (by decide +kernel), kTS_i 334 (by decide +kernel) (by decide +kernel), ⟨by decide +kernel, by decide +kernel, by decide +kernel⟩⟩
theorem vX2_breaksBy : kVm yX2_breaksBy mX2_breaksBy 2 := ⟨kTS_i 436 (by decide +kernel) (by decide +kernel), kTS_i 437 (by decide +kernel) (by decide +kernel), kTS_i 61 (by decide +kernel) (by decide +kernel), kTS_i 438 (by decide +kernel) (by decide +kernel), ⟨by decide +kernel, by decide +kernel, by decide +kernel⟩⟩
theorem vX2_dwellersOf : kVm yX2_dwellersOf mX2_dwellersOf 1 := ⟨kTS_i 516 (by decide +kernel) (by decide +kernel), kTS_i 517 (by decide +kernel) (by decide +kernel), kTS_i 61 (by decide +kernel) (by decide +kernel), kTS_i 518 (by decide +kernel) (by decide +kernel), ⟨by decide +kernel, by decide +kernel, by decide +kernel⟩⟩
theorem vX2_townIn : kVm yX2_townIn mX2_townIn 2 := ⟨kTS_i 417 (by decide +kernel) (by decide +kernel), kTS_i 418 (by decide +kernel) (by decide +kernel), kTS_i 61 (by decide +kernel) (by decide +kernel), kTS_i 419 (by decide +kernel) (by decide +kernel), ⟨by decide +kernel, by decide +kernel, by decide +kernel⟩⟩
theorem vX3_init : kIm yX3_init mX3_init 2 := ⟨kTS_i 169 (by decide +kernel) (by decide +kernel), kTS_i 62 (by decide +kernel) (by decide +kernel), kTS_i 170 (by decide +kernel) (by decide +kernel), ⟨by decide +kernel, by decide +kernel, by decide +kernel⟩, rfl, rfl⟩
theorem vX3_prepare : kVm yX3_prepare mX3_prepare 2 := ⟨kTS_i 405 (by decide +kernel) (by decide +kernel), kTS_i 406 (by decide +kernel) (by decide +kernel), kTS_i 62 (by decide +kernel) (by decide +kernel), kTS_i 407 (by decide +kernel) (by decide +kernel), ⟨by decide +kernel, by decide +kernel, by decide +kernel⟩⟩
theorem vX3_live : kVm yX3_live mX3_live 2 := ⟨kTS_i 410 (by decide +kernel) (by decide +kernel), kTS_i 411 (by decide +kernel) (by decide +kernel), kTS_i 62 (by decide +kernel) (by decide +kernel), kTS_i 412 (by decide +kernel) (by decide +kernel), ⟨by decide +kernel, by decide +kernel, by decide +kernel⟩⟩
theorem vX3_bringWood : kVm yX3_bringWood mX3_bringWood 1 := ⟨kTS_i 422 (by decide +kernel) (by decide +kernel), kTS_i 12 (by decide +kernel) (by decide +kernel), kTS_i 62 (by decide +kernel) (by decide +kernel), kTS_i 423 (by decide +kernel) (by decide +kernel), ⟨by decide +kernel, by decide +kernel, by decide +kernel⟩⟩
theorem vX3_takeWood : kVm yX3_takeWood mX3_takeWood 1 := ⟨kTS_i 433 (by decide +kernel) (by decide +kernel), kTS_i 13 (by decide +kernel) (by decide +kernel), kTS_i 62 (by decide +kernel) (by decide +kernel), kTS_i 434 (by decide +kernel) (by decide +kernel), ⟨by decide +kernel, by decide +kernel, by decide +kernel⟩⟩
theorem vX3_mend : kVm yX3_mend mX3_mend 1 := ⟨kTS_i 441 (by decide +kernel) (by decide +kernel), kTS_i 14 (by decide +kernel) (by decide +kernel), kTS_i 62 (by decide +kernel) (by decide +kernel), kTS_i 442 (by decide +kernel) (by decide +kernel), ⟨by decide +kernel, by decide +kernel, by decide +kernel⟩⟩
theorem vX3_note : kVm yX3_note mX3_note 2 := ⟨kTS_i 446 (by decide +kernel) (by decide +kernel), kTS_i 15 (by decide +kernel) (by decide +kernel), kTS_i 62 (by decide +kernel) (by decide +kernel), kTS_i 447 (by decide +kernel) (by decide +kernel), ⟨by decide +kernel, by decide +kernel, by decide +kernel⟩⟩
theorem vX3_woodAt : kVm yX3_woodAt mX3_woodAt 2 := ⟨kTS_i 452 (by decide +kernel) (by decide +kernel), kTS_i 453 (by decide +kernel) (by decide +kernel), kTS_i 62 (by decide +kernel) (by decide +kernel), kTS_i 454 (by decide +kernel) (by decide +kernel), ⟨by decide +kernel, by decide +kernel, by decide +kernel⟩⟩
theorem vX3_wearAt : kVm yX3_wearAt mX3_wearAt 2 := ⟨kTS_i 460 (by decide +kernel) (by decide +kernel), kTS_i 461 (by decide +kernel) (by decide +kernel), kTS_i 62 (by decide +kernel) (by decide +kernel), kTS_i 462 (by decide +kernel) (by decide +kernel), ⟨by decide +kernel, by decide +kernel, by decide +kernel⟩⟩
theorem vX3_coldAt : kVm yX3_coldAt mX3_coldAt 1 := ⟨kTS_i 468 (by decide +kernel) (by decide +kernel), kTS_i 469 (by decide +kernel) (by decide +kernel), kTS_i 62 (by decide +kernel) (by decide +kernel), kTS_i 470 (by decide +kernel) (by decide +kernel), ⟨by decide +kernel, by decide +kernel, by decide +kernel⟩⟩
theorem vX3_wearTogether : kVm yX3_wearTogether mX3_wearTogether 1 := ⟨kTS_i 532 (by decide +kernel) (by decide +kernel), kTS_i 533 (by decide +kernel) (by decide +kernel), kTS_i 62 (by decide +kernel) (by decide +kernel), kTS_i 534 (by decide +kernel) (by decide +kernel), ⟨by decide +kernel, by decide +kernel, by decide +kernel⟩⟩
theorem vX3_chillsOf : kVm yX3_chillsOf mX3_chillsOf 2 := ⟨kTS_i 476 (by decide +kernel) (by decide +kernel), kTS_i 477 (by decide +kernel) (by decide +kernel), kTS_i 62 (by decide +kernel) (by decide +kernel), kTS_i 478 (by decide +kernel) (by decide +kernel), ⟨by decide +kernel, by decide +kernel, by decide +kernel⟩⟩
theorem vX4_init : kIm yX4_init mX4_init 0 := ⟨kTS_i 71 (by decide +kernel) (by decide +kernel), kTS_i 58 (by decide +kernel) (by decide +kernel), kTS_i 72 (by decide +kernel) (by decide +kernel), ⟨by decide +kernel, by decide +kernel, by decide +kernel⟩, rfl, rfl⟩
theorem vX4_houses : kVm yX4_houses mX4_houses 4 := ⟨kTS_i 265 (by decide +kernel) (by decide +kernel), kTS_i 266 (by decide +kernel) (by decide +kernel), kTS_i 58 (by decide +kernel) (by decide +kernel), kTS_i 267 (by decide +kernel) (by decide +kernel), ⟨by decide +kernel, by decide +kernel, by decide +kernel⟩⟩
theorem vX4_ofHouse : kVm yX4_ofHouse mX4_ofHouse 2 := ⟨kTS_i 344 (by decide +kernel) (by decide +kernel), kTS_i 345 (by decide +kernel) (by decide +kernel), kTS_i 58 (by decide +kernel) (by decide +kernel), kTS_i 346 (by decide +kernel) (by decide +kernel), ⟨by decide +kernel, by decide +kernel, by decide +kernel⟩⟩
theorem vX4_ofPerson : kVm yX4_ofPerson mX4_ofPerson 2 := ⟨kTS_i 352 (by decide +kernel) (by decide +kernel), kTS_i 353 (by decide +kernel) (by decide +kernel), kTS_i 58 (by decide +kernel) (by decide +kernel), kTS_i 354 (by decide +kernel) (by decide +kernel), ⟨by decide +kernel, by decide +kernel, by decide +kernel⟩⟩
theorem vX4_seam : kVm yX4_seam mX4_seam 1 := ⟨kTS_i 367 (by decide +kernel) (by decide +kernel), kTS_i 368 (by decide +kernel) (by decide +kernel), kTS_i 58 (by decide +kernel) (by decide +kernel), kTS_i 369 (by decide +kernel) (by decide +kernel), ⟨by decide +kernel, by decide +kernel, by decide +kernel⟩⟩
theorem vX4_away : kVm yX4_away mX4_away 2 := ⟨kTS_i 371 (by decide +kernel) (by decide +kernel), kTS_i 372 (by decide +kernel) (by decide +kernel), kTS_i 58 (by decide +kernel) (by decide +kernel), kTS_i 373 (by decide +kernel) (by decide +kernel), ⟨by decide +kernel, by decide +kernel, by decide +kernel⟩⟩
theorem vX4_gift : kVm yX4_gift mX4_gift 3 := ⟨kTS_i 375 (by decide +kernel) (by decide +kernel), kTS_i 376 (by decide +kernel) (by decide +kernel), kTS_i 58 (by decide +kernel) (by decide +kernel), kTS_i 377 (by decide +kernel) (by decide +kernel), ⟨by decide +kernel, by decide +kernel, by decide +kernel⟩⟩
theorem vX4_undo : kVm yX4_undo mX4_undo 1 := ⟨kTS_i 386 (by decide +kernel) (by decide +kernel), kTS_i 387 (by decide +kernel) (by decide +kernel), kTS_i 58 (by decide +kernel) (by decide +kernel), kTS_i 388 (by decide +kernel) (by decide +kernel), ⟨by decide +kernel, by decide +kernel, by decide +kernel⟩⟩
theorem vX4_wood : kVm yX4_wood mX4_wood 3 := ⟨kTS_i 394 (by decide +kernel) (by decide +kernel), kTS_i 395 (by decide +kernel) (by decide +kernel), kTS_i 58 (by decide +kernel) (by decide +kernel), kTS_i 396 (by decide +kernel) (by decide +kernel), ⟨by decide +kernel, by decide +kernel, by decide +kernel⟩⟩
theorem vX4_wear : kVm yX4_wear mX4_wear 3 := ⟨kTS_i 456 (by decide +kernel) (by decide +kernel), kTS_i 457 (by decide +kernel) (by decide +kernel), kTS_i 58 (by decide +kernel) (by decide +kernel), kTS_i 458 (by decide +kernel) (by decide +kernel), ⟨by decide +kernel, by decide +kernel, by decide +kernel⟩⟩
theorem vX4_cold : kVm yX4_cold mX4_cold 2 := ⟨kTS_i 464 (by decide +kernel) (by decide +kernel), kTS_i 465 (by decide +kernel) (by decide +kernel), kTS_i 58 (by decide +kernel) (by decide +kernel), kTS_i 466 (by decide +kernel) (by decide +kernel), ⟨by decide +kernel, by decide +kernel, by decide +kernel⟩⟩
theorem vX4_chills : kVm yX4_chills mX4_chills 2 := ⟨kTS_i 472 (by decide +kernel) (by decide +kernel), kTS_i 473 (by decide +kernel) (by decide +kernel), kTS_i 58 (by decide +kernel) (by decide +kernel), kTS_i 474 (by decide +kernel) (by decide +kernel), ⟨by decide +kernel, by decide +kernel, by decide +kernel⟩⟩
theorem vX4_all : kVm yX4_all mX4_all 0 := ⟨kTS_i 486 (by decide +kernel) (by decide +kernel), kTS_i 487 (by decide +kernel) (by decide +kernel), kTS_i 58 (by decide +kernel) (by decide +kernel), kTS_i 488 (by decide +kernel) (by decide +kernel), ⟨by decide +kernel, by decide +kernel, by decide +kernel⟩⟩
theorem vX4_breaks : kVm yX4_breaks mX4_breaks 1 := ⟨kTS_i 494 (by decide +kernel) (by decide +kernel), kTS_i 495 (by decide +kernel) (by decide +kernel), kTS_i 58 (by decide +kernel) (by decide +kernel), kTS_i 496 (by decide +kernel) (by decide +kernel), ⟨by decide +kernel, by decide +kernel, by decide +kernel⟩⟩
theorem vX4_best : kVm yX4_best mX4_best 1 := ⟨kTS_i 499 (by decide +kernel) (by decide +kernel), kTS_i 500 (by decide +kernel) (by decide +kernel), kTS_i 58 (by decide +kernel) (by decide +kernel), kTS_i 501 (by decide +kernel) (by decide +kernel), ⟨by decide +kernel, by decide +kernel, by decide +kernel⟩⟩
theorem vX4_blame : kVm yX4_blame mX4_blame 1 := ⟨kTS_i 503 (by decide +kernel) (by decide +kernel), kTS_i 504 (by decide +kernel) (by decide +kernel), kTS_i 58 (by decide +kernel) (by decide +kernel), kTS_i 505 (by decide +kernel) (by decide +kernel), ⟨by decide +kernel, by decide +kernel, by decide +kernel⟩⟩
theorem vX4_warm : kVm yX4_warm mX4_warm 1 := ⟨kTS_i 507 (by decide +kernel) (by decide +kernel), kTS_i 508 (by decide +kernel) (by decide +kernel), kTS_i 58 (by decide +kernel) (by decide +kernel), kTS_i 509 (by decide +kernel) (by decide +kernel), ⟨by decide +kernel, by decide +kernel, by decide +kernel⟩⟩
theorem vX4_logs : kVm yX4_logs mX4_logs 1 := ⟨kTS_i 512 (by decide +kernel) (by decide +kernel), kTS_i 513 (by decide +kernel) (by decide +kernel), kTS_i 58 (by decide +kernel) (by decide +kernel), kTS_i 514 (by decide +kernel) (by decide +kernel), ⟨by decide +kernel, by decide +kernel, by decide +kernel⟩⟩
theorem vX4_pays : kVm yX4_pays mX4_pays 3 := ⟨kTS_i 520 (by decide +kernel) (by decide +kernel), kTS_i 521 (by decide +kernel) (by decide +kernel), kTS_i 58 (by decide +kernel) (by decide +kernel), kTS_i 522 (by decide +kernel) (by decide +kernel), ⟨by decide +kernel, by decide +kernel, by decide +kernel⟩⟩
theorem vX4_together : kVm yX4_together mX4_together 3 := ⟨kTS_i 544 (by decide +kernel) (by decide +kernel), kTS_i 545 (by decide +kernel) (by decide +kernel), kTS_i 58 (by decide +kernel) (by decide +kernel), kTS_i 546 (by decide +kernel) (by decide +kernel), ⟨by decide +kernel, by decide +kernel, by decide +kernel⟩⟩
theorem vX4_third : kVm yX4_third mX4_third 1 := ⟨kTS_i 549 (by decide +kernel) (by decide +kernel), kTS_i 550 (by decide +kernel) (by decide +kernel), kTS_i 58 (by decide +kernel) (by decide +kernel), kTS_i 551 (by decide +kernel) (by decide +kernel), ⟨by decide +kernel, by decide +kernel, by decide +kernel⟩⟩
theorem vX4_row : kVm yX4_row mX4_row 4 := ⟨kTS_i 558 (by decide +kernel) (by decide +kernel), kTS_i 559 (by decide +kernel) (by decide +kernel), kTS_i 58 (by decide +kernel) (by decide +kernel), kTS_i 560 (by decide +kernel) (by decide +kernel), ⟨by decide +kernel, by decide +kernel, by decide +kernel⟩⟩
theorem vX4_reading : kVm yX4_reading mX4_reading 4 := ⟨kTS_i 562 (by decide +kernel) (by decide +kernel), kTS_i 563 (by decide +kernel) (by decide +kernel), kTS_i 58 (by decide +kernel) (by decide +kernel), kTS_i 564 (by decide +kernel) (by decide +kernel), ⟨by decide +kernel, by decide +kernel, by decide +kernel⟩⟩
theorem vX4_back : kVm yX4_back mX4_back 1 := ⟨kTS_i 566 (by decide +kernel) (by decide +kernel), kTS_i 567 (by decide +kernel) (by decide +kernel), kTS_i 58 (by decide +kernel) (by decide +kernel), kTS_i 568 (by decide +kernel) (by decide +kernel), ⟨by decide +kernel, by decide +kernel, by decide +kernel⟩⟩
theorem vX4_gone : kVm yX4_gone mX4_gone 0 := ⟨kTS_i 570 (by decide +kernel) (by decide +kernel), kTS_i 571 (by decide +kernel) (by decide +kernel), kTS_i 58 (by decide +kernel) (by decide +kernel), kTS_i 572 (by decide +kernel) (by decide +kernel), ⟨by decide +kernel, by decide +kernel, by decide +kernel⟩⟩
theorem vX4_seams : kVm yX4_seams mX4_seams 0 := ⟨kTS_i 583 (by decide +kernel) (by decide +kernel), kTS_i 584 (by decide +kernel) (by decide +kernel), kTS_i 58 (by decide +kernel) (by decide +kernel), kTS_i 585 (by decide +kernel) (by decide +kernel), ⟨by decide +kernel, by decide +kernel, by decide +kernel⟩⟩
theorem vX4_kinds : kVm yX4_kinds mX4_kinds 1 := ⟨kTS_i 587 (by decide +kernel) (by decide +kernel), kTS_i 588 (by decide +kernel) (by decide +kernel), kTS_i 58 (by decide +kernel) (by decide +kernel), kTS_i 589 (by decide +kernel) (by decide +kernel), ⟨by decide +kernel, by decide +kernel, by decide +kernel⟩⟩
theorem vX4_odds : kVm yX4_odds mX4_odds 2 := ⟨kTS_i 591 (by decide +kernel) (by decide +kernel), kTS_i 592 (by decide +kernel) (by decide +kernel), kTS_i 58 (by decide +kernel) (by decide +kernel), kTS_i 593 (by decide +kernel) (by decide +kernel), ⟨by decide +kernel, by decide +kernel, by decide +kernel⟩⟩
theorem vX4_sheet : kVm yX4_sheet mX4_sheet 3 := ⟨kTS_i 595 (by decide +kernel) (by decide +kernel), kTS_i 596 (by decide +kernel) (by decide +kernel), kTS_i 58 (by decide +kernel) (by decide +kernel), kTS_i 597 (by decide +kernel) (by decide +kernel), ⟨by decide +kernel, by decide +kernel, by decide +kernel⟩⟩
theorem vX4_lose : kVm yX4_lose mX4_lose 1 := ⟨kTS_i 604 (by decide +kernel) (by decide +kernel), kTS_i 605 (by decide +kernel) (by decide +kernel), kTS_i 58 (by decide +kernel) (by decide +kernel), kTS_i 606 (by decide +kernel) (by decide +kernel), ⟨by decide +kernel, by decide +kernel, by decide +kernel⟩⟩
theorem vX4_put : kVm yX4_put mX4_put 3 := ⟨kTS_i 608 (by decide +kernel) (by decide +kernel), kTS_i 609 (by decide +kernel) (by decide +kernel), kTS_i 58 (by decide +kernel) (by decide +kernel), kTS_i 610 (by decide +kernel) (by decide +kernel), ⟨by decide +kernel, by decide +kernel, by decide +kernel⟩⟩
theorem vX4_cell : kVm yX4_cell mX4_cell 3 := ⟨kTS_i 621 (by decide +kernel) (by decide +kernel), kTS_i 622 (by decide +kernel) (by decide +kernel), kTS_i 58 (by decide +kernel) (by decide +kernel), kTS_i 623 (by decide +kernel) (by decide +kernel), ⟨by decide +kernel, by decide +kernel, by decide +kernel⟩⟩
theorem vX4_copy : kVm yX4_copy mX4_copy 5 := ⟨kTS_i 625 (by decide +kernel) (by decide +kernel), kTS_i 626 (by decide +kernel) (by decide +kernel), kTS_i 58 (by decide +kernel) (by decide +kernel), kTS_i 627 (by decide +kernel) (by decide +kernel), ⟨by decide +kernel, by decide +kernel, by decide +kernel⟩⟩
theorem vX4_tell : kVm yX4_tell mX4_tell 1 := ⟨kTS_i 632 (by decide +kernel) (by decide +kernel), kTS_i 633 (by decide +kernel) (by decide +kernel), kTS_i 58 (by decide +kernel) (by decide +kernel), kTS_i 634 (by decide +kernel) (by decide +kernel), ⟨by decide +kernel, by decide +kernel, by decide +kernel⟩⟩
theorem vX4_knock : kVm yX4_knock mX4_knock 1 := ⟨kTS_i 652 (by decide +kernel) (by decide +kernel), kTS_i 653 (by decide +kernel) (by decide +kernel), kTS_i 58 (by decide +kernel) (by decide +kernel), kTS_i 654 (by decide +kernel) (by decide +kernel), ⟨by decide +kernel, by decide +kernel, by decide +kernel⟩⟩
theorem vX4_as : kVm yX4_as mX4_as 2 := ⟨kTS_i 656 (by decide +kernel) (by decide +kernel), kTS_i 657 (by decide +kernel) (by decide +kernel), kTS_i 58 (by decide +kernel) (by decide +kernel), kTS_i 658 (by decide +kernel) (by decide +kernel), ⟨by decide +kernel, by decide +kernel, by decide +kernel⟩⟩
theorem vX4_trace : kVm yX4_trace mX4_trace 0 := ⟨kTS_i 660 (by decide +kernel) (by decide +kernel), kTS_i 661 (by decide +kernel) (by decide +kernel), kTS_i 58 (by decide +kernel) (by decide +kernel), kTS_i 662 (by decide +kernel) (by decide +kernel), ⟨by decide +kernel, by decide +kernel, by decide +kernel⟩⟩
theorem vX4_fault : kVm yX4_fault mX4_fault 0 := ⟨kTS_i 664 (by decide +kernel) (by decide +kernel), kTS_i 665 (by decide +kernel) (by decide +kernel), kTS_i 58 (by decide +kernel) (by decide +kernel), kTS_i 666 (by decide +kernel) (by decide +kernel), ⟨by decide +kernel, by decide +kernel, by decide +kernel⟩⟩
theorem vX4_many : kVm yX4_many mX4_many 1 := ⟨kTS_i 668 (by decide +kernel) (by decide +kernel), kTS_i 669 (by decide +kernel) (by decide +kernel), kTS_i 58 (by decide +kernel) (by decide +kernel), kTS_i 670 (by decide +kernel) (by decide +kernel), ⟨by decide +kernel, by decide +kernel, by decide +kernel⟩⟩
theorem vX4_isHouse : kVm yX4_isHouse mX4_isHouse 1 := ⟨kTS_i 349 (by decide +kernel) (by decide +kernel), kTS_i 8 (by decide +kernel) (by decide +kernel), kTS_i 58 (by decide +kernel) (by decide +kernel), kTS_i 350 (by decide +kernel) (by decide +kernel), ⟨by decide +kernel, by decide +kernel, by decide +kernel⟩⟩
theorem vX4_isPerson : kVm yX4_isPerson mX4_isPerson 1 := ⟨kTS_i 357 (by decide +kernel) (by decide +kernel), kTS_i 9 (by decide +kernel) (by decide +kernel), kTS_i 58 (by decide +kernel) (by decide +kernel), kTS_i 358 (by decide +kernel) (by decide +kernel), ⟨by decide +kernel, by decide +kernel, by decide +kernel⟩⟩
theorem vX4_isAway : kVm yX4_isAway mX4_isAway 1 := ⟨kTS_i 364 (by decide +kernel) (by decide +kernel), kTS_i 10 (by decide +kernel) (by decide +kernel), kTS_i 58 (by decide +kernel) (by decide +kernel), kTS_i 365 (by decide +kernel) (by decide +kernel), ⟨by decide +kernel, by decide +kernel, by decide +kernel⟩⟩
theorem vX4_isSheet : kSm yX4_isSheet mX4_isSheet 1 := ⟨kTS_i 277 (by decide +kernel) (by decide +kernel), kTS_i 58 (by decide +kernel) (by decide +kernel), kTS_i 278 (by decide +kernel) (by decide +kernel), ⟨by decide +kernel, by decide +kernel, by decide +kernel⟩⟩
theorem vX4_isLane : kSm yX4_isLane mX4_isLane 1 := ⟨kTS_i 280 (by decide +kernel) (by decide +kernel), kTS_i 58 (by decide +kernel) (by decide +kernel), kTS_i 281 (by decide +kernel) (by decide +kernel), ⟨by decide +kernel, by decide +kernel, by decide +kernel⟩⟩
theorem vX4_isWeek : kSm yX4_isWeek mX4_isWeek 1 := ⟨kTS_i 379 (by decide +kernel) (by decide +kernel), kTS_i 58 (by decide +kernel) (by decide +kernel), kTS_i 380 (by decide +kernel) (by decide +kernel), ⟨by decide +kernel, by decide +kernel, by decide +kernel⟩⟩
theorem vX4_isTime : kSm yX4_isTime mX4_isTime 2 := ⟨kTS_i 398 (by decide +kernel) (by decide +kernel), kTS_i 58 (by decide +kernel) (by decide +kernel), kTS_i 399 (by decide +kernel) (by decide +kernel), ⟨by decide +kernel, by decide +kernel, by decide +kernel⟩⟩
theorem vX4_isWhich : kSm yX4_isWhich mX4_isWhich 1 := ⟨kTS_i 524 (by decide +kernel) (by decide +kernel), kTS_i 58 (by decide +kernel) (by decide +kernel), kTS_i 525 (by decide +kernel) (by decide +kernel), ⟨by decide +kernel, by decide +kernel, by decide +kernel⟩⟩
theorem vX4_timeOf : kSm yX4_timeOf mX4_timeOf 2 := ⟨kTS_i 449 (by decide +kernel) (by decide +kernel), kTS_i 58 (by decide +kernel) (by decide +kernel), kTS_i 450 (by decide +kernel) (by decide +kernel), ⟨by decide +kernel, by decide +kernel, by decide +kernel⟩⟩
theorem vX4_everybody : kVm yX4_everybody mX4_everybody 0 := ⟨kTS_i 491 (by decide +kernel) (by decide +kernel), kTS_i 16 (by decide +kernel) (by decide +kernel), kTS_i 58 (by decide +kernel) (by decide +kernel), kTS_i 492 (by decide +kernel) (by decide +kernel), ⟨by decide +kernel, by decide +kernel, by decide +kernel⟩⟩
theorem vX4_whoIsIn : kVm yX4_whoIsIn mX4_whoIsIn 1 := ⟨kTS_i 554 (by decide +kernel) (by decide +kernel), kTS_i 18 (by decide +kernel) (by decide +kernel), kTS_i 58 (by decide +kernel) (by decide +kernel), kTS_i 555 (by decide +kernel) (by decide +kernel), ⟨by decide +kernel, by decide +kernel, by decide +kernel⟩⟩
theorem vX4_faultBy : kVm yX4_faultBy mX4_faultBy 1 := ⟨kTS_i 288 (by decide +kernel) (by decide +kernel), kTS_i 2 (by decide +kernel) (by decide +kernel), kTS_i 58 (by decide +kernel) (by decide +kernel), kTS_i 289 (by decide +kernel) (by decide +kernel), ⟨by decide +kernel, by decide +kernel, by decide +kernel⟩⟩
theorem vX4_refusalOfLane : kVm yX4_refusalOfLane mX4_refusalOfLane 2 := ⟨kTS_i 274 (by decide +kernel) (by decide +kernel), kTS_i 1 (by decide +kernel) (by decide +kernel), kTS_i 58 (by decide +kernel) (by decide +kernel), kTS_i 275 (by decide +kernel) (by decide +kernel), ⟨by decide +kernel, by decide +kernel, by decide +kernel⟩⟩
theorem vX4_refusalOfCells : kVm yX4_refusalOfCells mX4_refusalOfCells 4 := ⟨kTS_i 270 (by decide +kernel) (by decide +kernel), kTS_i 0 (by decide +kernel) (by decide +kernel), kTS_i 58 (by decide +kernel) (by decide +kernel), kTS_i 271 (by decide +kernel) (by decide +kernel), ⟨by decide +kernel, by decide +kernel, by decide +kernel⟩⟩
theorem vX4_firstFault : kVm yX4_firstFault mX4_firstFault 3 := ⟨kTS_i 296 (by decide +kernel) (by decide +kernel), kTS_i 3 (by decide +kernel) (by decide +kernel), kTS_i 58 (by decide +kernel) (by decide +kernel), kTS_i 297 (by decide +kernel) (by decide +kernel), ⟨by decide +kernel, by decide +kernel, by decide +kernel⟩⟩
theorem vX4_freshWeeks : kVm yX4_freshWeeks mX4_freshWeeks 0 := ⟨kTS_i 402 (by decide +kernel) (by decide +kernel), kTS_i 11 (by decide +kernel) (by decide +kernel), kTS_i 58 (by decide +kernel) (by decide +kernel), kTS_i 403 (by decide +kernel) (by decide +kernel), ⟨by decide +kernel, by decide +kernel, by decide +kernel⟩⟩
theorem vX4_lessWearWithout : kVm yX4_lessWearWithout mX4_lessWearWithout 2 := ⟨kTS_i 529 (by decide +kernel) (by decide +kernel), kTS_i 17 (by decide +kernel) (by decide +kernel), kTS_i 58 (by decide +kernel) (by decide +kernel), kTS_i 530 (by decide +kernel) (by decide +kernel), ⟨by decide +kernel, by decide +kernel, by decide +kernel⟩⟩
theorem vX4_readingsAreSoInTrial : kVm yX4_readingsAreSoInTrial mX4_readingsAreSoInTrial 0 := ⟨kTS_i 575 (by decide +kernel) (by decide +kernel), kTS_i 19 (by decide +kernel) (by decide +kernel), kTS_i 58 (by decide +kernel) (by decide +kernel), kTS_i 576 (by decide +kernel) (by decide +kernel), ⟨by decide +kernel, by decide +kernel, by decide +kernel⟩⟩
theorem vX4_ofShare : kSm yX4_ofShare mX4_ofShare 3 := ⟨kTS_i 538 (by decide +kernel) (by decide +kernel), kTS_i 58 (by decide +kernel) (by decide +kernel), kTS_i 539 (by decide +kernel) (by decide +kernel), ⟨by decide +kernel, by decide +kernel, by decide +kernel⟩⟩
theorem vX4_commonDivisor : kSm yX4_commonDivisor mX4_commonDivisor 2 := ⟨kTS_i 541 (by decide +kernel) (by decide +kernel), kTS_i 58 (by decide +kernel) (by decide +kernel), kTS_i 542 (by decide +kernel) (by decide +kernel), ⟨by decide +kernel, by decide +kernel, by decide +kernel⟩⟩
theorem vX4_wantsOf : kSm yX4_wantsOf mX4_wantsOf 2 := ⟨kTS_i 360 (by decide +kernel) (by decide +kernel), kTS_i 58 (by decide +kernel) (by decide +kernel), kTS_i 361 (by decide +kernel) (by decide +kernel), ⟨by decide +kernel, by decide +kernel, by decide +kernel⟩⟩
theorem vX4_leaveInTrace : kVm yX4_leaveInTrace mX4_leaveInTrace 1 := ⟨kTS_i 641 (by decide +kernel) (by decide +kernel), kTS_i 22 (by decide +kernel) (by decide +kernel), kTS_i 58 (by decide +kernel) (by decide +kernel), kTS_i 642 (by decide +kernel) (by decide +kernel), ⟨by decide +kernel, by decide +kernel, by decide +kernel⟩⟩
theorem vX4_tellDweller : kVm yX4_tellDweller mX4_tellDweller 1 := ⟨kTS_i 637 (by decide +kernel) (by decide +kernel), kTS_i 21 (by decide +kernel) (by decide +kernel), kTS_i 58 (by decide +kernel) (by decide +kernel), kTS_i 638 (by decide +kernel) (by decide +kernel), ⟨by decide +kernel, by decide +kernel, by decide +kernel⟩⟩
theorem vX4_tellHearty : kVm yX4_tellHearty mX4_tellHearty 1 := ⟨kTS_i 645 (by decide +kernel) (by decide +kernel), kTS_i 23 (by decide +kernel) (by decide +kernel), kTS_i 58 (by decide +kernel) (by decide +kernel), kTS_i 646 (by decide +kernel) (by decide +kernel), ⟨by decide +kernel, by decide +kernel, by decide +kernel⟩⟩
theorem vX4_tellFroward : kVm yX4_tellFroward mX4_tellFroward 1 := ⟨kTS_i 649 (by decide +kernel) (by decide +kernel), kTS_i 24 (by decide +kernel) (by decide +kernel), kTS_i 58 (by decide +kernel) (by decide +kernel), kTS_i 650 (by decide +kernel) (by decide +kernel), ⟨by decide +kernel, by decide +kernel, by decide +kernel⟩⟩
theorem vX5_init : kIm yX5_init mX5_init 0 := ⟨kTS_i 674 (by decide +kernel) (by decide +kernel), kTS_i 64 (by decide +kernel) (by decide +kernel), kTS_i 675 (by decide +kernel) (by decide +kernel), ⟨by decide +kernel, by decide +kernel, by decide +kernel⟩, rfl, rfl⟩
theorem vX5_fails : kVm yX5_fails mX5_fails 1 := ⟨kTS_i 806 (by decide +kernel) (by decide +kernel), kTS_i 26 (by decide +kernel) (by decide +kernel), kTS_i 64 (by decide +kernel) (by decide +kernel), kTS_i 807 (by decide +kernel) (by decide +kernel), ⟨by decide +kernel, by decide +kernel, by decide +kernel⟩⟩
theorem vX5_lost : kVm yX5_lost mX5_lost 1 := ⟨kTS_i 1055 (by decide +kernel) (by decide +kernel), kTS_i 55 (by decide +kernel) (by decide +kernel), kTS_i 64 (by decide +kernel) (by decide +kernel), kTS_i 1056 (by decide +kernel) (by decide +kernel), ⟨by decide +kernel, by decide +kernel, by decide +kernel⟩⟩
theorem vX5_within : kSm yX5_within mX5_within 3 := ⟨kTS_i 795 (by decide +kernel) (by decide +kernel), kTS_i 64 (by decide +kernel) (by decide +kernel), kTS_i 796 (by decide +kernel) (by decide +kernel), ⟨by decide +kernel, by decide +kernel, by decide +kernel⟩⟩
theorem vX5_isSheet : kSm yX5_isSheet mX5_isSheet 1 := ⟨kTS_i 792 (by decide +kernel) (by decide +kernel), kTS_i 64 (by decide +kernel) (by decide +kernel), kTS_i 793 (by decide +kernel) (by decide +kernel), ⟨by decide +kernel, by decide +kernel, by decide +kernel⟩⟩
theorem vX5_isSort : kSm yX5_isSort mX5_isSort 1 := ⟨kTS_i 798 (by decide +kernel) (by decide +kernel), kTS_i 64 (by decide +kernel) (by decide +kernel), kTS_i 799 (by decide +kernel) (by decide +kernel), ⟨by decide +kernel, by decide +kernel, by decide +kernel⟩⟩
theorem vX5_against : kVm yX5_against mX5_against 4 := ⟨kTS_i 802 (by decide +kernel) (by decide +kernel), kTS_i 25 (by decide +kernel) (by decide +kernel), kTS_i 64 (by decide +kernel) (by decide +kernel), kTS_i 803 (by decide +kernel) (by decide +kernel), ⟨by decide +kernel, by decide +kernel, by decide +kernel⟩⟩
theorem vX5_isHouse : kVm yX5_isHouse mX5_isHouse 1 := ⟨kTS_i 838 (by decide +kernel) (by decide +kernel), kTS_i 33 (by decide +kernel) (by decide +kernel), kTS_i 64 (by decide +kernel) (by decide +kernel), kTS_i 839 (by decide +kernel) (by decide +kernel), ⟨by decide +kernel, by decide +kernel, by decide +kernel⟩⟩
theorem vX5_isPerson : kVm yX5_isPerson mX5_isPerson 1 := ⟨kTS_i 846 (by decide +kernel) (by decide +kernel), kTS_i 34 (by decide +kernel) (by decide +kernel), kTS_i 64 (by decide +kernel) (by decide +kernel), kTS_i 847 (by decide +kernel) (by decide +kernel), ⟨by decide +kernel, by decide +kernel, by decide +kernel⟩⟩
theorem vX5_isWeek : kSm yX5_isWeek mX5_isWeek 1 := ⟨kTS_i 865 (by decide +kernel) (by decide +kernel), kTS_i 64 (by decide +kernel) (by decide +kernel), kTS_i 866 (by decide +kernel) (by decide +kernel), ⟨by decide +kernel, by decide +kernel, by decide +kernel⟩⟩
theorem vX5_isHalf : kSm yX5_isHalf mX5_isHalf 1 := ⟨kTS_i 880 (by decide +kernel) (by decide +kernel), kTS_i 64 (by decide +kernel) (by decide +kernel), kTS_i 881 (by decide +kernel) (by decide +kernel), ⟨by decide +kernel, by decide +kernel, by decide +kernel⟩⟩
theorem vX5_digit : kVm yX5_digit mX5_digit 3 := ⟨kTS_i 822 (by decide +kernel) (by decide +kernel), kTS_i 30 (by decide +kernel) (by decide +kernel), kTS_i 64 (by decide +kernel) (by decide +kernel), kTS_i 823 (by decide +kernel) (by decide +kernel), ⟨by decide +kernel, by decide +kernel, by decide +kernel⟩⟩
theorem vX5_isSign : kVm yX5_isSign mX5_isSign 2 := ⟨kTS_i 814 (by decide +kernel) (by decide +kernel), kTS_i 28 (by decide +kernel) (by decide +kernel), kTS_i 64 (by decide +kernel) (by decide +kernel), kTS_i 815 (by decide +kernel) (by decide +kernel), ⟨by decide +kernel, by decide +kernel, by decide +kernel⟩⟩
theorem vX5_houses : kVm yX5_houses mX5_houses 4 := ⟨kTS_i 788 (by decide +kernel) (by decide +kernel), kTS_i 789 (by decide +kernel) (by decide +kernel), kTS_i 64 (by decide +kernel) (by decide +kernel), kTS_i 790 (by decide +kernel) (by decide +kernel), ⟨by decide +kernel, by decide +kernel, by decide +kernel⟩⟩
theorem vX5_readAll : kVm yX5_readAll mX5_readAll 1 := ⟨kTS_i 810 (by decide +kernel) (by decide +kernel), kTS_i 27 (by decide +kernel) (by decide +kernel), kTS_i 64 (by decide +kernel) (by decide +kernel), kTS_i 811 (by decide +kernel) (by decide +kernel), ⟨by decide +kernel, by decide +kernel, by decide +kernel⟩⟩
theorem vX5_readTheSeam : kVm yX5_readTheSeam mX5_readTheSeam 1 := ⟨kTS_i 818 (by decide +kernel) (by decide +kernel), kTS_i 29 (by decide +kernel) (by decide +kernel), kTS_i 64 (by decide +kernel) (by decide +kernel), kTS_i 819 (by decide +kernel) (by decide +kernel), ⟨by decide +kernel, by decide +kernel, by decide +kernel⟩⟩
theorem vX5_readOneHouse : kVm yX5_readOneHouse mX5_readOneHouse 1 := ⟨kTS_i 826 (by decide +kernel) (by decide +kernel), kTS_i 31 (by decide +kernel) (by decide +kernel), kTS_i 64 (by decide +kernel) (by decide +kernel), kTS_i 827 (by decide +kernel) (by decide +kernel), ⟨by decide +kernel, by decide +kernel, by decide +kernel⟩⟩
theorem vX5_readPerson : kVm yX5_readPerson mX5_readPerson 1 := ⟨kTS_i 830 (by decide +kernel) (by decide +kernel), kTS_i 32 (by decide +kernel) (by decide +kernel), kTS_i 64 (by decide +kernel) (by decide +kernel), kTS_i 831 (by decide +kernel) (by decide +kernel), ⟨by decide +kernel, by decide +kernel, by decide +kernel⟩⟩
theorem vX5_ofHouse : kVm yX5_ofHouse mX5_ofHouse 2 := ⟨kTS_i 833 (by decide +kernel) (by decide +kernel), kTS_i 834 (by decide +kernel) (by decide +kernel), kTS_i 64 (by decide +kernel) (by decide +kernel), kTS_i 835 (by decide +kernel) (by decide +kernel), ⟨by decide +kernel, by decide +kernel, by decide +kernel⟩⟩
theorem vX5_wants : kVm yX5_wants mX5_wants 1 := ⟨kTS_i 850 (by decide +kernel) (by decide +kernel), kTS_i 35 (by decide +kernel) (by decide +kernel), kTS_i 64 (by decide +kernel) (by decide +kernel), kTS_i 851 (by decide +kernel) (by decide +kernel), ⟨by decide +kernel, by decide +kernel, by decide +kernel⟩⟩
theorem vX5_ofPerson : kVm yX5_ofPerson mX5_ofPerson 2 := ⟨kTS_i 841 (by decide +kernel) (by decide +kernel), kTS_i 842 (by decide +kernel) (by decide +kernel), kTS_i 64 (by decide +kernel) (by decide +kernel), kTS_i 843 (by decide +kernel) (by decide +kernel), ⟨by decide +kernel, by decide +kernel, by decide +kernel⟩⟩
theorem vX5_seam : kVm yX5_seam mX5_seam 1 := ⟨kTS_i 853 (by decide +kernel) (by decide +kernel), kTS_i 854 (by decide +kernel) (by decide +kernel), kTS_i 64 (by decide +kernel) (by decide +kernel), kTS_i 855 (by decide +kernel) (by decide +kernel), ⟨by decide +kernel, by decide +kernel, by decide +kernel⟩⟩
theorem vX5_away : kVm yX5_away mX5_away 2 := ⟨kTS_i 857 (by decide +kernel) (by decide +kernel), kTS_i 858 (by decide +kernel) (by decide +kernel), kTS_i 64 (by decide +kernel) (by decide +kernel), kTS_i 859 (by decide +kernel) (by decide +kernel), ⟨by decide +kernel, by decide +kernel, by decide +kernel⟩⟩
theorem vX5_layGift : kVm yX5_layGift mX5_layGift 4 := ⟨kTS_i 869 (by decide +kernel) (by decide +kernel), kTS_i 36 (by decide +kernel) (by decide +kernel), kTS_i 64 (by decide +kernel) (by decide +kernel), kTS_i 870 (by decide +kernel) (by decide +kernel), ⟨by decide +kernel, by decide +kernel, by decide +kernel⟩⟩
theorem vX5_gift : kVm yX5_gift mX5_gift 3 := ⟨kTS_i 861 (by decide +kernel) (by decide +kernel), kTS_i 862 (by decide +kernel) (by decide +kernel), kTS_i 64 (by decide +kernel) (by decide +kernel), kTS_i 863 (by decide +kernel) (by decide +kernel), ⟨by decide +kernel, by decide +kernel, by decide +kernel⟩⟩
theorem vX5_undo : kVm yX5_undo mX5_undo 1 := ⟨kTS_i 872 (by decide +kernel) (by decide +kernel), kTS_i 873 (by decide +kernel) (by decide +kernel), kTS_i 64 (by decide +kernel) (by decide +kernel), kTS_i 874 (by decide +kernel) (by decide +kernel), ⟨by decide +kernel, by decide +kernel, by decide +kernel⟩⟩
theorem vX5_isBroken : kVm yX5_isBroken mX5_isBroken 1 := ⟨kTS_i 904 (by decide +kernel) (by decide +kernel), kTS_i 42 (by decide +kernel) (by decide +kernel), kTS_i 64 (by decide +kernel) (by decide +kernel), kTS_i 905 (by decide +kernel) (by decide +kernel), ⟨by decide +kernel, by decide +kernel, by decide +kernel⟩⟩
theorem vX5_townIn : kVm yX5_townIn mX5_townIn 1 := ⟨kTS_i 896 (by decide +kernel) (by decide +kernel), kTS_i 40 (by decide +kernel) (by decide +kernel), kTS_i 64 (by decide +kernel) (by decide +kernel), kTS_i 897 (by decide +kernel) (by decide +kernel), ⟨by decide +kernel, by decide +kernel, by decide +kernel⟩⟩
theorem vX5_beginWeek : kVm yX5_beginWeek mX5_beginWeek 1 := ⟨kTS_i 888 (by decide +kernel) (by decide +kernel), kTS_i 38 (by decide +kernel) (by decide +kernel), kTS_i 64 (by decide +kernel) (by decide +kernel), kTS_i 889 (by decide +kernel) (by decide +kernel), ⟨by decide +kernel, by decide +kernel, by decide +kernel⟩⟩
theorem vX5_turn : kVm yX5_turn mX5_turn 1 := ⟨kTS_i 900 (by decide +kernel) (by decide +kernel), kTS_i 41 (by decide +kernel) (by decide +kernel), kTS_i 64 (by decide +kernel) (by decide +kernel), kTS_i 901 (by decide +kernel) (by decide +kernel), ⟨by decide +kernel, by decide +kernel, by decide +kernel⟩⟩
theorem vX5_mend : kVm yX5_mend mX5_mend 1 := ⟨kTS_i 908 (by decide +kernel) (by decide +kernel), kTS_i 43 (by decide +kernel) (by decide +kernel), kTS_i 64 (by decide +kernel) (by decide +kernel), kTS_i 909 (by decide +kernel) (by decide +kernel), ⟨by decide +kernel, by decide +kernel, by decide +kernel⟩⟩
theorem vX5_goHalf : kVm yX5_goHalf mX5_goHalf 2 := ⟨kTS_i 892 (by decide +kernel) (by decide +kernel), kTS_i 39 (by decide +kernel) (by decide +kernel), kTS_i 64 (by decide +kernel) (by decide +kernel), kTS_i 893 (by decide +kernel) (by decide +kernel), ⟨by decide +kernel, by decide +kernel, by decide +kernel⟩⟩
theorem vX5_goTo : kVm yX5_goTo mX5_goTo 2 := ⟨kTS_i 884 (by decide +kernel) (by decide +kernel), kTS_i 37 (by decide +kernel) (by decide +kernel), kTS_i 64 (by decide +kernel) (by decide +kernel), kTS_i 885 (by decide +kernel) (by decide +kernel), ⟨by decide +kernel, by decide +kernel, by decide +kernel⟩⟩
theorem vX5_goWeeks : kVm yX5_goWeeks mX5_goWeeks 1 := ⟨kTS_i 924 (by decide +kernel) (by decide +kernel), kTS_i 44 (by decide +kernel) (by decide +kernel), kTS_i 64 (by decide +kernel) (by decide +kernel), kTS_i 925 (by decide +kernel) (by decide +kernel), ⟨by decide +kernel, by decide +kernel, by decide +kernel⟩⟩
theorem vX5_allChills : kVm yX5_allChills mX5_allChills 0 := ⟨kTS_i 936 (by decide +kernel) (by decide +kernel), kTS_i 46 (by decide +kernel) (by decide +kernel), kTS_i 64 (by decide +kernel) (by decide +kernel), kTS_i 937 (by decide +kernel) (by decide +kernel), ⟨by decide +kernel, by decide +kernel, by decide +kernel⟩⟩
theorem vX5_wood : kVm yX5_wood mX5_wood 3 := ⟨kTS_i 876 (by decide +kernel) (by decide +kernel), kTS_i 877 (by decide +kernel) (by decide +kernel), kTS_i 64 (by decide +kernel) (by decide +kernel), kTS_i 878 (by decide +kernel) (by decide +kernel), ⟨by decide +kernel, by decide +kernel, by decide +kernel⟩⟩
theorem vX5_wear : kVm yX5_wear mX5_wear 3 := ⟨kTS_i 911 (by decide +kernel) (by decide +kernel), kTS_i 912 (by decide +kernel) (by decide +kernel), kTS_i 64 (by decide +kernel) (by decide +kernel), kTS_i 913 (by decide +kernel) (by decide +kernel), ⟨by decide +kernel, by decide +kernel, by decide +kernel⟩⟩
theorem vX5_cold : kVm yX5_cold mX5_cold 2 := ⟨kTS_i 915 (by decide +kernel) (by decide +kernel), kTS_i 916 (by decide +kernel) (by decide +kernel), kTS_i 64 (by decide +kernel) (by decide +kernel), kTS_i 917 (by decide +kernel) (by decide +kernel), ⟨by decide +kernel, by decide +kernel, by decide +kernel⟩⟩
theorem vX5_chills : kVm yX5_chills mX5_chills 2 := ⟨kTS_i 919 (by decide +kernel) (by decide +kernel), kTS_i 920 (by decide +kernel) (by decide +kernel), kTS_i 64 (by decide +kernel) (by decide +kernel), kTS_i 921 (by decide +kernel) (by decide +kernel), ⟨by decide +kernel, by decide +kernel, by decide +kernel⟩⟩
theorem vX5_allNow : kVm yX5_allNow mX5_allNow 0 := ⟨kTS_i 932 (by decide +kernel) (by decide +kernel), kTS_i 45 (by decide +kernel) (by decide +kernel), kTS_i 64 (by decide +kernel) (by decide +kernel), kTS_i 933 (by decide +kernel) (by decide +kernel), ⟨by decide +kernel, by decide +kernel, by decide +kernel⟩⟩
theorem vX5_all : kVm yX5_all mX5_all 0 := ⟨kTS_i 927 (by decide +kernel) (by decide +kernel), kTS_i 928 (by decide +kernel) (by decide +kernel), kTS_i 64 (by decide +kernel) (by decide +kernel), kTS_i 929 (by decide +kernel) (by decide +kernel), ⟨by decide +kernel, by decide +kernel, by decide +kernel⟩⟩
theorem vX5_breaks : kVm yX5_breaks mX5_breaks 1 := ⟨kTS_i 939 (by decide +kernel) (by decide +kernel), kTS_i 940 (by decide +kernel) (by decide +kernel), kTS_i 64 (by decide +kernel) (by decide +kernel), kTS_i 941 (by decide +kernel) (by decide +kernel), ⟨by decide +kernel, by decide +kernel, by decide +kernel⟩⟩
theorem vX5_best : kVm yX5_best mX5_best 1 := ⟨kTS_i 943 (by decide +kernel) (by decide +kernel), kTS_i 944 (by decide +kernel) (by decide +kernel), kTS_i 64 (by decide +kernel) (by decide +kernel), kTS_i 945 (by decide +kernel) (by decide +kernel), ⟨by decide +kernel, by decide +kernel, by decide +kernel⟩⟩
theorem vX5_blame : kVm yX5_blame mX5_blame 1 := ⟨kTS_i 947 (by decide +kernel) (by decide +kernel), kTS_i 948 (by decide +kernel) (by decide +kernel), kTS_i 64 (by decide +kernel) (by decide +kernel), kTS_i 949 (by decide +kernel) (by decide +kernel), ⟨by decide +kernel, by decide +kernel, by decide +kernel⟩⟩
theorem vX5_size : kSm yX5_size mX5_size 1 := ⟨kTS_i 959 (by decide +kernel) (by decide +kernel), kTS_i 64 (by decide +kernel) (by decide +kernel), kTS_i 960 (by decide +kernel) (by decide +kernel), ⟨by decide +kernel, by decide +kernel, by decide +kernel⟩⟩
theorem vX5_awayNow : kVm yX5_awayNow mX5_awayNow 0 := ⟨kTS_i 956 (by decide +kernel) (by decide +kernel), kTS_i 47 (by decide +kernel) (by decide +kernel), kTS_i 64 (by decide +kernel) (by decide +kernel), kTS_i 957 (by decide +kernel) (by decide +kernel), ⟨by decide +kernel, by decide +kernel, by decide +kernel⟩⟩
theorem vX5_layAway : kVm yX5_layAway mX5_layAway 1 := ⟨kTS_i 963 (by decide +kernel) (by decide +kernel), kTS_i 48 (by decide +kernel) (by decide +kernel), kTS_i 64 (by decide +kernel) (by decide +kernel), kTS_i 964 (by decide +kernel) (by decide +kernel), ⟨by decide +kernel, by decide +kernel, by decide +kernel⟩⟩
theorem vX5_warm : kVm yX5_warm mX5_warm 1 := ⟨kTS_i 951 (by decide +kernel) (by decide +kernel), kTS_i 952 (by decide +kernel) (by decide +kernel), kTS_i 64 (by decide +kernel) (by decide +kernel), kTS_i 953 (by decide +kernel) (by decide +kernel), ⟨by decide +kernel, by decide +kernel, by decide +kernel⟩⟩
theorem vX5_isWarmIn : kVm yX5_isWarmIn mX5_isWarmIn 1 := ⟨kTS_i 971 (by decide +kernel) (by decide +kernel), kTS_i 49 (by decide +kernel) (by decide +kernel), kTS_i 64 (by decide +kernel) (by decide +kernel), kTS_i 972 (by decide +kernel) (by decide +kernel), ⟨by decide +kernel, by decide +kernel, by decide +kernel⟩⟩
theorem vX5_logs : kVm yX5_logs mX5_logs 1 := ⟨kTS_i 966 (by decide +kernel) (by decide +kernel), kTS_i 967 (by decide +kernel) (by decide +kernel), kTS_i 64 (by decide +kernel) (by decide +kernel), kTS_i 968 (by decide +kernel) (by decide +kernel), ⟨by decide +kernel, by decide +kernel, by decide +kernel⟩⟩
theorem vX5_allWear : kVm yX5_allWear mX5_allWear 1 := ⟨kTS_i 984 (by decide +kernel) (by decide +kernel), kTS_i 51 (by decide +kernel) (by decide +kernel), kTS_i 64 (by decide +kernel) (by decide +kernel), kTS_i 985 (by decide +kernel) (by decide +kernel), ⟨by decide +kernel, by decide +kernel, by decide +kernel⟩⟩
theorem vX5_lessWear : kVm yX5_lessWear mX5_lessWear 2 := ⟨kTS_i 980 (by decide +kernel) (by decide +kernel), kTS_i 50 (by decide +kernel) (by decide +kernel), kTS_i 64 (by decide +kernel) (by decide +kernel), kTS_i 981 (by decide +kernel) (by decide +kernel), ⟨by decide +kernel, by decide +kernel, by decide +kernel⟩⟩
theorem vX5_inLeastTerms : kSm yX5_inLeastTerms mX5_inLeastTerms 3 := ⟨kTS_i 987 (by decide +kernel) (by decide +kernel), kTS_i 64 (by decide +kernel) (by decide +kernel), kTS_i 988 (by decide +kernel) (by decide +kernel), ⟨by decide +kernel, by decide +kernel, by decide +kernel⟩⟩
theorem vX5_pays : kVm yX5_pays mX5_pays 3 := ⟨kTS_i 974 (by decide +kernel) (by decide +kernel), kTS_i 975 (by decide +kernel) (by decide +kernel), kTS_i 64 (by decide +kernel) (by decide +kernel), kTS_i 976 (by decide +kernel) (by decide +kernel), ⟨by decide +kernel, by decide +kernel, by decide +kernel⟩⟩
theorem vX5_timeOf : kVm yX5_timeOf mX5_timeOf 1 := ⟨kTS_i 999 (by decide +kernel) (by decide +kernel), kTS_i 53 (by decide +kernel) (by decide +kernel), kTS_i 64 (by decide +kernel) (by decide +kernel), kTS_i 1000 (by decide +kernel) (by decide +kernel), ⟨by decide +kernel, by decide +kernel, by decide +kernel⟩⟩
theorem vX5_halvesOf : kVm yX5_halvesOf mX5_halvesOf 2 := ⟨kTS_i 995 (by decide +kernel) (by decide +kernel), kTS_i 52 (by decide +kernel) (by decide +kernel), kTS_i 64 (by decide +kernel) (by decide +kernel), kTS_i 996 (by decide +kernel) (by decide +kernel), ⟨by decide +kernel, by decide +kernel, by decide +kernel⟩⟩
theorem vX5_together : kVm yX5_together mX5_together 3 := ⟨kTS_i 990 (by decide +kernel) (by decide +kernel), kTS_i 991 (by decide +kernel) (by decide +kernel), kTS_i 64 (by decide +kernel) (by decide +kernel), kTS_i 992 (by decide +kernel) (by decide +kernel), ⟨by decide +kernel, by decide +kernel, by decide +kernel⟩⟩
theorem vX5_third : kVm yX5_third mX5_third 1 := ⟨kTS_i 1002 (by decide +kernel) (by decide +kernel), kTS_i 1003 (by decide +kernel) (by decide +kernel), kTS_i 64 (by decide +kernel) (by decide +kernel), kTS_i 1004 (by decide +kernel) (by decide +kernel), ⟨by decide +kernel, by decide +kernel, by decide +kernel⟩⟩
theorem vX5_row : kVm yX5_row mX5_row 4 := ⟨kTS_i 1006 (by decide +kernel) (by decide +kernel), kTS_i 1007 (by decide +kernel) (by decide +kernel), kTS_i 64 (by decide +kernel) (by decide +kernel), kTS_i 1008 (by decide +kernel) (by decide +kernel), ⟨by decide +kernel, by decide +kernel, by decide +kernel⟩⟩
theorem vX5_reading : kVm yX5_reading mX5_reading 4 := ⟨kTS_i 1010 (by decide +kernel) (by decide +kernel), kTS_i 1011 (by decide +kernel) (by decide +kernel), kTS_i 64 (by decide +kernel) (by decide +kernel), kTS_i 1012 (by decide +kernel) (by decide +kernel), ⟨by decide +kernel, by decide +kernel, by decide +kernel⟩⟩
theorem vX5_back : kVm yX5_back mX5_back 1 := ⟨kTS_i 1014 (by decide +kernel) (by decide +kernel), kTS_i 1015 (by decide +kernel) (by decide +kernel), kTS_i 64 (by decide +kernel) (by decide +kernel), kTS_i 1016 (by decide +kernel) (by decide +kernel), ⟨by decide +kernel, by decide +kernel, by decide +kernel⟩⟩
theorem vX5_areSo : kVm yX5_areSo mX5_areSo 0 := ⟨kTS_i 1023 (by decide +kernel) (by decide +kernel), kTS_i 54 (by decide +kernel) (by decide +kernel), kTS_i 64 (by decide +kernel) (by decide +kernel), kTS_i 1024 (by decide +kernel) (by decide +kernel), ⟨by decide +kernel, by decide +kernel, by decide +kernel⟩⟩
theorem vX5_gone : kVm yX5_gone mX5_gone 0 := ⟨kTS_i 1018 (by decide +kernel) (by decide +kernel), kTS_i 1019 (by decide +kernel) (by decide +kernel), kTS_i 64 (by decide +kernel) (by decide +kernel), kTS_i 1020 (by decide +kernel) (by decide +kernel), ⟨by decide +kernel, by decide +kernel, by decide +kernel⟩⟩
theorem vX5_seams : kVm yX5_seams mX5_seams 0 := ⟨kTS_i 1026 (by decide +kernel) (by decide +kernel), kTS_i 1027 (by decide +kernel) (by decide +kernel), kTS_i 64 (by decide +kernel) (by decide +kernel), kTS_i 1028 (by decide +kernel) (by decide +kernel), ⟨by decide +kernel, by decide +kernel, by decide +kernel⟩⟩
theorem vX5_kinds : kVm yX5_kinds mX5_kinds 1 := ⟨kTS_i 1030 (by decide +kernel) (by decide +kernel), kTS_i 1031 (by decide +kernel) (by decide +kernel), kTS_i 64 (by decide +kernel) (by decide +kernel), kTS_i 1032 (by decide +kernel) (by decide +kernel), ⟨by decide +kernel, by decide +kernel, by decide +kernel⟩⟩
theorem vX5_odds : kVm yX5_odds mX5_odds 2 := ⟨kTS_i 1034 (by decide +kernel) (by decide +kernel), kTS_i 1035 (by decide +kernel) (by decide +kernel), kTS_i 64 (by decide +kernel) (by decide +kernel), kTS_i 1036 (by decide +kernel) (by decide +kernel), ⟨by decide +kernel, by decide +kernel, by decide +kernel⟩⟩
theorem vX5_sheet : kVm yX5_sheet mX5_sheet 3 := ⟨kTS_i 1038 (by decide +kernel) (by decide +kernel), kTS_i 1039 (by decide +kernel) (by decide +kernel), kTS_i 64 (by decide +kernel) (by decide +kernel), kTS_i 1040 (by decide +kernel) (by decide +kernel), ⟨by decide +kernel, by decide +kernel, by decide +kernel⟩⟩
theorem vX5_lose : kVm yX5_lose mX5_lose 1 := ⟨kTS_i 1042 (by decide +kernel) (by decide +kernel), kTS_i 1043 (by decide +kernel) (by decide +kernel), kTS_i 64 (by decide +kernel) (by decide +kernel), kTS_i 1044 (by decide +kernel) (by decide +kernel), ⟨by decide +kernel, by decide +kernel, by decide +kernel⟩⟩
theorem vX5_put : kVm yX5_put mX5_put 3 := ⟨kTS_i 1046 (by decide +kernel) (by decide +kernel), kTS_i 1047 (by decide +kernel) (by decide +kernel), kTS_i 64 (by decide +kernel) (by decide +kernel), kTS_i 1048 (by decide +kernel) (by decide +kernel), ⟨by decide +kernel, by decide +kernel, by decide +kernel⟩⟩
theorem vX5_cell : kVm yX5_cell mX5_cell 3 := ⟨kTS_i 1050 (by decide +kernel) (by decide +kernel), kTS_i 1051 (by decide +kernel) (by decide +kernel), kTS_i 64 (by decide +kernel) (by decide +kernel), kTS_i 1052 (by decide +kernel) (by decide +kernel), ⟨by decide +kernel, by decide +kernel, by decide +kernel⟩⟩
theorem vX5_copy : kVm yX5_copy mX5_copy 5 := ⟨kTS_i 1058 (by decide +kernel) (by decide +kernel), kTS_i 1059 (by decide +kernel) (by decide +kernel), kTS_i 64 (by decide +kernel) (by decide +kernel), kTS_i 1060 (by decide +kernel) (by decide +kernel), ⟨by decide +kernel, by decide +kernel, by decide +kernel⟩⟩
theorem vX5_begins : kVm yX5_begins mX5_begins 1 := ⟨kTS_i 1067 (by decide +kernel) (by decide +kernel), kTS_i 56 (by decide +kernel) (by decide +kernel), kTS_i 64 (by decide +kernel) (by decide +kernel), kTS_i 1068 (by decide +kernel) (by decide +kernel), ⟨by decide +kernel, by decide +kernel, by decide +kernel⟩⟩
theorem vX5_tell : kVm yX5_tell mX5_tell 1 := ⟨kTS_i 1062 (by decide +kernel) (by decide +kernel), kTS_i 1063 (by decide +kernel) (by decide +kernel), kTS_i 64 (by decide +kernel) (by decide +kernel), kTS_i 1064 (by decide +kernel) (by decide +kernel), ⟨by decide +kernel, by decide +kernel, by decide +kernel⟩⟩
theorem vX5_knock : kVm yX5_knock mX5_knock 1 := ⟨kTS_i 1070 (by decide +kernel) (by decide +kernel), kTS_i 1071 (by decide +kernel) (by decide +kernel), kTS_i 64 (by decide +kernel) (by decide +kernel), kTS_i 1072 (by decide +kernel) (by decide +kernel), ⟨by decide +kernel, by decide +kernel, by decide +kernel⟩⟩
theorem vX5_as : kVm yX5_as mX5_as 2 := ⟨kTS_i 1074 (by decide +kernel) (by decide +kernel), kTS_i 1075 (by decide +kernel) (by decide +kernel), kTS_i 64 (by decide +kernel) (by decide +kernel), kTS_i 1076 (by decide +kernel) (by decide +kernel), ⟨by decide +kernel, by decide +kernel, by decide +kernel⟩⟩
theorem vX5_trace : kVm yX5_trace mX5_trace 0 := ⟨kTS_i 1078 (by decide +kernel) (by decide +kernel), kTS_i 1079 (by decide +kernel) (by decide +kernel), kTS_i 64 (by decide +kernel) (by decide +kernel), kTS_i 1080 (by decide +kernel) (by decide +kernel), ⟨by decide +kernel, by decide +kernel, by decide +kernel⟩⟩
theorem vX5_fault : kVm yX5_fault mX5_fault 0 := ⟨kTS_i 1082 (by decide +kernel) (by decide +kernel), kTS_i 1083 (by decide +kernel) (by decide +kernel), kTS_i 64 (by decide +kernel) (by decide +kernel), kTS_i 1084 (by decide +kernel) (by decide +kernel), ⟨by decide +kernel, by decide +kernel, by decide +kernel⟩⟩
theorem vX5_many : kVm yX5_many mX5_many 1 := ⟨kTS_i 1086 (by decide +kernel) (by decide +kernel), kTS_i 1087 (by decide +kernel) (by decide +kernel), kTS_i 64 (by decide +kernel) (by decide +kernel), kTS_i 1088 (by decide +kernel) (by decide +kernel), ⟨by decide +kernel, by decide +kernel, by decide +kernel⟩⟩
theorem vJ6_bitCount_0f7a4 : kSm yJ6_bitCount_0f7a4 mJ6_bitCount_0f7a4 1 := ⟨kTS_i 480 (by decide +kernel) (by decide +kernel), kTS_i 66 (by decide +kernel) (by decide +kernel), kTS_i 481 (by decide +kernel) (by decide +kernel), ⟨by decide +kernel, by decide +kernel, by decide +kernel⟩⟩
theorem vJ9_max_7cf53 : kSm yJ9_max_7cf53 mJ9_max_7cf53 2 := ⟨kTS_i 85 (by decide +kernel) (by decide +kernel), kTS_i 60 (by decide +kernel) (by decide +kernel), kTS_i 86 (by decide +kernel) (by decide +kernel), ⟨by decide +kernel, by decide +kernel, by decide +kernel⟩⟩
theorem vJ9_min_7cf53 : kSm yJ9_min_7cf53 mJ9_min_7cf53 2 := ⟨kTS_i 429 (by decide +kernel) (by decide +kernel), kTS_i 60 (by decide +kernel) (by decide +kernel), kTS_i 430 (by decide +kernel) (by decide +kernel), ⟨by decide +kernel, by decide +kernel, by decide +kernel⟩⟩
theorem vJ7_fill_53178 : kSm yJ7_fill_53178 mJ7_fill_53178 2 := ⟨kTS_i 414 (by decide +kernel) (by decide +kernel), kTS_i 65 (by decide +kernel) (by decide +kernel), kTS_i 415 (by decide +kernel) (by decide +kernel), ⟨by decide +kernel, by decide +kernel, by decide +kernel⟩⟩
theorem iL : Cond.initialized RL ∈ kTS := kTS_i 57 (by decide +kernel) (by decide +kernel)
theorem iX4 : Cond.initialized RX4 ∈ kTS := kTS_i 58 (by decide +kernel) (by decide +kernel)
theorem iX0 : Cond.initialized RX0 ∈ kTS := kTS_i 59 (by decide +kernel) (by decide +kernel)
theorem iJ9 : Cond.initialized RJ9 ∈ kTS := kTS_i 60 (by decide +kernel) (by decide +kernel)
theorem iX2 : Cond.initialized RX2 ∈ kTS := kTS_i 61 (by decide +kernel) (by decide +kernel)
theorem iX3 : Cond.initialized RX3 ∈ kTS := kTS_i 62 (by decide +kernel) (by decide +kernel)
theorem iX1 : Cond.initialized RX1 ∈ kTS := kTS_i 63 (by decide +kernel) (by decide +kernel)
theorem iX5 : Cond.initialized RX5 ∈ kTS := kTS_i 64 (by decide +kernel) (by decide +kernel)
theorem iJ7 : Cond.initialized RJ7 ∈ kTS := kTS_i 65 (by decide +kernel) (by decide +kernel)
theorem iJ6 : Cond.initialized RJ6 ∈ kTS := kTS_i 66 (by decide +kernel) (by decide +kernel)
theorem iJ10 : Cond.initialized RJ10 ∈ kTS := kTS_i 67 (by decide +kernel) (by decide +kernel)
theorem lL_7 : Cond.classLink RL 7 RX4 ∈ kTS := kTS_i 68 (by decide +kernel) (by decide +kernel)
theorem nX4 : Cond.instantiable RX4 11 ∈ kTS := kTS_i 69 (by decide +kernel) (by decide +kernel)
theorem lL_9 : Cond.methodLink RL 9 yX4_init ∈ kTS := kTS_i 70 (by decide +kernel) (by decide +kernel)
theorem lX4_5 : Cond.methodLink RX4 5 objectInit ∈ kTS := kTS_i 73 (by decide +kernel) (by decide +kernel)
theorem lX4_11 : Cond.classLink RX4 11 RX1 ∈ kTS := kTS_i 76 (by decide +kernel) (by decide +kernel)
theorem lX4_17 : Cond.classLink RX4 17 RX0 ∈ kTS := kTS_i 78 (by decide +kernel) (by decide +kernel)
theorem nX0 : Cond.instantiable RX0 5 ∈ kTS := kTS_i 79 (by decide +kernel) (by decide +kernel)
theorem lX4_19 : Cond.methodLink RX4 19 yX0_init ∈ kTS := kTS_i 80 (by decide +kernel) (by decide +kernel)
theorem lX0_3 : Cond.methodLink RX0 3 objectInit ∈ kTS := kTS_i 83 (by decide +kernel) (by decide +kernel)
theorem lX0_15 : Cond.methodLink RX0 15 Lib.Math.max.name ∈ kTS := kTS_i 84 (by decide +kernel) (by decide +kernel)
theorem fX0_21 : kFE RX0 21 0 0 := ⟨by decide, by decide, kTS_i 87 (by decide +kernel) (by decide +kernel)⟩
theorem fX0_24 : kFE RX0 24 0 1 := ⟨by decide, by decide, kTS_i 88 (by decide +kernel) (by decide +kernel)⟩
theorem fX0_28 : kFE RX0 28 0 2 := ⟨by decide, by decide, kTS_i 89 (by decide +kernel) (by decide +kernel)⟩
theorem fX0_31 : kFE RX0 31 0 3 := ⟨by decide, by decide, kTS_i 90 (by decide +kernel) (by decide +kernel)⟩
theorem fX0_9 : kFE RX0 9 0 4 := ⟨by decide, by decide, kTS_i 91 (by decide +kernel) (by decide +kernel)⟩
theorem fX4_74 : kFE RX4 74 0 4 := ⟨by decide, by decide, kTS_i 92 (by decide +kernel) (by decide +kernel)⟩
theorem lX4_29 : Cond.classLink RX4 29 RX2 ∈ kTS := kTS_i 105 (by decide +kernel) (by decide +kernel)
theorem nX2 : Cond.instantiable RX2 12 ∈ kTS := kTS_i 106 (by decide +kernel) (by decide +kernel)
theorem lX4_31 (Γ : kGm) : ∀ s, kKS Γ s → va_Nw (.methodLinkNest RX4 31 yX2_init RX4) s := fun _ h => h.2.1
theorem lX2_3 : Cond.methodLink RX2 3 objectInit ∈ kTS := kTS_i 110 (by decide +kernel) (by decide +kernel)
theorem fX2_9 : kFE RX2 9 2 0 := ⟨by decide, by decide, kTS_i 111 (by decide +kernel) (by decide +kernel)⟩
theorem fX4_84 : kFE RX4 84 2 0 := ⟨by decide, by decide, kTS_i 112 (by decide +kernel) (by decide +kernel)⟩
theorem fX3_94 : kFE RX3 94 2 0 := ⟨by decide, by decide, kTS_i 113 (by decide +kernel) (by decide +kernel)⟩
theorem fX2_15 : kFE RX2 15 2 1 := ⟨by decide, by decide, kTS_i 114 (by decide +kernel) (by decide +kernel)⟩
theorem fX4_88 : kFE RX4 88 2 1 := ⟨by decide, by decide, kTS_i 115 (by decide +kernel) (by decide +kernel)⟩
theorem fX2_18 : kFE RX2 18 2 2 := ⟨by decide, by decide, kTS_i 116 (by decide +kernel) (by decide +kernel)⟩
theorem fX3_57 : kFE RX3 57 2 2 := ⟨by decide, by decide, kTS_i 117 (by decide +kernel) (by decide +kernel)⟩
theorem fX4_94 : kFE RX4 94 2 2 := ⟨by decide, by decide, kTS_i 118 (by decide +kernel) (by decide +kernel)⟩
theorem fX2_21 : kFE RX2 21 2 3 := ⟨by decide, by decide, kTS_i 119 (by decide +kernel) (by decide +kernel)⟩
theorem fX4_97 : kFE RX4 97 2 3 := ⟨by decide, by decide, kTS_i 120 (by decide +kernel) (by decide +kernel)⟩
theorem fX2_24 : kFE RX2 24 2 4 := ⟨by decide, by decide, kTS_i 121 (by decide +kernel) (by decide +kernel)⟩
theorem fX4_100 : kFE RX4 100 2 4 := ⟨by decide, by decide, kTS_i 122 (by decide +kernel) (by decide +kernel)⟩
theorem fX3_107 : kFE RX3 107 2 4 := ⟨by decide, by decide, kTS_i 123 (by decide +kernel) (by decide +kernel)⟩
theorem fX2_27 : kFE RX2 27 2 5 := ⟨by decide, by decide, kTS_i 124 (by decide +kernel) (by decide +kernel)⟩
theorem fX3_60 : kFE RX3 60 2 5 := ⟨by decide, by decide, kTS_i 125 (by decide +kernel) (by decide +kernel)⟩
theorem fX4_103 : kFE RX4 103 2 5 := ⟨by decide, by decide, kTS_i 126 (by decide +kernel) (by decide +kernel)⟩
theorem fX2_30 : kFE RX2 30 2 6 := ⟨by decide, by decide, kTS_i 127 (by decide +kernel) (by decide +kernel)⟩
theorem fX4_106 : kFE RX4 106 2 6 := ⟨by decide, by decide, kTS_i 128 (by decide +kernel) (by decide +kernel)⟩
theorem fX3_114 : kFE RX3 114 2 6 := ⟨by decide, by decide, kTS_i 129 (by decide +kernel) (by decide +kernel)⟩
theorem fX2_33 : kFE RX2 33 2 7 := ⟨by decide, by decide, kTS_i 130 (by decide +kernel) (by decide +kernel)⟩
theorem fX3_51 : kFE RX3 51 2 7 := ⟨by decide, by decide, kTS_i 131 (by decide +kernel) (by decide +kernel)⟩
theorem fX4_116 : kFE RX4 116 2 7 := ⟨by decide, by decide, kTS_i 132 (by decide +kernel) (by decide +kernel)⟩
theorem fX2_37 : kFE RX2 37 2 8 := ⟨by decide, by decide, kTS_i 133 (by decide +kernel) (by decide +kernel)⟩
theorem fX4_77 : kFE RX4 77 2 8 := ⟨by decide, by decide, kTS_i 134 (by decide +kernel) (by decide +kernel)⟩
theorem fX3_91 : kFE RX3 91 2 8 := ⟨by decide, by decide, kTS_i 135 (by decide +kernel) (by decide +kernel)⟩
theorem fX2_40 : kFE RX2 40 2 9 := ⟨by decide, by decide, kTS_i 136 (by decide +kernel) (by decide +kernel)⟩
theorem fX3_54 : kFE RX3 54 2 9 := ⟨by decide, by decide, kTS_i 137 (by decide +kernel) (by decide +kernel)⟩
theorem fX4_187 : kFE RX4 187 2 9 := ⟨by decide, by decide, kTS_i 138 (by decide +kernel) (by decide +kernel)⟩
theorem fX2_43 : kFE RX2 43 2 10 := ⟨by decide, by decide, kTS_i 139 (by decide +kernel) (by decide +kernel)⟩
theorem fX2_46 : kFE RX2 46 2 11 := ⟨by decide, by decide, kTS_i 140 (by decide +kernel) (by decide +kernel)⟩
theorem lX4_39 : Cond.classLink RX4 39 RX3 ∈ kTS := kTS_i 166 (by decide +kernel) (by decide +kernel)
theorem nX3 : Cond.instantiable RX3 12 ∈ kTS := kTS_i 167 (by decide +kernel) (by decide +kernel)
theorem lX4_41 : Cond.methodLink RX4 41 yX3_init ∈ kTS := kTS_i 168 (by decide +kernel) (by decide +kernel)
theorem lX3_3 : Cond.methodLink RX3 3 objectInit ∈ kTS := kTS_i 171 (by decide +kernel) (by decide +kernel)
theorem fX3_9 : kFE RX3 9 3 0 := ⟨by decide, by decide, kTS_i 172 (by decide +kernel) (by decide +kernel)⟩
theorem fX3_15 : kFE RX3 15 3 1 := ⟨by decide, by decide, kTS_i 173 (by decide +kernel) (by decide +kernel)⟩
theorem fX3_18 : kFE RX3 18 3 2 := ⟨by decide, by decide, kTS_i 174 (by decide +kernel) (by decide +kernel)⟩
theorem fX3_21 : kFE RX3 21 3 3 := ⟨by decide, by decide, kTS_i 175 (by decide +kernel) (by decide +kernel)⟩
theorem fX3_24 : kFE RX3 24 3 4 := ⟨by decide, by decide, kTS_i 176 (by decide +kernel) (by decide +kernel)⟩
theorem fX3_27 : kFE RX3 27 3 5 := ⟨by decide, by decide, kTS_i 177 (by decide +kernel) (by decide +kernel)⟩
theorem fX4_212 : kFE RX4 212 3 5 := ⟨by decide, by decide, kTS_i 178 (by decide +kernel) (by decide +kernel)⟩
theorem fX3_47 : kFE RX3 47 3 6 := ⟨by decide, by decide, kTS_i 179 (by decide +kernel) (by decide +kernel)⟩
theorem fX3_43 : kFE RX3 43 3 7 := ⟨by decide, by decide, kTS_i 180 (by decide +kernel) (by decide +kernel)⟩
theorem fX3_30 : kFE RX3 30 3 8 := ⟨by decide, by decide, kTS_i 181 (by decide +kernel) (by decide +kernel)⟩
theorem fX3_34 : kFE RX3 34 3 9 := ⟨by decide, by decide, kTS_i 182 (by decide +kernel) (by decide +kernel)⟩
theorem fX4_164 : kFE RX4 164 3 9 := ⟨by decide, by decide, kTS_i 183 (by decide +kernel) (by decide +kernel)⟩
theorem fX3_37 : kFE RX3 37 3 10 := ⟨by decide, by decide, kTS_i 184 (by decide +kernel) (by decide +kernel)⟩
theorem fX4_176 : kFE RX4 176 3 10 := ⟨by decide, by decide, kTS_i 185 (by decide +kernel) (by decide +kernel)⟩
theorem fX3_40 : kFE RX3 40 3 11 := ⟨by decide, by decide, kTS_i 186 (by decide +kernel) (by decide +kernel)⟩
theorem fX4_179 : kFE RX4 179 3 11 := ⟨by decide, by decide, kTS_i 187 (by decide +kernel) (by decide +kernel)⟩
theorem nX1 : Cond.instantiable RX1 3 ∈ kTS := kTS_i 213 (by decide +kernel) (by decide +kernel)
theorem lX4_65 (Γ : kGm) : ∀ s, kKS Γ s → va_Nw (.methodLinkNest RX4 65 yX1_init RX4) s := fun _ h => h.2.2.1
theorem lX1_3 : Cond.methodLink RX1 3 objectInit ∈ kTS := kTS_i 217 (by decide +kernel) (by decide +kernel)
theorem fX1_9 : kFE RX1 9 1 0 := ⟨by decide, by decide, kTS_i 218 (by decide +kernel) (by decide +kernel)⟩
theorem fX4_246 : kFE RX4 246 1 0 := ⟨by decide, by decide, kTS_i 219 (by decide +kernel) (by decide +kernel)⟩
theorem fX1_15 : kFE RX1 15 1 1 := ⟨by decide, by decide, kTS_i 220 (by decide +kernel) (by decide +kernel)⟩
theorem fX4_240 : kFE RX4 240 1 1 := ⟨by decide, by decide, kTS_i 221 (by decide +kernel) (by decide +kernel)⟩
theorem fX1_19 : kFE RX1 19 1 2 := ⟨by decide, by decide, kTS_i 222 (by decide +kernel) (by decide +kernel)⟩
theorem fX4_13 : kFE RX4 13 4 0 := ⟨by decide, by decide, kTS_i 230 (by decide +kernel) (by decide +kernel)⟩
theorem fX4_22 : kFE RX4 22 4 1 := ⟨by decide, by decide, kTS_i 231 (by decide +kernel) (by decide +kernel)⟩
theorem fX4_26 : kFE RX4 26 4 2 := ⟨by decide, by decide, kTS_i 232 (by decide +kernel) (by decide +kernel)⟩
theorem fX4_32 : kFE RX4 32 4 3 := ⟨by decide, by decide, kTS_i 233 (by decide +kernel) (by decide +kernel)⟩
theorem fX4_36 : kFE RX4 36 4 4 := ⟨by decide, by decide, kTS_i 234 (by decide +kernel) (by decide +kernel)⟩
theorem fX4_44 : kFE RX4 44 4 5 := ⟨by decide, by decide, kTS_i 235 (by decide +kernel) (by decide +kernel)⟩
theorem fX4_48 : kFE RX4 48 4 6 := ⟨by decide, by decide, kTS_i 236 (by decide +kernel) (by decide +kernel)⟩
theorem fX4_51 : kFE RX4 51 4 7 := ⟨by decide, by decide, kTS_i 237 (by decide +kernel) (by decide +kernel)⟩
theorem fX4_55 : kFE RX4 55 4 8 := ⟨by decide, by decide, kTS_i 238 (by decide +kernel) (by decide +kernel)⟩
theorem fX4_59 : kFE RX4 59 4 9 := ⟨by decide, by decide, kTS_i 239 (by decide +kernel) (by decide +kernel)⟩
theorem fX4_62 : kFE RX4 62 4 10 := ⟨by decide, by decide, kTS_i 240 (by decide +kernel) (by decide +kernel)⟩
theorem lL_13 : Cond.methodLink RL 13 yX4_houses ∈ kTS := kTS_i 264 (by decide +kernel) (by decide +kernel)
theorem lX4_66 : Cond.methodLink RX4 66 yX4_refusalOfCells ∈ kTS := kTS_i 268 (by decide +kernel) (by decide +kernel)
theorem lX4_237 : Cond.methodLink RX4 237 yX4_refusalOfLane ∈ kTS := kTS_i 272 (by decide +kernel) (by decide +kernel)
theorem lX4_215 : Cond.methodLink RX4 215 yX4_isSheet ∈ kTS := kTS_i 276 (by decide +kernel) (by decide +kernel)
theorem lX4_218 : Cond.methodLink RX4 218 yX4_isLane ∈ kTS := kTS_i 279 (by decide +kernel) (by decide +kernel)
theorem lX4_228 : Cond.methodLink RX4 228 yX1_hasNothing ∈ kTS := kTS_i 282 (by decide +kernel) (by decide +kernel)
theorem lX4_221 : Cond.methodLink RX4 221 yX4_faultBy ∈ kTS := kTS_i 286 (by decide +kernel) (by decide +kernel)
theorem lX4_243 : Cond.methodLink RX4 243 yX1_hasCells ∈ kTS := kTS_i 290 (by decide +kernel) (by decide +kernel)
theorem lX4_70 : Cond.methodLink RX4 70 yX4_firstFault ∈ kTS := kTS_i 294 (by decide +kernel) (by decide +kernel)
theorem lX4_270 : Cond.methodLink RX4 270 yX2_begin ∈ kTS := kTS_i 298 (by decide +kernel) (by decide +kernel)
theorem lX4_205 : Cond.methodLink RX4 205 yX1_read ∈ kTS := kTS_i 302 (by decide +kernel) (by decide +kernel)
theorem lX1_28 : Cond.methodLink RX1 28 yX1_hasCell ∈ kTS := kTS_i 306 (by decide +kernel) (by decide +kernel)
theorem lX4_273 : Cond.methodLink RX4 273 yX2_goesOn ∈ kTS := kTS_i 310 (by decide +kernel) (by decide +kernel)
theorem lX2_49 : Cond.methodLink RX2 49 yX2_headGoesOn ∈ kTS := kTS_i 314 (by decide +kernel) (by decide +kernel)
theorem lX2_63 : Cond.methodLink RX2 63 yX2_digitOf ∈ kTS := kTS_i 318 (by decide +kernel) (by decide +kernel)
theorem lX2_67 : Cond.methodLink RX2 67 yX2_isIn ∈ kTS := kTS_i 321 (by decide +kernel) (by decide +kernel)
theorem lX2_53 : Cond.methodLink RX2 53 yX2_houseGoesOn ∈ kTS := kTS_i 324 (by decide +kernel) (by decide +kernel)
theorem lX2_57 : Cond.methodLink RX2 57 yX2_personGoesOn ∈ kTS := kTS_i 328 (by decide +kernel) (by decide +kernel)
theorem lX2_71 : Cond.methodLink RX2 71 yX2_kindOf ∈ kTS := kTS_i 332 (by decide +kernel) (by decide +kernel)
theorem lX2_60 : Cond.methodLink RX2 60 yX2_opens ∈ kTS := kTS_i 335 (by decide +kernel) (by decide +kernel)
theorem lX4_276 : Cond.methodLink RX4 276 yX2_isWhole ∈ kTS := kTS_i 339 (by decide +kernel) (by decide +kernel)
theorem lL_18 : Cond.methodLink RL 18 yX4_ofHouse ∈ kTS := kTS_i 343 (by decide +kernel) (by decide +kernel)
theorem lX4_80 : Cond.methodLink RX4 80 yX4_isHouse ∈ kTS := kTS_i 347 (by decide +kernel) (by decide +kernel)
theorem lL_23 : Cond.methodLink RL 23 yX4_ofPerson ∈ kTS := kTS_i 351 (by decide +kernel) (by decide +kernel)
theorem lX4_91 : Cond.methodLink RX4 91 yX4_isPerson ∈ kTS := kTS_i 355 (by decide +kernel) (by decide +kernel)
theorem lX4_109 : Cond.methodLink RX4 109 yX4_wantsOf ∈ kTS := kTS_i 359 (by decide +kernel) (by decide +kernel)
theorem lX4_113 : Cond.methodLink RX4 113 yX4_isAway ∈ kTS := kTS_i 362 (by decide +kernel) (by decide +kernel)
theorem lL_27 : Cond.methodLink RL 27 yX4_seam ∈ kTS := kTS_i 366 (by decide +kernel) (by decide +kernel)
theorem lL_32 : Cond.methodLink RL 32 yX4_away ∈ kTS := kTS_i 370 (by decide +kernel) (by decide +kernel)
theorem lL_37 : Cond.methodLink RL 37 yX4_gift ∈ kTS := kTS_i 374 (by decide +kernel) (by decide +kernel)
theorem lX4_119 : Cond.methodLink RX4 119 yX4_isWeek ∈ kTS := kTS_i 378 (by decide +kernel) (by decide +kernel)
theorem lX4_122 : Cond.methodLink RX4 122 yX0_keep ∈ kTS := kTS_i 381 (by decide +kernel) (by decide +kernel)
theorem lL_42 : Cond.methodLink RL 42 yX4_undo ∈ kTS := kTS_i 385 (by decide +kernel) (by decide +kernel)
theorem lX4_126 : Cond.methodLink RX4 126 yX0_takeBack ∈ kTS := kTS_i 389 (by decide +kernel) (by decide +kernel)
theorem lL_46 : Cond.methodLink RL 46 yX4_wood ∈ kTS := kTS_i 393 (by decide +kernel) (by decide +kernel)
theorem lX4_130 : Cond.methodLink RX4 130 yX4_isTime ∈ kTS := kTS_i 397 (by decide +kernel) (by decide +kernel)
theorem lX4_134 : Cond.methodLink RX4 134 yX4_freshWeeks ∈ kTS := kTS_i 400 (by decide +kernel) (by decide +kernel)
theorem lX4_160 : Cond.methodLink RX4 160 yX3_prepare ∈ kTS := kTS_i 404 (by decide +kernel) (by decide +kernel)
theorem lX3_63 (Γ : kGm) : ∀ s, kKS Γ s → va_Nw (.methodLinkNest RX3 63 yX4_wantsOf RX4) s := fun _ h => h.2.2.2.1
theorem lX4_165 : Cond.methodLink RX4 165 yX3_live ∈ kTS := kTS_i 409 (by decide +kernel) (by decide +kernel)
theorem lX3_67 : Cond.methodLink RX3 67 yJ7_fill_53178 ∈ kTS := kTS_i 413 (by decide +kernel) (by decide +kernel)
theorem lX3_73 : Cond.methodLink RX3 73 yX2_townIn ∈ kTS := kTS_i 416 (by decide +kernel) (by decide +kernel)
theorem lX3_76 : Cond.methodLink RX3 76 yX3_bringWood ∈ kTS := kTS_i 420 (by decide +kernel) (by decide +kernel)
theorem lX3_97 : Cond.methodLink RX3 97 yX0_sumOf ∈ kTS := kTS_i 424 (by decide +kernel) (by decide +kernel)
theorem lX3_102 : Cond.methodLink RX3 102 Lib.Math.min.name ∈ kTS := kTS_i 428 (by decide +kernel) (by decide +kernel)
theorem lX3_80 : Cond.methodLink RX3 80 yX3_takeWood ∈ kTS := kTS_i 431 (by decide +kernel) (by decide +kernel)
theorem lX3_110 : Cond.methodLink RX3 110 yX2_breaksBy ∈ kTS := kTS_i 435 (by decide +kernel) (by decide +kernel)
theorem lX3_84 : Cond.methodLink RX3 84 yX3_mend ∈ kTS := kTS_i 439 (by decide +kernel) (by decide +kernel)
theorem lX3_117 : Cond.methodLink RX3 117 Lib.Math.max.name ∈ kTS := kTS_i 443 (by decide +kernel) (by decide +kernel)
theorem lX3_87 : Cond.methodLink RX3 87 yX3_note ∈ kTS := kTS_i 444 (by decide +kernel) (by decide +kernel)
theorem lX4_138 : Cond.methodLink RX4 138 yX4_timeOf ∈ kTS := kTS_i 448 (by decide +kernel) (by decide +kernel)
theorem lX4_141 : Cond.methodLink RX4 141 yX3_woodAt ∈ kTS := kTS_i 451 (by decide +kernel) (by decide +kernel)
theorem lL_50 : Cond.methodLink RL 50 yX4_wear ∈ kTS := kTS_i 455 (by decide +kernel) (by decide +kernel)
theorem lX4_144 : Cond.methodLink RX4 144 yX3_wearAt ∈ kTS := kTS_i 459 (by decide +kernel) (by decide +kernel)
theorem lL_54 : Cond.methodLink RL 54 yX4_cold ∈ kTS := kTS_i 463 (by decide +kernel) (by decide +kernel)
theorem lX4_147 : Cond.methodLink RX4 147 yX3_coldAt ∈ kTS := kTS_i 467 (by decide +kernel) (by decide +kernel)
theorem lL_58 : Cond.methodLink RL 58 yX4_chills ∈ kTS := kTS_i 471 (by decide +kernel) (by decide +kernel)
theorem lX4_150 : Cond.methodLink RX4 150 yX3_chillsOf ∈ kTS := kTS_i 475 (by decide +kernel) (by decide +kernel)
theorem lX3_123 : Cond.methodLink RX3 123 yJ6_bitCount_0f7a4 ∈ kTS := kTS_i 479 (by decide +kernel) (by decide +kernel)
theorem kJ6_265 : Cond.constant RJ6 265 (1431655765) ∈ kTS := kTS_i 482 (by decide +kernel) (by decide +kernel)
theorem kJ6_266 : Cond.constant RJ6 266 (858993459) ∈ kTS := kTS_i 483 (by decide +kernel) (by decide +kernel)
theorem kJ6_267 : Cond.constant RJ6 267 (252645135) ∈ kTS := kTS_i 484 (by decide +kernel) (by decide +kernel)
theorem lL_62 : Cond.methodLink RL 62 yX4_all ∈ kTS := kTS_i 485 (by decide +kernel) (by decide +kernel)
theorem lX4_153 : Cond.methodLink RX4 153 yX4_everybody ∈ kTS := kTS_i 489 (by decide +kernel) (by decide +kernel)
theorem lL_67 : Cond.methodLink RL 67 yX4_breaks ∈ kTS := kTS_i 493 (by decide +kernel) (by decide +kernel)
theorem lX4_157 : Cond.methodLink RX4 157 yX2_breaksBy ∈ kTS := kTS_i 497 (by decide +kernel) (by decide +kernel)
theorem lL_71 : Cond.methodLink RL 71 yX4_best ∈ kTS := kTS_i 498 (by decide +kernel) (by decide +kernel)
theorem lL_75 : Cond.methodLink RL 75 yX4_blame ∈ kTS := kTS_i 502 (by decide +kernel) (by decide +kernel)
theorem lL_79 : Cond.methodLink RL 79 yX4_warm ∈ kTS := kTS_i 506 (by decide +kernel) (by decide +kernel)
theorem lX4_168 : Cond.methodLink RX4 168 yJ6_bitCount_0f7a4 ∈ kTS := kTS_i 510 (by decide +kernel) (by decide +kernel)
theorem lL_83 : Cond.methodLink RL 83 yX4_logs ∈ kTS := kTS_i 511 (by decide +kernel) (by decide +kernel)
theorem lX4_173 : Cond.methodLink RX4 173 yX2_dwellersOf ∈ kTS := kTS_i 515 (by decide +kernel) (by decide +kernel)
theorem lL_87 : Cond.methodLink RL 87 yX4_pays ∈ kTS := kTS_i 519 (by decide +kernel) (by decide +kernel)
theorem lX4_182 : Cond.methodLink RX4 182 yX4_isWhich ∈ kTS := kTS_i 523 (by decide +kernel) (by decide +kernel)
theorem kX4_185 : Cond.constantLong RX4 185 (-9223372036854775808) ∈ kTS := kTS_i 526 (by decide +kernel) (by decide +kernel)
theorem lX4_190 : Cond.methodLink RX4 190 yX4_lessWearWithout ∈ kTS := kTS_i 527 (by decide +kernel) (by decide +kernel)
theorem lX4_279 : Cond.methodLink RX4 279 yX3_wearTogether ∈ kTS := kTS_i 531 (by decide +kernel) (by decide +kernel)
theorem lX3_120 : Cond.methodLink RX3 120 yX3_wearAt ∈ kTS := kTS_i 535 (by decide +kernel) (by decide +kernel)
theorem lX4_282 : Cond.methodLink RX4 282 Lib.Math.max.name ∈ kTS := kTS_i 536 (by decide +kernel) (by decide +kernel)
theorem lX4_193 : Cond.methodLink RX4 193 yX4_ofShare ∈ kTS := kTS_i 537 (by decide +kernel) (by decide +kernel)
theorem lX4_289 : Cond.methodLink RX4 289 yX4_commonDivisor ∈ kTS := kTS_i 540 (by decide +kernel) (by decide +kernel)
theorem lL_92 : Cond.methodLink RL 92 yX4_together ∈ kTS := kTS_i 543 (by decide +kernel) (by decide +kernel)
theorem lX4_197 : Cond.methodLink RX4 197 Lib.Math.min.name ∈ kTS := kTS_i 547 (by decide +kernel) (by decide +kernel)
theorem lL_96 : Cond.methodLink RL 96 yX4_third ∈ kTS := kTS_i 548 (by decide +kernel) (by decide +kernel)
theorem lX4_202 : Cond.methodLink RX4 202 yX4_whoIsIn ∈ kTS := kTS_i 552 (by decide +kernel) (by decide +kernel)
theorem lX4_267 : Cond.methodLink RX4 267 yX2_townIn ∈ kTS := kTS_i 556 (by decide +kernel) (by decide +kernel)
theorem lL_100 : Cond.methodLink RL 100 yX4_row ∈ kTS := kTS_i 557 (by decide +kernel) (by decide +kernel)
theorem lL_104 : Cond.methodLink RL 104 yX4_reading ∈ kTS := kTS_i 561 (by decide +kernel) (by decide +kernel)
theorem lL_108 : Cond.methodLink RL 108 yX4_back ∈ kTS := kTS_i 565 (by decide +kernel) (by decide +kernel)
theorem lL_112 : Cond.methodLink RL 112 yX4_gone ∈ kTS := kTS_i 569 (by decide +kernel) (by decide +kernel)
theorem lX4_208 : Cond.methodLink RX4 208 yX4_readingsAreSoInTrial ∈ kTS := kTS_i 573 (by decide +kernel) (by decide +kernel)
theorem lX4_285 : Cond.methodLink RX4 285 yX0_areWearOf ∈ kTS := kTS_i 577 (by decide +kernel) (by decide +kernel)
theorem lX0_34 : Cond.methodLink RX0 34 yX3_wearAt ∈ kTS := kTS_i 581 (by decide +kernel) (by decide +kernel)
theorem lL_116 : Cond.methodLink RL 116 yX4_seams ∈ kTS := kTS_i 582 (by decide +kernel) (by decide +kernel)
theorem lL_120 : Cond.methodLink RL 120 yX4_kinds ∈ kTS := kTS_i 586 (by decide +kernel) (by decide +kernel)
theorem lL_124 : Cond.methodLink RL 124 yX4_odds ∈ kTS := kTS_i 590 (by decide +kernel) (by decide +kernel)
theorem lL_129 : Cond.methodLink RL 129 yX4_sheet ∈ kTS := kTS_i 594 (by decide +kernel) (by decide +kernel)
theorem lX4_224 : Cond.methodLink RX4 224 yX1_renew ∈ kTS := kTS_i 598 (by decide +kernel) (by decide +kernel)
theorem lX1_22 : Cond.methodLink RX1 22 yJ7_fill_53178 ∈ kTS := kTS_i 602 (by decide +kernel) (by decide +kernel)
theorem lL_133 : Cond.methodLink RL 133 yX4_lose ∈ kTS := kTS_i 603 (by decide +kernel) (by decide +kernel)
theorem lL_137 : Cond.methodLink RL 137 yX4_put ∈ kTS := kTS_i 607 (by decide +kernel) (by decide +kernel)
theorem lX4_231 : Cond.methodLink RX4 231 yX1_hasCell ∈ kTS := kTS_i 611 (by decide +kernel) (by decide +kernel)
theorem lX4_234 : Cond.methodLink RX4 234 yX1_write ∈ kTS := kTS_i 612 (by decide +kernel) (by decide +kernel)
theorem lX1_32 : Cond.methodLink RX1 32 yX1_cutToLane ∈ kTS := kTS_i 616 (by decide +kernel) (by decide +kernel)
theorem lL_141 : Cond.methodLink RL 141 yX4_cell ∈ kTS := kTS_i 620 (by decide +kernel) (by decide +kernel)
theorem lL_145 : Cond.methodLink RL 145 yX4_copy ∈ kTS := kTS_i 624 (by decide +kernel) (by decide +kernel)
theorem lX4_249 : Cond.methodLink RX4 249 arraycopyName ∈ kTS := kTS_i 628 (by decide +kernel) (by decide +kernel)
theorem lL_150 : Cond.methodLink RL 150 yX4_tell ∈ kTS := kTS_i 631 (by decide +kernel) (by decide +kernel)
theorem lX4_255 : Cond.methodLink RX4 255 yX4_tellDweller ∈ kTS := kTS_i 635 (by decide +kernel) (by decide +kernel)
theorem lX4_264 : Cond.methodLink RX4 264 yX4_leaveInTrace ∈ kTS := kTS_i 639 (by decide +kernel) (by decide +kernel)
theorem lX4_258 : Cond.methodLink RX4 258 yX4_tellHearty ∈ kTS := kTS_i 643 (by decide +kernel) (by decide +kernel)
theorem lX4_261 : Cond.methodLink RX4 261 yX4_tellFroward ∈ kTS := kTS_i 647 (by decide +kernel) (by decide +kernel)
theorem lL_154 : Cond.methodLink RL 154 yX4_knock ∈ kTS := kTS_i 651 (by decide +kernel) (by decide +kernel)
theorem lL_158 : Cond.methodLink RL 158 yX4_as ∈ kTS := kTS_i 655 (by decide +kernel) (by decide +kernel)
theorem lL_162 : Cond.methodLink RL 162 yX4_trace ∈ kTS := kTS_i 659 (by decide +kernel) (by decide +kernel)
theorem lL_166 : Cond.methodLink RL 166 yX4_fault ∈ kTS := kTS_i 663 (by decide +kernel) (by decide +kernel)
theorem lL_170 : Cond.methodLink RL 170 yX4_many ∈ kTS := kTS_i 667 (by decide +kernel) (by decide +kernel)
theorem lL_10 : Cond.classLink RL 10 RX5 ∈ kTS := kTS_i 671 (by decide +kernel) (by decide +kernel)
theorem nX5 : Cond.instantiable RX5 36 ∈ kTS := kTS_i 672 (by decide +kernel) (by decide +kernel)
theorem lL_12 : Cond.methodLink RL 12 yX5_init ∈ kTS := kTS_i 673 (by decide +kernel) (by decide +kernel)
theorem lX5_1 : Cond.methodLink RX5 1 objectInit ∈ kTS := kTS_i 676 (by decide +kernel) (by decide +kernel)
theorem fX5_83 : kFE RX5 83 5 0 := ⟨by decide, by decide, kTS_i 677 (by decide +kernel) (by decide +kernel)⟩
theorem fX5_247 : kFE RX5 247 5 1 := ⟨by decide, by decide, kTS_i 678 (by decide +kernel) (by decide +kernel)⟩
theorem fX5_9 : kFE RX5 9 5 2 := ⟨by decide, by decide, kTS_i 679 (by decide +kernel) (by decide +kernel)⟩
theorem fX5_13 : kFE RX5 13 5 3 := ⟨by decide, by decide, kTS_i 680 (by decide +kernel) (by decide +kernel)⟩
theorem fX5_16 : kFE RX5 16 5 4 := ⟨by decide, by decide, kTS_i 681 (by decide +kernel) (by decide +kernel)⟩
theorem fX5_123 : kFE RX5 123 5 5 := ⟨by decide, by decide, kTS_i 682 (by decide +kernel) (by decide +kernel)⟩
theorem fX5_93 : kFE RX5 93 5 6 := ⟨by decide, by decide, kTS_i 683 (by decide +kernel) (by decide +kernel)⟩
theorem fX5_96 : kFE RX5 96 5 7 := ⟨by decide, by decide, kTS_i 684 (by decide +kernel) (by decide +kernel)⟩
theorem fX5_19 : kFE RX5 19 5 8 := ⟨by decide, by decide, kTS_i 685 (by decide +kernel) (by decide +kernel)⟩
theorem fX5_22 : kFE RX5 22 5 9 := ⟨by decide, by decide, kTS_i 686 (by decide +kernel) (by decide +kernel)⟩
theorem fX5_25 : kFE RX5 25 5 10 := ⟨by decide, by decide, kTS_i 687 (by decide +kernel) (by decide +kernel)⟩
theorem fX5_28 : kFE RX5 28 5 11 := ⟨by decide, by decide, kTS_i 688 (by decide +kernel) (by decide +kernel)⟩
theorem fX5_31 : kFE RX5 31 5 12 := ⟨by decide, by decide, kTS_i 689 (by decide +kernel) (by decide +kernel)⟩
theorem fX5_34 : kFE RX5 34 5 13 := ⟨by decide, by decide, kTS_i 690 (by decide +kernel) (by decide +kernel)⟩
theorem fX5_37 : kFE RX5 37 5 14 := ⟨by decide, by decide, kTS_i 691 (by decide +kernel) (by decide +kernel)⟩
theorem fX5_40 : kFE RX5 40 5 15 := ⟨by decide, by decide, kTS_i 692 (by decide +kernel) (by decide +kernel)⟩
theorem fX5_99 : kFE RX5 99 5 16 := ⟨by decide, by decide, kTS_i 693 (by decide +kernel) (by decide +kernel)⟩
theorem fX5_120 : kFE RX5 120 5 17 := ⟨by decide, by decide, kTS_i 694 (by decide +kernel) (by decide +kernel)⟩
theorem fX5_126 : kFE RX5 126 5 18 := ⟨by decide, by decide, kTS_i 695 (by decide +kernel) (by decide +kernel)⟩
theorem fX5_129 : kFE RX5 129 5 19 := ⟨by decide, by decide, kTS_i 696 (by decide +kernel) (by decide +kernel)⟩
theorem fX5_44 : kFE RX5 44 5 20 := ⟨by decide, by decide, kTS_i 697 (by decide +kernel) (by decide +kernel)⟩
theorem fX5_47 : kFE RX5 47 5 21 := ⟨by decide, by decide, kTS_i 698 (by decide +kernel) (by decide +kernel)⟩
theorem fX5_132 : kFE RX5 132 5 22 := ⟨by decide, by decide, kTS_i 699 (by decide +kernel) (by decide +kernel)⟩
theorem fX5_50 : kFE RX5 50 5 23 := ⟨by decide, by decide, kTS_i 700 (by decide +kernel) (by decide +kernel)⟩
theorem fX5_53 : kFE RX5 53 5 24 := ⟨by decide, by decide, kTS_i 701 (by decide +kernel) (by decide +kernel)⟩
theorem fX5_56 : kFE RX5 56 5 25 := ⟨by decide, by decide, kTS_i 702 (by decide +kernel) (by decide +kernel)⟩
theorem fX5_59 : kFE RX5 59 5 26 := ⟨by decide, by decide, kTS_i 703 (by decide +kernel) (by decide +kernel)⟩
theorem fX5_62 : kFE RX5 62 5 27 := ⟨by decide, by decide, kTS_i 704 (by decide +kernel) (by decide +kernel)⟩
theorem fX5_65 : kFE RX5 65 5 28 := ⟨by decide, by decide, kTS_i 705 (by decide +kernel) (by decide +kernel)⟩
theorem fX5_68 : kFE RX5 68 5 29 := ⟨by decide, by decide, kTS_i 706 (by decide +kernel) (by decide +kernel)⟩
theorem fX5_174 : kFE RX5 174 5 30 := ⟨by decide, by decide, kTS_i 707 (by decide +kernel) (by decide +kernel)⟩
theorem fX5_135 : kFE RX5 135 5 31 := ⟨by decide, by decide, kTS_i 708 (by decide +kernel) (by decide +kernel)⟩
theorem fX5_71 : kFE RX5 71 5 32 := ⟨by decide, by decide, kTS_i 709 (by decide +kernel) (by decide +kernel)⟩
theorem fX5_74 : kFE RX5 74 5 33 := ⟨by decide, by decide, kTS_i 710 (by decide +kernel) (by decide +kernel)⟩
theorem fX5_77 : kFE RX5 77 5 34 := ⟨by decide, by decide, kTS_i 711 (by decide +kernel) (by decide +kernel)⟩
theorem fX5_80 : kFE RX5 80 5 35 := ⟨by decide, by decide, kTS_i 712 (by decide +kernel) (by decide +kernel)⟩
theorem lL_17 : Cond.methodLink RL 17 yX5_houses ∈ kTS := kTS_i 787 (by decide +kernel) (by decide +kernel)
theorem lX5_102 : Cond.methodLink RX5 102 yX5_isSheet ∈ kTS := kTS_i 791 (by decide +kernel) (by decide +kernel)
theorem lX5_89 : Cond.methodLink RX5 89 yX5_within ∈ kTS := kTS_i 794 (by decide +kernel) (by decide +kernel)
theorem lX5_106 : Cond.methodLink RX5 106 yX5_isSort ∈ kTS := kTS_i 797 (by decide +kernel) (by decide +kernel)
theorem lX5_109 : Cond.methodLink RX5 109 yX5_against ∈ kTS := kTS_i 800 (by decide +kernel) (by decide +kernel)
theorem lX5_113 : Cond.methodLink RX5 113 yX5_fails ∈ kTS := kTS_i 804 (by decide +kernel) (by decide +kernel)
theorem lX5_117 : Cond.methodLink RX5 117 yX5_readAll ∈ kTS := kTS_i 808 (by decide +kernel) (by decide +kernel)
theorem lX5_138 : Cond.methodLink RX5 138 yX5_isSign ∈ kTS := kTS_i 812 (by decide +kernel) (by decide +kernel)
theorem lX5_142 : Cond.methodLink RX5 142 yX5_readTheSeam ∈ kTS := kTS_i 816 (by decide +kernel) (by decide +kernel)
theorem lX5_151 : Cond.methodLink RX5 151 yX5_digit ∈ kTS := kTS_i 820 (by decide +kernel) (by decide +kernel)
theorem lX5_145 : Cond.methodLink RX5 145 yX5_readOneHouse ∈ kTS := kTS_i 824 (by decide +kernel) (by decide +kernel)
theorem lX5_148 : Cond.methodLink RX5 148 yX5_readPerson ∈ kTS := kTS_i 828 (by decide +kernel) (by decide +kernel)
theorem lL_22 : Cond.methodLink RL 22 yX5_ofHouse ∈ kTS := kTS_i 832 (by decide +kernel) (by decide +kernel)
theorem lX5_155 : Cond.methodLink RX5 155 yX5_isHouse ∈ kTS := kTS_i 836 (by decide +kernel) (by decide +kernel)
theorem lL_26 : Cond.methodLink RL 26 yX5_ofPerson ∈ kTS := kTS_i 840 (by decide +kernel) (by decide +kernel)
theorem lX5_158 : Cond.methodLink RX5 158 yX5_isPerson ∈ kTS := kTS_i 844 (by decide +kernel) (by decide +kernel)
theorem lX5_161 : Cond.methodLink RX5 161 yX5_wants ∈ kTS := kTS_i 848 (by decide +kernel) (by decide +kernel)
theorem lL_31 : Cond.methodLink RL 31 yX5_seam ∈ kTS := kTS_i 852 (by decide +kernel) (by decide +kernel)
theorem lL_36 : Cond.methodLink RL 36 yX5_away ∈ kTS := kTS_i 856 (by decide +kernel) (by decide +kernel)
theorem lL_41 : Cond.methodLink RL 41 yX5_gift ∈ kTS := kTS_i 860 (by decide +kernel) (by decide +kernel)
theorem lX5_164 : Cond.methodLink RX5 164 yX5_isWeek ∈ kTS := kTS_i 864 (by decide +kernel) (by decide +kernel)
theorem lX5_167 : Cond.methodLink RX5 167 yX5_layGift ∈ kTS := kTS_i 867 (by decide +kernel) (by decide +kernel)
theorem lL_45 : Cond.methodLink RL 45 yX5_undo ∈ kTS := kTS_i 871 (by decide +kernel) (by decide +kernel)
theorem lL_49 : Cond.methodLink RL 49 yX5_wood ∈ kTS := kTS_i 875 (by decide +kernel) (by decide +kernel)
theorem lX5_197 : Cond.methodLink RX5 197 yX5_isHalf ∈ kTS := kTS_i 879 (by decide +kernel) (by decide +kernel)
theorem lX5_194 : Cond.methodLink RX5 194 yX5_goTo ∈ kTS := kTS_i 882 (by decide +kernel) (by decide +kernel)
theorem lX5_187 : Cond.methodLink RX5 187 yX5_beginWeek ∈ kTS := kTS_i 886 (by decide +kernel) (by decide +kernel)
theorem lX5_190 : Cond.methodLink RX5 190 yX5_goHalf ∈ kTS := kTS_i 890 (by decide +kernel) (by decide +kernel)
theorem lX5_177 : Cond.methodLink RX5 177 yX5_townIn ∈ kTS := kTS_i 894 (by decide +kernel) (by decide +kernel)
theorem lX5_180 : Cond.methodLink RX5 180 yX5_turn ∈ kTS := kTS_i 898 (by decide +kernel) (by decide +kernel)
theorem lX5_171 : Cond.methodLink RX5 171 yX5_isBroken ∈ kTS := kTS_i 902 (by decide +kernel) (by decide +kernel)
theorem lX5_184 : Cond.methodLink RX5 184 yX5_mend ∈ kTS := kTS_i 906 (by decide +kernel) (by decide +kernel)
theorem lL_53 : Cond.methodLink RL 53 yX5_wear ∈ kTS := kTS_i 910 (by decide +kernel) (by decide +kernel)
theorem lL_57 : Cond.methodLink RL 57 yX5_cold ∈ kTS := kTS_i 914 (by decide +kernel) (by decide +kernel)
theorem lL_61 : Cond.methodLink RL 61 yX5_chills ∈ kTS := kTS_i 918 (by decide +kernel) (by decide +kernel)
theorem lX5_200 : Cond.methodLink RX5 200 yX5_goWeeks ∈ kTS := kTS_i 922 (by decide +kernel) (by decide +kernel)
theorem lL_66 : Cond.methodLink RL 66 yX5_all ∈ kTS := kTS_i 926 (by decide +kernel) (by decide +kernel)
theorem lX5_207 : Cond.methodLink RX5 207 yX5_allNow ∈ kTS := kTS_i 930 (by decide +kernel) (by decide +kernel)
theorem lX5_203 : Cond.methodLink RX5 203 yX5_allChills ∈ kTS := kTS_i 934 (by decide +kernel) (by decide +kernel)
theorem lL_70 : Cond.methodLink RL 70 yX5_breaks ∈ kTS := kTS_i 938 (by decide +kernel) (by decide +kernel)
theorem lL_74 : Cond.methodLink RL 74 yX5_best ∈ kTS := kTS_i 942 (by decide +kernel) (by decide +kernel)
theorem lL_78 : Cond.methodLink RL 78 yX5_blame ∈ kTS := kTS_i 946 (by decide +kernel) (by decide +kernel)
theorem lL_82 : Cond.methodLink RL 82 yX5_warm ∈ kTS := kTS_i 950 (by decide +kernel) (by decide +kernel)
theorem lX5_210 : Cond.methodLink RX5 210 yX5_awayNow ∈ kTS := kTS_i 954 (by decide +kernel) (by decide +kernel)
theorem lX5_213 : Cond.methodLink RX5 213 yX5_size ∈ kTS := kTS_i 958 (by decide +kernel) (by decide +kernel)
theorem lX5_216 : Cond.methodLink RX5 216 yX5_layAway ∈ kTS := kTS_i 961 (by decide +kernel) (by decide +kernel)
theorem lL_86 : Cond.methodLink RL 86 yX5_logs ∈ kTS := kTS_i 965 (by decide +kernel) (by decide +kernel)
theorem lX5_219 : Cond.methodLink RX5 219 yX5_isWarmIn ∈ kTS := kTS_i 969 (by decide +kernel) (by decide +kernel)
theorem lL_91 : Cond.methodLink RL 91 yX5_pays ∈ kTS := kTS_i 973 (by decide +kernel) (by decide +kernel)
theorem kX5_87 : Cond.constantLong RX5 87 (-9223372036854775808) ∈ kTS := kTS_i 977 (by decide +kernel) (by decide +kernel)
theorem lX5_225 : Cond.methodLink RX5 225 yX5_lessWear ∈ kTS := kTS_i 978 (by decide +kernel) (by decide +kernel)
theorem lX5_222 : Cond.methodLink RX5 222 yX5_allWear ∈ kTS := kTS_i 982 (by decide +kernel) (by decide +kernel)
theorem lX5_229 : Cond.methodLink RX5 229 yX5_inLeastTerms ∈ kTS := kTS_i 986 (by decide +kernel) (by decide +kernel)
theorem lL_95 : Cond.methodLink RL 95 yX5_together ∈ kTS := kTS_i 989 (by decide +kernel) (by decide +kernel)
theorem lX5_236 : Cond.methodLink RX5 236 yX5_halvesOf ∈ kTS := kTS_i 993 (by decide +kernel) (by decide +kernel)
theorem lX5_233 : Cond.methodLink RX5 233 yX5_timeOf ∈ kTS := kTS_i 997 (by decide +kernel) (by decide +kernel)
theorem lL_99 : Cond.methodLink RL 99 yX5_third ∈ kTS := kTS_i 1001 (by decide +kernel) (by decide +kernel)
theorem lL_103 : Cond.methodLink RL 103 yX5_row ∈ kTS := kTS_i 1005 (by decide +kernel) (by decide +kernel)
theorem lL_107 : Cond.methodLink RL 107 yX5_reading ∈ kTS := kTS_i 1009 (by decide +kernel) (by decide +kernel)
theorem lL_111 : Cond.methodLink RL 111 yX5_back ∈ kTS := kTS_i 1013 (by decide +kernel) (by decide +kernel)
theorem lL_115 : Cond.methodLink RL 115 yX5_gone ∈ kTS := kTS_i 1017 (by decide +kernel) (by decide +kernel)
theorem lX5_239 : Cond.methodLink RX5 239 yX5_areSo ∈ kTS := kTS_i 1021 (by decide +kernel) (by decide +kernel)
theorem lL_119 : Cond.methodLink RL 119 yX5_seams ∈ kTS := kTS_i 1025 (by decide +kernel) (by decide +kernel)
theorem lL_123 : Cond.methodLink RL 123 yX5_kinds ∈ kTS := kTS_i 1029 (by decide +kernel) (by decide +kernel)
theorem lL_128 : Cond.methodLink RL 128 yX5_odds ∈ kTS := kTS_i 1033 (by decide +kernel) (by decide +kernel)
theorem lL_132 : Cond.methodLink RL 132 yX5_sheet ∈ kTS := kTS_i 1037 (by decide +kernel) (by decide +kernel)
theorem lL_136 : Cond.methodLink RL 136 yX5_lose ∈ kTS := kTS_i 1041 (by decide +kernel) (by decide +kernel)
theorem lL_140 : Cond.methodLink RL 140 yX5_put ∈ kTS := kTS_i 1045 (by decide +kernel) (by decide +kernel)
theorem lL_144 : Cond.methodLink RL 144 yX5_cell ∈ kTS := kTS_i 1049 (by decide +kernel) (by decide +kernel)
theorem lX5_243 : Cond.methodLink RX5 243 yX5_lost ∈ kTS := kTS_i 1053 (by decide +kernel) (by decide +kernel)
theorem lL_149 : Cond.methodLink RL 149 yX5_copy ∈ kTS := kTS_i 1057 (by decide +kernel) (by decide +kernel)
theorem lL_153 : Cond.methodLink RL 153 yX5_tell ∈ kTS := kTS_i 1061 (by decide +kernel) (by decide +kernel)
theorem lX5_250 : Cond.methodLink RX5 250 yX5_begins ∈ kTS := kTS_i 1065 (by decide +kernel) (by decide +kernel)
theorem lL_157 : Cond.methodLink RL 157 yX5_knock ∈ kTS := kTS_i 1069 (by decide +kernel) (by decide +kernel)
theorem lL_161 : Cond.methodLink RL 161 yX5_as ∈ kTS := kTS_i 1073 (by decide +kernel) (by decide +kernel)
theorem lL_165 : Cond.methodLink RL 165 yX5_trace ∈ kTS := kTS_i 1077 (by decide +kernel) (by decide +kernel)
theorem lL_169 : Cond.methodLink RL 169 yX5_fault ∈ kTS := kTS_i 1081 (by decide +kernel) (by decide +kernel)
theorem lL_173 : Cond.methodLink RL 173 yX5_many ∈ kTS := kTS_i 1085 (by decide +kernel) (by decide +kernel)
end
