-- ===== PART A: goes FIRST, ahead of the names: the tables' words, and 'selects' of the private methods out of them =====
/-- a private method of a class that the tables say can be made, by its rows of tables_1 -/
def lw_okq (q : MethodName × Nat) : Prop := (q.1.cls ≠ "java/lang/invoke/MethodHandle" ∧ q.1.cls ≠ "java/lang/invoke/VarHandle") ∧ Cond.instantiable q.1.cls q.2 ∈ tables_1 ∧ Cond.privateMethod q.1 ∈ tables_1 ∧ Cond.instanceMethod q.1 ∈ tables_1
theorem lw_p0 : lw_okq (⟨"ShapeReports$Reader", "begin", "()V"⟩, 14) := ⟨⟨by decide +kernel, by decide +kernel⟩, List.mem_of_getElem? (i := 123) (by decide +kernel), List.mem_of_getElem? (i := 270) (by decide +kernel), List.mem_of_getElem? (i := 271) (by decide +kernel)⟩
theorem lw_p1 : lw_okq (⟨"ShapeReports$Reader", "forgetUses", "()V"⟩, 14) := ⟨⟨by decide +kernel, by decide +kernel⟩, List.mem_of_getElem? (i := 123) (by decide +kernel), List.mem_of_getElem? (i := 292) (by decide +kernel), List.mem_of_getElem? (i := 293) (by decide +kernel)⟩
theorem lw_p2 : lw_okq (⟨"ShapeReports$Reader", "faultOfItem", "()I"⟩, 14) := ⟨⟨by decide +kernel, by decide +kernel⟩, List.mem_of_getElem? (i := 123) (by decide +kernel), List.mem_of_getElem? (i := 315) (by decide +kernel), List.mem_of_getElem? (i := 316) (by decide +kernel)⟩
theorem lw_p3 : lw_okq (⟨"ShapeReports$Reader", "faultOfShapeItem", "()I"⟩, 14) := ⟨⟨by decide +kernel, by decide +kernel⟩, List.mem_of_getElem? (i := 123) (by decide +kernel), List.mem_of_getElem? (i := 319) (by decide +kernel), List.mem_of_getElem? (i := 320) (by decide +kernel)⟩
theorem lw_p4 : lw_okq (⟨"ShapeReports$Reader", "faultOfFields", "()I"⟩, 14) := ⟨⟨by decide +kernel, by decide +kernel⟩, List.mem_of_getElem? (i := 123) (by decide +kernel), List.mem_of_getElem? (i := 323) (by decide +kernel), List.mem_of_getElem? (i := 324) (by decide +kernel)⟩
theorem lw_p5 : lw_okq (⟨"ShapeReports$Reader", "makesFields", "()Z"⟩, 14) := ⟨⟨by decide +kernel, by decide +kernel⟩, List.mem_of_getElem? (i := 123) (by decide +kernel), List.mem_of_getElem? (i := 327) (by decide +kernel), List.mem_of_getElem? (i := 328) (by decide +kernel)⟩
theorem lw_p6 : lw_okq (⟨"ShapeReports$Reader", "wayOfItem", "()I"⟩, 14) := ⟨⟨by decide +kernel, by decide +kernel⟩, List.mem_of_getElem? (i := 123) (by decide +kernel), List.mem_of_getElem? (i := 331) (by decide +kernel), List.mem_of_getElem? (i := 332) (by decide +kernel)⟩
theorem lw_p7 : lw_okq (⟨"ShapeReports$Reader", "faultOfNumberItem", "()I"⟩, 14) := ⟨⟨by decide +kernel, by decide +kernel⟩, List.mem_of_getElem? (i := 123) (by decide +kernel), List.mem_of_getElem? (i := 347) (by decide +kernel), List.mem_of_getElem? (i := 348) (by decide +kernel)⟩
theorem lw_p8 : lw_okq (⟨"ShapeReports$Reader", "moreUses", "()J"⟩, 14) := ⟨⟨by decide +kernel, by decide +kernel⟩, List.mem_of_getElem? (i := 123) (by decide +kernel), List.mem_of_getElem? (i := 351) (by decide +kernel), List.mem_of_getElem? (i := 352) (by decide +kernel)⟩
theorem lw_p9 : lw_okq (⟨"ShapeReports$Reader", "tellFault", "(II)V"⟩, 14) := ⟨⟨by decide +kernel, by decide +kernel⟩, List.mem_of_getElem? (i := 123) (by decide +kernel), List.mem_of_getElem? (i := 359) (by decide +kernel), List.mem_of_getElem? (i := 360) (by decide +kernel)⟩
theorem lw_p10 : lw_okq (⟨"ShapeReports$Reader", "obeyItem", "()V"⟩, 14) := ⟨⟨by decide +kernel, by decide +kernel⟩, List.mem_of_getElem? (i := 123) (by decide +kernel), List.mem_of_getElem? (i := 363) (by decide +kernel), List.mem_of_getElem? (i := 364) (by decide +kernel)⟩
theorem lw_p11 : lw_okq (⟨"ShapeReports$Reader", "obeyShapeItem", "()V"⟩, 14) := ⟨⟨by decide +kernel, by decide +kernel⟩, List.mem_of_getElem? (i := 123) (by decide +kernel), List.mem_of_getElem? (i := 367) (by decide +kernel), List.mem_of_getElem? (i := 368) (by decide +kernel)⟩
theorem lw_p12 : lw_okq (⟨"ShapeReports$Reader", "beginGroup", "()V"⟩, 14) := ⟨⟨by decide +kernel, by decide +kernel⟩, List.mem_of_getElem? (i := 123) (by decide +kernel), List.mem_of_getElem? (i := 371) (by decide +kernel), List.mem_of_getElem? (i := 372) (by decide +kernel)⟩
theorem lw_p13 : lw_okq (⟨"ShapeReports$Reader", "addFields", "()V"⟩, 14) := ⟨⟨by decide +kernel, by decide +kernel⟩, List.mem_of_getElem? (i := 123) (by decide +kernel), List.mem_of_getElem? (i := 379) (by decide +kernel), List.mem_of_getElem? (i := 380) (by decide +kernel)⟩
theorem lw_p14 : lw_okq (⟨"ShapeReports$Reader", "setCommon", "(I)V"⟩, 14) := ⟨⟨by decide +kernel, by decide +kernel⟩, List.mem_of_getElem? (i := 123) (by decide +kernel), List.mem_of_getElem? (i := 383) (by decide +kernel), List.mem_of_getElem? (i := 384) (by decide +kernel)⟩
theorem lw_p15 : lw_okq (⟨"ShapeReports$Reader", "makesValues", "()Z"⟩, 14) := ⟨⟨by decide +kernel, by decide +kernel⟩, List.mem_of_getElem? (i := 123) (by decide +kernel), List.mem_of_getElem? (i := 387) (by decide +kernel), List.mem_of_getElem? (i := 388) (by decide +kernel)⟩
def lw_privs_1 : List (MethodName × Nat) := [(⟨"ShapeReports$Reader", "begin", "()V"⟩, 14), (⟨"ShapeReports$Reader", "forgetUses", "()V"⟩, 14), (⟨"ShapeReports$Reader", "faultOfItem", "()I"⟩, 14), (⟨"ShapeReports$Reader", "faultOfShapeItem", "()I"⟩, 14), (⟨"ShapeReports$Reader", "faultOfFields", "()I"⟩, 14), (⟨"ShapeReports$Reader", "makesFields", "()Z"⟩, 14), (⟨"ShapeReports$Reader", "wayOfItem", "()I"⟩, 14), (⟨"ShapeReports$Reader", "faultOfNumberItem", "()I"⟩, 14), (⟨"ShapeReports$Reader", "moreUses", "()J"⟩, 14), (⟨"ShapeReports$Reader", "tellFault", "(II)V"⟩, 14), (⟨"ShapeReports$Reader", "obeyItem", "()V"⟩, 14), (⟨"ShapeReports$Reader", "obeyShapeItem", "()V"⟩, 14), (⟨"ShapeReports$Reader", "beginGroup", "()V"⟩, 14), (⟨"ShapeReports$Reader", "addFields", "()V"⟩, 14), (⟨"ShapeReports$Reader", "setCommon", "(I)V"⟩, 14), (⟨"ShapeReports$Reader", "makesValues", "()Z"⟩, 14)]
theorem lw_r1 : ∀ q ∈ lw_privs_1, lw_okq q := List.forall_mem_cons.mpr ⟨lw_p0, List.forall_mem_cons.mpr ⟨lw_p1, List.forall_mem_cons.mpr ⟨lw_p2, List.forall_mem_cons.mpr ⟨lw_p3, List.forall_mem_cons.mpr ⟨lw_p4, List.forall_mem_cons.mpr ⟨lw_p5, List.forall_mem_cons.mpr ⟨lw_p6, List.forall_mem_cons.mpr ⟨lw_p7, List.forall_mem_cons.mpr ⟨lw_p8, List.forall_mem_cons.mpr ⟨lw_p9, List.forall_mem_cons.mpr ⟨lw_p10, List.forall_mem_cons.mpr ⟨lw_p11, List.forall_mem_cons.mpr ⟨lw_p12, List.forall_mem_cons.mpr ⟨lw_p13, List.forall_mem_cons.mpr ⟨lw_p14, List.forall_mem_cons.mpr ⟨lw_p15, fun _ h => absurd h List.not_mem_nil⟩⟩⟩⟩⟩⟩⟩⟩⟩⟩⟩⟩⟩⟩⟩⟩
theorem lw_p16 : lw_okq (⟨"ShapeReports$Reader", "setValue", "(II)V"⟩, 14) := ⟨⟨by decide +kernel, by decide +kernel⟩, List.mem_of_getElem? (i := 123) (by decide +kernel), List.mem_of_getElem? (i := 391) (by decide +kernel), List.mem_of_getElem? (i := 392) (by decide +kernel)⟩
theorem lw_p17 : lw_okq (⟨"ShapeReports$Reader", "setSlot", "(I)V"⟩, 14) := ⟨⟨by decide +kernel, by decide +kernel⟩, List.mem_of_getElem? (i := 123) (by decide +kernel), List.mem_of_getElem? (i := 398) (by decide +kernel), List.mem_of_getElem? (i := 399) (by decide +kernel)⟩
theorem lw_p18 : lw_okq (⟨"ShapeReports$Reader", "obeyNumberItem", "()V"⟩, 14) := ⟨⟨by decide +kernel, by decide +kernel⟩, List.mem_of_getElem? (i := 123) (by decide +kernel), List.mem_of_getElem? (i := 414) (by decide +kernel), List.mem_of_getElem? (i := 415) (by decide +kernel)⟩
theorem lw_p19 : lw_okq (⟨"ShapeReports$Reader", "pushNumbers", "()V"⟩, 14) := ⟨⟨by decide +kernel, by decide +kernel⟩, List.mem_of_getElem? (i := 123) (by decide +kernel), List.mem_of_getElem? (i := 418) (by decide +kernel), List.mem_of_getElem? (i := 419) (by decide +kernel)⟩
theorem lw_p20 : lw_okq (⟨"ShapeReports$Reader", "popNumbers", "()V"⟩, 14) := ⟨⟨by decide +kernel, by decide +kernel⟩, List.mem_of_getElem? (i := 123) (by decide +kernel), List.mem_of_getElem? (i := 422) (by decide +kernel), List.mem_of_getElem? (i := 423) (by decide +kernel)⟩
theorem lw_p21 : lw_okq (⟨"ShapeReports$Reader", "obeyUseItem", "()V"⟩, 14) := ⟨⟨by decide +kernel, by decide +kernel⟩, List.mem_of_getElem? (i := 123) (by decide +kernel), List.mem_of_getElem? (i := 430) (by decide +kernel), List.mem_of_getElem? (i := 431) (by decide +kernel)⟩
theorem lw_p22 : lw_okq (⟨"ShapeReports$Reader", "faultOfWhole", "()I"⟩, 14) := ⟨⟨by decide +kernel, by decide +kernel⟩, List.mem_of_getElem? (i := 123) (by decide +kernel), List.mem_of_getElem? (i := 436) (by decide +kernel), List.mem_of_getElem? (i := 437) (by decide +kernel)⟩
theorem lw_p23 : lw_okq (⟨"ShapeReports", "wholeItems", "()I"⟩, 6) := ⟨⟨by decide +kernel, by decide +kernel⟩, List.mem_of_getElem? (i := 18) (by decide +kernel), List.mem_of_getElem? (i := 477) (by decide +kernel), List.mem_of_getElem? (i := 478) (by decide +kernel)⟩
theorem lw_p24 : lw_okq (⟨"ShapeReports", "findItem", "(I)Z"⟩, 6) := ⟨⟨by decide +kernel, by decide +kernel⟩, List.mem_of_getElem? (i := 18) (by decide +kernel), List.mem_of_getElem? (i := 487) (by decide +kernel), List.mem_of_getElem? (i := 488) (by decide +kernel)⟩
theorem lw_p25 : lw_okq (⟨"ShapeReports$Shape", "isInGroup", "(II)Z"⟩, 4) := ⟨⟨by decide +kernel, by decide +kernel⟩, List.mem_of_getElem? (i := 49) (by decide +kernel), List.mem_of_getElem? (i := 610) (by decide +kernel), List.mem_of_getElem? (i := 611) (by decide +kernel)⟩
theorem lw_p26 : lw_okq (⟨"ShapeReports$Device", "idOfLetter", "()I"⟩, 6) := ⟨⟨by decide +kernel, by decide +kernel⟩, List.mem_of_getElem? (i := 26) (by decide +kernel), List.mem_of_getElem? (i := 631) (by decide +kernel), List.mem_of_getElem? (i := 632) (by decide +kernel)⟩
theorem lw_p27 : lw_okq (⟨"ShapeReports$Device", "cutValue", "(II)V"⟩, 6) := ⟨⟨by decide +kernel, by decide +kernel⟩, List.mem_of_getElem? (i := 26) (by decide +kernel), List.mem_of_getElem? (i := 656) (by decide +kernel), List.mem_of_getElem? (i := 657) (by decide +kernel)⟩
theorem lw_p28 : lw_okq (⟨"ShapeReports$Device", "numberInLetter", "(II)I"⟩, 6) := ⟨⟨by decide +kernel, by decide +kernel⟩, List.mem_of_getElem? (i := 26) (by decide +kernel), List.mem_of_getElem? (i := 660) (by decide +kernel), List.mem_of_getElem? (i := 661) (by decide +kernel)⟩
theorem lw_p29 : lw_okq (⟨"ShapeReports$Device", "addEvent", "(III)V"⟩, 6) := ⟨⟨by decide +kernel, by decide +kernel⟩, List.mem_of_getElem? (i := 26) (by decide +kernel), List.mem_of_getElem? (i := 670) (by decide +kernel), List.mem_of_getElem? (i := 671) (by decide +kernel)⟩
theorem lw_p30 : lw_okq (⟨"ShapeReports$Device", "cutSlots", "(II)V"⟩, 6) := ⟨⟨by decide +kernel, by decide +kernel⟩, List.mem_of_getElem? (i := 26) (by decide +kernel), List.mem_of_getElem? (i := 676) (by decide +kernel), List.mem_of_getElem? (i := 677) (by decide +kernel)⟩
theorem lw_p31 : lw_okq (⟨"ShapeReports$Device", "pressedInLetter", "(II)I"⟩, 6) := ⟨⟨by decide +kernel, by decide +kernel⟩, List.mem_of_getElem? (i := 26) (by decide +kernel), List.mem_of_getElem? (i := 680) (by decide +kernel), List.mem_of_getElem? (i := 681) (by decide +kernel)⟩
def lw_privs_2 : List (MethodName × Nat) := [(⟨"ShapeReports$Reader", "setValue", "(II)V"⟩, 14), (⟨"ShapeReports$Reader", "setSlot", "(I)V"⟩, 14), (⟨"ShapeReports$Reader", "obeyNumberItem", "()V"⟩, 14), (⟨"ShapeReports$Reader", "pushNumbers", "()V"⟩, 14), (⟨"ShapeReports$Reader", "popNumbers", "()V"⟩, 14), (⟨"ShapeReports$Reader", "obeyUseItem", "()V"⟩, 14), (⟨"ShapeReports$Reader", "faultOfWhole", "()I"⟩, 14), (⟨"ShapeReports", "wholeItems", "()I"⟩, 6), (⟨"ShapeReports", "findItem", "(I)Z"⟩, 6), (⟨"ShapeReports$Shape", "isInGroup", "(II)Z"⟩, 4), (⟨"ShapeReports$Device", "idOfLetter", "()I"⟩, 6), (⟨"ShapeReports$Device", "cutValue", "(II)V"⟩, 6), (⟨"ShapeReports$Device", "numberInLetter", "(II)I"⟩, 6), (⟨"ShapeReports$Device", "addEvent", "(III)V"⟩, 6), (⟨"ShapeReports$Device", "cutSlots", "(II)V"⟩, 6), (⟨"ShapeReports$Device", "pressedInLetter", "(II)I"⟩, 6)]
theorem lw_r2 : ∀ q ∈ lw_privs_2, lw_okq q := List.forall_mem_cons.mpr ⟨lw_p16, List.forall_mem_cons.mpr ⟨lw_p17, List.forall_mem_cons.mpr ⟨lw_p18, List.forall_mem_cons.mpr ⟨lw_p19, List.forall_mem_cons.mpr ⟨lw_p20, List.forall_mem_cons.mpr ⟨lw_p21, List.forall_mem_cons.mpr ⟨lw_p22, List.forall_mem_cons.mpr ⟨lw_p23, List.forall_mem_cons.mpr ⟨lw_p24, List.forall_mem_cons.mpr ⟨lw_p25, List.forall_mem_cons.mpr ⟨lw_p26, List.forall_mem_cons.mpr ⟨lw_p27, List.forall_mem_cons.mpr ⟨lw_p28, List.forall_mem_cons.mpr ⟨lw_p29, List.forall_mem_cons.mpr ⟨lw_p30, List.forall_mem_cons.mpr ⟨lw_p31, fun _ h => absurd h List.not_mem_nil⟩⟩⟩⟩⟩⟩⟩⟩⟩⟩⟩⟩⟩⟩⟩⟩
theorem lw_p32 : lw_okq (⟨"ShapeReports$Device", "addUseEvents", "(III)V"⟩, 6) := ⟨⟨by decide +kernel, by decide +kernel⟩, List.mem_of_getElem? (i := 26) (by decide +kernel), List.mem_of_getElem? (i := 692) (by decide +kernel), List.mem_of_getElem? (i := 693) (by decide +kernel)⟩
theorem lw_p33 : lw_okq (⟨"ShapeReports$Shape", "wantedPart", "(II)I"⟩, 4) := ⟨⟨by decide +kernel, by decide +kernel⟩, List.mem_of_getElem? (i := 49) (by decide +kernel), List.mem_of_getElem? (i := 740) (by decide +kernel), List.mem_of_getElem? (i := 741) (by decide +kernel)⟩
theorem lw_p34 : lw_okq (⟨"ShapeReports", "imageOf", "(I)LShapeReports$Device;"⟩, 6) := ⟨⟨by decide +kernel, by decide +kernel⟩, List.mem_of_getElem? (i := 18) (by decide +kernel), List.mem_of_getElem? (i := 752) (by decide +kernel), List.mem_of_getElem? (i := 753) (by decide +kernel)⟩
theorem lw_p35 : lw_okq (⟨"ShapeReportsModel", "go", "(Z)I"⟩, 26) := ⟨⟨by decide +kernel, by decide +kernel⟩, List.mem_of_getElem? (i := 766) (by decide +kernel), List.mem_of_getElem? (i := 872) (by decide +kernel), List.mem_of_getElem? (i := 873) (by decide +kernel)⟩
theorem lw_p36 : lw_okq (⟨"ShapeReportsModel", "isWhole", "(I)Z"⟩, 26) := ⟨⟨by decide +kernel, by decide +kernel⟩, List.mem_of_getElem? (i := 766) (by decide +kernel), List.mem_of_getElem? (i := 876) (by decide +kernel), List.mem_of_getElem? (i := 877) (by decide +kernel)⟩
theorem lw_p37 : lw_okq (⟨"ShapeReportsModel", "byteAt", "(I)I"⟩, 26) := ⟨⟨by decide +kernel, by decide +kernel⟩, List.mem_of_getElem? (i := 766) (by decide +kernel), List.mem_of_getElem? (i := 880) (by decide +kernel), List.mem_of_getElem? (i := 881) (by decide +kernel)⟩
theorem lw_p38 : lw_okq (⟨"ShapeReportsModel", "mainItem", "()I"⟩, 26) := ⟨⟨by decide +kernel, by decide +kernel⟩, List.mem_of_getElem? (i := 766) (by decide +kernel), List.mem_of_getElem? (i := 885) (by decide +kernel), List.mem_of_getElem? (i := 886) (by decide +kernel)⟩
theorem lw_p39 : lw_okq (⟨"ShapeReportsModel", "makeFields", "(I)I"⟩, 26) := ⟨⟨by decide +kernel, by decide +kernel⟩, List.mem_of_getElem? (i := 766) (by decide +kernel), List.mem_of_getElem? (i := 889) (by decide +kernel), List.mem_of_getElem? (i := 890) (by decide +kernel)⟩
theorem lw_p40 : lw_okq (⟨"ShapeReportsModel", "buildSlots", "()V"⟩, 26) := ⟨⟨by decide +kernel, by decide +kernel⟩, List.mem_of_getElem? (i := 766) (by decide +kernel), List.mem_of_getElem? (i := 893) (by decide +kernel), List.mem_of_getElem? (i := 894) (by decide +kernel)⟩
theorem lw_p41 : lw_okq (⟨"ShapeReportsModel", "buildField", "(III)V"⟩, 26) := ⟨⟨by decide +kernel, by decide +kernel⟩, List.mem_of_getElem? (i := 766) (by decide +kernel), List.mem_of_getElem? (i := 897) (by decide +kernel), List.mem_of_getElem? (i := 898) (by decide +kernel)⟩
theorem lw_p42 : lw_okq (⟨"ShapeReportsModel", "beginGroup", "()I"⟩, 26) := ⟨⟨by decide +kernel, by decide +kernel⟩, List.mem_of_getElem? (i := 766) (by decide +kernel), List.mem_of_getElem? (i := 901) (by decide +kernel), List.mem_of_getElem? (i := 902) (by decide +kernel)⟩
theorem lw_p43 : lw_okq (⟨"ShapeReportsModel", "endGroup", "()I"⟩, 26) := ⟨⟨by decide +kernel, by decide +kernel⟩, List.mem_of_getElem? (i := 766) (by decide +kernel), List.mem_of_getElem? (i := 905) (by decide +kernel), List.mem_of_getElem? (i := 906) (by decide +kernel)⟩
theorem lw_p44 : lw_okq (⟨"ShapeReportsModel", "setNumber", "()I"⟩, 26) := ⟨⟨by decide +kernel, by decide +kernel⟩, List.mem_of_getElem? (i := 766) (by decide +kernel), List.mem_of_getElem? (i := 909) (by decide +kernel), List.mem_of_getElem? (i := 910) (by decide +kernel)⟩
theorem lw_p45 : lw_okq (⟨"ShapeReportsModel", "push", "()I"⟩, 26) := ⟨⟨by decide +kernel, by decide +kernel⟩, List.mem_of_getElem? (i := 766) (by decide +kernel), List.mem_of_getElem? (i := 913) (by decide +kernel), List.mem_of_getElem? (i := 914) (by decide +kernel)⟩
theorem lw_p46 : lw_okq (⟨"ShapeReportsModel", "pop", "()I"⟩, 26) := ⟨⟨by decide +kernel, by decide +kernel⟩, List.mem_of_getElem? (i := 766) (by decide +kernel), List.mem_of_getElem? (i := 917) (by decide +kernel), List.mem_of_getElem? (i := 918) (by decide +kernel)⟩
theorem lw_p47 : lw_okq (⟨"ShapeReportsModel", "tellUses", "()I"⟩, 26) := ⟨⟨by decide +kernel, by decide +kernel⟩, List.mem_of_getElem? (i := 766) (by decide +kernel), List.mem_of_getElem? (i := 921) (by decide +kernel), List.mem_of_getElem? (i := 922) (by decide +kernel)⟩
def lw_privs_3 : List (MethodName × Nat) := [(⟨"ShapeReports$Device", "addUseEvents", "(III)V"⟩, 6), (⟨"ShapeReports$Shape", "wantedPart", "(II)I"⟩, 4), (⟨"ShapeReports", "imageOf", "(I)LShapeReports$Device;"⟩, 6), (⟨"ShapeReportsModel", "go", "(Z)I"⟩, 26), (⟨"ShapeReportsModel", "isWhole", "(I)Z"⟩, 26), (⟨"ShapeReportsModel", "byteAt", "(I)I"⟩, 26), (⟨"ShapeReportsModel", "mainItem", "()I"⟩, 26), (⟨"ShapeReportsModel", "makeFields", "(I)I"⟩, 26), (⟨"ShapeReportsModel", "buildSlots", "()V"⟩, 26), (⟨"ShapeReportsModel", "buildField", "(III)V"⟩, 26), (⟨"ShapeReportsModel", "beginGroup", "()I"⟩, 26), (⟨"ShapeReportsModel", "endGroup", "()I"⟩, 26), (⟨"ShapeReportsModel", "setNumber", "()I"⟩, 26), (⟨"ShapeReportsModel", "push", "()I"⟩, 26), (⟨"ShapeReportsModel", "pop", "()I"⟩, 26), (⟨"ShapeReportsModel", "tellUses", "()I"⟩, 26)]
theorem lw_r3 : ∀ q ∈ lw_privs_3, lw_okq q := List.forall_mem_cons.mpr ⟨lw_p32, List.forall_mem_cons.mpr ⟨lw_p33, List.forall_mem_cons.mpr ⟨lw_p34, List.forall_mem_cons.mpr ⟨lw_p35, List.forall_mem_cons.mpr ⟨lw_p36, List.forall_mem_cons.mpr ⟨lw_p37, List.forall_mem_cons.mpr ⟨lw_p38, List.forall_mem_cons.mpr ⟨lw_p39, List.forall_mem_cons.mpr ⟨lw_p40, List.forall_mem_cons.mpr ⟨lw_p41, List.forall_mem_cons.mpr ⟨lw_p42, List.forall_mem_cons.mpr ⟨lw_p43, List.forall_mem_cons.mpr ⟨lw_p44, List.forall_mem_cons.mpr ⟨lw_p45, List.forall_mem_cons.mpr ⟨lw_p46, List.forall_mem_cons.mpr ⟨lw_p47, fun _ h => absurd h List.not_mem_nil⟩⟩⟩⟩⟩⟩⟩⟩⟩⟩⟩⟩⟩⟩⟩⟩
theorem lw_p48 : lw_okq (⟨"ShapeReportsModel", "wholeItems", "()I"⟩, 26) := ⟨⟨by decide +kernel, by decide +kernel⟩, List.mem_of_getElem? (i := 766) (by decide +kernel), List.mem_of_getElem? (i := 929) (by decide +kernel), List.mem_of_getElem? (i := 930) (by decide +kernel)⟩
theorem lw_p49 : lw_okq (⟨"ShapeReportsModel", "writeItem", "()V"⟩, 26) := ⟨⟨by decide +kernel, by decide +kernel⟩, List.mem_of_getElem? (i := 766) (by decide +kernel), List.mem_of_getElem? (i := 937) (by decide +kernel), List.mem_of_getElem? (i := 938) (by decide +kernel)⟩
theorem lw_p50 : lw_okq (⟨"ShapeReportsModel", "writeMain", "()V"⟩, 26) := ⟨⟨by decide +kernel, by decide +kernel⟩, List.mem_of_getElem? (i := 766) (by decide +kernel), List.mem_of_getElem? (i := 941) (by decide +kernel), List.mem_of_getElem? (i := 942) (by decide +kernel)⟩
theorem lw_p51 : lw_okq (⟨"ShapeReportsModel", "write", "(IIIII)V"⟩, 26) := ⟨⟨by decide +kernel, by decide +kernel⟩, List.mem_of_getElem? (i := 766) (by decide +kernel), List.mem_of_getElem? (i := 945) (by decide +kernel), List.mem_of_getElem? (i := 946) (by decide +kernel)⟩
theorem lw_p52 : lw_okq (⟨"ShapeReportsModel", "writeSet", "()V"⟩, 26) := ⟨⟨by decide +kernel, by decide +kernel⟩, List.mem_of_getElem? (i := 766) (by decide +kernel), List.mem_of_getElem? (i := 949) (by decide +kernel), List.mem_of_getElem? (i := 950) (by decide +kernel)⟩
theorem lw_p53 : lw_okq (⟨"ShapeReportsModel", "writeUse", "()V"⟩, 26) := ⟨⟨by decide +kernel, by decide +kernel⟩, List.mem_of_getElem? (i := 766) (by decide +kernel), List.mem_of_getElem? (i := 953) (by decide +kernel), List.mem_of_getElem? (i := 954) (by decide +kernel)⟩
theorem lw_p54 : lw_okq (⟨"ShapeReportsModel", "writeNumber", "(J)V"⟩, 26) := ⟨⟨by decide +kernel, by decide +kernel⟩, List.mem_of_getElem? (i := 766) (by decide +kernel), List.mem_of_getElem? (i := 957) (by decide +kernel), List.mem_of_getElem? (i := 958) (by decide +kernel)⟩
theorem lw_p55 : lw_okq (⟨"ShapeReportsModel", "isField", "(I)Z"⟩, 26) := ⟨⟨by decide +kernel, by decide +kernel⟩, List.mem_of_getElem? (i := 766) (by decide +kernel), List.mem_of_getElem? (i := 968) (by decide +kernel), List.mem_of_getElem? (i := 969) (by decide +kernel)⟩
theorem lw_p56 : lw_okq (⟨"ShapeReportsModel", "of", "(II)I"⟩, 26) := ⟨⟨by decide +kernel, by decide +kernel⟩, List.mem_of_getElem? (i := 766) (by decide +kernel), List.mem_of_getElem? (i := 972) (by decide +kernel), List.mem_of_getElem? (i := 973) (by decide +kernel)⟩
theorem lw_p57 : lw_okq (⟨"ShapeReportsModel", "isWithin", "(II)Z"⟩, 26) := ⟨⟨by decide +kernel, by decide +kernel⟩, List.mem_of_getElem? (i := 766) (by decide +kernel), List.mem_of_getElem? (i := 980) (by decide +kernel), List.mem_of_getElem? (i := 981) (by decide +kernel)⟩
theorem lw_p58 : lw_okq (⟨"ShapeReportsModel", "isLetter", "()Z"⟩, 26) := ⟨⟨by decide +kernel, by decide +kernel⟩, List.mem_of_getElem? (i := 766) (by decide +kernel), List.mem_of_getElem? (i := 996) (by decide +kernel), List.mem_of_getElem? (i := 997) (by decide +kernel)⟩
theorem lw_p59 : lw_okq (⟨"ShapeReportsModel", "comeValue", "(I)V"⟩, 26) := ⟨⟨by decide +kernel, by decide +kernel⟩, List.mem_of_getElem? (i := 766) (by decide +kernel), List.mem_of_getElem? (i := 1000) (by decide +kernel), List.mem_of_getElem? (i := 1001) (by decide +kernel)⟩
theorem lw_p60 : lw_okq (⟨"ShapeReportsModel", "numberIn", "(I)I"⟩, 26) := ⟨⟨by decide +kernel, by decide +kernel⟩, List.mem_of_getElem? (i := 766) (by decide +kernel), List.mem_of_getElem? (i := 1004) (by decide +kernel), List.mem_of_getElem? (i := 1005) (by decide +kernel)⟩
theorem lw_p61 : lw_okq (⟨"ShapeReportsModel", "bitOfLetter", "(I)I"⟩, 26) := ⟨⟨by decide +kernel, by decide +kernel⟩, List.mem_of_getElem? (i := 766) (by decide +kernel), List.mem_of_getElem? (i := 1008) (by decide +kernel), List.mem_of_getElem? (i := 1009) (by decide +kernel)⟩
theorem lw_p62 : lw_okq (⟨"ShapeReportsModel", "isInRange", "(II)Z"⟩, 26) := ⟨⟨by decide +kernel, by decide +kernel⟩, List.mem_of_getElem? (i := 766) (by decide +kernel), List.mem_of_getElem? (i := 1012) (by decide +kernel), List.mem_of_getElem? (i := 1013) (by decide +kernel)⟩
theorem lw_p63 : lw_okq (⟨"ShapeReportsModel", "tell", "(III)V"⟩, 26) := ⟨⟨by decide +kernel, by decide +kernel⟩, List.mem_of_getElem? (i := 766) (by decide +kernel), List.mem_of_getElem? (i := 1016) (by decide +kernel), List.mem_of_getElem? (i := 1017) (by decide +kernel)⟩
def lw_privs_4 : List (MethodName × Nat) := [(⟨"ShapeReportsModel", "wholeItems", "()I"⟩, 26), (⟨"ShapeReportsModel", "writeItem", "()V"⟩, 26), (⟨"ShapeReportsModel", "writeMain", "()V"⟩, 26), (⟨"ShapeReportsModel", "write", "(IIIII)V"⟩, 26), (⟨"ShapeReportsModel", "writeSet", "()V"⟩, 26), (⟨"ShapeReportsModel", "writeUse", "()V"⟩, 26), (⟨"ShapeReportsModel", "writeNumber", "(J)V"⟩, 26), (⟨"ShapeReportsModel", "isField", "(I)Z"⟩, 26), (⟨"ShapeReportsModel", "of", "(II)I"⟩, 26), (⟨"ShapeReportsModel", "isWithin", "(II)Z"⟩, 26), (⟨"ShapeReportsModel", "isLetter", "()Z"⟩, 26), (⟨"ShapeReportsModel", "comeValue", "(I)V"⟩, 26), (⟨"ShapeReportsModel", "numberIn", "(I)I"⟩, 26), (⟨"ShapeReportsModel", "bitOfLetter", "(I)I"⟩, 26), (⟨"ShapeReportsModel", "isInRange", "(II)Z"⟩, 26), (⟨"ShapeReportsModel", "tell", "(III)V"⟩, 26)]
theorem lw_r4 : ∀ q ∈ lw_privs_4, lw_okq q := List.forall_mem_cons.mpr ⟨lw_p48, List.forall_mem_cons.mpr ⟨lw_p49, List.forall_mem_cons.mpr ⟨lw_p50, List.forall_mem_cons.mpr ⟨lw_p51, List.forall_mem_cons.mpr ⟨lw_p52, List.forall_mem_cons.mpr ⟨lw_p53, List.forall_mem_cons.mpr ⟨lw_p54, List.forall_mem_cons.mpr ⟨lw_p55, List.forall_mem_cons.mpr ⟨lw_p56, List.forall_mem_cons.mpr ⟨lw_p57, List.forall_mem_cons.mpr ⟨lw_p58, List.forall_mem_cons.mpr ⟨lw_p59, List.forall_mem_cons.mpr ⟨lw_p60, List.forall_mem_cons.mpr ⟨lw_p61, List.forall_mem_cons.mpr ⟨lw_p62, List.forall_mem_cons.mpr ⟨lw_p63, fun _ h => absurd h List.not_mem_nil⟩⟩⟩⟩⟩⟩⟩⟩⟩⟩⟩⟩⟩⟩⟩⟩
theorem lw_p64 : lw_okq (⟨"ShapeReportsModel", "comeSlots", "(I)V"⟩, 26) := ⟨⟨by decide +kernel, by decide +kernel⟩, List.mem_of_getElem? (i := 766) (by decide +kernel), List.mem_of_getElem? (i := 1020) (by decide +kernel), List.mem_of_getElem? (i := 1021) (by decide +kernel)⟩
theorem lw_p65 : lw_okq (⟨"ShapeReportsModel", "firstPlace", "(II)I"⟩, 26) := ⟨⟨by decide +kernel, by decide +kernel⟩, List.mem_of_getElem? (i := 766) (by decide +kernel), List.mem_of_getElem? (i := 1024) (by decide +kernel), List.mem_of_getElem? (i := 1025) (by decide +kernel)⟩
theorem lw_p66 : lw_okq (⟨"ShapeReportsModel", "useAt", "(II)I"⟩, 26) := ⟨⟨by decide +kernel, by decide +kernel⟩, List.mem_of_getElem? (i := 766) (by decide +kernel), List.mem_of_getElem? (i := 1028) (by decide +kernel), List.mem_of_getElem? (i := 1029) (by decide +kernel)⟩
theorem lw_p67 : lw_okq (⟨"ShapeReportsModel", "tellAll", "(IIII)V"⟩, 26) := ⟨⟨by decide +kernel, by decide +kernel⟩, List.mem_of_getElem? (i := 766) (by decide +kernel), List.mem_of_getElem? (i := 1032) (by decide +kernel), List.mem_of_getElem? (i := 1033) (by decide +kernel)⟩
theorem lw_p68 : lw_okq (⟨"ShapeReportsModel", "bitToDevice", "(III)I"⟩, 26) := ⟨⟨by decide +kernel, by decide +kernel⟩, List.mem_of_getElem? (i := 766) (by decide +kernel), List.mem_of_getElem? (i := 1059) (by decide +kernel), List.mem_of_getElem? (i := 1060) (by decide +kernel)⟩
def lw_privs_5 : List (MethodName × Nat) := [(⟨"ShapeReportsModel", "comeSlots", "(I)V"⟩, 26), (⟨"ShapeReportsModel", "firstPlace", "(II)I"⟩, 26), (⟨"ShapeReportsModel", "useAt", "(II)I"⟩, 26), (⟨"ShapeReportsModel", "tellAll", "(IIII)V"⟩, 26), (⟨"ShapeReportsModel", "bitToDevice", "(III)I"⟩, 26)]
theorem lw_r5 : ∀ q ∈ lw_privs_5, lw_okq q := List.forall_mem_cons.mpr ⟨lw_p64, List.forall_mem_cons.mpr ⟨lw_p65, List.forall_mem_cons.mpr ⟨lw_p66, List.forall_mem_cons.mpr ⟨lw_p67, List.forall_mem_cons.mpr ⟨lw_p68, fun _ h => absurd h List.not_mem_nil⟩⟩⟩⟩⟩
def lw_privs : List (MethodName × Nat) := lw_privs_1 ++ (lw_privs_2 ++ (lw_privs_3 ++ (lw_privs_4 ++ (lw_privs_5))))
def lw_tbl : List Cond := k2_sels lw_privs ++ tables_1
theorem lw_privs_ok : ∀ q ∈ lw_privs, lw_okq q := by
  show ∀ q ∈ lw_privs_1 ++ (lw_privs_2 ++ (lw_privs_3 ++ (lw_privs_4 ++ (lw_privs_5)))), lw_okq q
  exact List.forall_mem_append.mpr ⟨lw_r1, List.forall_mem_append.mpr ⟨lw_r2, List.forall_mem_append.mpr ⟨lw_r3, List.forall_mem_append.mpr ⟨lw_r4, lw_r5⟩⟩⟩⟩
-- names: classes, fields, methods (printed rows)
def RX0 : String := "ShapeReports$Device"
def TX0 : u_T := fun k => match k with
  | 0 => ("ShapeReports$Device", "program", "LShapeReports$Row;", true)
  | 1 => ("ShapeReports$Device", "letter", "LShapeReports$Row;", true)
  | 2 => ("ShapeReports$Device", "shape", "LShapeReports$Shape;", true)
  | 3 => ("ShapeReports$Device", "events", "LShapeReports$Table;", true)
  | 4 => ("ShapeReports$Device", "came", "I", false)
  | _ => ("ShapeReports$Device", "toldFault", "I", false)
def tyX0 : Nat → FieldType := fun k => match k with
  | 0 => .object "ShapeReports$Row"
  | 1 => .object "ShapeReports$Row"
  | 2 => .object "ShapeReports$Shape"
  | 3 => .object "ShapeReports$Table"
  | 4 => .int
  | _ => .int
abbrev wsX00 : List Cond := u_ws RX0 TX0 6
theorem nmX0 : ∀ a, a < 6 → ∀ b, b < 6 → a ≠ b → (TX0 a).2.1 ≠ (TX0 b).2.1 := by decide +kernel
theorem tyX0_ok : ∀ k, k < 6 → parseFieldDescriptor (TX0 k).2.2.1 = some (tyX0 k) := by decide +kernel
abbrev cX0_init : ByteArray := prog_2_method_1_code
def yX0_init : MethodName := ⟨RX0, "<init>", "()V"⟩
abbrev cX0_copyFrom : ByteArray := prog_2_method_2_code
def yX0_copyFrom : MethodName := ⟨RX0, "copyFrom", "(LShapeReports$Device;)V"⟩
abbrev cX0_become : ByteArray := prog_2_method_3_code
def yX0_become : MethodName := ⟨RX0, "become", "(LShapeReports$Shape;)V"⟩
abbrev cX0_idOfLetter : ByteArray := prog_2_method_4_code
def yX0_idOfLetter : MethodName := ⟨RX0, "idOfLetter", "()I"⟩
abbrev cX0_letterFits : ByteArray := prog_2_method_5_code
def yX0_letterFits : MethodName := ⟨RX0, "letterFits", "()Z"⟩
abbrev cX0_cutLetter : ByteArray := prog_2_method_6_code
def yX0_cutLetter : MethodName := ⟨RX0, "cutLetter", "()V"⟩
abbrev cX0_numberInLetter : ByteArray := prog_2_method_7_code
def yX0_numberInLetter : MethodName := ⟨RX0, "numberInLetter", "(II)I"⟩
abbrev cX0_cutValue : ByteArray := prog_2_method_8_code
def yX0_cutValue : MethodName := ⟨RX0, "cutValue", "(II)V"⟩
abbrev cX0_cutSlots : ByteArray := prog_2_method_9_code
def yX0_cutSlots : MethodName := ⟨RX0, "cutSlots", "(II)V"⟩
abbrev cX0_pressedInLetter : ByteArray := prog_2_method_10_code
def yX0_pressedInLetter : MethodName := ⟨RX0, "pressedInLetter", "(II)I"⟩
abbrev cX0_addUseEvents : ByteArray := prog_2_method_11_code
def yX0_addUseEvents : MethodName := ⟨RX0, "addUseEvents", "(III)V"⟩
abbrev cX0_addEvent : ByteArray := prog_2_method_12_code
def yX0_addEvent : MethodName := ⟨RX0, "addEvent", "(III)V"⟩
def RX1 : String := "ShapeReports$Item"
def TX1 : u_T := fun k => match k with
  | 0 => ("ShapeReports$Item", "place", "I", false)
  | 1 => ("ShapeReports$Item", "more", "I", false)
  | 2 => ("ShapeReports$Item", "sort", "I", false)
  | 3 => ("ShapeReports$Item", "tag", "I", false)
  | 4 => ("ShapeReports$Item", "n", "I", false)
  | _ => ("ShapeReports$Item", "z", "I", false)
def tyX1 : Nat → FieldType := fun k => match k with
  | 0 => .int
  | 1 => .int
  | 2 => .int
  | 3 => .int
  | 4 => .int
  | _ => .int
abbrev wsX10 : List Cond := u_ws RX1 TX1 6
theorem nmX1 : ∀ a, a < 6 → ∀ b, b < 6 → a ≠ b → (TX1 a).2.1 ≠ (TX1 b).2.1 := by decide +kernel
theorem tyX1_ok : ∀ k, k < 6 → parseFieldDescriptor (TX1 k).2.2.1 = some (tyX1 k) := by decide +kernel
abbrev cX1_init : ByteArray := prog_3_method_1_code
def yX1_init : MethodName := ⟨RX1, "<init>", "()V"⟩
abbrev cX1_decode : ByteArray := prog_3_method_2_code
def yX1_decode : MethodName := ⟨RX1, "decode", "(LShapeReports$Row;I)Z"⟩
abbrev cX1_placeBehind : ByteArray := prog_3_method_3_code
def yX1_placeBehind : MethodName := ⟨RX1, "placeBehind", "()I"⟩
abbrev cX1_hasNumber : ByteArray := prog_3_method_4_code
def yX1_hasNumber : MethodName := ⟨RX1, "hasNumber", "()Z"⟩
def RX2 : String := "ShapeReports$Reader"
def TX2 : u_T := fun k => match k with
  | 0 => ("ShapeReports$Reader", "shape", "LShapeReports$Shape;", true)
  | 1 => ("ShapeReports$Reader", "faultNumber", "I", false)
  | 2 => ("ShapeReports$Reader", "faultPlace", "I", false)
  | 3 => ("ShapeReports$Reader", "item", "LShapeReports$Item;", true)
  | 4 => ("ShapeReports$Reader", "stack", "LShapeReports$Table;", true)
  | 5 => ("ShapeReports$Reader", "page", "I", false)
  | 6 => ("ShapeReports$Reader", "least", "I", false)
  | 7 => ("ShapeReports$Reader", "most", "I", false)
  | 8 => ("ShapeReports$Reader", "size", "I", false)
  | 9 => ("ShapeReports$Reader", "id", "I", false)
  | 10 => ("ShapeReports$Reader", "many", "I", false)
  | 11 => ("ShapeReports$Reader", "uses", "LShapeReports$Row;", true)
  | 12 => ("ShapeReports$Reader", "firstOfUses", "I", false)
  | _ => ("ShapeReports$Reader", "openGroup", "I", false)
def tyX2 : Nat → FieldType := fun k => match k with
  | 0 => .object "ShapeReports$Shape"
  | 1 => .int
  | 2 => .int
  | 3 => .object "ShapeReports$Item"
  | 4 => .object "ShapeReports$Table"
  | 5 => .int
  | 6 => .int
  | 7 => .int
  | 8 => .int
  | 9 => .int
  | 10 => .int
  | 11 => .object "ShapeReports$Row"
  | 12 => .int
  | _ => .int
abbrev wsX20 : List Cond := u_ws RX2 TX2 14
theorem nmX2 : ∀ a, a < 14 → ∀ b, b < 14 → a ≠ b → (TX2 a).2.1 ≠ (TX2 b).2.1 := by decide +kernel
theorem tyX2_ok : ∀ k, k < 14 → parseFieldDescriptor (TX2 k).2.2.1 = some (tyX2 k) := by decide +kernel
abbrev cX2_init : ByteArray := prog_4_method_1_code
def yX2_init : MethodName := ⟨RX2, "<init>", "()V"⟩
abbrev cX2_goThrough : ByteArray := prog_4_method_2_code
def yX2_goThrough : MethodName := ⟨RX2, "goThrough", "(LShapeReports$Row;)V"⟩
abbrev cX2_begin : ByteArray := prog_4_method_3_code
def yX2_begin : MethodName := ⟨RX2, "begin", "()V"⟩
abbrev cX2_forgetUses : ByteArray := prog_4_method_4_code
def yX2_forgetUses : MethodName := ⟨RX2, "forgetUses", "()V"⟩
abbrev cX2_tellFault : ByteArray := prog_4_method_5_code
def yX2_tellFault : MethodName := ⟨RX2, "tellFault", "(II)V"⟩
abbrev cX2_faultOfItem : ByteArray := prog_4_method_6_code
def yX2_faultOfItem : MethodName := ⟨RX2, "faultOfItem", "()I"⟩
abbrev cX2_faultOfNumberItem : ByteArray := prog_4_method_7_code
def yX2_faultOfNumberItem : MethodName := ⟨RX2, "faultOfNumberItem", "()I"⟩
abbrev cX2_faultOfShapeItem : ByteArray := prog_4_method_8_code
def yX2_faultOfShapeItem : MethodName := ⟨RX2, "faultOfShapeItem", "()I"⟩
abbrev cX2_faultOfFields : ByteArray := prog_4_method_9_code
def yX2_faultOfFields : MethodName := ⟨RX2, "faultOfFields", "()I"⟩
abbrev cX2_faultOfWhole : ByteArray := prog_4_method_10_code
def yX2_faultOfWhole : MethodName := ⟨RX2, "faultOfWhole", "()I"⟩
abbrev cX2_moreUses : ByteArray := prog_4_method_11_code
def yX2_moreUses : MethodName := ⟨RX2, "moreUses", "()J"⟩
abbrev cX2_obeyItem : ByteArray := prog_4_method_12_code
def yX2_obeyItem : MethodName := ⟨RX2, "obeyItem", "()V"⟩
abbrev cX2_obeyNumberItem : ByteArray := prog_4_method_13_code
def yX2_obeyNumberItem : MethodName := ⟨RX2, "obeyNumberItem", "()V"⟩
abbrev cX2_pushNumbers : ByteArray := prog_4_method_14_code
def yX2_pushNumbers : MethodName := ⟨RX2, "pushNumbers", "()V"⟩
abbrev cX2_popNumbers : ByteArray := prog_4_method_15_code
def yX2_popNumbers : MethodName := ⟨RX2, "popNumbers", "()V"⟩
abbrev cX2_obeyUseItem : ByteArray := prog_4_method_16_code
def yX2_obeyUseItem : MethodName := ⟨RX2, "obeyUseItem", "()V"⟩
abbrev cX2_obeyShapeItem : ByteArray := prog_4_method_17_code
def yX2_obeyShapeItem : MethodName := ⟨RX2, "obeyShapeItem", "()V"⟩
abbrev cX2_beginGroup : ByteArray := prog_4_method_18_code
def yX2_beginGroup : MethodName := ⟨RX2, "beginGroup", "()V"⟩
abbrev cX2_wayOfItem : ByteArray := prog_4_method_19_code
def yX2_wayOfItem : MethodName := ⟨RX2, "wayOfItem", "()I"⟩
abbrev cX2_makesFields : ByteArray := prog_4_method_20_code
def yX2_makesFields : MethodName := ⟨RX2, "makesFields", "()Z"⟩
abbrev cX2_makesValues : ByteArray := prog_4_method_21_code
def yX2_makesValues : MethodName := ⟨RX2, "makesValues", "()Z"⟩
abbrev cX2_addFields : ByteArray := prog_4_method_22_code
def yX2_addFields : MethodName := ⟨RX2, "addFields", "()V"⟩
abbrev cX2_setCommon : ByteArray := prog_4_method_23_code
def yX2_setCommon : MethodName := ⟨RX2, "setCommon", "(I)V"⟩
abbrev cX2_setValue : ByteArray := prog_4_method_24_code
def yX2_setValue : MethodName := ⟨RX2, "setValue", "(II)V"⟩
abbrev cX2_setSlot : ByteArray := prog_4_method_25_code
def yX2_setSlot : MethodName := ⟨RX2, "setSlot", "(I)V"⟩
def RX3 : String := "ShapeReports$Row"
def TX3 : u_T := fun k => match k with
  | 0 => ("ShapeReports$Row", "cells", "[I", true)
  | _ => ("ShapeReports$Row", "used", "I", false)
def tyX3 : Nat → FieldType := fun k => match k with
  | 0 => .array .int
  | _ => .int
abbrev wsX30 : List Cond := u_ws RX3 TX3 2
theorem nmX3 : ∀ a, a < 2 → ∀ b, b < 2 → a ≠ b → (TX3 a).2.1 ≠ (TX3 b).2.1 := by decide +kernel
theorem tyX3_ok : ∀ k, k < 2 → parseFieldDescriptor (TX3 k).2.2.1 = some (tyX3 k) := by decide +kernel
abbrev cX3_init : ByteArray := prog_5_method_1_code
def yX3_init : MethodName := ⟨RX3, "<init>", "(I)V"⟩
abbrev cX3_size : ByteArray := prog_5_method_2_code
def yX3_size : MethodName := ⟨RX3, "size", "()I"⟩
abbrev cX3_at : ByteArray := prog_5_method_3_code
def yX3_at : MethodName := ⟨RX3, "at", "(I)I"⟩
abbrev cX3_add : ByteArray := prog_5_method_4_code
def yX3_add : MethodName := ⟨RX3, "add", "(I)V"⟩
abbrev cX3_clear : ByteArray := prog_5_method_5_code
def yX3_clear : MethodName := ⟨RX3, "clear", "()V"⟩
abbrev cX3_copyFrom : ByteArray := prog_5_method_6_code
def yX3_copyFrom : MethodName := ⟨RX3, "copyFrom", "(LShapeReports$Row;)V"⟩
def RX4 : String := "ShapeReports$Shape"
def TX4 : u_T := fun k => match k with
  | 0 => ("ShapeReports$Shape", "fields", "LShapeReports$Table;", true)
  | 1 => ("ShapeReports$Shape", "groups", "LShapeReports$Table;", true)
  | 2 => ("ShapeReports$Shape", "slotUses", "LShapeReports$Row;", true)
  | _ => ("ShapeReports$Shape", "bits", "LShapeReports$Table;", true)
def tyX4 : Nat → FieldType := fun k => match k with
  | 0 => .object "ShapeReports$Table"
  | 1 => .object "ShapeReports$Table"
  | 2 => .object "ShapeReports$Row"
  | _ => .object "ShapeReports$Table"
abbrev wsX40 : List Cond := u_ws RX4 TX4 4
theorem nmX4 : ∀ a, a < 4 → ∀ b, b < 4 → a ≠ b → (TX4 a).2.1 ≠ (TX4 b).2.1 := by decide +kernel
theorem tyX4_ok : ∀ k, k < 4 → parseFieldDescriptor (TX4 k).2.2.1 = some (tyX4 k) := by decide +kernel
abbrev cX4_init : ByteArray := prog_6_method_1_code
def yX4_init : MethodName := ⟨RX4, "<init>", "()V"⟩
abbrev cX4_clear : ByteArray := prog_6_method_2_code
def yX4_clear : MethodName := ⟨RX4, "clear", "()V"⟩
abbrev cX4_copyFrom : ByteArray := prog_6_method_3_code
def yX4_copyFrom : MethodName := ⟨RX4, "copyFrom", "(LShapeReports$Shape;)V"⟩
abbrev cX4_bitsOf : ByteArray := prog_6_method_4_code
def yX4_bitsOf : MethodName := ⟨RX4, "bitsOf", "(II)I"⟩
abbrev cX4_lengthen : ByteArray := prog_6_method_5_code
def yX4_lengthen : MethodName := ⟨RX4, "lengthen", "(III)V"⟩
abbrev cX4_hasIdZero : ByteArray := prog_6_method_6_code
def yX4_hasIdZero : MethodName := ⟨RX4, "hasIdZero", "()Z"⟩
abbrev cX4_hasOtherIds : ByteArray := prog_6_method_7_code
def yX4_hasOtherIds : MethodName := ⟨RX4, "hasOtherIds", "()Z"⟩
abbrev cX4_headBytes : ByteArray := prog_6_method_8_code
def yX4_headBytes : MethodName := ⟨RX4, "headBytes", "()I"⟩
abbrev cX4_isOfLetter : ByteArray := prog_6_method_9_code
def yX4_isOfLetter : MethodName := ⟨RX4, "isOfLetter", "(III)Z"⟩
abbrev cX4_isInRange : ByteArray := prog_6_method_10_code
def yX4_isInRange : MethodName := ⟨RX4, "isInRange", "(II)Z"⟩
abbrev cX4_fieldsOfGroup : ByteArray := prog_6_method_11_code
def yX4_fieldsOfGroup : MethodName := ⟨RX4, "fieldsOfGroup", "(I)I"⟩
abbrev cX4_isInGroup : ByteArray := prog_6_method_12_code
def yX4_isInGroup : MethodName := ⟨RX4, "isInGroup", "(II)Z"⟩
abbrev cX4_addSlotUses : ByteArray := prog_6_method_13_code
def yX4_addSlotUses : MethodName := ⟨RX4, "addSlotUses", "(LShapeReports$Row;)V"⟩
abbrev cX4_slotUse : ByteArray := prog_6_method_14_code
def yX4_slotUse : MethodName := ⟨RX4, "slotUse", "(II)I"⟩
abbrev cX4_firstPlaceOfUse : ByteArray := prog_6_method_15_code
def yX4_firstPlaceOfUse : MethodName := ⟨RX4, "firstPlaceOfUse", "(II)I"⟩
abbrev cX4_placeOfLeastUse : ByteArray := prog_6_method_16_code
def yX4_placeOfLeastUse : MethodName := ⟨RX4, "placeOfLeastUse", "(II)I"⟩
abbrev cX4_wantedByte : ByteArray := prog_6_method_17_code
def yX4_wantedByte : MethodName := ⟨RX4, "wantedByte", "(III)I"⟩
abbrev cX4_wantedPart : ByteArray := prog_6_method_18_code
def yX4_wantedPart : MethodName := ⟨RX4, "wantedPart", "(II)I"⟩
def RX5 : String := "ShapeReports$Table"
def TX5 : u_T := fun k => match k with
  | 0 => ("ShapeReports$Table", "limit", "I", true)
  | 1 => ("ShapeReports$Table", "columns", "I", true)
  | 2 => ("ShapeReports$Table", "cells", "[I", true)
  | _ => ("ShapeReports$Table", "used", "I", false)
def tyX5 : Nat → FieldType := fun k => match k with
  | 0 => .int
  | 1 => .int
  | 2 => .array .int
  | _ => .int
abbrev wsX50 : List Cond := u_ws RX5 TX5 4
theorem nmX5 : ∀ a, a < 4 → ∀ b, b < 4 → a ≠ b → (TX5 a).2.1 ≠ (TX5 b).2.1 := by decide +kernel
theorem tyX5_ok : ∀ k, k < 4 → parseFieldDescriptor (TX5 k).2.2.1 = some (tyX5 k) := by decide +kernel
abbrev cX5_init : ByteArray := prog_7_method_1_code
def yX5_init : MethodName := ⟨RX5, "<init>", "(II)V"⟩
abbrev cX5_rows : ByteArray := prog_7_method_2_code
def yX5_rows : MethodName := ⟨RX5, "rows", "()I"⟩
abbrev cX5_has : ByteArray := prog_7_method_3_code
def yX5_has : MethodName := ⟨RX5, "has", "(I)Z"⟩
abbrev cX5_at : ByteArray := prog_7_method_4_code
def yX5_at : MethodName := ⟨RX5, "at", "(II)I"⟩
abbrev cX5_set : ByteArray := prog_7_method_5_code
def yX5_set : MethodName := ⟨RX5, "set", "(III)V"⟩
abbrev cX5_addRow : ByteArray := prog_7_method_6_code
def yX5_addRow : MethodName := ⟨RX5, "addRow", "()I"⟩
abbrev cX5_dropFirst : ByteArray := prog_7_method_7_code
def yX5_dropFirst : MethodName := ⟨RX5, "dropFirst", "()V"⟩
abbrev cX5_dropLast : ByteArray := prog_7_method_8_code
def yX5_dropLast : MethodName := ⟨RX5, "dropLast", "()V"⟩
abbrev cX5_clear : ByteArray := prog_7_method_9_code
def yX5_clear : MethodName := ⟨RX5, "clear", "()V"⟩
abbrev cX5_copyFrom : ByteArray := prog_7_method_10_code
def yX5_copyFrom : MethodName := ⟨RX5, "copyFrom", "(LShapeReports$Table;)V"⟩
def RX6 : String := "ShapeReports$Words"
def TX6 : u_T := fun k => match k with
  | _ => ("", "", "", false)
def tyX6 : Nat → FieldType := fun k => match k with
  | _ => .int
abbrev wsX60 : List Cond := u_ws RX6 TX6 0
theorem nmX6 : ∀ a, a < 0 → ∀ b, b < 0 → a ≠ b → (TX6 a).2.1 ≠ (TX6 b).2.1 := by decide +kernel
theorem tyX6_ok : ∀ k, k < 0 → parseFieldDescriptor (TX6 k).2.2.1 = some (tyX6 k) := by decide +kernel
abbrev cX6_signs : ByteArray := prog_8_method_2_code
def yX6_signs : MethodName := ⟨RX6, "signs", "(LShapeReports$Item;)I"⟩
abbrev cX6_signAt : ByteArray := prog_8_method_3_code
def yX6_signAt : MethodName := ⟨RX6, "signAt", "(LShapeReports$Item;I)I"⟩
abbrev cX6_numberOf : ByteArray := prog_8_method_4_code
def yX6_numberOf : MethodName := ⟨RX6, "numberOf", "(LShapeReports$Item;)J"⟩
abbrev cX6_figures : ByteArray := prog_8_method_5_code
def yX6_figures : MethodName := ⟨RX6, "figures", "(J)I"⟩
abbrev cX6_figure : ByteArray := prog_8_method_6_code
def yX6_figure : MethodName := ⟨RX6, "figure", "(JI)I"⟩
abbrev cX6_word : ByteArray := prog_8_method_7_code
def yX6_word : MethodName := ⟨RX6, "word", "(LShapeReports$Item;)Ljava/lang/String;"⟩
abbrev cX6_shapeWord : ByteArray := prog_8_method_8_code
def yX6_shapeWord : MethodName := ⟨RX6, "shapeWord", "(I)Ljava/lang/String;"⟩
abbrev cX6_numberWord : ByteArray := prog_8_method_9_code
def yX6_numberWord : MethodName := ⟨RX6, "numberWord", "(I)Ljava/lang/String;"⟩
abbrev cX6_useWord : ByteArray := prog_8_method_10_code
def yX6_useWord : MethodName := ⟨RX6, "useWord", "(I)Ljava/lang/String;"⟩
def RX7 : String := "ShapeReports"
def TX7 : u_T := fun k => match k with
  | 0 => ("ShapeReports", "device", "LShapeReports$Device;", true)
  | 1 => ("ShapeReports", "firstImage", "LShapeReports$Device;", true)
  | 2 => ("ShapeReports", "secondImage", "LShapeReports$Device;", true)
  | 3 => ("ShapeReports", "reader", "LShapeReports$Reader;", true)
  | 4 => ("ShapeReports", "shown", "LShapeReports$Item;", true)
  | _ => ("ShapeReports", "kept", "I", false)
def tyX7 : Nat → FieldType := fun k => match k with
  | 0 => .object "ShapeReports$Device"
  | 1 => .object "ShapeReports$Device"
  | 2 => .object "ShapeReports$Device"
  | 3 => .object "ShapeReports$Reader"
  | 4 => .object "ShapeReports$Item"
  | _ => .int
abbrev wsX70 : List Cond := u_ws RX7 TX7 6
theorem nmX7 : ∀ a, a < 6 → ∀ b, b < 6 → a ≠ b → (TX7 a).2.1 ≠ (TX7 b).2.1 := by decide +kernel
theorem tyX7_ok : ∀ k, k < 6 → parseFieldDescriptor (TX7 k).2.2.1 = some (tyX7 k) := by decide +kernel
abbrev cX7_init : ByteArray := prog_1_method_1_code
def yX7_init : MethodName := ⟨RX7, "<init>", "()V"⟩
abbrev cX7_say : ByteArray := prog_1_method_2_code
def yX7_say : MethodName := ⟨RX7, "say", "(I)I"⟩
abbrev cX7_wipe : ByteArray := prog_1_method_3_code
def yX7_wipe : MethodName := ⟨RX7, "wipe", "()I"⟩
abbrev cX7_item : ByteArray := prog_1_method_4_code
def yX7_item : MethodName := ⟨RX7, "item", "(III)I"⟩
abbrev cX7_read : ByteArray := prog_1_method_5_code
def yX7_read : MethodName := ⟨RX7, "read", "()I"⟩
abbrev cX7_fault : ByteArray := prog_1_method_6_code
def yX7_fault : MethodName := ⟨RX7, "fault", "(I)I"⟩
abbrev cX7_written : ByteArray := prog_1_method_7_code
def yX7_written : MethodName := ⟨RX7, "written", "(II)I"⟩
abbrev cX7_field : ByteArray := prog_1_method_8_code
def yX7_field : MethodName := ⟨RX7, "field", "(II)I"⟩
abbrev cX7_group : ByteArray := prog_1_method_9_code
def yX7_group : MethodName := ⟨RX7, "group", "(II)I"⟩
abbrev cX7_length : ByteArray := prog_1_method_10_code
def yX7_length : MethodName := ⟨RX7, "length", "(II)I"⟩
abbrev cX7_put : ByteArray := prog_1_method_11_code
def yX7_put : MethodName := ⟨RX7, "put", "(I)I"⟩
abbrev cX7_come : ByteArray := prog_1_method_12_code
def yX7_come : MethodName := ⟨RX7, "come", "()I"⟩
abbrev cX7_event : ByteArray := prog_1_method_13_code
def yX7_event : MethodName := ⟨RX7, "event", "(I)I"⟩
abbrev cX7_next : ByteArray := prog_1_method_14_code
def yX7_next : MethodName := ⟨RX7, "next", "()I"⟩
abbrev cX7_last : ByteArray := prog_1_method_15_code
def yX7_last : MethodName := ⟨RX7, "last", "(I)I"⟩
abbrev cX7_want : ByteArray := prog_1_method_16_code
def yX7_want : MethodName := ⟨RX7, "want", "(II)I"⟩
abbrev cX7_made : ByteArray := prog_1_method_17_code
def yX7_made : MethodName := ⟨RX7, "made", "(III)I"⟩
abbrev cX7_count : ByteArray := prog_1_method_18_code
def yX7_count : MethodName := ⟨RX7, "count", "(I)I"⟩
abbrev cX7_image : ByteArray := prog_1_method_19_code
def yX7_image : MethodName := ⟨RX7, "image", "(I)I"⟩
abbrev cX7_restore : ByteArray := prog_1_method_20_code
def yX7_restore : MethodName := ⟨RX7, "restore", "(I)I"⟩
abbrev cX7_imageOf : ByteArray := prog_1_method_21_code
def yX7_imageOf : MethodName := ⟨RX7, "imageOf", "(I)LShapeReports$Device;"⟩
abbrev cX7_wholeItems : ByteArray := prog_1_method_22_code
def yX7_wholeItems : MethodName := ⟨RX7, "wholeItems", "()I"⟩
abbrev cX7_findItem : ByteArray := prog_1_method_23_code
def yX7_findItem : MethodName := ⟨RX7, "findItem", "(I)Z"⟩
abbrev cX7_isWithin : ByteArray := prog_1_method_24_code
def yX7_isWithin : MethodName := ⟨RX7, "isWithin", "(III)Z"⟩
abbrev cX7_bytesFor : ByteArray := prog_1_method_25_code
def yX7_bytesFor : MethodName := ⟨RX7, "bytesFor", "(I)I"⟩
abbrev cX7_signed : ByteArray := prog_1_method_26_code
def yX7_signed : MethodName := ⟨RX7, "signed", "(II)I"⟩
def RX8 : String := "ShapeReportsModel"
def TX8 : u_T := fun k => match k with
  | 0 => ("ShapeReportsModel", "state", "[I", true)
  | 1 => ("ShapeReportsModel", "images", "[I", true)
  | 2 => ("ShapeReportsModel", "isKept", "[Z", true)
  | 3 => ("ShapeReportsModel", "sort", "I", false)
  | 4 => ("ShapeReportsModel", "tag", "I", false)
  | 5 => ("ShapeReportsModel", "further", "I", false)
  | 6 => ("ShapeReportsModel", "plain", "I", false)
  | 7 => ("ShapeReportsModel", "signed", "I", false)
  | 8 => ("ShapeReportsModel", "now", "[I", true)
  | 9 => ("ShapeReportsModel", "stack", "[I", true)
  | 10 => ("ShapeReportsModel", "stacked", "I", false)
  | 11 => ("ShapeReportsModel", "uses", "[I", true)
  | 12 => ("ShapeReportsModel", "used", "I", false)
  | 13 => ("ShapeReportsModel", "first", "I", false)
  | 14 => ("ShapeReportsModel", "open", "[I", true)
  | 15 => ("ShapeReportsModel", "opened", "I", false)
  | 16 => ("ShapeReportsModel", "groups", "I", false)
  | 17 => ("ShapeReportsModel", "fields", "I", false)
  | 18 => ("ShapeReportsModel", "slotItems", "I", false)
  | 19 => ("ShapeReportsModel", "lengths", "[I", true)
  | 20 => ("ShapeReportsModel", "hasZero", "Z", false)
  | 21 => ("ShapeReportsModel", "hasOther", "Z", false)
  | 22 => ("ShapeReportsModel", "builds", "Z", false)
  | 23 => ("ShapeReportsModel", "faultPlace", "I", false)
  | 24 => ("ShapeReportsModel", "row", "[I", true)
  | _ => ("ShapeReportsModel", "signs", "I", false)
def tyX8 : Nat → FieldType := fun k => match k with
  | 0 => .array .int
  | 1 => .array .int
  | 2 => .array .boolean
  | 3 => .int
  | 4 => .int
  | 5 => .int
  | 6 => .int
  | 7 => .int
  | 8 => .array .int
  | 9 => .array .int
  | 10 => .int
  | 11 => .array .int
  | 12 => .int
  | 13 => .int
  | 14 => .array .int
  | 15 => .int
  | 16 => .int
  | 17 => .int
  | 18 => .int
  | 19 => .array .int
  | 20 => .boolean
  | 21 => .boolean
  | 22 => .boolean
  | 23 => .int
  | 24 => .array .int
  | _ => .int
abbrev wsX80 : List Cond := u_ws RX8 TX8 26
theorem nmX8 : ∀ a, a < 26 → ∀ b, b < 26 → a ≠ b → (TX8 a).2.1 ≠ (TX8 b).2.1 := by decide +kernel
theorem tyX8_ok : ∀ k, k < 26 → parseFieldDescriptor (TX8 k).2.2.1 = some (tyX8 k) := by decide +kernel
abbrev cX8_init : ByteArray := prog_10_method_1_code
def yX8_init : MethodName := ⟨RX8, "<init>", "()V"⟩
abbrev cX8_in : ByteArray := prog_10_method_2_code
def yX8_in : MethodName := ⟨RX8, "in", "(III)Z"⟩
abbrev cX8_has : ByteArray := prog_10_method_3_code
def yX8_has : MethodName := ⟨RX8, "has", "(II)Z"⟩
abbrev cX8_byteAt : ByteArray := prog_10_method_4_code
def yX8_byteAt : MethodName := ⟨RX8, "byteAt", "(I)I"⟩
abbrev cX8_isWhole : ByteArray := prog_10_method_5_code
def yX8_isWhole : MethodName := ⟨RX8, "isWhole", "(I)Z"⟩
abbrev cX8_say : ByteArray := prog_10_method_6_code
def yX8_say : MethodName := ⟨RX8, "say", "(I)I"⟩
abbrev cX8_wipe : ByteArray := prog_10_method_7_code
def yX8_wipe : MethodName := ⟨RX8, "wipe", "()I"⟩
abbrev cX8_item : ByteArray := prog_10_method_8_code
def yX8_item : MethodName := ⟨RX8, "item", "(III)I"⟩
abbrev cX8_setNumber : ByteArray := prog_10_method_9_code
def yX8_setNumber : MethodName := ⟨RX8, "setNumber", "()I"⟩
abbrev cX8_push : ByteArray := prog_10_method_10_code
def yX8_push : MethodName := ⟨RX8, "push", "()I"⟩
abbrev cX8_pop : ByteArray := prog_10_method_11_code
def yX8_pop : MethodName := ⟨RX8, "pop", "()I"⟩
abbrev cX8_tellUses : ByteArray := prog_10_method_12_code
def yX8_tellUses : MethodName := ⟨RX8, "tellUses", "()I"⟩
abbrev cX8_beginGroup : ByteArray := prog_10_method_13_code
def yX8_beginGroup : MethodName := ⟨RX8, "beginGroup", "()I"⟩
abbrev cX8_endGroup : ByteArray := prog_10_method_14_code
def yX8_endGroup : MethodName := ⟨RX8, "endGroup", "()I"⟩
abbrev cX8_buildField : ByteArray := prog_10_method_15_code
def yX8_buildField : MethodName := ⟨RX8, "buildField", "(III)V"⟩
abbrev cX8_buildSlots : ByteArray := prog_10_method_16_code
def yX8_buildSlots : MethodName := ⟨RX8, "buildSlots", "()V"⟩
abbrev cX8_makeFields : ByteArray := prog_10_method_17_code
def yX8_makeFields : MethodName := ⟨RX8, "makeFields", "(I)I"⟩
abbrev cX8_mainItem : ByteArray := prog_10_method_18_code
def yX8_mainItem : MethodName := ⟨RX8, "mainItem", "()I"⟩
abbrev cX8_go : ByteArray := prog_10_method_19_code
def yX8_go : MethodName := ⟨RX8, "go", "(Z)I"⟩
abbrev cX8_read : ByteArray := prog_10_method_20_code
def yX8_read : MethodName := ⟨RX8, "read", "()I"⟩
abbrev cX8_wholeItems : ByteArray := prog_10_method_21_code
def yX8_wholeItems : MethodName := ⟨RX8, "wholeItems", "()I"⟩
abbrev cX8_fault : ByteArray := prog_10_method_22_code
def yX8_fault : MethodName := ⟨RX8, "fault", "(I)I"⟩
abbrev cX8_write : ByteArray := prog_10_method_23_code
def yX8_write : MethodName := ⟨RX8, "write", "(IIIII)V"⟩
abbrev cX8_writeMain : ByteArray := prog_10_method_24_code
def yX8_writeMain : MethodName := ⟨RX8, "writeMain", "()V"⟩
abbrev cX8_writeSet : ByteArray := prog_10_method_25_code
def yX8_writeSet : MethodName := ⟨RX8, "writeSet", "()V"⟩
abbrev cX8_writeUse : ByteArray := prog_10_method_26_code
def yX8_writeUse : MethodName := ⟨RX8, "writeUse", "()V"⟩
abbrev cX8_writeNumber : ByteArray := prog_10_method_27_code
def yX8_writeNumber : MethodName := ⟨RX8, "writeNumber", "(J)V"⟩
abbrev cX8_writeItem : ByteArray := prog_10_method_28_code
def yX8_writeItem : MethodName := ⟨RX8, "writeItem", "()V"⟩
abbrev cX8_written : ByteArray := prog_10_method_29_code
def yX8_written : MethodName := ⟨RX8, "written", "(II)I"⟩
abbrev cX8_of : ByteArray := prog_10_method_30_code
def yX8_of : MethodName := ⟨RX8, "of", "(II)I"⟩
abbrev cX8_isField : ByteArray := prog_10_method_31_code
def yX8_isField : MethodName := ⟨RX8, "isField", "(I)Z"⟩
abbrev cX8_field : ByteArray := prog_10_method_32_code
def yX8_field : MethodName := ⟨RX8, "field", "(II)I"⟩
abbrev cX8_isWithin : ByteArray := prog_10_method_33_code
def yX8_isWithin : MethodName := ⟨RX8, "isWithin", "(II)Z"⟩
abbrev cX8_group : ByteArray := prog_10_method_34_code
def yX8_group : MethodName := ⟨RX8, "group", "(II)I"⟩
abbrev cX8_length : ByteArray := prog_10_method_35_code
def yX8_length : MethodName := ⟨RX8, "length", "(II)I"⟩
abbrev cX8_put : ByteArray := prog_10_method_36_code
def yX8_put : MethodName := ⟨RX8, "put", "(I)I"⟩
abbrev cX8_bitOfLetter : ByteArray := prog_10_method_37_code
def yX8_bitOfLetter : MethodName := ⟨RX8, "bitOfLetter", "(I)I"⟩
abbrev cX8_numberIn : ByteArray := prog_10_method_38_code
def yX8_numberIn : MethodName := ⟨RX8, "numberIn", "(I)I"⟩
abbrev cX8_isInRange : ByteArray := prog_10_method_39_code
def yX8_isInRange : MethodName := ⟨RX8, "isInRange", "(II)Z"⟩
abbrev cX8_tell : ByteArray := prog_10_method_40_code
def yX8_tell : MethodName := ⟨RX8, "tell", "(III)V"⟩
abbrev cX8_comeValue : ByteArray := prog_10_method_41_code
def yX8_comeValue : MethodName := ⟨RX8, "comeValue", "(I)V"⟩
abbrev cX8_useAt : ByteArray := prog_10_method_42_code
def yX8_useAt : MethodName := ⟨RX8, "useAt", "(II)I"⟩
abbrev cX8_firstPlace : ByteArray := prog_10_method_43_code
def yX8_firstPlace : MethodName := ⟨RX8, "firstPlace", "(II)I"⟩
abbrev cX8_tellAll : ByteArray := prog_10_method_44_code
def yX8_tellAll : MethodName := ⟨RX8, "tellAll", "(IIII)V"⟩
abbrev cX8_comeSlots : ByteArray := prog_10_method_45_code
def yX8_comeSlots : MethodName := ⟨RX8, "comeSlots", "(I)V"⟩
abbrev cX8_isLetter : ByteArray := prog_10_method_46_code
def yX8_isLetter : MethodName := ⟨RX8, "isLetter", "()Z"⟩
abbrev cX8_come : ByteArray := prog_10_method_47_code
def yX8_come : MethodName := ⟨RX8, "come", "()I"⟩
abbrev cX8_event : ByteArray := prog_10_method_48_code
def yX8_event : MethodName := ⟨RX8, "event", "(I)I"⟩
abbrev cX8_next : ByteArray := prog_10_method_49_code
def yX8_next : MethodName := ⟨RX8, "next", "()I"⟩
abbrev cX8_last : ByteArray := prog_10_method_50_code
def yX8_last : MethodName := ⟨RX8, "last", "(I)I"⟩
abbrev cX8_want : ByteArray := prog_10_method_51_code
def yX8_want : MethodName := ⟨RX8, "want", "(II)I"⟩
abbrev cX8_bitToDevice : ByteArray := prog_10_method_52_code
def yX8_bitToDevice : MethodName := ⟨RX8, "bitToDevice", "(III)I"⟩
abbrev cX8_made : ByteArray := prog_10_method_53_code
def yX8_made : MethodName := ⟨RX8, "made", "(III)I"⟩
abbrev cX8_count : ByteArray := prog_10_method_54_code
def yX8_count : MethodName := ⟨RX8, "count", "(I)I"⟩
abbrev cX8_image : ByteArray := prog_10_method_55_code
def yX8_image : MethodName := ⟨RX8, "image", "(I)I"⟩
abbrev cX8_restore : ByteArray := prog_10_method_56_code
def yX8_restore : MethodName := ⟨RX8, "restore", "(I)I"⟩
def RJ6 : String := "java/lang/Integer"
def TJ6 : u_T := fun k => match k with
  | _ => ("", "", "", false)
def tyJ6 : Nat → FieldType := fun k => match k with
  | _ => .int
abbrev wsJ60 : List Cond := u_ws RJ6 TJ6 0
theorem nmJ6 : ∀ a, a < 0 → ∀ b, b < 0 → a ≠ b → (TJ6 a).2.1 ≠ (TJ6 b).2.1 := by decide +kernel
theorem tyJ6_ok : ∀ k, k < 0 → parseFieldDescriptor (TJ6 k).2.2.1 = some (tyJ6 k) := by decide +kernel
abbrev cJ6_bitCount_0f7a4 : ByteArray := prog_11_method_49_code
def yJ6_bitCount_0f7a4 : MethodName := ⟨RJ6, "bitCount", "(I)I"⟩
def RJ9 : String := "java/lang/Math"
def TJ9 : u_T := fun k => match k with
  | _ => ("", "", "", false)
def tyJ9 : Nat → FieldType := fun k => match k with
  | _ => .int
abbrev wsJ90 : List Cond := u_ws RJ9 TJ9 0
theorem nmJ9 : ∀ a, a < 0 → ∀ b, b < 0 → a ≠ b → (TJ9 a).2.1 ≠ (TJ9 b).2.1 := by decide +kernel
theorem tyJ9_ok : ∀ k, k < 0 → parseFieldDescriptor (TJ9 k).2.2.1 = some (tyJ9 k) := by decide +kernel
abbrev cJ9_abs_067f4 : ByteArray := prog_12_method_61_code
def yJ9_abs_067f4 : MethodName := ⟨RJ9, "abs", "(J)J"⟩
abbrev cJ9_max_7cf53 : ByteArray := prog_12_method_65_code
def yJ9_max_7cf53 : MethodName := ⟨RJ9, "max", "(II)I"⟩
abbrev cJ9_max_f86c9 : ByteArray := prog_12_method_66_code
def yJ9_max_f86c9 : MethodName := ⟨RJ9, "max", "(JJ)J"⟩
abbrev cJ9_min_7cf53 : ByteArray := prog_12_method_69_code
def yJ9_min_7cf53 : MethodName := ⟨RJ9, "min", "(II)I"⟩
def RJ0 : String := "java/lang/String"
def TJ0 : u_T := fun k => match k with
  | _ => ("", "", "", false)
def tyJ0 : Nat → FieldType := fun k => match k with
  | _ => .int
abbrev wsJ00 : List Cond := u_ws RJ0 TJ0 0
theorem nmJ0 : ∀ a, a < 0 → ∀ b, b < 0 → a ≠ b → (TJ0 a).2.1 ≠ (TJ0 b).2.1 := by decide +kernel
theorem tyJ0_ok : ∀ k, k < 0 → parseFieldDescriptor (TJ0 k).2.2.1 = some (tyJ0 k) := by decide +kernel
abbrev cJ0_length_8abf5 : ByteArray := prog_13_method_54_code
def yJ0_length_8abf5 : MethodName := ⟨RJ0, "length", "()I"⟩
abbrev cJ0_charAt_5068e : ByteArray := prog_13_method_56_code
def yJ0_charAt_5068e : MethodName := ⟨RJ0, "charAt", "(I)C"⟩
abbrev cJ0_coder_7d493 : ByteArray := prog_13_method_152_code
def yJ0_coder_7d493 : MethodName := ⟨RJ0, "coder", "()B"⟩
abbrev cJ0_isLatin1_aae02 : ByteArray := prog_13_method_154_code
def yJ0_isLatin1_aae02 : MethodName := ⟨RJ0, "isLatin1", "()Z"⟩
abbrev cJ0_checkIndex_df160 : ByteArray := prog_13_method_155_code
def yJ0_checkIndex_df160 : MethodName := ⟨RJ0, "checkIndex", "(II)V"⟩
def RJ1 : String := "java/lang/StringLatin1"
def TJ1 : u_T := fun k => match k with
  | _ => ("", "", "", false)
def tyJ1 : Nat → FieldType := fun k => match k with
  | _ => .int
abbrev wsJ10 : List Cond := u_ws RJ1 TJ1 0
theorem nmJ1 : ∀ a, a < 0 → ∀ b, b < 0 → a ≠ b → (TJ1 a).2.1 ≠ (TJ1 b).2.1 := by decide +kernel
theorem tyJ1_ok : ∀ k, k < 0 → parseFieldDescriptor (TJ1 k).2.2.1 = some (tyJ1 k) := by decide +kernel
abbrev cJ1_charAt_3b067 : ByteArray := prog_14_method_2_code
def yJ1_charAt_3b067 : MethodName := ⟨RJ1, "charAt", "([BI)C"⟩
def RJ2 : String := "java/lang/StringUTF16"
def TJ2 : u_T := fun k => match k with
  | _ => ("", "", "", false)
def tyJ2 : Nat → FieldType := fun k => match k with
  | _ => .int
abbrev wsJ20 : List Cond := u_ws RJ2 TJ2 0
theorem nmJ2 : ∀ a, a < 0 → ∀ b, b < 0 → a ≠ b → (TJ2 a).2.1 ≠ (TJ2 b).2.1 := by decide +kernel
theorem tyJ2_ok : ∀ k, k < 0 → parseFieldDescriptor (TJ2 k).2.2.1 = some (tyJ2 k) := by decide +kernel
abbrev cJ2_getChar_3b067 : ByteArray := prog_15_method_5_code
def yJ2_getChar_3b067 : MethodName := ⟨RJ2, "getChar", "([BI)C"⟩
abbrev cJ2_length_9d52b : ByteArray := prog_15_method_6_code
def yJ2_length_9d52b : MethodName := ⟨RJ2, "length", "([B)I"⟩
abbrev cJ2_charAt_3b067 : ByteArray := prog_15_method_83_code
def yJ2_charAt_3b067 : MethodName := ⟨RJ2, "charAt", "([BI)C"⟩
abbrev cJ2_checkIndex_2214a : ByteArray := prog_15_method_91_code
def yJ2_checkIndex_2214a : MethodName := ⟨RJ2, "checkIndex", "(I[B)V"⟩
def RJ10 : String := "java/lang/System"
def TJ10 : u_T := fun k => match k with
  | _ => ("", "", "", false)
def tyJ10 : Nat → FieldType := fun k => match k with
  | _ => .int
abbrev wsJ100 : List Cond := u_ws RJ10 TJ10 0
theorem nmJ10 : ∀ a, a < 0 → ∀ b, b < 0 → a ≠ b → (TJ10 a).2.1 ≠ (TJ10 b).2.1 := by decide +kernel
theorem tyJ10_ok : ∀ k, k < 0 → parseFieldDescriptor (TJ10 k).2.2.1 = some (tyJ10 k) := by decide +kernel
def RJ3 : String := "jdk/internal/util/Preconditions"
def TJ3 : u_T := fun k => match k with
  | _ => ("", "", "", false)
def tyJ3 : Nat → FieldType := fun k => match k with
  | _ => .int
abbrev wsJ30 : List Cond := u_ws RJ3 TJ3 0
theorem nmJ3 : ∀ a, a < 0 → ∀ b, b < 0 → a ≠ b → (TJ3 a).2.1 ≠ (TJ3 b).2.1 := by decide +kernel
theorem tyJ3_ok : ∀ k, k < 0 → parseFieldDescriptor (TJ3 k).2.2.1 = some (tyJ3 k) := by decide +kernel
abbrev cJ3_checkIndex_8e157 : ByteArray := prog_17_method_11_code
def yJ3_checkIndex_8e157 : MethodName := ⟨RJ3, "checkIndex", "(IILjava/util/function/BiFunction;)I"⟩
def RL : String := "ShapeReportsLaw"
abbrev cL_law : ByteArray := code
def yL_law : MethodName := ⟨RL, "law", "([I)Z"⟩
abbrev vwCl : List vw_C := [(RX0, TX0, 6), (RX1, TX1, 6), (RX2, TX2, 14), (RX3, TX3, 2), (RX4, TX4, 4), (RX5, TX5, 4), (RX7, TX7, 6), (RX8, TX8, 26)]
