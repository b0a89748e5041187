section
-- ===== PART A: goes FIRST, ahead of the names: the tables' words, and 'selects' of the private methods out of them =====
/-- a private method of a class that the tables say can be made, by its rows of tables_1 -/
def lw_okq (q : MethodName × Nat) : Prop := (q.1.cls ≠ "java/lang/invoke/MethodHandle" ∧ q.1.cls ≠ "java/lang/invoke/VarHandle") ∧ Cond.instantiable q.1.cls q.2 ∈ tables_1 ∧ Cond.privateMethod q.1 ∈ tables_1 ∧ Cond.instanceMethod q.1 ∈ tables_1
theorem lw_p0 : lw_okq (⟨"FounderSleeps", "sleepAnew", "()V"⟩, 18) := ⟨⟨by decide +kernel, by decide +kernel⟩, List.mem_of_getElem? (i := 21) (by decide +kernel), List.mem_of_getElem? (i := 233) (by decide +kernel), List.mem_of_getElem? (i := 234) (by decide +kernel)⟩
theorem lw_p1 : lw_okq (⟨"FounderSleeps$Reach", "leastBeside", "(LFounderSleeps$Town;I)I"⟩, 2) := ⟨⟨by decide +kernel, by decide +kernel⟩, List.mem_of_getElem? (i := 162) (by decide +kernel), List.mem_of_getElem? (i := 253) (by decide +kernel), List.mem_of_getElem? (i := 254) (by decide +kernel)⟩
theorem lw_p2 : lw_okq (⟨"FounderSleeps$Night", "doDeeds", "(LFounderSleeps$Deeds;II)I"⟩, 7) := ⟨⟨by decide +kernel, by decide +kernel⟩, List.mem_of_getElem? (i := 177) (by decide +kernel), List.mem_of_getElem? (i := 268) (by decide +kernel), List.mem_of_getElem? (i := 269) (by decide +kernel)⟩
theorem lw_p3 : lw_okq (⟨"FounderSleeps$Night", "exileBy", "(LFounderSleeps$Deeds;II)V"⟩, 7) := ⟨⟨by decide +kernel, by decide +kernel⟩, List.mem_of_getElem? (i := 177) (by decide +kernel), List.mem_of_getElem? (i := 276) (by decide +kernel), List.mem_of_getElem? (i := 277) (by decide +kernel)⟩
theorem lw_p4 : lw_okq (⟨"FounderSleeps", "textOf", "(I)LFounderSleeps$Text;"⟩, 18) := ⟨⟨by decide +kernel, by decide +kernel⟩, List.mem_of_getElem? (i := 21) (by decide +kernel), List.mem_of_getElem? (i := 343) (by decide +kernel), List.mem_of_getElem? (i := 344) (by decide +kernel)⟩
theorem lw_p5 : lw_okq (⟨"FounderSleeps", "readAnew", "(I)V"⟩, 18) := ⟨⟨by decide +kernel, by decide +kernel⟩, List.mem_of_getElem? (i := 21) (by decide +kernel), List.mem_of_getElem? (i := 355) (by decide +kernel), List.mem_of_getElem? (i := 356) (by decide +kernel)⟩
theorem lw_p6 : lw_okq (⟨"FounderSleeps$Town", "empty", "()V"⟩, 6) := ⟨⟨by decide +kernel, by decide +kernel⟩, List.mem_of_getElem? (i := 54) (by decide +kernel), List.mem_of_getElem? (i := 363) (by decide +kernel), List.mem_of_getElem? (i := 364) (by decide +kernel)⟩
theorem lw_p7 : lw_okq (⟨"FounderSleeps$Town", "place", "(LFounderSleeps$Text;)I"⟩, 6) := ⟨⟨by decide +kernel, by decide +kernel⟩, List.mem_of_getElem? (i := 54) (by decide +kernel), List.mem_of_getElem? (i := 367) (by decide +kernel), List.mem_of_getElem? (i := 368) (by decide +kernel)⟩
theorem lw_p8 : lw_okq (⟨"FounderSleeps$Town", "isTooShort", "(I)Z"⟩, 6) := ⟨⟨by decide +kernel, by decide +kernel⟩, List.mem_of_getElem? (i := 54) (by decide +kernel), List.mem_of_getElem? (i := 371) (by decide +kernel), List.mem_of_getElem? (i := 372) (by decide +kernel)⟩
theorem lw_p9 : lw_okq (⟨"FounderSleeps$Town", "mayStand", "(III)Z"⟩, 6) := ⟨⟨by decide +kernel, by decide +kernel⟩, List.mem_of_getElem? (i := 54) (by decide +kernel), List.mem_of_getElem? (i := 460) (by decide +kernel), List.mem_of_getElem? (i := 461) (by decide +kernel)⟩
theorem lw_p10 : lw_okq (⟨"FounderSleeps$Town", "add", "(I)V"⟩, 6) := ⟨⟨by decide +kernel, by decide +kernel⟩, List.mem_of_getElem? (i := 54) (by decide +kernel), List.mem_of_getElem? (i := 464) (by decide +kernel), List.mem_of_getElem? (i := 465) (by decide +kernel)⟩
theorem lw_p11 : lw_okq (⟨"FounderSleeps$Town", "link", "()V"⟩, 6) := ⟨⟨by decide +kernel, by decide +kernel⟩, List.mem_of_getElem? (i := 54) (by decide +kernel), List.mem_of_getElem? (i := 468) (by decide +kernel), List.mem_of_getElem? (i := 469) (by decide +kernel)⟩
theorem lw_p12 : lw_okq (⟨"FounderSleeps", "isNoDeed", "(I)Z"⟩, 18) := ⟨⟨by decide +kernel, by decide +kernel⟩, List.mem_of_getElem? (i := 21) (by decide +kernel), List.mem_of_getElem? (i := 517) (by decide +kernel), List.mem_of_getElem? (i := 518) (by decide +kernel)⟩
theorem lw_p13 : lw_okq (⟨"FounderSleeps", "find", "(I)I"⟩, 18) := ⟨⟨by decide +kernel, by decide +kernel⟩, List.mem_of_getElem? (i := 21) (by decide +kernel), List.mem_of_getElem? (i := 553) (by decide +kernel), List.mem_of_getElem? (i := 554) (by decide +kernel)⟩
theorem lw_p14 : lw_okq (⟨"FounderSleeps", "bestHourOf", "(I)I"⟩, 18) := ⟨⟨by decide +kernel, by decide +kernel⟩, List.mem_of_getElem? (i := 21) (by decide +kernel), List.mem_of_getElem? (i := 599) (by decide +kernel), List.mem_of_getElem? (i := 600) (by decide +kernel)⟩
theorem lw_p15 : lw_okq (⟨"FounderSleeps", "latenessAt", "(II)I"⟩, 18) := ⟨⟨by decide +kernel, by decide +kernel⟩, List.mem_of_getElem? (i := 21) (by decide +kernel), List.mem_of_getElem? (i := 603) (by decide +kernel), List.mem_of_getElem? (i := 604) (by decide +kernel)⟩
def lw_privs_1 : List (MethodName × Nat) := [(⟨"FounderSleeps", "sleepAnew", "()V"⟩, 18), (⟨"FounderSleeps$Reach", "leastBeside", "(LFounderSleeps$Town;I)I"⟩, 2), (⟨"FounderSleeps$Night", "doDeeds", "(LFounderSleeps$Deeds;II)I"⟩, 7), (⟨"FounderSleeps$Night", "exileBy", "(LFounderSleeps$Deeds;II)V"⟩, 7), (⟨"FounderSleeps", "textOf", "(I)LFounderSleeps$Text;"⟩, 18), (⟨"FounderSleeps", "readAnew", "(I)V"⟩, 18), (⟨"FounderSleeps$Town", "empty", "()V"⟩, 6), (⟨"FounderSleeps$Town", "place", "(LFounderSleeps$Text;)I"⟩, 6), (⟨"FounderSleeps$Town", "isTooShort", "(I)Z"⟩, 6), (⟨"FounderSleeps$Town", "mayStand", "(III)Z"⟩, 6), (⟨"FounderSleeps$Town", "add", "(I)V"⟩, 6), (⟨"FounderSleeps$Town", "link", "()V"⟩, 6), (⟨"FounderSleeps", "isNoDeed", "(I)Z"⟩, 18), (⟨"FounderSleeps", "find", "(I)I"⟩, 18), (⟨"FounderSleeps", "bestHourOf", "(I)I"⟩, 18), (⟨"FounderSleeps", "latenessAt", "(II)I"⟩, 18)]
theorem lw_r1 : ∀ q ∈ lw_privs_1, lw_okq q := List.forall_mem_cons.mpr ⟨lw_p0, List.forall_mem_cons.mpr ⟨lw_p1, List.forall_mem_cons.mpr ⟨lw_p2, List.forall_mem_cons.mpr ⟨lw_p3, List.forall_mem_cons.mpr ⟨lw_p4, List.forall_mem_cons.mpr ⟨lw_p5, List.forall_mem_cons.mpr ⟨lw_p6, List.forall_mem_cons.mpr ⟨lw_p7, List.forall_mem_cons.mpr ⟨lw_p8, List.forall_mem_cons.mpr ⟨lw_p9, List.forall_mem_cons.mpr ⟨lw_p10, List.forall_mem_cons.mpr ⟨lw_p11, List.forall_mem_cons.mpr ⟨lw_p12, List.forall_mem_cons.mpr ⟨lw_p13, List.forall_mem_cons.mpr ⟨lw_p14, List.forall_mem_cons.mpr ⟨lw_p15, fun _ h => absurd h List.not_mem_nil⟩⟩⟩⟩⟩⟩⟩⟩⟩⟩⟩⟩⟩⟩⟩⟩
theorem lw_p16 : lw_okq (⟨"FounderSleeps", "planFelt", "()V"⟩, 18) := ⟨⟨by decide +kernel, by decide +kernel⟩, List.mem_of_getElem? (i := 21) (by decide +kernel), List.mem_of_getElem? (i := 622) (by decide +kernel), List.mem_of_getElem? (i := 623) (by decide +kernel)⟩
theorem lw_p17 : lw_okq (⟨"FounderSleeps", "isStillWithOne", "()Z"⟩, 18) := ⟨⟨by decide +kernel, by decide +kernel⟩, List.mem_of_getElem? (i := 21) (by decide +kernel), List.mem_of_getElem? (i := 626) (by decide +kernel), List.mem_of_getElem? (i := 627) (by decide +kernel)⟩
theorem lw_p18 : lw_okq (⟨"FounderSleeps", "isStillWith", "(II)Z"⟩, 18) := ⟨⟨by decide +kernel, by decide +kernel⟩, List.mem_of_getElem? (i := 21) (by decide +kernel), List.mem_of_getElem? (i := 635) (by decide +kernel), List.mem_of_getElem? (i := 636) (by decide +kernel)⟩
theorem lw_p19 : lw_okq (⟨"FounderSleeps", "isStillWithTwo", "()Z"⟩, 18) := ⟨⟨by decide +kernel, by decide +kernel⟩, List.mem_of_getElem? (i := 21) (by decide +kernel), List.mem_of_getElem? (i := 643) (by decide +kernel), List.mem_of_getElem? (i := 644) (by decide +kernel)⟩
theorem lw_p20 : lw_okq (⟨"FounderSleeps", "bestBed", "()I"⟩, 18) := ⟨⟨by decide +kernel, by decide +kernel⟩, List.mem_of_getElem? (i := 21) (by decide +kernel), List.mem_of_getElem? (i := 651) (by decide +kernel), List.mem_of_getElem? (i := 652) (by decide +kernel)⟩
theorem lw_p21 : lw_okq (⟨"FounderSleeps", "latenessWithBed", "(I)I"⟩, 18) := ⟨⟨by decide +kernel, by decide +kernel⟩, List.mem_of_getElem? (i := 21) (by decide +kernel), List.mem_of_getElem? (i := 655) (by decide +kernel), List.mem_of_getElem? (i := 656) (by decide +kernel)⟩
theorem lw_p22 : lw_okq (⟨"FounderSleeps", "findPlaces", "(I)I"⟩, 18) := ⟨⟨by decide +kernel, by decide +kernel⟩, List.mem_of_getElem? (i := 21) (by decide +kernel), List.mem_of_getElem? (i := 685) (by decide +kernel), List.mem_of_getElem? (i := 686) (by decide +kernel)⟩
theorem lw_p23 : lw_okq (⟨"FounderSleeps", "mostAlike", "(II)I"⟩, 18) := ⟨⟨by decide +kernel, by decide +kernel⟩, List.mem_of_getElem? (i := 21) (by decide +kernel), List.mem_of_getElem? (i := 700) (by decide +kernel), List.mem_of_getElem? (i := 701) (by decide +kernel)⟩
theorem lw_p24 : lw_okq (⟨"FounderSleeps", "weightOfSleep", "(I)J"⟩, 18) := ⟨⟨by decide +kernel, by decide +kernel⟩, List.mem_of_getElem? (i := 21) (by decide +kernel), List.mem_of_getElem? (i := 710) (by decide +kernel), List.mem_of_getElem? (i := 711) (by decide +kernel)⟩
theorem lw_p25 : lw_okq (⟨"FounderSleeps", "weightOf", "(II)J"⟩, 18) := ⟨⟨by decide +kernel, by decide +kernel⟩, List.mem_of_getElem? (i := 21) (by decide +kernel), List.mem_of_getElem? (i := 714) (by decide +kernel), List.mem_of_getElem? (i := 715) (by decide +kernel)⟩
theorem lw_p26 : lw_okq (⟨"FounderSleeps", "drawDeeds", "(II)V"⟩, 18) := ⟨⟨by decide +kernel, by decide +kernel⟩, List.mem_of_getElem? (i := 21) (by decide +kernel), List.mem_of_getElem? (i := 724) (by decide +kernel), List.mem_of_getElem? (i := 725) (by decide +kernel)⟩
theorem lw_p27 : lw_okq (⟨"FounderSleeps", "refusalOfItem", "(III)I"⟩, 18) := ⟨⟨by decide +kernel, by decide +kernel⟩, List.mem_of_getElem? (i := 21) (by decide +kernel), List.mem_of_getElem? (i := 755) (by decide +kernel), List.mem_of_getElem? (i := 756) (by decide +kernel)⟩
theorem lw_p28 : lw_okq (⟨"FounderSleeps", "mixDeed", "(JI)J"⟩, 18) := ⟨⟨by decide +kernel, by decide +kernel⟩, List.mem_of_getElem? (i := 21) (by decide +kernel), List.mem_of_getElem? (i := 814) (by decide +kernel), List.mem_of_getElem? (i := 815) (by decide +kernel)⟩
theorem lw_p29 : lw_okq (⟨"FounderSleepsModel", "faultOf", "(I)I"⟩, 36) := ⟨⟨by decide +kernel, by decide +kernel⟩, List.mem_of_getElem? (i := 834) (by decide +kernel), List.mem_of_getElem? (i := 972) (by decide +kernel), List.mem_of_getElem? (i := 973) (by decide +kernel)⟩
theorem lw_p30 : lw_okq (⟨"FounderSleepsModel", "readsTown", "()I"⟩, 36) := ⟨⟨by decide +kernel, by decide +kernel⟩, List.mem_of_getElem? (i := 834) (by decide +kernel), List.mem_of_getElem? (i := 976) (by decide +kernel), List.mem_of_getElem? (i := 977) (by decide +kernel)⟩
theorem lw_p31 : lw_okq (⟨"FounderSleepsModel", "byteAt", "(II)I"⟩, 36) := ⟨⟨by decide +kernel, by decide +kernel⟩, List.mem_of_getElem? (i := 834) (by decide +kernel), List.mem_of_getElem? (i := 980) (by decide +kernel), List.mem_of_getElem? (i := 981) (by decide +kernel)⟩
def lw_privs_2 : List (MethodName × Nat) := [(⟨"FounderSleeps", "planFelt", "()V"⟩, 18), (⟨"FounderSleeps", "isStillWithOne", "()Z"⟩, 18), (⟨"FounderSleeps", "isStillWith", "(II)Z"⟩, 18), (⟨"FounderSleeps", "isStillWithTwo", "()Z"⟩, 18), (⟨"FounderSleeps", "bestBed", "()I"⟩, 18), (⟨"FounderSleeps", "latenessWithBed", "(I)I"⟩, 18), (⟨"FounderSleeps", "findPlaces", "(I)I"⟩, 18), (⟨"FounderSleeps", "mostAlike", "(II)I"⟩, 18), (⟨"FounderSleeps", "weightOfSleep", "(I)J"⟩, 18), (⟨"FounderSleeps", "weightOf", "(II)J"⟩, 18), (⟨"FounderSleeps", "drawDeeds", "(II)V"⟩, 18), (⟨"FounderSleeps", "refusalOfItem", "(III)I"⟩, 18), (⟨"FounderSleeps", "mixDeed", "(JI)J"⟩, 18), (⟨"FounderSleepsModel", "faultOf", "(I)I"⟩, 36), (⟨"FounderSleepsModel", "readsTown", "()I"⟩, 36), (⟨"FounderSleepsModel", "byteAt", "(II)I"⟩, 36)]
theorem lw_r2 : ∀ q ∈ lw_privs_2, lw_okq q := List.forall_mem_cons.mpr ⟨lw_p16, List.forall_mem_cons.mpr ⟨lw_p17, List.forall_mem_cons.mpr ⟨lw_p18, List.forall_mem_cons.mpr ⟨lw_p19, List.forall_mem_cons.mpr ⟨lw_p20, List.forall_mem_cons.mpr ⟨lw_p21, List.forall_mem_cons.mpr ⟨lw_p22, List.forall_mem_cons.mpr ⟨lw_p23, List.forall_mem_cons.mpr ⟨lw_p24, List.forall_mem_cons.mpr ⟨lw_p25, List.forall_mem_cons.mpr ⟨lw_p26, List.forall_mem_cons.mpr ⟨lw_p27, List.forall_mem_cons.mpr ⟨lw_p28, List.forall_mem_cons.mpr ⟨lw_p29, List.forall_mem_cons.mpr ⟨lw_p30, List.forall_mem_cons.mpr ⟨lw_p31, fun _ h => absurd h List.not_mem_nil⟩⟩⟩⟩⟩⟩⟩⟩⟩⟩⟩⟩⟩⟩⟩⟩
theorem lw_p32 : lw_okq (⟨"FounderSleepsModel", "readsDeeds", "()I"⟩, 36) := ⟨⟨by decide +kernel, by decide +kernel⟩, List.mem_of_getElem? (i := 834) (by decide +kernel), List.mem_of_getElem? (i := 987) (by decide +kernel), List.mem_of_getElem? (i := 988) (by decide +kernel)⟩
theorem lw_p33 : lw_okq (⟨"FounderSleepsModel", "readsDeed", "(II)I"⟩, 36) := ⟨⟨by decide +kernel, by decide +kernel⟩, List.mem_of_getElem? (i := 834) (by decide +kernel), List.mem_of_getElem? (i := 991) (by decide +kernel), List.mem_of_getElem? (i := 992) (by decide +kernel)⟩
theorem lw_p34 : lw_okq (⟨"FounderSleepsModel", "figureAt", "(II)I"⟩, 36) := ⟨⟨by decide +kernel, by decide +kernel⟩, List.mem_of_getElem? (i := 834) (by decide +kernel), List.mem_of_getElem? (i := 995) (by decide +kernel), List.mem_of_getElem? (i := 996) (by decide +kernel)⟩
theorem lw_p35 : lw_okq (⟨"FounderSleepsModel", "isCell", "(I)Z"⟩, 36) := ⟨⟨by decide +kernel, by decide +kernel⟩, List.mem_of_getElem? (i := 834) (by decide +kernel), List.mem_of_getElem? (i := 1003) (by decide +kernel), List.mem_of_getElem? (i := 1004) (by decide +kernel)⟩
theorem lw_p36 : lw_okq (⟨"FounderSleepsModel", "reads", "()V"⟩, 36) := ⟨⟨by decide +kernel, by decide +kernel⟩, List.mem_of_getElem? (i := 834) (by decide +kernel), List.mem_of_getElem? (i := 1007) (by decide +kernel), List.mem_of_getElem? (i := 1008) (by decide +kernel)⟩
theorem lw_p37 : lw_okq (⟨"FounderSleepsModel", "bedNow", "()I"⟩, 36) := ⟨⟨by decide +kernel, by decide +kernel⟩, List.mem_of_getElem? (i := 834) (by decide +kernel), List.mem_of_getElem? (i := 1015) (by decide +kernel), List.mem_of_getElem? (i := 1016) (by decide +kernel)⟩
theorem lw_p38 : lw_okq (⟨"FounderSleepsModel", "isDeed", "(I)Z"⟩, 36) := ⟨⟨by decide +kernel, by decide +kernel⟩, List.mem_of_getElem? (i := 834) (by decide +kernel), List.mem_of_getElem? (i := 1023) (by decide +kernel), List.mem_of_getElem? (i := 1024) (by decide +kernel)⟩
theorem lw_p39 : lw_okq (⟨"FounderSleepsModel", "deedOf", "(II)I"⟩, 36) := ⟨⟨by decide +kernel, by decide +kernel⟩, List.mem_of_getElem? (i := 834) (by decide +kernel), List.mem_of_getElem? (i := 1027) (by decide +kernel), List.mem_of_getElem? (i := 1028) (by decide +kernel)⟩
theorem lw_p40 : lw_okq (⟨"FounderSleepsModel", "meets", "(I)I"⟩, 36) := ⟨⟨by decide +kernel, by decide +kernel⟩, List.mem_of_getElem? (i := 834) (by decide +kernel), List.mem_of_getElem? (i := 1053) (by decide +kernel), List.mem_of_getElem? (i := 1054) (by decide +kernel)⟩
theorem lw_p41 : lw_okq (⟨"FounderSleepsModel", "carryOf", "(III)I"⟩, 36) := ⟨⟨by decide +kernel, by decide +kernel⟩, List.mem_of_getElem? (i := 834) (by decide +kernel), List.mem_of_getElem? (i := 1062) (by decide +kernel), List.mem_of_getElem? (i := 1063) (by decide +kernel)⟩
theorem lw_p42 : lw_okq (⟨"FounderSleepsModel", "carriesTo", "(I)V"⟩, 36) := ⟨⟨by decide +kernel, by decide +kernel⟩, List.mem_of_getElem? (i := 834) (by decide +kernel), List.mem_of_getElem? (i := 1066) (by decide +kernel), List.mem_of_getElem? (i := 1067) (by decide +kernel)⟩
theorem lw_p43 : lw_okq (⟨"FounderSleepsModel", "doesEase", "()Z"⟩, 36) := ⟨⟨by decide +kernel, by decide +kernel⟩, List.mem_of_getElem? (i := 834) (by decide +kernel), List.mem_of_getElem? (i := 1070) (by decide +kernel), List.mem_of_getElem? (i := 1071) (by decide +kernel)⟩
theorem lw_p44 : lw_okq (⟨"FounderSleepsModel", "beside", "(II)I"⟩, 36) := ⟨⟨by decide +kernel, by decide +kernel⟩, List.mem_of_getElem? (i := 834) (by decide +kernel), List.mem_of_getElem? (i := 1074) (by decide +kernel), List.mem_of_getElem? (i := 1075) (by decide +kernel)⟩
theorem lw_p45 : lw_okq (⟨"FounderSleepsModel", "into", "(I)I"⟩, 36) := ⟨⟨by decide +kernel, by decide +kernel⟩, List.mem_of_getElem? (i := 834) (by decide +kernel), List.mem_of_getElem? (i := 1078) (by decide +kernel), List.mem_of_getElem? (i := 1079) (by decide +kernel)⟩
theorem lw_p46 : lw_okq (⟨"FounderSleepsModel", "heardBy", "(II)I"⟩, 36) := ⟨⟨by decide +kernel, by decide +kernel⟩, List.mem_of_getElem? (i := 834) (by decide +kernel), List.mem_of_getElem? (i := 1086) (by decide +kernel), List.mem_of_getElem? (i := 1087) (by decide +kernel)⟩
theorem lw_p47 : lw_okq (⟨"FounderSleepsModel", "runsTold", "()V"⟩, 36) := ⟨⟨by decide +kernel, by decide +kernel⟩, List.mem_of_getElem? (i := 834) (by decide +kernel), List.mem_of_getElem? (i := 1090) (by decide +kernel), List.mem_of_getElem? (i := 1091) (by decide +kernel)⟩
def lw_privs_3 : List (MethodName × Nat) := [(⟨"FounderSleepsModel", "readsDeeds", "()I"⟩, 36), (⟨"FounderSleepsModel", "readsDeed", "(II)I"⟩, 36), (⟨"FounderSleepsModel", "figureAt", "(II)I"⟩, 36), (⟨"FounderSleepsModel", "isCell", "(I)Z"⟩, 36), (⟨"FounderSleepsModel", "reads", "()V"⟩, 36), (⟨"FounderSleepsModel", "bedNow", "()I"⟩, 36), (⟨"FounderSleepsModel", "isDeed", "(I)Z"⟩, 36), (⟨"FounderSleepsModel", "deedOf", "(II)I"⟩, 36), (⟨"FounderSleepsModel", "meets", "(I)I"⟩, 36), (⟨"FounderSleepsModel", "carryOf", "(III)I"⟩, 36), (⟨"FounderSleepsModel", "carriesTo", "(I)V"⟩, 36), (⟨"FounderSleepsModel", "doesEase", "()Z"⟩, 36), (⟨"FounderSleepsModel", "beside", "(II)I"⟩, 36), (⟨"FounderSleepsModel", "into", "(I)I"⟩, 36), (⟨"FounderSleepsModel", "heardBy", "(II)I"⟩, 36), (⟨"FounderSleepsModel", "runsTold", "()V"⟩, 36)]
theorem lw_r3 : ∀ q ∈ lw_privs_3, lw_okq q := List.forall_mem_cons.mpr ⟨lw_p32, List.forall_mem_cons.mpr ⟨lw_p33, List.forall_mem_cons.mpr ⟨lw_p34, List.forall_mem_cons.mpr ⟨lw_p35, List.forall_mem_cons.mpr ⟨lw_p36, List.forall_mem_cons.mpr ⟨lw_p37, List.forall_mem_cons.mpr ⟨lw_p38, List.forall_mem_cons.mpr ⟨lw_p39, List.forall_mem_cons.mpr ⟨lw_p40, List.forall_mem_cons.mpr ⟨lw_p41, List.forall_mem_cons.mpr ⟨lw_p42, List.forall_mem_cons.mpr ⟨lw_p43, List.forall_mem_cons.mpr ⟨lw_p44, List.forall_mem_cons.mpr ⟨lw_p45, List.forall_mem_cons.mpr ⟨lw_p46, List.forall_mem_cons.mpr ⟨lw_p47, fun _ h => absurd h List.not_mem_nil⟩⟩⟩⟩⟩⟩⟩⟩⟩⟩⟩⟩⟩⟩⟩⟩
theorem lw_p48 : lw_okq (⟨"FounderSleepsModel", "asTold", "()V"⟩, 36) := ⟨⟨by decide +kernel, by decide +kernel⟩, List.mem_of_getElem? (i := 834) (by decide +kernel), List.mem_of_getElem? (i := 1094) (by decide +kernel), List.mem_of_getElem? (i := 1095) (by decide +kernel)⟩
theorem lw_p49 : lw_okq (⟨"FounderSleepsModel", "runs", "()V"⟩, 36) := ⟨⟨by decide +kernel, by decide +kernel⟩, List.mem_of_getElem? (i := 834) (by decide +kernel), List.mem_of_getElem? (i := 1098) (by decide +kernel), List.mem_of_getElem? (i := 1099) (by decide +kernel)⟩
theorem lw_p50 : lw_okq (⟨"FounderSleepsModel", "lays", "()V"⟩, 36) := ⟨⟨by decide +kernel, by decide +kernel⟩, List.mem_of_getElem? (i := 834) (by decide +kernel), List.mem_of_getElem? (i := 1102) (by decide +kernel), List.mem_of_getElem? (i := 1103) (by decide +kernel)⟩
theorem lw_p51 : lw_okq (⟨"FounderSleepsModel", "sleepsOn", "()V"⟩, 36) := ⟨⟨by decide +kernel, by decide +kernel⟩, List.mem_of_getElem? (i := 834) (by decide +kernel), List.mem_of_getElem? (i := 1106) (by decide +kernel), List.mem_of_getElem? (i := 1107) (by decide +kernel)⟩
theorem lw_p52 : lw_okq (⟨"FounderSleepsModel", "hears", "()V"⟩, 36) := ⟨⟨by decide +kernel, by decide +kernel⟩, List.mem_of_getElem? (i := 834) (by decide +kernel), List.mem_of_getElem? (i := 1110) (by decide +kernel), List.mem_of_getElem? (i := 1111) (by decide +kernel)⟩
theorem lw_p53 : lw_okq (⟨"FounderSleepsModel", "noiseIn", "(I)I"⟩, 36) := ⟨⟨by decide +kernel, by decide +kernel⟩, List.mem_of_getElem? (i := 834) (by decide +kernel), List.mem_of_getElem? (i := 1117) (by decide +kernel), List.mem_of_getElem? (i := 1118) (by decide +kernel)⟩
theorem lw_p54 : lw_okq (⟨"FounderSleepsModel", "noiseOf", "(I)I"⟩, 36) := ⟨⟨by decide +kernel, by decide +kernel⟩, List.mem_of_getElem? (i := 834) (by decide +kernel), List.mem_of_getElem? (i := 1128) (by decide +kernel), List.mem_of_getElem? (i := 1129) (by decide +kernel)⟩
theorem lw_p55 : lw_okq (⟨"FounderSleepsModel", "depthOf", "(I)I"⟩, 36) := ⟨⟨by decide +kernel, by decide +kernel⟩, List.mem_of_getElem? (i := 834) (by decide +kernel), List.mem_of_getElem? (i := 1136) (by decide +kernel), List.mem_of_getElem? (i := 1137) (by decide +kernel)⟩
theorem lw_p56 : lw_okq (⟨"FounderSleepsModel", "wakesOf", "()I"⟩, 36) := ⟨⟨by decide +kernel, by decide +kernel⟩, List.mem_of_getElem? (i := 834) (by decide +kernel), List.mem_of_getElem? (i := 1144) (by decide +kernel), List.mem_of_getElem? (i := 1145) (by decide +kernel)⟩
theorem lw_p57 : lw_okq (⟨"FounderSleepsModel", "exiledOf", "(I)I"⟩, 36) := ⟨⟨by decide +kernel, by decide +kernel⟩, List.mem_of_getElem? (i := 834) (by decide +kernel), List.mem_of_getElem? (i := 1152) (by decide +kernel), List.mem_of_getElem? (i := 1153) (by decide +kernel)⟩
theorem lw_p58 : lw_okq (⟨"FounderSleepsModel", "loudestNow", "()I"⟩, 36) := ⟨⟨by decide +kernel, by decide +kernel⟩, List.mem_of_getElem? (i := 834) (by decide +kernel), List.mem_of_getElem? (i := 1160) (by decide +kernel), List.mem_of_getElem? (i := 1161) (by decide +kernel)⟩
theorem lw_p59 : lw_okq (⟨"FounderSleepsModel", "hourOf", "(II)I"⟩, 36) := ⟨⟨by decide +kernel, by decide +kernel⟩, List.mem_of_getElem? (i := 834) (by decide +kernel), List.mem_of_getElem? (i := 1168) (by decide +kernel), List.mem_of_getElem? (i := 1169) (by decide +kernel)⟩
theorem lw_p60 : lw_okq (⟨"FounderSleepsModel", "feltBy", "()I"⟩, 36) := ⟨⟨by decide +kernel, by decide +kernel⟩, List.mem_of_getElem? (i := 834) (by decide +kernel), List.mem_of_getElem? (i := 1176) (by decide +kernel), List.mem_of_getElem? (i := 1177) (by decide +kernel)⟩
theorem lw_p61 : lw_okq (⟨"FounderSleepsModel", "isStill", "(II)Z"⟩, 36) := ⟨⟨by decide +kernel, by decide +kernel⟩, List.mem_of_getElem? (i := 834) (by decide +kernel), List.mem_of_getElem? (i := 1180) (by decide +kernel), List.mem_of_getElem? (i := 1181) (by decide +kernel)⟩
theorem lw_p62 : lw_okq (⟨"FounderSleepsModel", "ofRow", "(II)I"⟩, 36) := ⟨⟨by decide +kernel, by decide +kernel⟩, List.mem_of_getElem? (i := 834) (by decide +kernel), List.mem_of_getElem? (i := 1184) (by decide +kernel), List.mem_of_getElem? (i := 1185) (by decide +kernel)⟩
theorem lw_p63 : lw_okq (⟨"FounderSleepsModel", "layOf", "(I)I"⟩, 36) := ⟨⟨by decide +kernel, by decide +kernel⟩, List.mem_of_getElem? (i := 834) (by decide +kernel), List.mem_of_getElem? (i := 1192) (by decide +kernel), List.mem_of_getElem? (i := 1193) (by decide +kernel)⟩
def lw_privs_4 : List (MethodName × Nat) := [(⟨"FounderSleepsModel", "asTold", "()V"⟩, 36), (⟨"FounderSleepsModel", "runs", "()V"⟩, 36), (⟨"FounderSleepsModel", "lays", "()V"⟩, 36), (⟨"FounderSleepsModel", "sleepsOn", "()V"⟩, 36), (⟨"FounderSleepsModel", "hears", "()V"⟩, 36), (⟨"FounderSleepsModel", "noiseIn", "(I)I"⟩, 36), (⟨"FounderSleepsModel", "noiseOf", "(I)I"⟩, 36), (⟨"FounderSleepsModel", "depthOf", "(I)I"⟩, 36), (⟨"FounderSleepsModel", "wakesOf", "()I"⟩, 36), (⟨"FounderSleepsModel", "exiledOf", "(I)I"⟩, 36), (⟨"FounderSleepsModel", "loudestNow", "()I"⟩, 36), (⟨"FounderSleepsModel", "hourOf", "(II)I"⟩, 36), (⟨"FounderSleepsModel", "feltBy", "()I"⟩, 36), (⟨"FounderSleepsModel", "isStill", "(II)Z"⟩, 36), (⟨"FounderSleepsModel", "ofRow", "(II)I"⟩, 36), (⟨"FounderSleepsModel", "layOf", "(I)I"⟩, 36)]
theorem lw_r4 : ∀ q ∈ lw_privs_4, lw_okq q := List.forall_mem_cons.mpr ⟨lw_p48, List.forall_mem_cons.mpr ⟨lw_p49, List.forall_mem_cons.mpr ⟨lw_p50, List.forall_mem_cons.mpr ⟨lw_p51, List.forall_mem_cons.mpr ⟨lw_p52, List.forall_mem_cons.mpr ⟨lw_p53, List.forall_mem_cons.mpr ⟨lw_p54, List.forall_mem_cons.mpr ⟨lw_p55, List.forall_mem_cons.mpr ⟨lw_p56, List.forall_mem_cons.mpr ⟨lw_p57, List.forall_mem_cons.mpr ⟨lw_p58, List.forall_mem_cons.mpr ⟨lw_p59, List.forall_mem_cons.mpr ⟨lw_p60, List.forall_mem_cons.mpr ⟨lw_p61, List.forall_mem_cons.mpr ⟨lw_p62, List.forall_mem_cons.mpr ⟨lw_p63, fun _ h => absurd h List.not_mem_nil⟩⟩⟩⟩⟩⟩⟩⟩⟩⟩⟩⟩⟩⟩⟩⟩
theorem lw_p64 : lw_okq (⟨"FounderSleepsModel", "wayOf", "(II)I"⟩, 36) := ⟨⟨by decide +kernel, by decide +kernel⟩, List.mem_of_getElem? (i := 834) (by decide +kernel), List.mem_of_getElem? (i := 1200) (by decide +kernel), List.mem_of_getElem? (i := 1201) (by decide +kernel)⟩
theorem lw_p65 : lw_okq (⟨"FounderSleepsModel", "doesShorten", "()Z"⟩, 36) := ⟨⟨by decide +kernel, by decide +kernel⟩, List.mem_of_getElem? (i := 834) (by decide +kernel), List.mem_of_getElem? (i := 1204) (by decide +kernel), List.mem_of_getElem? (i := 1205) (by decide +kernel)⟩
theorem lw_p66 : lw_okq (⟨"FounderSleepsModel", "neverNow", "()I"⟩, 36) := ⟨⟨by decide +kernel, by decide +kernel⟩, List.mem_of_getElem? (i := 834) (by decide +kernel), List.mem_of_getElem? (i := 1220) (by decide +kernel), List.mem_of_getElem? (i := 1221) (by decide +kernel)⟩
theorem lw_p67 : lw_okq (⟨"FounderSleepsModel", "isListened", "()Z"⟩, 36) := ⟨⟨by decide +kernel, by decide +kernel⟩, List.mem_of_getElem? (i := 834) (by decide +kernel), List.mem_of_getElem? (i := 1224) (by decide +kernel), List.mem_of_getElem? (i := 1225) (by decide +kernel)⟩
theorem lw_p68 : lw_okq (⟨"FounderSleepsModel", "whenceOf", "(II)I"⟩, 36) := ⟨⟨by decide +kernel, by decide +kernel⟩, List.mem_of_getElem? (i := 834) (by decide +kernel), List.mem_of_getElem? (i := 1232) (by decide +kernel), List.mem_of_getElem? (i := 1233) (by decide +kernel)⟩
theorem lw_p69 : lw_okq (⟨"FounderSleepsModel", "whences", "(I)I"⟩, 36) := ⟨⟨by decide +kernel, by decide +kernel⟩, List.mem_of_getElem? (i := 834) (by decide +kernel), List.mem_of_getElem? (i := 1236) (by decide +kernel), List.mem_of_getElem? (i := 1237) (by decide +kernel)⟩
theorem lw_p70 : lw_okq (⟨"FounderSleepsModel", "whatOf", "(I)I"⟩, 36) := ⟨⟨by decide +kernel, by decide +kernel⟩, List.mem_of_getElem? (i := 834) (by decide +kernel), List.mem_of_getElem? (i := 1244) (by decide +kernel), List.mem_of_getElem? (i := 1245) (by decide +kernel)⟩
theorem lw_p71 : lw_okq (⟨"FounderSleepsModel", "askOf", "(I)I"⟩, 36) := ⟨⟨by decide +kernel, by decide +kernel⟩, List.mem_of_getElem? (i := 834) (by decide +kernel), List.mem_of_getElem? (i := 1252) (by decide +kernel), List.mem_of_getElem? (i := 1253) (by decide +kernel)⟩
theorem lw_p72 : lw_okq (⟨"FounderSleepsModel", "sleepsBy", "(II)J"⟩, 36) := ⟨⟨by decide +kernel, by decide +kernel⟩, List.mem_of_getElem? (i := 834) (by decide +kernel), List.mem_of_getElem? (i := 1260) (by decide +kernel), List.mem_of_getElem? (i := 1261) (by decide +kernel)⟩
theorem lw_p73 : lw_okq (⟨"FounderSleepsModel", "dayOf", "(III)I"⟩, 36) := ⟨⟨by decide +kernel, by decide +kernel⟩, List.mem_of_getElem? (i := 834) (by decide +kernel), List.mem_of_getElem? (i := 1275) (by decide +kernel), List.mem_of_getElem? (i := 1276) (by decide +kernel)⟩
theorem lw_p74 : lw_okq (⟨"FounderSleepsModel", "exiledMany", "()I"⟩, 36) := ⟨⟨by decide +kernel, by decide +kernel⟩, List.mem_of_getElem? (i := 834) (by decide +kernel), List.mem_of_getElem? (i := 1280) (by decide +kernel), List.mem_of_getElem? (i := 1281) (by decide +kernel)⟩
theorem lw_p75 : lw_okq (⟨"FounderSleepsModel", "lacks", "(III)I"⟩, 36) := ⟨⟨by decide +kernel, by decide +kernel⟩, List.mem_of_getElem? (i := 834) (by decide +kernel), List.mem_of_getElem? (i := 1296) (by decide +kernel), List.mem_of_getElem? (i := 1297) (by decide +kernel)⟩
theorem lw_p76 : lw_okq (⟨"FounderSleepsModel", "keep", "(III)V"⟩, 36) := ⟨⟨by decide +kernel, by decide +kernel⟩, List.mem_of_getElem? (i := 834) (by decide +kernel), List.mem_of_getElem? (i := 1300) (by decide +kernel), List.mem_of_getElem? (i := 1301) (by decide +kernel)⟩
theorem lw_p77 : lw_okq (⟨"FounderSleepsModel", "sumOf", "(I)I"⟩, 36) := ⟨⟨by decide +kernel, by decide +kernel⟩, List.mem_of_getElem? (i := 834) (by decide +kernel), List.mem_of_getElem? (i := 1321) (by decide +kernel), List.mem_of_getElem? (i := 1322) (by decide +kernel)⟩
theorem lw_p78 : lw_okq (⟨"FounderSleepsModel", "doneMany", "()I"⟩, 36) := ⟨⟨by decide +kernel, by decide +kernel⟩, List.mem_of_getElem? (i := 834) (by decide +kernel), List.mem_of_getElem? (i := 1325) (by decide +kernel), List.mem_of_getElem? (i := 1326) (by decide +kernel)⟩
theorem lw_p79 : lw_okq (⟨"FounderSleepsModel", "deedDigest", "(JI)J"⟩, 36) := ⟨⟨by decide +kernel, by decide +kernel⟩, List.mem_of_getElem? (i := 834) (by decide +kernel), List.mem_of_getElem? (i := 1336) (by decide +kernel), List.mem_of_getElem? (i := 1337) (by decide +kernel)⟩
def lw_privs_5 : List (MethodName × Nat) := [(⟨"FounderSleepsModel", "wayOf", "(II)I"⟩, 36), (⟨"FounderSleepsModel", "doesShorten", "()Z"⟩, 36), (⟨"FounderSleepsModel", "neverNow", "()I"⟩, 36), (⟨"FounderSleepsModel", "isListened", "()Z"⟩, 36), (⟨"FounderSleepsModel", "whenceOf", "(II)I"⟩, 36), (⟨"FounderSleepsModel", "whences", "(I)I"⟩, 36), (⟨"FounderSleepsModel", "whatOf", "(I)I"⟩, 36), (⟨"FounderSleepsModel", "askOf", "(I)I"⟩, 36), (⟨"FounderSleepsModel", "sleepsBy", "(II)J"⟩, 36), (⟨"FounderSleepsModel", "dayOf", "(III)I"⟩, 36), (⟨"FounderSleepsModel", "exiledMany", "()I"⟩, 36), (⟨"FounderSleepsModel", "lacks", "(III)I"⟩, 36), (⟨"FounderSleepsModel", "keep", "(III)V"⟩, 36), (⟨"FounderSleepsModel", "sumOf", "(I)I"⟩, 36), (⟨"FounderSleepsModel", "doneMany", "()I"⟩, 36), (⟨"FounderSleepsModel", "deedDigest", "(JI)J"⟩, 36)]
theorem lw_r5 : ∀ q ∈ lw_privs_5, lw_okq q := List.forall_mem_cons.mpr ⟨lw_p64, List.forall_mem_cons.mpr ⟨lw_p65, List.forall_mem_cons.mpr ⟨lw_p66, List.forall_mem_cons.mpr ⟨lw_p67, List.forall_mem_cons.mpr ⟨lw_p68, List.forall_mem_cons.mpr ⟨lw_p69, List.forall_mem_cons.mpr ⟨lw_p70, List.forall_mem_cons.mpr ⟨lw_p71, List.forall_mem_cons.mpr ⟨lw_p72, List.forall_mem_cons.mpr ⟨lw_p73, List.forall_mem_cons.mpr ⟨lw_p74, List.forall_mem_cons.mpr ⟨lw_p75, List.forall_mem_cons.mpr ⟨lw_p76, List.forall_mem_cons.mpr ⟨lw_p77, List.forall_mem_cons.mpr ⟨lw_p78, List.forall_mem_cons.mpr ⟨lw_p79, fun _ h => absurd h List.not_mem_nil⟩⟩⟩⟩⟩⟩⟩⟩⟩⟩⟩⟩⟩⟩⟩⟩
def lw_privs : List (MethodName × Nat) := lw_privs_1 ++ (lw_privs_2 ++ (lw_privs_3 ++ (lw_privs_4 ++ (lw_privs_5))))
def lw_tbl : List Cond := k2_sels lw_privs ++ tables_1
theorem lw_privs_ok : ∀ q ∈ lw_privs, lw_okq q := by
  show ∀ q ∈ lw_privs_1 ++ (lw_privs_2 ++ (lw_privs_3 ++ (lw_privs_4 ++ (lw_privs_5)))), lw_okq q
  exact List.forall_mem_append.mpr ⟨lw_r1, List.forall_mem_append.mpr ⟨lw_r2, List.forall_mem_append.mpr ⟨lw_r3, List.forall_mem_append.mpr ⟨lw_r4, lw_r5⟩⟩⟩⟩
end
section
def RX0 : String := "FounderSleeps$Deeds"
def TX0 : u_T := fun k => match k with
  | 0 => ("FounderSleeps$Deeds", "places", "[I", true)
  | 1 => ("FounderSleeps$Deeds", "kinds", "[I", true)
  | 2 => ("FounderSleeps$Deeds", "hours", "[I", true)
  | 3 => ("FounderSleeps$Deeds", "size", "I", false)
  | _ => ("FounderSleeps$Deeds", "faultAt", "I", false)
def tyX0 : Nat → FieldType := fun k => match k with
  | 0 => .array .int
  | 1 => .array .int
  | 2 => .array .int
  | 3 => .int
  | _ => .int
theorem nmX0 : ∀ a, a < 5 → ∀ b, b < 5 → a ≠ b → (TX0 a).2.1 ≠ (TX0 b).2.1 := by decide +kernel
theorem tyX0_ok : ∀ k, k < 5 → parseFieldDescriptor (TX0 k).2.2.1 = some (tyX0 k) := by decide +kernel
def RX1 : String := "FounderSleeps$Law"
def TX1 : u_T := fun k => match k with
  | 0 => ("FounderSleeps$Law", "thunders", "LFounderSleeps$Log;", true)
  | 1 => ("FounderSleeps$Law", "depth", "I", false)
  | _ => ("FounderSleeps$Law", "charter", "I", false)
def tyX1 : Nat → FieldType := fun k => match k with
  | 0 => .object "FounderSleeps$Log"
  | 1 => .int
  | _ => .int
theorem nmX1 : ∀ a, a < 3 → ∀ b, b < 3 → a ≠ b → (TX1 a).2.1 ≠ (TX1 b).2.1 := by decide +kernel
theorem tyX1_ok : ∀ k, k < 3 → parseFieldDescriptor (TX1 k).2.2.1 = some (tyX1 k) := by decide +kernel
def RX2 : String := "FounderSleeps$Log"
def TX2 : u_T := fun k => match k with
  | 0 => ("FounderSleeps$Log", "hours", "[I", true)
  | 1 => ("FounderSleeps$Log", "much", "[I", true)
  | 2 => ("FounderSleeps$Log", "most", "I", true)
  | _ => ("FounderSleeps$Log", "size", "I", false)
def tyX2 : Nat → FieldType := fun k => match k with
  | 0 => .array .int
  | 1 => .array .int
  | 2 => .int
  | _ => .int
theorem nmX2 : ∀ a, a < 4 → ∀ b, b < 4 → a ≠ b → (TX2 a).2.1 ≠ (TX2 b).2.1 := by decide +kernel
theorem tyX2_ok : ∀ k, k < 4 → parseFieldDescriptor (TX2 k).2.2.1 = some (tyX2 k) := by decide +kernel
def RX3 : String := "FounderSleeps$Night"
def TX3 : u_T := fun k => match k with
  | 0 => ("FounderSleeps$Night", "law", "LFounderSleeps$Law;", true)
  | 1 => ("FounderSleeps$Night", "noises", "[I", true)
  | 2 => ("FounderSleeps$Night", "depths", "[I", true)
  | 3 => ("FounderSleeps$Night", "shares", "[I", true)
  | 4 => ("FounderSleeps$Night", "fates", "[I", true)
  | 5 => ("FounderSleeps$Night", "wakeHour", "I", false)
  | _ => ("FounderSleeps$Night", "exiles", "J", false)
def tyX3 : Nat → FieldType := fun k => match k with
  | 0 => .object "FounderSleeps$Law"
  | 1 => .array .int
  | 2 => .array .int
  | 3 => .array .int
  | 4 => .array .int
  | 5 => .int
  | _ => .long
theorem nmX3 : ∀ a, a < 7 → ∀ b, b < 7 → a ≠ b → (TX3 a).2.1 ≠ (TX3 b).2.1 := by decide +kernel
theorem tyX3_ok : ∀ k, k < 7 → parseFieldDescriptor (TX3 k).2.2.1 = some (tyX3 k) := by decide +kernel
def RX4 : String := "FounderSleeps$Reach"
def TX4 : u_T := fun k => match k with
  | 0 => ("FounderSleeps$Reach", "tolls", "[I", true)
  | _ => ("FounderSleeps$Reach", "lost", "[I", true)
def tyX4 : Nat → FieldType := fun k => match k with
  | 0 => .array .int
  | _ => .array .int
theorem nmX4 : ∀ a, a < 2 → ∀ b, b < 2 → a ≠ b → (TX4 a).2.1 ≠ (TX4 b).2.1 := by decide +kernel
theorem tyX4_ok : ∀ k, k < 2 → parseFieldDescriptor (TX4 k).2.2.1 = some (tyX4 k) := by decide +kernel
def RX5 : String := "FounderSleeps$Sheets"
def TX5 : u_T := fun k => match k with
  | 0 => ("FounderSleeps$Sheets", "forms", "[I", true)
  | 1 => ("FounderSleeps$Sheets", "sizes", "[I", true)
  | _ => ("FounderSleeps$Sheets", "items", "[I", true)
def tyX5 : Nat → FieldType := fun k => match k with
  | 0 => .array .int
  | 1 => .array .int
  | _ => .array .int
theorem nmX5 : ∀ a, a < 3 → ∀ b, b < 3 → a ≠ b → (TX5 a).2.1 ≠ (TX5 b).2.1 := by decide +kernel
theorem tyX5_ok : ∀ k, k < 3 → parseFieldDescriptor (TX5 k).2.2.1 = some (tyX5 k) := by decide +kernel
def RX6 : String := "FounderSleeps$Text"
def TX6 : u_T := fun k => match k with
  | 0 => ("FounderSleeps$Text", "bytes", "[I", true)
  | 1 => ("FounderSleeps$Text", "most", "I", true)
  | _ => ("FounderSleeps$Text", "size", "I", false)
def tyX6 : Nat → FieldType := fun k => match k with
  | 0 => .array .int
  | 1 => .int
  | _ => .int
theorem nmX6 : ∀ a, a < 3 → ∀ b, b < 3 → a ≠ b → (TX6 a).2.1 ≠ (TX6 b).2.1 := by decide +kernel
theorem tyX6_ok : ∀ k, k < 3 → parseFieldDescriptor (TX6 k).2.2.1 = some (tyX6 k) := by decide +kernel
def RX7 : String := "FounderSleeps$Town"
def TX7 : u_T := fun k => match k with
  | 0 => ("FounderSleeps$Town", "kinds", "[I", true)
  | 1 => ("FounderSleeps$Town", "beside", "[I", true)
  | 2 => ("FounderSleeps$Town", "cells", "I", false)
  | 3 => ("FounderSleeps$Town", "width", "I", false)
  | 4 => ("FounderSleeps$Town", "bedCell", "I", false)
  | _ => ("FounderSleeps$Town", "faultAt", "I", false)
def tyX7 : Nat → FieldType := fun k => match k with
  | 0 => .array .int
  | 1 => .array .int
  | 2 => .int
  | 3 => .int
  | 4 => .int
  | _ => .int
theorem nmX7 : ∀ a, a < 6 → ∀ b, b < 6 → a ≠ b → (TX7 a).2.1 ≠ (TX7 b).2.1 := by decide +kernel
theorem tyX7_ok : ∀ k, k < 6 → parseFieldDescriptor (TX7 k).2.2.1 = some (tyX7 k) := by decide +kernel
def RX8 : String := "FounderSleeps"
def TX8 : u_T := fun k => match k with
  | 0 => ("FounderSleeps", "townText", "LFounderSleeps$Text;", true)
  | 1 => ("FounderSleeps", "deedText", "LFounderSleeps$Text;", true)
  | 2 => ("FounderSleeps", "town", "LFounderSleeps$Town;", true)
  | 3 => ("FounderSleeps", "told", "LFounderSleeps$Deeds;", true)
  | 4 => ("FounderSleeps", "law", "LFounderSleeps$Law;", true)
  | 5 => ("FounderSleeps", "ears", "LFounderSleeps$Log;", true)
  | 6 => ("FounderSleeps", "toBed", "LFounderSleeps$Reach;", true)
  | 7 => ("FounderSleeps", "night", "LFounderSleeps$Night;", true)
  | 8 => ("FounderSleeps", "tried", "LFounderSleeps$Deeds;", true)
  | 9 => ("FounderSleeps", "triedReach", "LFounderSleeps$Reach;", true)
  | 10 => ("FounderSleeps", "triedNight", "LFounderSleeps$Night;", true)
  | 11 => ("FounderSleeps", "places", "[I", true)
  | 12 => ("FounderSleeps", "placeNoises", "[I", true)
  | 13 => ("FounderSleeps", "laid", "[I", true)
  | 14 => ("FounderSleeps", "feltNeeded", "I", false)
  | 15 => ("FounderSleeps", "feltIsPlanned", "Z", false)
  | 16 => ("FounderSleeps", "sheets", "LFounderSleeps$Sheets;", true)
  | _ => ("FounderSleeps", "latestFinding", "I", false)
def tyX8 : Nat → FieldType := fun k => match k with
  | 0 => .object "FounderSleeps$Text"
  | 1 => .object "FounderSleeps$Text"
  | 2 => .object "FounderSleeps$Town"
  | 3 => .object "FounderSleeps$Deeds"
  | 4 => .object "FounderSleeps$Law"
  | 5 => .object "FounderSleeps$Log"
  | 6 => .object "FounderSleeps$Reach"
  | 7 => .object "FounderSleeps$Night"
  | 8 => .object "FounderSleeps$Deeds"
  | 9 => .object "FounderSleeps$Reach"
  | 10 => .object "FounderSleeps$Night"
  | 11 => .array .int
  | 12 => .array .int
  | 13 => .array .int
  | 14 => .int
  | 15 => .boolean
  | 16 => .object "FounderSleeps$Sheets"
  | _ => .int
theorem nmX8 : ∀ a, a < 18 → ∀ b, b < 18 → a ≠ b → (TX8 a).2.1 ≠ (TX8 b).2.1 := by decide +kernel
theorem tyX8_ok : ∀ k, k < 18 → parseFieldDescriptor (TX8 k).2.2.1 = some (tyX8 k) := by decide +kernel
def RX9 : String := "FounderSleepsModel"
def TX9 : u_T := fun k => match k with
  | 0 => ("FounderSleepsModel", "typed", "[I", true)
  | 1 => ("FounderSleepsModel", "texts", "[I", true)
  | 2 => ("FounderSleepsModel", "wide", "I", false)
  | 3 => ("FounderSleepsModel", "cells", "I", false)
  | 4 => ("FounderSleepsModel", "kinds", "[I", true)
  | 5 => ("FounderSleepsModel", "deeds", "I", false)
  | 6 => ("FounderSleepsModel", "places", "[I", true)
  | 7 => ("FounderSleepsModel", "acts", "[I", true)
  | 8 => ("FounderSleepsModel", "hours", "[I", true)
  | 9 => ("FounderSleepsModel", "depthTold", "I", false)
  | 10 => ("FounderSleepsModel", "charterTold", "I", false)
  | 11 => ("FounderSleepsModel", "thunders", "I", false)
  | 12 => ("FounderSleepsModel", "thunderHour", "[I", true)
  | 13 => ("FounderSleepsModel", "thunderLoud", "[I", true)
  | 14 => ("FounderSleepsModel", "takes", "[I", true)
  | 15 => ("FounderSleepsModel", "notDeeds", "I", false)
  | 16 => ("FounderSleepsModel", "heardOf", "[I", true)
  | 17 => ("FounderSleepsModel", "comes", "[I", true)
  | 18 => ("FounderSleepsModel", "noises", "[I", true)
  | 19 => ("FounderSleepsModel", "depths", "[I", true)
  | 20 => ("FounderSleepsModel", "wakesAt", "I", false)
  | 21 => ("FounderSleepsModel", "isExiled", "[Z", true)
  | 22 => ("FounderSleepsModel", "planRow", "[I", true)
  | 23 => ("FounderSleepsModel", "cartAt", "[I", true)
  | 24 => ("FounderSleepsModel", "wayTo", "[I", true)
  | 25 => ("FounderSleepsModel", "tales", "I", false)
  | 26 => ("FounderSleepsModel", "taleHour", "[I", true)
  | 27 => ("FounderSleepsModel", "taleMuch", "[I", true)
  | 28 => ("FounderSleepsModel", "mayBe", "[Z", true)
  | 29 => ("FounderSleepsModel", "noiseBy", "[I", true)
  | 30 => ("FounderSleepsModel", "isThere", "[Z", true)
  | 31 => ("FounderSleepsModel", "forms", "[I", true)
  | 32 => ("FounderSleepsModel", "sizes", "[I", true)
  | 33 => ("FounderSleepsModel", "items", "[I", true)
  | 34 => ("FounderSleepsModel", "moved", "[I", true)
  | _ => ("FounderSleepsModel", "finding", "I", false)
def tyX9 : Nat → FieldType := fun k => match k with
  | 0 => .array .int
  | 1 => .array .int
  | 2 => .int
  | 3 => .int
  | 4 => .array .int
  | 5 => .int
  | 6 => .array .int
  | 7 => .array .int
  | 8 => .array .int
  | 9 => .int
  | 10 => .int
  | 11 => .int
  | 12 => .array .int
  | 13 => .array .int
  | 14 => .array .int
  | 15 => .int
  | 16 => .array .int
  | 17 => .array .int
  | 18 => .array .int
  | 19 => .array .int
  | 20 => .int
  | 21 => .array .boolean
  | 22 => .array .int
  | 23 => .array .int
  | 24 => .array .int
  | 25 => .int
  | 26 => .array .int
  | 27 => .array .int
  | 28 => .array .boolean
  | 29 => .array .int
  | 30 => .array .boolean
  | 31 => .array .int
  | 32 => .array .int
  | 33 => .array .int
  | 34 => .array .int
  | _ => .int
theorem nmX9 : ∀ a, a < 36 → ∀ b, b < 36 → a ≠ b → (TX9 a).2.1 ≠ (TX9 b).2.1 := by decide +kernel
theorem tyX9_ok : ∀ k, k < 36 → parseFieldDescriptor (TX9 k).2.2.1 = some (tyX9 k) := by decide +kernel
def RJ7 : String := "java/util/Arrays"
def RJ13 : String := "java/lang/Long"
def RJ0 : String := "java/lang/String"
def RJ1 : String := "java/lang/StringLatin1"
def RJ9 : String := "java/lang/Math"
abbrev vwCl : List vw_C := [(RX0, TX0, 5), (RX1, TX1, 3), (RX2, TX2, 4), (RX3, TX3, 7), (RX4, TX4, 2), (RX5, TX5, 3), (RX6, TX6, 3), (RX7, TX7, 6), (RX8, TX8, 18), (RX9, TX9, 36)]
set_option maxRecDepth 100000 in
theorem inX0 : ∀ w ∈ u_ws RX0 TX0 5, w ∈ lw_tbl := by
  intro w hw
  have h : u_ws RX0 TX0 5 = [185, 187, 189, 191, 193].filterMap (fun i => lw_tbl[i]?) := rfl
  rw [h] at hw
  obtain ⟨i, -, hi⟩ := List.mem_filterMap.mp hw
  exact List.mem_of_getElem? hi
set_option maxRecDepth 100000 in
theorem inX1 : ∀ w ∈ u_ws RX1 TX1 3, w ∈ lw_tbl := by
  intro w hw
  have h : u_ws RX1 TX1 3 = [232, 234, 236].filterMap (fun i => lw_tbl[i]?) := rfl
  rw [h] at hw
  obtain ⟨i, -, hi⟩ := List.mem_filterMap.mp hw
  exact List.mem_of_getElem? hi
set_option maxRecDepth 100000 in
theorem inX2 : ∀ w ∈ u_ws RX2 TX2 4, w ∈ lw_tbl := by
  intro w hw
  have h : u_ws RX2 TX2 4 = [214, 216, 218, 220].filterMap (fun i => lw_tbl[i]?) := rfl
  rw [h] at hw
  obtain ⟨i, -, hi⟩ := List.mem_filterMap.mp hw
  exact List.mem_of_getElem? hi
set_option maxRecDepth 100000 in
theorem inX3 : ∀ w ∈ u_ws RX3 TX3 7, w ∈ lw_tbl := by
  intro w hw
  have h : u_ws RX3 TX3 7 = [276, 278, 280, 282, 284, 286, 288].filterMap (fun i => lw_tbl[i]?) := rfl
  rw [h] at hw
  obtain ⟨i, -, hi⟩ := List.mem_filterMap.mp hw
  exact List.mem_of_getElem? hi
set_option maxRecDepth 100000 in
theorem inX4 : ∀ w ∈ u_ws RX4 TX4 2, w ∈ lw_tbl := by
  intro w hw
  have h : u_ws RX4 TX4 2 = [251, 253].filterMap (fun i => lw_tbl[i]?) := rfl
  rw [h] at hw
  obtain ⟨i, -, hi⟩ := List.mem_filterMap.mp hw
  exact List.mem_of_getElem? hi
set_option maxRecDepth 100000 in
theorem inX5 : ∀ w ∈ u_ws RX5 TX5 3, w ∈ lw_tbl := by
  intro w hw
  have h : u_ws RX5 TX5 3 = [305, 307, 309].filterMap (fun i => lw_tbl[i]?) := rfl
  rw [h] at hw
  obtain ⟨i, -, hi⟩ := List.mem_filterMap.mp hw
  exact List.mem_of_getElem? hi
set_option maxRecDepth 100000 in
theorem inX6 : ∀ w ∈ u_ws RX6 TX6 3, w ∈ lw_tbl := by
  intro w hw
  have h : u_ws RX6 TX6 3 = [125, 127, 129].filterMap (fun i => lw_tbl[i]?) := rfl
  rw [h] at hw
  obtain ⟨i, -, hi⟩ := List.mem_filterMap.mp hw
  exact List.mem_of_getElem? hi
set_option maxRecDepth 100000 in
theorem inX7 : ∀ w ∈ u_ws RX7 TX7 6, w ∈ lw_tbl := by
  intro w hw
  have h : u_ws RX7 TX7 6 = [152, 154, 156, 158, 160, 162].filterMap (fun i => lw_tbl[i]?) := rfl
  rw [h] at hw
  obtain ⟨i, -, hi⟩ := List.mem_filterMap.mp hw
  exact List.mem_of_getElem? hi
set_option maxRecDepth 100000 in
theorem inX8 : ∀ w ∈ u_ws RX8 TX8 18, w ∈ lw_tbl := by
  intro w hw
  have h : u_ws RX8 TX8 18 = [378, 380, 382, 384, 386, 388, 390, 392, 394, 396, 398, 400, 402, 404, 406, 408, 410, 412].filterMap (fun i => lw_tbl[i]?) := rfl
  rw [h] at hw
  obtain ⟨i, -, hi⟩ := List.mem_filterMap.mp hw
  exact List.mem_of_getElem? hi
set_option maxRecDepth 100000 in
theorem inX9 : ∀ w ∈ u_ws RX9 TX9 36, w ∈ lw_tbl := by
  intro w hw
  have h : u_ws RX9 TX9 36 = [955, 957, 959, 961, 963, 965, 967, 969, 971, 973, 975, 977, 979, 981, 983, 985, 987, 989, 991, 993, 995, 997, 999, 1001, 1003, 1005, 1007, 1009, 1011, 1013, 1015, 1017, 1019, 1021, 1023, 1025].filterMap (fun i => lw_tbl[i]?) := rfl
  rw [h] at hw
  obtain ⟨i, -, hi⟩ := List.mem_filterMap.mp hw
  exact List.mem_of_getElem? hi
abbrev cX0_readFrom : ByteArray := prog_2_method_2_code
def yX0_readFrom : MethodName := ⟨RX0, "readFrom", "(LFounderSleeps$Text;)V"⟩
abbrev cX0_figure : ByteArray := prog_2_method_3_code
def yX0_figure : MethodName := ⟨RX0, "figure", "(LFounderSleeps$Text;I)I"⟩
abbrev cX0_faultOf : ByteArray := prog_2_method_4_code
def yX0_faultOf : MethodName := ⟨RX0, "faultOf", "(LFounderSleeps$Text;)I"⟩
abbrev cX0_mayStand : ByteArray := prog_2_method_5_code
def yX0_mayStand : MethodName := ⟨RX0, "mayStand", "(II)Z"⟩
abbrev cX0_add : ByteArray := prog_2_method_6_code
def yX0_add : MethodName := ⟨RX0, "add", "(III)V"⟩
abbrev cX0_takeFrom : ByteArray := prog_2_method_7_code
def yX0_takeFrom : MethodName := ⟨RX0, "takeFrom", "(LFounderSleeps$Deeds;)V"⟩
abbrev cX2_isFull : ByteArray := prog_4_method_2_code
def yX2_isFull : MethodName := ⟨RX2, "isFull", "()Z"⟩
abbrev cX2_add : ByteArray := prog_4_method_3_code
def yX2_add : MethodName := ⟨RX2, "add", "(II)V"⟩
abbrev cX2_sumIn : ByteArray := prog_4_method_4_code
def yX2_sumIn : MethodName := ⟨RX2, "sumIn", "(I)I"⟩
abbrev cX2_agreesWith : ByteArray := prog_4_method_5_code
def yX2_agreesWith : MethodName := ⟨RX2, "agreesWith", "(LFounderSleeps$Night;)Z"⟩
abbrev cX3_pass : ByteArray := prog_5_method_2_code
def yX3_pass : MethodName := ⟨RX3, "pass", "(LFounderSleeps$Deeds;ILFounderSleeps$Reach;)V"⟩
abbrev cX3_doDeeds : ByteArray := prog_5_method_3_code
def yX3_doDeeds : MethodName := ⟨RX3, "doDeeds", "(LFounderSleeps$Deeds;II)I"⟩
abbrev cX3_exileBy : ByteArray := prog_5_method_4_code
def yX3_exileBy : MethodName := ⟨RX3, "exileBy", "(LFounderSleeps$Deeds;II)V"⟩
abbrev cX3_lateness : ByteArray := prog_5_method_5_code
def yX3_lateness : MethodName := ⟨RX3, "lateness", "()I"⟩
abbrev cX3_doneOf : ByteArray := prog_5_method_6_code
def yX3_doneOf : MethodName := ⟨RX3, "doneOf", "(LFounderSleeps$Deeds;)I"⟩
abbrev cX4_takeTolls : ByteArray := prog_6_method_2_code
def yX4_takeTolls : MethodName := ⟨RX4, "takeTolls", "(LFounderSleeps$Town;)V"⟩
abbrev cX4_layFelt : ByteArray := prog_6_method_3_code
def yX4_layFelt : MethodName := ⟨RX4, "layFelt", "(I)V"⟩
abbrev cX4_spread : ByteArray := prog_6_method_4_code
def yX4_spread : MethodName := ⟨RX4, "spread", "(LFounderSleeps$Town;I)V"⟩
abbrev cX4_leastBeside : ByteArray := prog_6_method_5_code
def yX4_leastBeside : MethodName := ⟨RX4, "leastBeside", "(LFounderSleeps$Town;I)I"⟩
abbrev cX4_left : ByteArray := prog_6_method_6_code
def yX4_left : MethodName := ⟨RX4, "left", "(II)I"⟩
abbrev cX5_isLost : ByteArray := prog_7_method_2_code
def yX5_isLost : MethodName := ⟨RX5, "isLost", "(I)Z"⟩
abbrev cX5_renew : ByteArray := prog_7_method_3_code
def yX5_renew : MethodName := ⟨RX5, "renew", "(III)V"⟩
abbrev cX5_hasItem : ByteArray := prog_7_method_4_code
def yX5_hasItem : MethodName := ⟨RX5, "hasItem", "(II)Z"⟩
abbrev cX5_item : ByteArray := prog_7_method_5_code
def yX5_item : MethodName := ⟨RX5, "item", "(II)I"⟩
abbrev cX5_store : ByteArray := prog_7_method_6_code
def yX5_store : MethodName := ⟨RX5, "store", "(III)V"⟩
abbrev cX5_cut : ByteArray := prog_7_method_7_code
def yX5_cut : MethodName := ⟨RX5, "cut", "(II)I"⟩
abbrev cX5_hasItems : ByteArray := prog_7_method_8_code
def yX5_hasItems : MethodName := ⟨RX5, "hasItems", "(III)Z"⟩
abbrev cX5_move : ByteArray := prog_7_method_9_code
def yX5_move : MethodName := ⟨RX5, "move", "(IIIII)V"⟩
abbrev cX6_isFull : ByteArray := prog_8_method_2_code
def yX6_isFull : MethodName := ⟨RX6, "isFull", "()Z"⟩
abbrev cX6_append : ByteArray := prog_8_method_3_code
def yX6_append : MethodName := ⟨RX6, "append", "(I)V"⟩
abbrev cX7_readFrom : ByteArray := prog_9_method_2_code
def yX7_readFrom : MethodName := ⟨RX7, "readFrom", "(LFounderSleeps$Text;)V"⟩
abbrev cX7_empty : ByteArray := prog_9_method_3_code
def yX7_empty : MethodName := ⟨RX7, "empty", "()V"⟩
abbrev cX7_place : ByteArray := prog_9_method_4_code
def yX7_place : MethodName := ⟨RX7, "place", "(LFounderSleeps$Text;)I"⟩
abbrev cX7_isTooShort : ByteArray := prog_9_method_5_code
def yX7_isTooShort : MethodName := ⟨RX7, "isTooShort", "(I)Z"⟩
abbrev cX7_mayStand : ByteArray := prog_9_method_6_code
def yX7_mayStand : MethodName := ⟨RX7, "mayStand", "(III)Z"⟩
abbrev cX7_add : ByteArray := prog_9_method_7_code
def yX7_add : MethodName := ⟨RX7, "add", "(I)V"⟩
abbrev cX7_link : ByteArray := prog_9_method_8_code
def yX7_link : MethodName := ⟨RX7, "link", "()V"⟩
abbrev cX7_has : ByteArray := prog_9_method_9_code
def yX7_has : MethodName := ⟨RX7, "has", "(I)Z"⟩
abbrev cX7_isOpen : ByteArray := prog_9_method_10_code
def yX7_isOpen : MethodName := ⟨RX7, "isOpen", "(I)Z"⟩
abbrev cX8_type : ByteArray := prog_1_method_2_code
def yX8_type : MethodName := ⟨RX8, "type", "(II)I"⟩
abbrev cX8_wipe : ByteArray := prog_1_method_3_code
def yX8_wipe : MethodName := ⟨RX8, "wipe", "(I)I"⟩
abbrev cX8_undo : ByteArray := prog_1_method_4_code
def yX8_undo : MethodName := ⟨RX8, "undo", "(I)I"⟩
abbrev cX8_fault : ByteArray := prog_1_method_5_code
def yX8_fault : MethodName := ⟨RX8, "fault", "(I)I"⟩
abbrev cX8_cell : ByteArray := prog_1_method_6_code
def yX8_cell : MethodName := ⟨RX8, "cell", "(I)I"⟩
abbrev cX8_bed : ByteArray := prog_1_method_7_code
def yX8_bed : MethodName := ⟨RX8, "bed", "()I"⟩
abbrev cX8_deed : ByteArray := prog_1_method_8_code
def yX8_deed : MethodName := ⟨RX8, "deed", "(II)I"⟩
abbrev cX8_set : ByteArray := prog_1_method_9_code
def yX8_set : MethodName := ⟨RX8, "set", "(II)I"⟩
abbrev cX8_thunder : ByteArray := prog_1_method_10_code
def yX8_thunder : MethodName := ⟨RX8, "thunder", "(II)I"⟩
abbrev cX8_back : ByteArray := prog_1_method_11_code
def yX8_back : MethodName := ⟨RX8, "back", "()I"⟩
abbrev cX8_read : ByteArray := prog_1_method_12_code
def yX8_read : MethodName := ⟨RX8, "read", "(I)I"⟩
abbrev cX8_carry : ByteArray := prog_1_method_13_code
def yX8_carry : MethodName := ⟨RX8, "carry", "(III)I"⟩
abbrev cX8_heard : ByteArray := prog_1_method_14_code
def yX8_heard : MethodName := ⟨RX8, "heard", "(II)I"⟩
abbrev cX8_noise : ByteArray := prog_1_method_15_code
def yX8_noise : MethodName := ⟨RX8, "noise", "(I)I"⟩
abbrev cX8_depth : ByteArray := prog_1_method_16_code
def yX8_depth : MethodName := ⟨RX8, "depth", "(I)I"⟩
abbrev cX8_wakes : ByteArray := prog_1_method_17_code
def yX8_wakes : MethodName := ⟨RX8, "wakes", "()I"⟩
abbrev cX8_exiled : ByteArray := prog_1_method_18_code
def yX8_exiled : MethodName := ⟨RX8, "exiled", "(I)I"⟩
abbrev cX8_loudest : ByteArray := prog_1_method_19_code
def yX8_loudest : MethodName := ⟨RX8, "loudest", "()I"⟩
abbrev cX8_hour : ByteArray := prog_1_method_20_code
def yX8_hour : MethodName := ⟨RX8, "hour", "(II)I"⟩
abbrev cX8_felt : ByteArray := prog_1_method_21_code
def yX8_felt : MethodName := ⟨RX8, "felt", "(I)I"⟩
abbrev cX8_lay : ByteArray := prog_1_method_22_code
def yX8_lay : MethodName := ⟨RX8, "lay", "(I)I"⟩
abbrev cX8_way : ByteArray := prog_1_method_23_code
def yX8_way : MethodName := ⟨RX8, "way", "(II)I"⟩
abbrev cX8_listened : ByteArray := prog_1_method_24_code
def yX8_listened : MethodName := ⟨RX8, "listened", "(II)I"⟩
abbrev cX8_forget : ByteArray := prog_1_method_25_code
def yX8_forget : MethodName := ⟨RX8, "forget", "()I"⟩
abbrev cX8_never : ByteArray := prog_1_method_26_code
def yX8_never : MethodName := ⟨RX8, "never", "()I"⟩
abbrev cX8_whence : ByteArray := prog_1_method_27_code
def yX8_whence : MethodName := ⟨RX8, "whence", "(II)I"⟩
abbrev cX8_what : ByteArray := prog_1_method_28_code
def yX8_what : MethodName := ⟨RX8, "what", "(I)I"⟩
abbrev cX8_ask : ByteArray := prog_1_method_29_code
def yX8_ask : MethodName := ⟨RX8, "ask", "(I)I"⟩
abbrev cX8_sleeps : ByteArray := prog_1_method_30_code
def yX8_sleeps : MethodName := ⟨RX8, "sleeps", "(II)J"⟩
abbrev cX8_day : ByteArray := prog_1_method_31_code
def yX8_day : MethodName := ⟨RX8, "day", "(III)I"⟩
abbrev cX8_sheet : ByteArray := prog_1_method_32_code
def yX8_sheet : MethodName := ⟨RX8, "sheet", "(III)I"⟩
abbrev cX8_lose : ByteArray := prog_1_method_33_code
def yX8_lose : MethodName := ⟨RX8, "lose", "(I)I"⟩
abbrev cX8_put : ByteArray := prog_1_method_34_code
def yX8_put : MethodName := ⟨RX8, "put", "(IIII)I"⟩
abbrev cX8_get : ByteArray := prog_1_method_35_code
def yX8_get : MethodName := ⟨RX8, "get", "(III)I"⟩
abbrev cX8_copy : ByteArray := prog_1_method_36_code
def yX8_copy : MethodName := ⟨RX8, "copy", "(IIIII)I"⟩
abbrev cX8_write : ByteArray := prog_1_method_37_code
def yX8_write : MethodName := ⟨RX8, "write", "(I)I"⟩
abbrev cX8_count : ByteArray := prog_1_method_38_code
def yX8_count : MethodName := ⟨RX8, "count", "(I)I"⟩
abbrev cX8_digest : ByteArray := prog_1_method_39_code
def yX8_digest : MethodName := ⟨RX8, "digest", "()J"⟩
abbrev cX8_mixDeed : ByteArray := prog_1_method_40_code
def yX8_mixDeed : MethodName := ⟨RX8, "mixDeed", "(JI)J"⟩
abbrev cX8_mix : ByteArray := prog_1_method_41_code
def yX8_mix : MethodName := ⟨RX8, "mix", "(JJ)J"⟩
abbrev cX8_isOutside : ByteArray := prog_1_method_42_code
def yX8_isOutside : MethodName := ⟨RX8, "isOutside", "(II)Z"⟩
abbrev cX8_isNoDeed : ByteArray := prog_1_method_43_code
def yX8_isNoDeed : MethodName := ⟨RX8, "isNoDeed", "(I)Z"⟩
abbrev cX8_isNoThunder : ByteArray := prog_1_method_44_code
def yX8_isNoThunder : MethodName := ⟨RX8, "isNoThunder", "(II)Z"⟩
abbrev cX8_textOf : ByteArray := prog_1_method_45_code
def yX8_textOf : MethodName := ⟨RX8, "textOf", "(I)LFounderSleeps$Text;"⟩
abbrev cX8_readAnew : ByteArray := prog_1_method_46_code
def yX8_readAnew : MethodName := ⟨RX8, "readAnew", "(I)V"⟩
abbrev cX8_sleepAnew : ByteArray := prog_1_method_47_code
def yX8_sleepAnew : MethodName := ⟨RX8, "sleepAnew", "()V"⟩
abbrev cX8_asHour : ByteArray := prog_1_method_48_code
def yX8_asHour : MethodName := ⟨RX8, "asHour", "(I)I"⟩
abbrev cX8_bestHourOf : ByteArray := prog_1_method_49_code
def yX8_bestHourOf : MethodName := ⟨RX8, "bestHourOf", "(I)I"⟩
abbrev cX8_latenessAt : ByteArray := prog_1_method_50_code
def yX8_latenessAt : MethodName := ⟨RX8, "latenessAt", "(II)I"⟩
abbrev cX8_bestBed : ByteArray := prog_1_method_51_code
def yX8_bestBed : MethodName := ⟨RX8, "bestBed", "()I"⟩
abbrev cX8_latenessWithBed : ByteArray := prog_1_method_52_code
def yX8_latenessWithBed : MethodName := ⟨RX8, "latenessWithBed", "(I)I"⟩
abbrev cX8_planFelt : ByteArray := prog_1_method_53_code
def yX8_planFelt : MethodName := ⟨RX8, "planFelt", "()V"⟩
abbrev cX8_isStillWithOne : ByteArray := prog_1_method_54_code
def yX8_isStillWithOne : MethodName := ⟨RX8, "isStillWithOne", "()Z"⟩
abbrev cX8_isStillWithTwo : ByteArray := prog_1_method_55_code
def yX8_isStillWithTwo : MethodName := ⟨RX8, "isStillWithTwo", "()Z"⟩
abbrev cX8_isStillWith : ByteArray := prog_1_method_56_code
def yX8_isStillWith : MethodName := ⟨RX8, "isStillWith", "(II)Z"⟩
abbrev cX8_findPlaces : ByteArray := prog_1_method_57_code
def yX8_findPlaces : MethodName := ⟨RX8, "findPlaces", "(I)I"⟩
abbrev cX8_mostAlike : ByteArray := prog_1_method_58_code
def yX8_mostAlike : MethodName := ⟨RX8, "mostAlike", "(II)I"⟩
abbrev cX8_weightOfSleep : ByteArray := prog_1_method_59_code
def yX8_weightOfSleep : MethodName := ⟨RX8, "weightOfSleep", "(I)J"⟩
abbrev cX8_weightOf : ByteArray := prog_1_method_60_code
def yX8_weightOf : MethodName := ⟨RX8, "weightOf", "(II)J"⟩
abbrev cX8_drawDeeds : ByteArray := prog_1_method_61_code
def yX8_drawDeeds : MethodName := ⟨RX8, "drawDeeds", "(II)V"⟩
abbrev cX8_nextLot : ByteArray := prog_1_method_62_code
def yX8_nextLot : MethodName := ⟨RX8, "nextLot", "(I)I"⟩
abbrev cX8_refusalOfItem : ByteArray := prog_1_method_63_code
def yX8_refusalOfItem : MethodName := ⟨RX8, "refusalOfItem", "(III)I"⟩
abbrev cX8_find : ByteArray := prog_1_method_64_code
def yX8_find : MethodName := ⟨RX8, "find", "(I)I"⟩
abbrev cX9_in : ByteArray := prog_11_method_3_code
def yX9_in : MethodName := ⟨RX9, "in", "(III)Z"⟩
abbrev cX9_isIn : ByteArray := prog_11_method_4_code
def yX9_isIn : MethodName := ⟨RX9, "isIn", "(II)Z"⟩
abbrev cX9_no : ByteArray := prog_11_method_5_code
def yX9_no : MethodName := ⟨RX9, "no", "(I)J"⟩
abbrev cX9_lowest : ByteArray := prog_11_method_6_code
def yX9_lowest : MethodName := ⟨RX9, "lowest", "(JJI)J"⟩
abbrev cX9_isText : ByteArray := prog_11_method_7_code
def yX9_isText : MethodName := ⟨RX9, "isText", "(I)Z"⟩
abbrev cX9_isHour : ByteArray := prog_11_method_8_code
def yX9_isHour : MethodName := ⟨RX9, "isHour", "(I)Z"⟩
abbrev cX9_type : ByteArray := prog_11_method_9_code
def yX9_type : MethodName := ⟨RX9, "type", "(II)I"⟩
abbrev cX9_wipe : ByteArray := prog_11_method_10_code
def yX9_wipe : MethodName := ⟨RX9, "wipe", "(I)I"⟩
abbrev cX9_undo : ByteArray := prog_11_method_11_code
def yX9_undo : MethodName := ⟨RX9, "undo", "(I)I"⟩
abbrev cX9_byteAt : ByteArray := prog_11_method_12_code
def yX9_byteAt : MethodName := ⟨RX9, "byteAt", "(II)I"⟩
abbrev cX9_kindOf : ByteArray := prog_11_method_13_code
def yX9_kindOf : MethodName := ⟨RX9, "kindOf", "(I)I"⟩
abbrev cX9_readsTown : ByteArray := prog_11_method_14_code
def yX9_readsTown : MethodName := ⟨RX9, "readsTown", "()I"⟩
abbrev cX9_figureAt : ByteArray := prog_11_method_15_code
def yX9_figureAt : MethodName := ⟨RX9, "figureAt", "(II)I"⟩
abbrev cX9_readsDeed : ByteArray := prog_11_method_16_code
def yX9_readsDeed : MethodName := ⟨RX9, "readsDeed", "(II)I"⟩
abbrev cX9_readsDeeds : ByteArray := prog_11_method_17_code
def yX9_readsDeeds : MethodName := ⟨RX9, "readsDeeds", "()I"⟩
abbrev cX9_faultOf : ByteArray := prog_11_method_18_code
def yX9_faultOf : MethodName := ⟨RX9, "faultOf", "(I)I"⟩
abbrev cX9_reads : ByteArray := prog_11_method_19_code
def yX9_reads : MethodName := ⟨RX9, "reads", "()V"⟩
abbrev cX9_fault : ByteArray := prog_11_method_20_code
def yX9_fault : MethodName := ⟨RX9, "fault", "(I)I"⟩
abbrev cX9_isCell : ByteArray := prog_11_method_21_code
def yX9_isCell : MethodName := ⟨RX9, "isCell", "(I)Z"⟩
abbrev cX9_isDeed : ByteArray := prog_11_method_22_code
def yX9_isDeed : MethodName := ⟨RX9, "isDeed", "(I)Z"⟩
abbrev cX9_cell : ByteArray := prog_11_method_23_code
def yX9_cell : MethodName := ⟨RX9, "cell", "(I)I"⟩
abbrev cX9_bedNow : ByteArray := prog_11_method_24_code
def yX9_bedNow : MethodName := ⟨RX9, "bedNow", "()I"⟩
abbrev cX9_bed : ByteArray := prog_11_method_25_code
def yX9_bed : MethodName := ⟨RX9, "bed", "()I"⟩
abbrev cX9_deedOf : ByteArray := prog_11_method_26_code
def yX9_deedOf : MethodName := ⟨RX9, "deedOf", "(II)I"⟩
abbrev cX9_deed : ByteArray := prog_11_method_27_code
def yX9_deed : MethodName := ⟨RX9, "deed", "(II)I"⟩
abbrev cX9_set : ByteArray := prog_11_method_28_code
def yX9_set : MethodName := ⟨RX9, "set", "(II)I"⟩
abbrev cX9_thunder : ByteArray := prog_11_method_29_code
def yX9_thunder : MethodName := ⟨RX9, "thunder", "(II)I"⟩
abbrev cX9_back : ByteArray := prog_11_method_30_code
def yX9_back : MethodName := ⟨RX9, "back", "()I"⟩
abbrev cX9_read : ByteArray := prog_11_method_31_code
def yX9_read : MethodName := ⟨RX9, "read", "(I)I"⟩
abbrev cX9_beside : ByteArray := prog_11_method_32_code
def yX9_beside : MethodName := ⟨RX9, "beside", "(II)I"⟩
abbrev cX9_into : ByteArray := prog_11_method_33_code
def yX9_into : MethodName := ⟨RX9, "into", "(I)I"⟩
abbrev cX9_doesEase : ByteArray := prog_11_method_34_code
def yX9_doesEase : MethodName := ⟨RX9, "doesEase", "()Z"⟩
abbrev cX9_carriesTo : ByteArray := prog_11_method_35_code
def yX9_carriesTo : MethodName := ⟨RX9, "carriesTo", "(I)V"⟩
abbrev cX9_carryOf : ByteArray := prog_11_method_36_code
def yX9_carryOf : MethodName := ⟨RX9, "carryOf", "(III)I"⟩
abbrev cX9_carry : ByteArray := prog_11_method_37_code
def yX9_carry : MethodName := ⟨RX9, "carry", "(III)I"⟩
abbrev cX9_loudOf : ByteArray := prog_11_method_38_code
def yX9_loudOf : MethodName := ⟨RX9, "loudOf", "(I)I"⟩
abbrev cX9_lays : ByteArray := prog_11_method_39_code
def yX9_lays : MethodName := ⟨RX9, "lays", "()V"⟩
abbrev cX9_hears : ByteArray := prog_11_method_40_code
def yX9_hears : MethodName := ⟨RX9, "hears", "()V"⟩
abbrev cX9_noiseIn : ByteArray := prog_11_method_41_code
def yX9_noiseIn : MethodName := ⟨RX9, "noiseIn", "(I)I"⟩
abbrev cX9_sleepsOn : ByteArray := prog_11_method_42_code
def yX9_sleepsOn : MethodName := ⟨RX9, "sleepsOn", "()V"⟩
abbrev cX9_runs : ByteArray := prog_11_method_43_code
def yX9_runs : MethodName := ⟨RX9, "runs", "()V"⟩
abbrev cX9_asTold : ByteArray := prog_11_method_44_code
def yX9_asTold : MethodName := ⟨RX9, "asTold", "()V"⟩
abbrev cX9_runsTold : ByteArray := prog_11_method_45_code
def yX9_runsTold : MethodName := ⟨RX9, "runsTold", "()V"⟩
abbrev cX9_heardBy : ByteArray := prog_11_method_46_code
def yX9_heardBy : MethodName := ⟨RX9, "heardBy", "(II)I"⟩
abbrev cX9_heard : ByteArray := prog_11_method_47_code
def yX9_heard : MethodName := ⟨RX9, "heard", "(II)I"⟩
abbrev cX9_noiseOf : ByteArray := prog_11_method_48_code
def yX9_noiseOf : MethodName := ⟨RX9, "noiseOf", "(I)I"⟩
abbrev cX9_noise : ByteArray := prog_11_method_49_code
def yX9_noise : MethodName := ⟨RX9, "noise", "(I)I"⟩
abbrev cX9_depthOf : ByteArray := prog_11_method_50_code
def yX9_depthOf : MethodName := ⟨RX9, "depthOf", "(I)I"⟩
abbrev cX9_depth : ByteArray := prog_11_method_51_code
def yX9_depth : MethodName := ⟨RX9, "depth", "(I)I"⟩
abbrev cX9_wakesOf : ByteArray := prog_11_method_52_code
def yX9_wakesOf : MethodName := ⟨RX9, "wakesOf", "()I"⟩
abbrev cX9_wakes : ByteArray := prog_11_method_53_code
def yX9_wakes : MethodName := ⟨RX9, "wakes", "()I"⟩
abbrev cX9_exiledOf : ByteArray := prog_11_method_54_code
def yX9_exiledOf : MethodName := ⟨RX9, "exiledOf", "(I)I"⟩
abbrev cX9_exiled : ByteArray := prog_11_method_55_code
def yX9_exiled : MethodName := ⟨RX9, "exiled", "(I)I"⟩
abbrev cX9_loudestNow : ByteArray := prog_11_method_56_code
def yX9_loudestNow : MethodName := ⟨RX9, "loudestNow", "()I"⟩
abbrev cX9_loudest : ByteArray := prog_11_method_57_code
def yX9_loudest : MethodName := ⟨RX9, "loudest", "()I"⟩
abbrev cX9_hourOf : ByteArray := prog_11_method_58_code
def yX9_hourOf : MethodName := ⟨RX9, "hourOf", "(II)I"⟩
abbrev cX9_hour : ByteArray := prog_11_method_59_code
def yX9_hour : MethodName := ⟨RX9, "hour", "(II)I"⟩
abbrev cX9_isStill : ByteArray := prog_11_method_60_code
def yX9_isStill : MethodName := ⟨RX9, "isStill", "(II)Z"⟩
abbrev cX9_feltBy : ByteArray := prog_11_method_61_code
def yX9_feltBy : MethodName := ⟨RX9, "feltBy", "()I"⟩
abbrev cX9_ofRow : ByteArray := prog_11_method_62_code
def yX9_ofRow : MethodName := ⟨RX9, "ofRow", "(II)I"⟩
abbrev cX9_felt : ByteArray := prog_11_method_63_code
def yX9_felt : MethodName := ⟨RX9, "felt", "(I)I"⟩
abbrev cX9_layOf : ByteArray := prog_11_method_64_code
def yX9_layOf : MethodName := ⟨RX9, "layOf", "(I)I"⟩
abbrev cX9_lay : ByteArray := prog_11_method_65_code
def yX9_lay : MethodName := ⟨RX9, "lay", "(I)I"⟩
abbrev cX9_doesShorten : ByteArray := prog_11_method_66_code
def yX9_doesShorten : MethodName := ⟨RX9, "doesShorten", "()Z"⟩
abbrev cX9_wayOf : ByteArray := prog_11_method_67_code
def yX9_wayOf : MethodName := ⟨RX9, "wayOf", "(II)I"⟩
abbrev cX9_way : ByteArray := prog_11_method_68_code
def yX9_way : MethodName := ⟨RX9, "way", "(II)I"⟩
abbrev cX9_listened : ByteArray := prog_11_method_69_code
def yX9_listened : MethodName := ⟨RX9, "listened", "(II)I"⟩
abbrev cX9_forget : ByteArray := prog_11_method_70_code
def yX9_forget : MethodName := ⟨RX9, "forget", "()I"⟩
abbrev cX9_isListened : ByteArray := prog_11_method_71_code
def yX9_isListened : MethodName := ⟨RX9, "isListened", "()Z"⟩
abbrev cX9_neverNow : ByteArray := prog_11_method_72_code
def yX9_neverNow : MethodName := ⟨RX9, "neverNow", "()I"⟩
abbrev cX9_never : ByteArray := prog_11_method_73_code
def yX9_never : MethodName := ⟨RX9, "never", "()I"⟩
abbrev cX9_whences : ByteArray := prog_11_method_74_code
def yX9_whences : MethodName := ⟨RX9, "whences", "(I)I"⟩
abbrev cX9_whenceOf : ByteArray := prog_11_method_75_code
def yX9_whenceOf : MethodName := ⟨RX9, "whenceOf", "(II)I"⟩
abbrev cX9_whence : ByteArray := prog_11_method_76_code
def yX9_whence : MethodName := ⟨RX9, "whence", "(II)I"⟩
abbrev cX9_whatOf : ByteArray := prog_11_method_77_code
def yX9_whatOf : MethodName := ⟨RX9, "whatOf", "(I)I"⟩
abbrev cX9_what : ByteArray := prog_11_method_78_code
def yX9_what : MethodName := ⟨RX9, "what", "(I)I"⟩
abbrev cX9_askOf : ByteArray := prog_11_method_79_code
def yX9_askOf : MethodName := ⟨RX9, "askOf", "(I)I"⟩
abbrev cX9_ask : ByteArray := prog_11_method_80_code
def yX9_ask : MethodName := ⟨RX9, "ask", "(I)I"⟩
abbrev cX9_sleepsBy : ByteArray := prog_11_method_81_code
def yX9_sleepsBy : MethodName := ⟨RX9, "sleepsBy", "(II)J"⟩
abbrev cX9_sleeps : ByteArray := prog_11_method_82_code
def yX9_sleeps : MethodName := ⟨RX9, "sleeps", "(II)J"⟩
abbrev cX9_exiledMany : ByteArray := prog_11_method_83_code
def yX9_exiledMany : MethodName := ⟨RX9, "exiledMany", "()I"⟩
abbrev cX9_dayOf : ByteArray := prog_11_method_84_code
def yX9_dayOf : MethodName := ⟨RX9, "dayOf", "(III)I"⟩
abbrev cX9_day : ByteArray := prog_11_method_85_code
def yX9_day : MethodName := ⟨RX9, "day", "(III)I"⟩
abbrev cX9_meets : ByteArray := prog_11_method_86_code
def yX9_meets : MethodName := ⟨RX9, "meets", "(I)I"⟩
abbrev cX9_isSheet : ByteArray := prog_11_method_87_code
def yX9_isSheet : MethodName := ⟨RX9, "isSheet", "(I)Z"⟩
abbrev cX9_sheet : ByteArray := prog_11_method_88_code
def yX9_sheet : MethodName := ⟨RX9, "sheet", "(III)I"⟩
abbrev cX9_lose : ByteArray := prog_11_method_89_code
def yX9_lose : MethodName := ⟨RX9, "lose", "(I)I"⟩
abbrev cX9_lacks : ByteArray := prog_11_method_90_code
def yX9_lacks : MethodName := ⟨RX9, "lacks", "(III)I"⟩
abbrev cX9_keep : ByteArray := prog_11_method_91_code
def yX9_keep : MethodName := ⟨RX9, "keep", "(III)V"⟩
abbrev cX9_put : ByteArray := prog_11_method_92_code
def yX9_put : MethodName := ⟨RX9, "put", "(IIII)I"⟩
abbrev cX9_get : ByteArray := prog_11_method_93_code
def yX9_get : MethodName := ⟨RX9, "get", "(III)I"⟩
abbrev cX9_copy : ByteArray := prog_11_method_94_code
def yX9_copy : MethodName := ⟨RX9, "copy", "(IIIII)I"⟩
abbrev cX9_write : ByteArray := prog_11_method_95_code
def yX9_write : MethodName := ⟨RX9, "write", "(I)I"⟩
abbrev cX9_doneMany : ByteArray := prog_11_method_96_code
def yX9_doneMany : MethodName := ⟨RX9, "doneMany", "()I"⟩
abbrev cX9_sumOf : ByteArray := prog_11_method_97_code
def yX9_sumOf : MethodName := ⟨RX9, "sumOf", "(I)I"⟩
abbrev cX9_count : ByteArray := prog_11_method_98_code
def yX9_count : MethodName := ⟨RX9, "count", "(I)I"⟩
abbrev cX9_deedDigest : ByteArray := prog_11_method_99_code
def yX9_deedDigest : MethodName := ⟨RX9, "deedDigest", "(JI)J"⟩
abbrev cX9_digest : ByteArray := prog_11_method_100_code
def yX9_digest : MethodName := ⟨RX9, "digest", "()J"⟩
abbrev cJ13_bitCount_95d88 : ByteArray := prog_13_method_50_code
def yJ13_bitCount_95d88 : MethodName := ⟨RJ13, "bitCount", "(J)I"⟩
abbrev cJ0_length_8abf5 : ByteArray := prog_15_method_54_code
def yJ0_length_8abf5 : MethodName := ⟨RJ0, "length", "()I"⟩
abbrev cJ0_indexOf_0f7a4 : ByteArray := prog_15_method_79_code
def yJ0_indexOf_0f7a4 : MethodName := ⟨RJ0, "indexOf", "(I)I"⟩
abbrev cJ0_indexOf_7cf53 : ByteArray := prog_15_method_80_code
def yJ0_indexOf_7cf53 : MethodName := ⟨RJ0, "indexOf", "(II)I"⟩
abbrev cJ0_coder_7d493 : ByteArray := prog_15_method_152_code
def yJ0_coder_7d493 : MethodName := ⟨RJ0, "coder", "()B"⟩
abbrev cJ0_isLatin1_aae02 : ByteArray := prog_15_method_154_code
def yJ0_isLatin1_aae02 : MethodName := ⟨RJ0, "isLatin1", "()Z"⟩
abbrev cJ1_canEncode_9a6ad : ByteArray := prog_16_method_4_code
def yJ1_canEncode_9a6ad : MethodName := ⟨RJ1, "canEncode", "(I)Z"⟩
abbrev cJ1_indexOf_4cfef : ByteArray := prog_16_method_22_code
def yJ1_indexOf_4cfef : MethodName := ⟨RJ1, "indexOf", "([BIII)I"⟩
abbrev cJ1_indexOfChar_4cfef : ByteArray := prog_16_method_23_code
def yJ1_indexOfChar_4cfef : MethodName := ⟨RJ1, "indexOfChar", "([BIII)I"⟩
abbrev cJ7_fill_53178 : ByteArray := prog_19_method_103_code
def yJ7_fill_53178 : MethodName := ⟨RJ7, "fill", "([II)V"⟩
end
section
abbrev xEnt : Type := Instr × Nat × Nat × Nat × Nat
def xCN : List String := [RX0, RX1, RX2, RX3, RX4, RX5, RX6, RX7, RX8, RX9, RJ7, RJ13, RJ0, RJ1, RJ9]
def xK : List Int32 := [(-2147483648), 55232, 56320, 65536, 1000000, 1103515245]
def xKL : List Int64 := [(-9223372036854775808), (-9223372036854775806), 2, 16, 17, 31, 262143, 1085102592571150095, 3689348814741910323, 6148914691236517205]
def xLs0 : List (Nat × Nat × Nat × Nat) := [(0, 9, 0, 0), (0, 15, 0, 1), (0, 18, 0, 2), (0, 21, 0, 4), (0, 29, 0, 3), (0, 32, 6, 2), (0, 41, 6, 0), (2, 9, 2, 0), (2, 15, 2, 1), (2, 24, 2, 2), (2, 28, 2, 3), (2, 35, 3, 1), (3, 9, 3, 1), (3, 15, 3, 2), (3, 18, 3, 3), (3, 21, 3, 4), (3, 24, 3, 5), (3, 28, 3, 0), (3, 38, 0, 3), (3, 46, 0, 1), (3, 49, 0, 0), (3, 58, 3, 6), (3, 62, 1, 1), (3, 71, 1, 0), (3, 90, 0, 2), (3, 93, 1, 2), (4, 9, 4, 0), (4, 15, 4, 1), (4, 18, 7, 2), (4, 27, 7, 0), (4, 45, 7, 1), (5, 9, 5, 0), (5, 15, 5, 1), (5, 18, 5, 2), (6, 9, 6, 0), (6, 21, 6, 1), (6, 25, 6, 2), (7, 9, 7, 0), (7, 15, 7, 1), (7, 18, 7, 4), (7, 22, 7, 5), (7, 35, 7, 2), (7, 38, 7, 3), (7, 41, 6, 2), (7, 46, 6, 0), (8, 14, 8, 0), (8, 18, 8, 1), (8, 24, 8, 2), (8, 31, 8, 3), (8, 38, 8, 4), (8, 45, 8, 5), (8, 52, 8, 6), (8, 61, 8, 7), (8, 65, 8, 8), (8, 68, 8, 9), (8, 71, 8, 10), (8, 74, 8, 11), (8, 78, 8, 12), (8, 81, 8, 13), (8, 87, 8, 16), (8, 112, 6, 2), (8, 116, 7, 5), (8, 119, 0, 4), (8, 124, 7, 0), (8, 127, 7, 4), (8, 133, 0, 0), (8, 134, 0, 1), (8, 135, 0, 2), (8, 138, 1, 1), (8, 141, 1, 2), (8, 147, 1, 0), (8, 155, 2, 3), (8, 163, 5, 1), (8, 181, 3, 3), (8, 184, 3, 4), (8, 187, 3, 1), (8, 190, 3, 2), (8, 193, 3, 5), (8, 196, 3, 6), (8, 202, 0, 3), (8, 215, 8, 14), (8, 228, 7, 2), (8, 231, 4, 0), (8, 238, 4, 1), (8, 292, 5, 0), (8, 312, 8, 17), (8, 398, 8, 15), (9, 7, 9, 0), (9, 13, 9, 1), (9, 16, 9, 4), (9, 19, 9, 6), (9, 22, 9, 7), (9, 25, 9, 8), (9, 28, 9, 12), (9, 31, 9, 13), (9, 34, 9, 14), (9, 37, 9, 16), (9, 40, 9, 17), (9, 43, 9, 18), (9, 46, 9, 19), (9, 49, 9, 21), (9, 53, 9, 22), (9, 56, 9, 23), (9, 59, 9, 24), (9, 62, 9, 26), (9, 65, 9, 27), (9, 68, 9, 28), (9, 71, 9, 29), (9, 74, 9, 30), (9, 77, 9, 31), (9, 80, 9, 32), (9, 83, 9, 33), (9, 86, 9, 34), (9, 89, 9, 9), (9, 93, 9, 10), (9, 106, 9, 3), (9, 109, 9, 2), (9, 123, 9, 5), (9, 157, 9, 11), (9, 190, 9, 15), (9, 200, 9, 20), (9, 260, 9, 25), (9, 300, 9, 35)]
def xLs1 : List (Nat × Nat × Nat × Nat) := [(0, 21, 0, 4), (0, 29, 0, 3), (2, 28, 2, 3), (3, 24, 3, 5), (3, 58, 3, 6), (6, 25, 6, 2), (7, 18, 7, 4), (7, 22, 7, 5), (7, 35, 7, 2), (7, 38, 7, 3), (8, 112, 6, 2), (8, 138, 1, 1), (8, 141, 1, 2), (8, 155, 2, 3), (8, 202, 0, 3), (8, 215, 8, 14), (8, 312, 8, 17), (8, 398, 8, 15), (9, 89, 9, 9), (9, 93, 9, 10), (9, 106, 9, 3), (9, 109, 9, 2), (9, 123, 9, 5), (9, 157, 9, 11), (9, 190, 9, 15), (9, 200, 9, 20), (9, 260, 9, 25), (9, 300, 9, 35)]
def xLs2 : List (Nat × Nat × Nat × Nat) := [(0, 44, 202, 1), (0, 50, 4, 3), (2, 31, 6, 0), (3, 52, 19, 2), (3, 67, 11, 3), (3, 75, 8, 1), (3, 81, 12, 3), (4, 37, 37, 1), (4, 41, 18, 2), (5, 27, 22, 2), (5, 35, 26, 3), (7, 25, 31, 0), (7, 28, 32, 1), (7, 32, 36, 0), (7, 49, 33, 1), (7, 55, 202, 1), (7, 61, 34, 3), (7, 65, 35, 1), (7, 69, 37, 1), (8, 91, 84, 0), (8, 98, 82, 1), (8, 102, 28, 0), (8, 106, 29, 1), (8, 109, 83, 1), (8, 120, 37, 1), (8, 130, 80, 1), (8, 150, 6, 0), (8, 151, 7, 2), (8, 156, 20, 1), (8, 159, 101, 1), (8, 166, 23, 2), (8, 170, 15, 1), (8, 174, 17, 2), (8, 178, 19, 2), (8, 203, 86, 1), (8, 206, 87, 2), (8, 212, 90, 0), (8, 218, 88, 0), (8, 222, 89, 1), (8, 225, 38, 1), (8, 241, 10, 3), (8, 245, 9, 1), (8, 249, 94, 1), (8, 252, 5, 1), (8, 256, 95, 2), (8, 263, 96, 1), (8, 271, 98, 2), (8, 278, 21, 3), (8, 282, 100, 3), (8, 286, 24, 3), (8, 295, 26, 3), (8, 299, 27, 5), (8, 308, 14, 1), (8, 317, 75, 1), (8, 324, 42, 1), (8, 327, 43, 1), (8, 330, 50, 3), (8, 333, 60, 2), (8, 336, 44, 0), (8, 339, 77, 2), (8, 343, 52, 1), (8, 346, 53, 1), (8, 348, 54, 0), (8, 351, 55, 1), (8, 354, 56, 0), (8, 357, 58, 1), (8, 360, 59, 1), (8, 363, 63, 0), (8, 366, 67, 2), (8, 370, 68, 3), (8, 373, 45, 2), (8, 376, 51, 2), (8, 379, 57, 2), (8, 382, 64, 2), (8, 385, 65, 1), (8, 388, 66, 1), (8, 393, 30, 1), (8, 397, 0, 1), (8, 402, 13, 0), (8, 405, 91, 0), (8, 408, 92, 0), (8, 411, 93, 2), (8, 414, 16, 1), (8, 426, 97, 2), (8, 432, 4, 3), (8, 435, 22, 2), (9, 112, 111, 2), (9, 120, 114, 2), (9, 126, 115, 2), (9, 129, 113, 0), (9, 133, 116, 0), (9, 136, 117, 1), (9, 139, 118, 0), (9, 142, 120, 1), (9, 145, 123, 0), (9, 148, 121, 1), (9, 151, 125, 2), (9, 163, 185, 1), (9, 166, 128, 2), (9, 169, 131, 2), (9, 172, 132, 1), (9, 175, 133, 0), (9, 179, 134, 1), (9, 183, 135, 3), (9, 197, 139, 0), (9, 203, 140, 1), (9, 206, 138, 0), (9, 209, 141, 0), (9, 212, 143, 0), (9, 215, 142, 0), (9, 218, 144, 0), (9, 221, 145, 2), (9, 224, 147, 1), (9, 227, 149, 1), (9, 230, 151, 0), (9, 233, 153, 1), (9, 236, 155, 0), (9, 239, 157, 2), (9, 242, 159, 2), (9, 245, 160, 0), (9, 248, 161, 2), (9, 251, 163, 1), (9, 254, 165, 0), (9, 257, 166, 2), (9, 263, 170, 0), (9, 266, 171, 0), (9, 269, 173, 1), (9, 272, 174, 2), (9, 275, 176, 1), (9, 278, 178, 1), (9, 285, 180, 2), (9, 294, 182, 0), (9, 297, 183, 3), (9, 303, 189, 3), (9, 306, 190, 3), (9, 311, 195, 0), (9, 314, 196, 1), (9, 321, 197, 1), (9, 324, 198, 2), (12, 335, 204, 0), (12, 492, 205, 0), (12, 505, 201, 0), (12, 633, 203, 2)]
def xLs3 : List (Nat × Nat × Nat × Nat) := [(0, 25, 2, 1), (0, 35, 1, 2), (0, 54, 3, 2), (3, 32, 209, 2), (3, 85, 900, 2), (4, 31, 209, 2), (5, 31, 25, 2), (5, 39, 902, 5), (8, 94, 79, 2), (8, 144, 81, 2), (8, 209, 85, 1), (8, 274, 200, 1), (8, 303, 900, 2), (8, 320, 78, 2), (8, 417, 902, 5), (8, 423, 901, 2), (8, 429, 99, 1), (9, 98, 102, 3), (9, 102, 106, 1), (9, 116, 112, 1), (9, 154, 107, 1), (9, 160, 186, 1), (9, 187, 137, 1), (9, 193, 103, 2), (9, 281, 105, 3), (9, 289, 104, 1), (12, 637, 207, 4), (13, 38, 900, 2), (13, 88, 206, 1), (13, 92, 901, 2), (13, 95, 208, 4)]
def xLs4 : List (Nat × Nat × Nat × Nat) := [(4, 30, 4, 0), (8, 237, 4, 0), (8, 291, 0, 0), (8, 434, 5, 0), (9, 293, 5, 0), (9, 310, 0, 0)]
def xLs5 : List (Nat × Nat × Nat × Nat) := [(0, 39, 1003, 1), (7, 53, 1002, 1)]
def xLs6 : List (Nat × Nat × Nat × Nat) := [(8, 200, 6, 0), (8, 261, 1, 0), (8, 267, 3, 0), (8, 269, 2, 0), (8, 315, 4, 0), (8, 391, 5, 0), (9, 96, 0, 0), (9, 317, 5, 0), (9, 319, 4, 0), (11, 314, 9, 0), (11, 316, 8, 0), (11, 318, 7, 0)]
def xLs7 : List (Nat × Nat × Nat × Nat) := [(3, 43, 1, 1), (4, 24, 0, 1), (8, 234, 1, 0), (12, 38, 2, 0)]
def xLs8 : List (Nat × Nat × Nat × Nat) := [(12, 9, 99, 0), (12, 15, 99, 1)]
def xsTown : Nat := 53
def xsDeeds : Nat := 39
def xiTolls : Nat := 24
def xiLoud : Nat := 43
def xTg : List Cond := lw_tbl.filter goodWord
end
section
def xL_X0_readFrom : List (Nat × xEnt) := [(0, .aload_n 0, 1, 0, 0, 0), (1, .aload_n 1, 1, 0, 0, 0), (2, .invokestatic 25, 3, 2, 1, 0), (5, .putfield 21, 3, 0, 4, 0), (8, .aload_n 0, 1, 0, 0, 0), (9, .iconst 0, 1, 0, 0, 0), (10, .putfield 29, 3, 0, 3, 0), (13, .aload_n 0, 1, 0, 0, 0), (14, .getfield 21, 3, 0, 4, 0), (17, .iconst (-1), 1, 0, 0, 0), (18, .if_icmp .ne 66, 3, 84, 0, 0), (21, .iconst 0, 1, 0, 0, 3), (22, .istore_n 2, 1, 0, 0, 0), (23, .iload_n 2, 1, 0, 0, 7), (24, .iconst 5, 1, 0, 0, 0), (25, .iadd, 1, 0, 0, 0), (26, .iconst 1, 1, 0, 0, 0), (27, .isub, 1, 0, 0, 0), (28, .aload_n 1, 1, 0, 0, 0), (29, .getfield 32, 3, 6, 2, 0), (32, .if_icmp .gt 52, 3, 84, 0, 0), (35, .aload_n 1, 1, 0, 0, 7), (36, .iload_n 2, 1, 0, 0, 0), (37, .invokestatic 35, 3, 1, 2, 0), (40, .bipush 10, 2, 0, 0, 0), (42, .imul, 1, 0, 0, 0), (43, .aload_n 1, 1, 0, 0, 0), (44, .iload_n 2, 1, 0, 0, 0), (45, .iconst 1, 1, 0, 0, 0), (46, .iadd, 1, 0, 0, 0), (47, .invokestatic 35, 3, 1, 2, 0), (50, .iadd, 1, 0, 0, 0), (51, .istore_n 3, 1, 0, 0, 0), (52, .aload_n 0, 1, 0, 0, 0), (53, .iload_n 3, 1, 0, 0, 0), (54, .ldc 39, 2, 1003, 1, 0), (56, .aload_n 1, 1, 0, 0, 0), (57, .getfield 41, 3, 6, 0, 0), (60, .iload_n 2, 1, 0, 0, 0), (61, .iconst 2, 1, 0, 0, 0), (62, .iadd, 1, 0, 0, 0), (63, .iaload, 1, 0, 0, 0), (64, .i2c, 1, 0, 0, 0), (65, .invokevirtual 44, 3, 202, 1, 0), (68, .aload_n 1, 1, 0, 0, 0), (69, .iload_n 2, 1, 0, 0, 0), (70, .iconst 3, 1, 0, 0, 0), (71, .iadd, 1, 0, 0, 0), (72, .invokestatic 35, 3, 1, 2, 0), (75, .invokevirtual 50, 3, 4, 3, 0), (78, .iinc 2 5, 3, 0, 0, 0), (81, .goto (-58), 3, 23, 0, 0), (84, .return_, 1, 0, 0, 1152921504606846976)]
def xR_X0_readFrom : MethodName × ByteArray × Nat × Option FieldType × Nat × Bool × Nat × Nat × Nat × List (Nat × xEnt) := (yX0_readFrom, cX0_readFrom, 4, none, 0, true, 1, 6, 148, xL_X0_readFrom)
def xL_X0_figure : List (Nat × xEnt) := [(0, .aload_n 0, 1, 0, 0, 0), (1, .getfield 41, 3, 6, 0, 0), (4, .iload_n 1, 1, 0, 0, 0), (5, .iaload, 1, 0, 0, 0), (6, .bipush 48, 2, 0, 0, 0), (8, .isub, 1, 0, 0, 0), (9, .ireturn, 1, 0, 0, 0)]
def xR_X0_figure : MethodName × ByteArray × Nat × Option FieldType × Nat × Bool × Nat × Nat × Nat × List (Nat × xEnt) := (yX0_figure, cX0_figure, 2, (some .int), 0, false, 2, 0, 0, xL_X0_figure)
def xL_X0_faultOf : List (Nat × xEnt) := [(0, .iconst 0, 1, 0, 0, 0), (1, .istore_n 1, 1, 0, 0, 0), (2, .iload_n 1, 1, 0, 0, 3), (3, .aload_n 0, 1, 0, 0, 0), (4, .getfield 32, 3, 6, 2, 0), (7, .if_icmp .ge 34, 3, 41, 0, 0), (10, .iload_n 1, 1, 0, 0, 3), (11, .iconst 5, 1, 0, 0, 0), (12, .idiv, 1, 0, 0, 0), (13, .bipush 8, 2, 0, 0, 0), (15, .if_icmp .ge 18, 3, 33, 0, 0), (18, .aload_n 0, 1, 0, 0, 3), (19, .getfield 41, 3, 6, 0, 0), (22, .iload_n 1, 1, 0, 0, 0), (23, .iaload, 1, 0, 0, 0), (24, .iload_n 1, 1, 0, 0, 0), (25, .iconst 5, 1, 0, 0, 0), (26, .irem, 1, 0, 0, 0), (27, .invokestatic 54, 3, 3, 2, 0), (30, .ifCond .ne 5, 3, 35, 0, 0), (33, .iload_n 1, 1, 0, 0, 2), (34, .ireturn, 1, 0, 0, 0), (35, .iinc 1 1, 3, 0, 0, 3), (38, .goto (-36), 3, 2, 0, 0), (41, .aload_n 0, 1, 0, 0, 1), (42, .getfield 32, 3, 6, 2, 0), (45, .ifCond .eq 13, 3, 58, 0, 0), (48, .aload_n 0, 1, 0, 0, 1), (49, .getfield 32, 3, 6, 2, 0), (52, .iconst 5, 1, 0, 0, 0), (53, .irem, 1, 0, 0, 0), (54, .iconst 4, 1, 0, 0, 0), (55, .if_icmp .ne 7, 3, 62, 0, 0), (58, .iconst 1, 1, 0, 0, 1), (59, .goto 4, 3, 63, 0, 0), (62, .iconst 0, 1, 0, 0, 1), (63, .istore_n 1, 1, 0, 0, 1), (64, .iload_n 1, 1, 0, 0, 0), (65, .ifCond .eq 7, 3, 72, 0, 0), (68, .iconst (-1), 1, 0, 0, 1152921504606846976), (69, .goto 7, 3, 76, 0, 0), (72, .aload_n 0, 1, 0, 0, 1), (73, .getfield 32, 3, 6, 2, 0), (76, .ireturn, 1, 0, 0, 1152921504606846976)]
def xR_X0_faultOf : MethodName × ByteArray × Nat × Option FieldType × Nat × Bool × Nat × Nat × Nat × List (Nat × xEnt) := (yX0_faultOf, cX0_faultOf, 2, (some .int), 0, false, 1, 5, 127, xL_X0_faultOf)
def xL_X0_mayStand : List (Nat × xEnt) := [(0, .iload_n 1, 1, 0, 0, 0), (1, .tableswitch 81 0 4 #[35, 81, 53, 81, 69], 35, 0, 0, 0), (36, .iload_n 0, 1, 0, 0, 1), (37, .bipush 48, 2, 0, 0, 0), (39, .if_icmp .lt 13, 3, 52, 0, 0), (42, .iload_n 0, 1, 0, 0, 1), (43, .bipush 51, 2, 0, 0, 0), (45, .if_icmp .gt 7, 3, 52, 0, 0), (48, .iconst 1, 1, 0, 0, 1152921504606846976), (49, .goto 4, 3, 53, 0, 0), (52, .iconst 0, 1, 0, 0, 1152921504606846976), (53, .ireturn, 1, 0, 0, 1152921504606846976), (54, .ldc 39, 2, 1003, 1, 1), (56, .iload_n 0, 1, 0, 0, 0), (57, .i2c, 1, 0, 0, 0), (58, .invokevirtual 44, 3, 202, 1, 0), (61, .ifCond .lt 7, 3, 68, 0, 0), (64, .iconst 1, 1, 0, 0, 1152921504606846976), (65, .goto 4, 3, 69, 0, 0), (68, .iconst 0, 1, 0, 0, 1152921504606846976), (69, .ireturn, 1, 0, 0, 1152921504606846976), (70, .iload_n 0, 1, 0, 0, 1), (71, .bipush 59, 2, 0, 0, 0), (73, .if_icmp .ne 7, 3, 80, 0, 0), (76, .iconst 1, 1, 0, 0, 1152921504606846976), (77, .goto 4, 3, 81, 0, 0), (80, .iconst 0, 1, 0, 0, 1152921504606846976), (81, .ireturn, 1, 0, 0, 1152921504606846976), (82, .iload_n 0, 1, 0, 0, 1), (83, .bipush 48, 2, 0, 0, 0), (85, .if_icmp .lt 13, 3, 98, 0, 0), (88, .iload_n 0, 1, 0, 0, 1), (89, .bipush 57, 2, 0, 0, 0), (91, .if_icmp .gt 7, 3, 98, 0, 0), (94, .iconst 1, 1, 0, 0, 1152921504606846976), (95, .goto 4, 3, 99, 0, 0), (98, .iconst 0, 1, 0, 0, 1152921504606846976), (99, .ireturn, 1, 0, 0, 1152921504606846976)]
def xR_X0_mayStand : MethodName × ByteArray × Nat × Option FieldType × Nat × Bool × Nat × Nat × Nat × List (Nat × xEnt) := (yX0_mayStand, cX0_mayStand, 2, (some .boolean), 0, false, 2, 4, 106, xL_X0_mayStand)
def xL_X0_add : List (Nat × xEnt) := [(0, .aload_n 0, 1, 0, 0, 0), (1, .getfield 29, 3, 0, 3, 0), (4, .bipush 8, 2, 0, 0, 0), (6, .if_icmp .ge 52, 3, 58, 0, 0), (9, .iload_n 2, 1, 0, 0, 15), (10, .ifCond .lt 48, 3, 58, 0, 0), (13, .iload_n 2, 1, 0, 0, 15), (14, .iconst 4, 1, 0, 0, 0), (15, .if_icmp .ge 43, 3, 58, 0, 0), (18, .aload_n 0, 1, 0, 0, 15), (19, .getfield 9, 3, 0, 0, 0), (22, .aload_n 0, 1, 0, 0, 0), (23, .getfield 29, 3, 0, 3, 0), (26, .iload_n 1, 1, 0, 0, 0), (27, .iastore, 1, 0, 0, 0), (28, .aload_n 0, 1, 0, 0, 0), (29, .getfield 15, 3, 0, 1, 0), (32, .aload_n 0, 1, 0, 0, 0), (33, .getfield 29, 3, 0, 3, 0), (36, .iload_n 2, 1, 0, 0, 0), (37, .iastore, 1, 0, 0, 0), (38, .aload_n 0, 1, 0, 0, 0), (39, .getfield 18, 3, 0, 2, 0), (42, .aload_n 0, 1, 0, 0, 0), (43, .getfield 29, 3, 0, 3, 0), (46, .iload_n 3, 1, 0, 0, 0), (47, .iastore, 1, 0, 0, 0), (48, .aload_n 0, 1, 0, 0, 0), (49, .dup, 1, 0, 0, 0), (50, .getfield 29, 3, 0, 3, 0), (53, .iconst 1, 1, 0, 0, 0), (54, .iadd, 1, 0, 0, 0), (55, .putfield 29, 3, 0, 3, 0), (58, .return_, 1, 0, 0, 1152921504606846976)]
def xR_X0_add : MethodName × ByteArray × Nat × Option FieldType × Nat × Bool × Nat × Nat × Nat × List (Nat × xEnt) := (yX0_add, cX0_add, 4, none, 0, true, 3, 0, 0, xL_X0_add)
def xL_X0_takeFrom : List (Nat × xEnt) := [(0, .aload_n 0, 1, 0, 0, 0), (1, .aload_n 1, 1, 0, 0, 0), (2, .getfield 29, 3, 0, 3, 0), (5, .putfield 29, 3, 0, 3, 0), (8, .iconst 0, 1, 0, 0, 0), (9, .istore_n 2, 1, 0, 0, 0), (10, .iload_n 2, 1, 0, 0, 7), (11, .aload_n 0, 1, 0, 0, 0), (12, .getfield 29, 3, 0, 3, 0), (15, .if_icmp .ge 45, 3, 60, 0, 0), (18, .aload_n 0, 1, 0, 0, 7), (19, .getfield 9, 3, 0, 0, 0), (22, .iload_n 2, 1, 0, 0, 0), (23, .aload_n 1, 1, 0, 0, 0), (24, .getfield 9, 3, 0, 0, 0), (27, .iload_n 2, 1, 0, 0, 0), (28, .iaload, 1, 0, 0, 0), (29, .iastore, 1, 0, 0, 0), (30, .aload_n 0, 1, 0, 0, 0), (31, .getfield 15, 3, 0, 1, 0), (34, .iload_n 2, 1, 0, 0, 0), (35, .aload_n 1, 1, 0, 0, 0), (36, .getfield 15, 3, 0, 1, 0), (39, .iload_n 2, 1, 0, 0, 0), (40, .iaload, 1, 0, 0, 0), (41, .iastore, 1, 0, 0, 0), (42, .aload_n 0, 1, 0, 0, 0), (43, .getfield 18, 3, 0, 2, 0), (46, .iload_n 2, 1, 0, 0, 0), (47, .aload_n 1, 1, 0, 0, 0), (48, .getfield 18, 3, 0, 2, 0), (51, .iload_n 2, 1, 0, 0, 0), (52, .iaload, 1, 0, 0, 0), (53, .iastore, 1, 0, 0, 0), (54, .iinc 2 1, 3, 0, 0, 0), (57, .goto (-47), 3, 10, 0, 0), (60, .return_, 1, 0, 0, 1152921504606846976)]
def xR_X0_takeFrom : MethodName × ByteArray × Nat × Option FieldType × Nat × Bool × Nat × Nat × Nat × List (Nat × xEnt) := (yX0_takeFrom, cX0_takeFrom, 3, none, 0, true, 1, 0, 0, xL_X0_takeFrom)
def xL_X2_isFull : List (Nat × xEnt) := [(0, .aload_n 0, 1, 0, 0, 0), (1, .getfield 28, 3, 2, 3, 0), (4, .aload_n 0, 1, 0, 0, 0), (5, .getfield 24, 3, 2, 2, 0), (8, .if_icmp .lt 7, 3, 15, 0, 0), (11, .iconst 1, 1, 0, 0, 1152921504606846976), (12, .goto 4, 3, 16, 0, 0), (15, .iconst 0, 1, 0, 0, 1152921504606846976), (16, .ireturn, 1, 0, 0, 1152921504606846976)]
def xR_X2_isFull : MethodName × ByteArray × Nat × Option FieldType × Nat × Bool × Nat × Nat × Nat × List (Nat × xEnt) := (yX2_isFull, cX2_isFull, 1, (some .boolean), 2, true, 0, 0, 0, xL_X2_isFull)
def xL_X2_add : List (Nat × xEnt) := [(0, .aload_n 0, 1, 0, 0, 0), (1, .invokevirtual 31, 3, 6, 0, 0), (4, .ifCond .ne 33, 3, 37, 0, 0), (7, .aload_n 0, 1, 0, 0, 7), (8, .getfield 9, 3, 2, 0, 0), (11, .aload_n 0, 1, 0, 0, 0), (12, .getfield 28, 3, 2, 3, 0), (15, .iload_n 1, 1, 0, 0, 0), (16, .iastore, 1, 0, 0, 0), (17, .aload_n 0, 1, 0, 0, 0), (18, .getfield 15, 3, 2, 1, 0), (21, .aload_n 0, 1, 0, 0, 0), (22, .getfield 28, 3, 2, 3, 0), (25, .iload_n 2, 1, 0, 0, 0), (26, .iastore, 1, 0, 0, 0), (27, .aload_n 0, 1, 0, 0, 0), (28, .dup, 1, 0, 0, 0), (29, .getfield 28, 3, 2, 3, 0), (32, .iconst 1, 1, 0, 0, 0), (33, .iadd, 1, 0, 0, 0), (34, .putfield 28, 3, 2, 3, 0), (37, .return_, 1, 0, 0, 1152921504606846976)]
def xR_X2_add : MethodName × ByteArray × Nat × Option FieldType × Nat × Bool × Nat × Nat × Nat × List (Nat × xEnt) := (yX2_add, cX2_add, 3, none, 2, true, 2, 1, 20, xL_X2_add)
def xL_X2_sumIn : List (Nat × xEnt) := [(0, .iconst 0, 1, 0, 0, 0), (1, .istore_n 2, 1, 0, 0, 0), (2, .iconst 0, 1, 0, 0, 0), (3, .istore_n 3, 1, 0, 0, 0), (4, .iload_n 3, 1, 0, 0, 15), (5, .aload_n 0, 1, 0, 0, 0), (6, .getfield 28, 3, 2, 3, 0), (9, .if_icmp .ge 28, 3, 37, 0, 0), (12, .aload_n 0, 1, 0, 0, 15), (13, .getfield 9, 3, 2, 0, 0), (16, .iload_n 3, 1, 0, 0, 0), (17, .iaload, 1, 0, 0, 0), (18, .iload_n 1, 1, 0, 0, 0), (19, .if_icmp .ne 12, 3, 31, 0, 0), (22, .iload_n 2, 1, 0, 0, 15), (23, .aload_n 0, 1, 0, 0, 0), (24, .getfield 15, 3, 2, 1, 0), (27, .iload_n 3, 1, 0, 0, 0), (28, .iaload, 1, 0, 0, 0), (29, .iadd, 1, 0, 0, 0), (30, .istore_n 2, 1, 0, 0, 0), (31, .iinc 3 1, 3, 0, 0, 15), (34, .goto (-30), 3, 4, 0, 0), (37, .iload_n 2, 1, 0, 0, 4), (38, .ireturn, 1, 0, 0, 0)]
def xR_X2_sumIn : MethodName × ByteArray × Nat × Option FieldType × Nat × Bool × Nat × Nat × Nat × List (Nat × xEnt) := (yX2_sumIn, cX2_sumIn, 4, (some .int), 2, true, 1, 0, 0, xL_X2_sumIn)
def xL_X2_agreesWith : List (Nat × xEnt) := [(0, .iconst 0, 1, 0, 0, 0), (1, .istore_n 2, 1, 0, 0, 0), (2, .iload_n 2, 1, 0, 0, 7), (3, .aload_n 0, 1, 0, 0, 0), (4, .getfield 28, 3, 2, 3, 0), (7, .if_icmp .ge 31, 3, 38, 0, 0), (10, .aload_n 1, 1, 0, 0, 7), (11, .getfield 35, 3, 3, 1, 0), (14, .aload_n 0, 1, 0, 0, 0), (15, .getfield 9, 3, 2, 0, 0), (18, .iload_n 2, 1, 0, 0, 0), (19, .iaload, 1, 0, 0, 0), (20, .iaload, 1, 0, 0, 0), (21, .aload_n 0, 1, 0, 0, 0), (22, .getfield 15, 3, 2, 1, 0), (25, .iload_n 2, 1, 0, 0, 0), (26, .iaload, 1, 0, 0, 0), (27, .if_icmp .eq 5, 3, 32, 0, 0), (30, .iconst 0, 1, 0, 0, 1152921504606846976), (31, .ireturn, 1, 0, 0, 0), (32, .iinc 2 1, 3, 0, 0, 7), (35, .goto (-33), 3, 2, 0, 0), (38, .iconst 1, 1, 0, 0, 1152921504606846976), (39, .ireturn, 1, 0, 0, 0)]
def xR_X2_agreesWith : MethodName × ByteArray × Nat × Option FieldType × Nat × Bool × Nat × Nat × Nat × List (Nat × xEnt) := (yX2_agreesWith, cX2_agreesWith, 3, (some .boolean), 2, true, 1, 0, 0, xL_X2_agreesWith)
def xL_X3_pass : List (Nat × xEnt) := [(0, .aload_n 0, 1, 0, 0, 0), (1, .getfield 9, 3, 3, 1, 0), (4, .iconst (-1), 1, 0, 0, 0), (5, .invokestatic 32, 3, 209, 2, 0), (8, .aload_n 0, 1, 0, 0, 0), (9, .getfield 15, 3, 3, 2, 0), (12, .iconst (-1), 1, 0, 0, 0), (13, .invokestatic 32, 3, 209, 2, 0), (16, .aload_n 0, 1, 0, 0, 0), (17, .getfield 21, 3, 3, 4, 0), (20, .iconst 2, 1, 0, 0, 0), (21, .invokestatic 32, 3, 209, 2, 0), (24, .iconst 0, 1, 0, 0, 0), (25, .istore 4, 2, 0, 0, 0), (27, .iload 4, 2, 0, 0, 31), (29, .aload_n 1, 1, 0, 0, 0), (30, .getfield 38, 3, 0, 3, 0), (33, .if_icmp .ge 38, 3, 71, 0, 0), (36, .aload_n 0, 1, 0, 0, 31), (37, .getfield 18, 3, 3, 3, 0), (40, .iload 4, 2, 0, 0, 0), (42, .aload_n 3, 1, 0, 0, 0), (43, .getstatic 43, 3, 1, 1, 0), (46, .aload_n 1, 1, 0, 0, 0), (47, .getfield 46, 3, 0, 1, 0), (50, .iload 4, 2, 0, 0, 0), (52, .iaload, 1, 0, 0, 0), (53, .iaload, 1, 0, 0, 0), (54, .aload_n 1, 1, 0, 0, 0), (55, .getfield 49, 3, 0, 0, 0), (58, .iload 4, 2, 0, 0, 0), (60, .iaload, 1, 0, 0, 0), (61, .invokevirtual 52, 3, 19, 2, 0), (64, .iastore, 1, 0, 0, 0), (65, .iinc 4 1, 3, 0, 0, 0), (68, .goto (-41), 3, 27, 0, 0), (71, .aload_n 0, 1, 0, 0, 7), (72, .iconst (-1), 1, 0, 0, 0), (73, .putfield 24, 3, 3, 5, 0), (76, .aload_n 0, 1, 0, 0, 0), (77, .lconst 0, 1, 0, 0, 0), (78, .putfield 58, 3, 3, 6, 0), (81, .aload_n 0, 1, 0, 0, 0), (82, .getfield 28, 3, 3, 0, 0), (85, .getfield 62, 3, 1, 1, 0), (88, .istore 4, 2, 0, 0, 0), (90, .iconst 0, 1, 0, 0, 0), (91, .istore 5, 2, 0, 0, 0), (93, .iload 5, 2, 0, 0, 55), (95, .bipush 10, 2, 0, 0, 0), (97, .if_icmp .ge 108, 3, 205, 0, 0), (100, .aload_n 0, 1, 0, 0, 55), (101, .getfield 24, 3, 3, 5, 0), (104, .iconst (-1), 1, 0, 0, 0), (105, .if_icmp .ne 100, 3, 205, 0, 0), (108, .aload_n 0, 1, 0, 0, 55), (109, .aload_n 1, 1, 0, 0, 0), (110, .iload_n 2, 1, 0, 0, 0), (111, .iload 5, 2, 0, 0, 0), (113, .invokevirtual 67, 3, 11, 3, 0), (116, .aload_n 0, 1, 0, 0, 0), (117, .getfield 28, 3, 3, 0, 0), (120, .getfield 71, 3, 1, 0, 0), (123, .iload 5, 2, 0, 0, 0), (125, .invokevirtual 75, 3, 8, 1, 0), (128, .iadd, 1, 0, 0, 0), (129, .istore 6, 2, 0, 0, 0), (131, .aload_n 0, 1, 0, 0, 0), (132, .getfield 15, 3, 3, 2, 0), (135, .iload 5, 2, 0, 0, 0), (137, .iload 4, 2, 0, 0, 0), (139, .iastore, 1, 0, 0, 0), (140, .aload_n 0, 1, 0, 0, 0), (141, .getfield 9, 3, 3, 1, 0), (144, .iload 5, 2, 0, 0, 0), (146, .iload 6, 2, 0, 0, 0), (148, .iastore, 1, 0, 0, 0), (149, .iload 6, 2, 0, 0, 0), (151, .iload 4, 2, 0, 0, 0), (153, .if_icmp .le 12, 3, 165, 0, 0), (156, .aload_n 0, 1, 0, 0, 55), (157, .iload 5, 2, 0, 0, 0), (159, .putfield 24, 3, 3, 5, 0), (162, .goto 37, 3, 199, 0, 0), (165, .aload_n 0, 1, 0, 0, 119), (166, .aload_n 1, 1, 0, 0, 0), (167, .iload_n 2, 1, 0, 0, 0), (168, .iload 5, 2, 0, 0, 0), (170, .invokevirtual 81, 3, 12, 3, 0), (173, .iload 6, 2, 0, 0, 0), (175, .ifCond .ne 15, 3, 190, 0, 0), (178, .bipush 30, 2, 0, 0, 55), (180, .iload 4, 2, 0, 0, 0), (182, .iconst 3, 1, 0, 0, 0), (183, .iadd, 1, 0, 0, 0), (184, .invokestatic 85, 3, 900, 2, 0), (187, .goto 10, 3, 197, 0, 0), (190, .iload 4, 2, 0, 0, 119), (192, .iload 6, 2, 0, 0, 0), (194, .iconst 2, 1, 0, 0, 0), (195, .idiv, 1, 0, 0, 0), (196, .isub, 1, 0, 0, 0), (197, .istore 4, 2, 0, 0, 39), (199, .iinc 5 1, 3, 0, 0, 55), (202, .goto (-109), 3, 93, 0, 0), (205, .return_, 1, 0, 0, 1152921504606846976)]
def xR_X3_pass : MethodName × ByteArray × Nat × Option FieldType × Nat × Bool × Nat × Nat × Nat × List (Nat × xEnt) := (yX3_pass, cX3_pass, 7, none, 3, true, 3, 1, 40, xL_X3_pass)
def xL_X3_doDeeds : List (Nat × xEnt) := [(0, .iconst 0, 1, 0, 0, 0), (1, .istore 4, 2, 0, 0, 0), (3, .iconst 0, 1, 0, 0, 0), (4, .istore 5, 2, 0, 0, 0), (6, .iload 5, 2, 0, 0, 63), (8, .aload_n 1, 1, 0, 0, 0), (9, .getfield 38, 3, 0, 3, 0), (12, .if_icmp .ge 80, 3, 92, 0, 0), (15, .aload_n 1, 1, 0, 0, 63), (16, .getfield 90, 3, 0, 2, 0), (19, .iload 5, 2, 0, 0, 0), (21, .iaload, 1, 0, 0, 0), (22, .iload_n 3, 1, 0, 0, 0), (23, .if_icmp .ne 63, 3, 86, 0, 0), (26, .iload_n 2, 1, 0, 0, 63), (27, .iload 5, 2, 0, 0, 0), (29, .ishr, 1, 0, 0, 0), (30, .iconst 1, 1, 0, 0, 0), (31, .iand, 1, 0, 0, 0), (32, .iconst 1, 1, 0, 0, 0), (33, .if_icmp .ne 53, 3, 86, 0, 0), (36, .aload_n 0, 1, 0, 0, 63), (37, .getfield 58, 3, 3, 6, 0), (40, .aload_n 1, 1, 0, 0, 0), (41, .getfield 49, 3, 0, 0, 0), (44, .iload 5, 2, 0, 0, 0), (46, .iaload, 1, 0, 0, 0), (47, .lshr, 1, 0, 0, 0), (48, .lconst 1, 1, 0, 0, 0), (49, .land, 1, 0, 0, 0), (50, .lconst 1, 1, 0, 0, 0), (51, .lcmp, 1, 0, 0, 0), (52, .ifCond .ne 14, 3, 66, 0, 0), (55, .aload_n 0, 1, 0, 0, 63), (56, .getfield 21, 3, 3, 4, 0), (59, .iload 5, 2, 0, 0, 0), (61, .iconst 1, 1, 0, 0, 0), (62, .iastore, 1, 0, 0, 0), (63, .goto 23, 3, 86, 0, 0), (66, .aload_n 0, 1, 0, 0, 63), (67, .getfield 21, 3, 3, 4, 0), (70, .iload 5, 2, 0, 0, 0), (72, .iconst 0, 1, 0, 0, 0), (73, .iastore, 1, 0, 0, 0), (74, .iload 4, 2, 0, 0, 0), (76, .aload_n 0, 1, 0, 0, 0), (77, .getfield 18, 3, 3, 3, 0), (80, .iload 5, 2, 0, 0, 0), (82, .iaload, 1, 0, 0, 0), (83, .iadd, 1, 0, 0, 0), (84, .istore 4, 2, 0, 0, 0), (86, .iinc 5 1, 3, 0, 0, 63), (89, .goto (-83), 3, 6, 0, 0), (92, .iload 4, 2, 0, 0, 16), (94, .ireturn, 1, 0, 0, 0)]
def xR_X3_doDeeds : MethodName × ByteArray × Nat × Option FieldType × Nat × Bool × Nat × Nat × Nat × List (Nat × xEnt) := (yX3_doDeeds, cX3_doDeeds, 6, (some .int), 3, true, 3, 0, 0, xL_X3_doDeeds)
def xL_X3_exileBy : List (Nat × xEnt) := [(0, .iconst 0, 1, 0, 0, 0), (1, .istore 4, 2, 0, 0, 0), (3, .iload 4, 2, 0, 0, 31), (5, .aload_n 1, 1, 0, 0, 0), (6, .getfield 38, 3, 0, 3, 0), (9, .if_icmp .ge 87, 3, 96, 0, 0), (12, .aload_n 1, 1, 0, 0, 31), (13, .getfield 90, 3, 0, 2, 0), (16, .iload 4, 2, 0, 0, 0), (18, .iaload, 1, 0, 0, 0), (19, .iload_n 3, 1, 0, 0, 0), (20, .if_icmp .ne 27, 3, 47, 0, 0), (23, .iload_n 2, 1, 0, 0, 31), (24, .iload 4, 2, 0, 0, 0), (26, .ishr, 1, 0, 0, 0), (27, .iconst 1, 1, 0, 0, 0), (28, .iand, 1, 0, 0, 0), (29, .iconst 1, 1, 0, 0, 0), (30, .if_icmp .ne 17, 3, 47, 0, 0), (33, .aload_n 0, 1, 0, 0, 31), (34, .getfield 21, 3, 3, 4, 0), (37, .iload 4, 2, 0, 0, 0), (39, .iaload, 1, 0, 0, 0), (40, .ifCond .ne 7, 3, 47, 0, 0), (43, .iconst 1, 1, 0, 0, 31), (44, .goto 4, 3, 48, 0, 0), (47, .iconst 0, 1, 0, 0, 31), (48, .istore 5, 2, 0, 0, 31), (50, .iload 5, 2, 0, 0, 0), (52, .ifCond .eq 38, 3, 90, 0, 0), (55, .aload_n 0, 1, 0, 0, 31), (56, .getfield 18, 3, 3, 3, 0), (59, .iload 4, 2, 0, 0, 0), (61, .iaload, 1, 0, 0, 0), (62, .aload_n 0, 1, 0, 0, 0), (63, .getfield 28, 3, 3, 0, 0), (66, .getfield 93, 3, 1, 2, 0), (69, .if_icmp .le 21, 3, 90, 0, 0), (72, .aload_n 0, 1, 0, 0, 31), (73, .dup, 1, 0, 0, 0), (74, .getfield 58, 3, 3, 6, 0), (77, .lconst 1, 1, 0, 0, 0), (78, .aload_n 1, 1, 0, 0, 0), (79, .getfield 49, 3, 0, 0, 0), (82, .iload 4, 2, 0, 0, 0), (84, .iaload, 1, 0, 0, 0), (85, .lshl, 1, 0, 0, 0), (86, .lor, 1, 0, 0, 0), (87, .putfield 58, 3, 3, 6, 0), (90, .iinc 4 1, 3, 0, 0, 31), (93, .goto (-90), 3, 3, 0, 0), (96, .return_, 1, 0, 0, 1152921504606846976)]
def xR_X3_exileBy : MethodName × ByteArray × Nat × Option FieldType × Nat × Bool × Nat × Nat × Nat × List (Nat × xEnt) := (yX3_exileBy, cX3_exileBy, 6, none, 3, true, 3, 0, 0, xL_X3_exileBy)
def xL_X3_lateness : List (Nat × xEnt) := [(0, .aload_n 0, 1, 0, 0, 0), (1, .getfield 24, 3, 3, 5, 0), (4, .iconst (-1), 1, 0, 0, 0), (5, .if_icmp .ne 8, 3, 13, 0, 0), (8, .bipush 10, 2, 0, 0, 1152921504606846976), (10, .goto 7, 3, 17, 0, 0), (13, .aload_n 0, 1, 0, 0, 1), (14, .getfield 24, 3, 3, 5, 0), (17, .ireturn, 1, 0, 0, 1152921504606846976)]
def xR_X3_lateness : MethodName × ByteArray × Nat × Option FieldType × Nat × Bool × Nat × Nat × Nat × List (Nat × xEnt) := (yX3_lateness, cX3_lateness, 1, (some .int), 3, true, 0, 0, 0, xL_X3_lateness)
def xL_X3_doneOf : List (Nat × xEnt) := [(0, .iconst 0, 1, 0, 0, 0), (1, .istore_n 2, 1, 0, 0, 0), (2, .iconst 0, 1, 0, 0, 0), (3, .istore_n 3, 1, 0, 0, 0), (4, .iload_n 3, 1, 0, 0, 15), (5, .aload_n 1, 1, 0, 0, 0), (6, .getfield 38, 3, 0, 3, 0), (9, .if_icmp .ge 26, 3, 35, 0, 0), (12, .iload_n 2, 1, 0, 0, 15), (13, .aload_n 0, 1, 0, 0, 0), (14, .getfield 21, 3, 3, 4, 0), (17, .iload_n 3, 1, 0, 0, 0), (18, .iaload, 1, 0, 0, 0), (19, .ifCond .ne 7, 3, 26, 0, 0), (22, .iconst 1, 1, 0, 0, 11), (23, .goto 4, 3, 27, 0, 0), (26, .iconst 0, 1, 0, 0, 11), (27, .iadd, 1, 0, 0, 11), (28, .istore_n 2, 1, 0, 0, 0), (29, .iinc 3 1, 3, 0, 0, 0), (32, .goto (-28), 3, 4, 0, 0), (35, .iload_n 2, 1, 0, 0, 4), (36, .ireturn, 1, 0, 0, 0)]
def xR_X3_doneOf : MethodName × ByteArray × Nat × Option FieldType × Nat × Bool × Nat × Nat × Nat × List (Nat × xEnt) := (yX3_doneOf, cX3_doneOf, 4, (some .int), 3, true, 1, 0, 0, xL_X3_doneOf)
def xL_X4_takeTolls : List (Nat × xEnt) := [(0, .iconst 0, 1, 0, 0, 0), (1, .istore_n 2, 1, 0, 0, 0), (2, .iload_n 2, 1, 0, 0, 7), (3, .aload_n 1, 1, 0, 0, 0), (4, .getfield 18, 3, 7, 2, 0), (7, .if_icmp .ge 25, 3, 32, 0, 0), (10, .aload_n 0, 1, 0, 0, 7), (11, .getfield 9, 3, 4, 0, 0), (14, .iload_n 2, 1, 0, 0, 0), (15, .getstatic 24, 3, 0, 1, 0), (18, .aload_n 1, 1, 0, 0, 0), (19, .getfield 27, 3, 7, 0, 0), (22, .iload_n 2, 1, 0, 0, 0), (23, .iaload, 1, 0, 0, 0), (24, .iaload, 1, 0, 0, 0), (25, .iastore, 1, 0, 0, 0), (26, .iinc 2 1, 3, 0, 0, 0), (29, .goto (-27), 3, 2, 0, 0), (32, .return_, 1, 0, 0, 1152921504606846976)]
def xR_X4_takeTolls : MethodName × ByteArray × Nat × Option FieldType × Nat × Bool × Nat × Nat × Nat × List (Nat × xEnt) := (yX4_takeTolls, cX4_takeTolls, 3, none, 4, true, 1, 0, 0, xL_X4_takeTolls)
def xL_X4_layFelt : List (Nat × xEnt) := [(0, .iload_n 1, 1, 0, 0, 0), (1, .ifCond .lt 19, 3, 20, 0, 0), (4, .iload_n 1, 1, 0, 0, 3), (5, .aload_n 0, 1, 0, 0, 0), (6, .getfield 9, 3, 4, 0, 0), (9, .arraylength, 1, 0, 0, 0), (10, .if_icmp .ge 10, 3, 20, 0, 0), (13, .aload_n 0, 1, 0, 0, 3), (14, .getfield 9, 3, 4, 0, 0), (17, .iload_n 1, 1, 0, 0, 0), (18, .iconst 3, 1, 0, 0, 0), (19, .iastore, 1, 0, 0, 0), (20, .return_, 1, 0, 0, 1152921504606846976)]
def xR_X4_layFelt : MethodName × ByteArray × Nat × Option FieldType × Nat × Bool × Nat × Nat × Nat × List (Nat × xEnt) := (yX4_layFelt, cX4_layFelt, 2, none, 4, true, 1, 0, 0, xL_X4_layFelt)
def xL_X4_spread : List (Nat × xEnt) := [(0, .aload_n 0, 1, 0, 0, 0), (1, .getfield 15, 3, 4, 1, 0), (4, .ldc 30, 2, 4, 0, 0), (6, .invokestatic 31, 3, 209, 2, 0), (9, .aload_n 1, 1, 0, 0, 0), (10, .iload_n 2, 1, 0, 0, 0), (11, .invokevirtual 37, 3, 37, 1, 0), (14, .ifCond .ne 4, 3, 18, 0, 0), (17, .return_, 1, 0, 0, 1152921504606846976), (18, .aload_n 0, 1, 0, 0, 7), (19, .getfield 15, 3, 4, 1, 0), (22, .iload_n 2, 1, 0, 0, 0), (23, .iconst 0, 1, 0, 0, 0), (24, .iastore, 1, 0, 0, 0), (25, .iconst 1, 1, 0, 0, 0), (26, .istore_n 3, 1, 0, 0, 0), (27, .iconst 0, 1, 0, 0, 0), (28, .istore 4, 2, 0, 0, 0), (30, .iload_n 3, 1, 0, 0, 27), (31, .ifCond .eq 91, 3, 122, 0, 0), (34, .iload 4, 2, 0, 0, 19), (36, .bipush 36, 2, 0, 0, 0), (38, .if_icmp .ge 84, 3, 122, 0, 0), (41, .iconst 0, 1, 0, 0, 19), (42, .istore_n 3, 1, 0, 0, 0), (43, .iconst 0, 1, 0, 0, 0), (44, .istore 5, 2, 0, 0, 0), (46, .iload 5, 2, 0, 0, 59), (48, .aload_n 1, 1, 0, 0, 0), (49, .getfield 18, 3, 7, 2, 0), (52, .if_icmp .ge 64, 3, 116, 0, 0), (55, .iload 4, 2, 0, 0, 59), (57, .iconst 2, 1, 0, 0, 0), (58, .irem, 1, 0, 0, 0), (59, .ifCond .ne 8, 3, 67, 0, 0), (62, .iload 5, 2, 0, 0, 59), (64, .goto 12, 3, 76, 0, 0), (67, .aload_n 1, 1, 0, 0, 59), (68, .getfield 18, 3, 7, 2, 0), (71, .iconst 1, 1, 0, 0, 0), (72, .isub, 1, 0, 0, 0), (73, .iload 5, 2, 0, 0, 0), (75, .isub, 1, 0, 0, 0), (76, .istore 6, 2, 0, 0, 59), (78, .aload_n 0, 1, 0, 0, 0), (79, .aload_n 1, 1, 0, 0, 0), (80, .iload 6, 2, 0, 0, 0), (82, .invokevirtual 41, 3, 18, 2, 0), (85, .istore 7, 2, 0, 0, 0), (87, .iload 7, 2, 0, 0, 0), (89, .aload_n 0, 1, 0, 0, 0), (90, .getfield 15, 3, 4, 1, 0), (93, .iload 6, 2, 0, 0, 0), (95, .iaload, 1, 0, 0, 0), (96, .if_icmp .ge 14, 3, 110, 0, 0), (99, .aload_n 0, 1, 0, 0, 243), (100, .getfield 15, 3, 4, 1, 0), (103, .iload 6, 2, 0, 0, 0), (105, .iload 7, 2, 0, 0, 0), (107, .iastore, 1, 0, 0, 0), (108, .iconst 1, 1, 0, 0, 0), (109, .istore_n 3, 1, 0, 0, 0), (110, .iinc 5 1, 3, 0, 0, 59), (113, .goto (-67), 3, 46, 0, 0), (116, .iinc 4 1, 3, 0, 0, 27), (119, .goto (-89), 3, 30, 0, 0), (122, .return_, 1, 0, 0, 1152921504606846976)]
def xR_X4_spread : MethodName × ByteArray × Nat × Option FieldType × Nat × Bool × Nat × Nat × Nat × List (Nat × xEnt) := (yX4_spread, cX4_spread, 8, none, 4, true, 2, 1, 25, xL_X4_spread)
def xL_X4_leastBeside : List (Nat × xEnt) := [(0, .ldc 30, 2, 4, 0, 0), (2, .istore_n 3, 1, 0, 0, 0), (3, .iconst 0, 1, 0, 0, 0), (4, .istore 4, 2, 0, 0, 0), (6, .iload 4, 2, 0, 0, 31), (8, .iconst 4, 1, 0, 0, 0), (9, .if_icmp .ge 63, 3, 72, 0, 0), (12, .aload_n 1, 1, 0, 0, 31), (13, .getfield 45, 3, 7, 1, 0), (16, .iload_n 2, 1, 0, 0, 0), (17, .iconst 4, 1, 0, 0, 0), (18, .imul, 1, 0, 0, 0), (19, .iload 4, 2, 0, 0, 0), (21, .iadd, 1, 0, 0, 0), (22, .iaload, 1, 0, 0, 0), (23, .istore 5, 2, 0, 0, 0), (25, .iload 5, 2, 0, 0, 0), (27, .iconst (-1), 1, 0, 0, 0), (28, .if_icmp .eq 38, 3, 66, 0, 0), (31, .aload_n 0, 1, 0, 0, 63), (32, .getfield 15, 3, 4, 1, 0), (35, .iload 5, 2, 0, 0, 0), (37, .iaload, 1, 0, 0, 0), (38, .aload_n 0, 1, 0, 0, 0), (39, .getfield 9, 3, 4, 0, 0), (42, .iload 5, 2, 0, 0, 0), (44, .iaload, 1, 0, 0, 0), (45, .iadd, 1, 0, 0, 0), (46, .iload_n 3, 1, 0, 0, 0), (47, .if_icmp .ge 19, 3, 66, 0, 0), (50, .aload_n 0, 1, 0, 0, 55), (51, .getfield 15, 3, 4, 1, 0), (54, .iload 5, 2, 0, 0, 0), (56, .iaload, 1, 0, 0, 0), (57, .aload_n 0, 1, 0, 0, 0), (58, .getfield 9, 3, 4, 0, 0), (61, .iload 5, 2, 0, 0, 0), (63, .iaload, 1, 0, 0, 0), (64, .iadd, 1, 0, 0, 0), (65, .istore_n 3, 1, 0, 0, 0), (66, .iinc 4 1, 3, 0, 0, 31), (69, .goto (-63), 3, 6, 0, 0), (72, .iload_n 3, 1, 0, 0, 8), (73, .ireturn, 1, 0, 0, 0)]
def xR_X4_leastBeside : MethodName × ByteArray × Nat × Option FieldType × Nat × Bool × Nat × Nat × Nat × List (Nat × xEnt) := (yX4_leastBeside, cX4_leastBeside, 6, (some .int), 4, true, 2, 0, 0, xL_X4_leastBeside)
def xL_X4_left : List (Nat × xEnt) := [(0, .iload_n 2, 1, 0, 0, 0), (1, .ifCond .lt 30, 3, 31, 0, 0), (4, .iload_n 2, 1, 0, 0, 7), (5, .bipush 36, 2, 0, 0, 0), (7, .if_icmp .ge 24, 3, 31, 0, 0), (10, .iload_n 1, 1, 0, 0, 7), (11, .aload_n 0, 1, 0, 0, 0), (12, .getfield 15, 3, 4, 1, 0), (15, .iload_n 2, 1, 0, 0, 0), (16, .iaload, 1, 0, 0, 0), (17, .if_icmp .le 14, 3, 31, 0, 0), (20, .iload_n 1, 1, 0, 0, 7), (21, .aload_n 0, 1, 0, 0, 0), (22, .getfield 15, 3, 4, 1, 0), (25, .iload_n 2, 1, 0, 0, 0), (26, .iaload, 1, 0, 0, 0), (27, .isub, 1, 0, 0, 0), (28, .goto 4, 3, 32, 0, 0), (31, .iconst 0, 1, 0, 0, 1152921504606846976), (32, .ireturn, 1, 0, 0, 1152921504606846976)]
def xR_X4_left : MethodName × ByteArray × Nat × Option FieldType × Nat × Bool × Nat × Nat × Nat × List (Nat × xEnt) := (yX4_left, cX4_left, 3, (some .int), 4, true, 2, 0, 0, xL_X4_left)
def xL_X5_isLost : List (Nat × xEnt) := [(0, .aload_n 0, 1, 0, 0, 0), (1, .getfield 9, 3, 5, 0, 0), (4, .iload_n 1, 1, 0, 0, 0), (5, .iaload, 1, 0, 0, 0), (6, .iconst (-1), 1, 0, 0, 0), (7, .if_icmp .ne 7, 3, 14, 0, 0), (10, .iconst 1, 1, 0, 0, 1152921504606846976), (11, .goto 4, 3, 15, 0, 0), (14, .iconst 0, 1, 0, 0, 1152921504606846976), (15, .ireturn, 1, 0, 0, 1152921504606846976)]
def xR_X5_isLost : MethodName × ByteArray × Nat × Option FieldType × Nat × Bool × Nat × Nat × Nat × List (Nat × xEnt) := (yX5_isLost, cX5_isLost, 2, (some .boolean), 5, true, 1, 0, 0, xL_X5_isLost)
def xL_X5_renew : List (Nat × xEnt) := [(0, .aload_n 0, 1, 0, 0, 0), (1, .getfield 9, 3, 5, 0, 0), (4, .iload_n 1, 1, 0, 0, 0), (5, .iload_n 2, 1, 0, 0, 0), (6, .iastore, 1, 0, 0, 0), (7, .aload_n 0, 1, 0, 0, 0), (8, .getfield 15, 3, 5, 1, 0), (11, .iload_n 1, 1, 0, 0, 0), (12, .iload_n 3, 1, 0, 0, 0), (13, .iastore, 1, 0, 0, 0), (14, .iconst 0, 1, 0, 0, 0), (15, .istore 4, 2, 0, 0, 0), (17, .iload 4, 2, 0, 0, 27), (19, .iload_n 3, 1, 0, 0, 0), (20, .if_icmp .ge 22, 3, 42, 0, 0), (23, .aload_n 0, 1, 0, 0, 27), (24, .getfield 18, 3, 5, 2, 0), (27, .iload_n 1, 1, 0, 0, 0), (28, .bipush 60, 2, 0, 0, 0), (30, .imul, 1, 0, 0, 0), (31, .iload 4, 2, 0, 0, 0), (33, .iadd, 1, 0, 0, 0), (34, .iconst 0, 1, 0, 0, 0), (35, .iastore, 1, 0, 0, 0), (36, .iinc 4 1, 3, 0, 0, 0), (39, .goto (-22), 3, 17, 0, 0), (42, .return_, 1, 0, 0, 1152921504606846976)]
def xR_X5_renew : MethodName × ByteArray × Nat × Option FieldType × Nat × Bool × Nat × Nat × Nat × List (Nat × xEnt) := (yX5_renew, cX5_renew, 5, none, 5, true, 3, 0, 0, xL_X5_renew)
def xL_X5_hasItem : List (Nat × xEnt) := [(0, .iload_n 2, 1, 0, 0, 0), (1, .ifCond .lt 17, 3, 18, 0, 0), (4, .iload_n 2, 1, 0, 0, 7), (5, .aload_n 0, 1, 0, 0, 0), (6, .getfield 15, 3, 5, 1, 0), (9, .iload_n 1, 1, 0, 0, 0), (10, .iaload, 1, 0, 0, 0), (11, .if_icmp .ge 7, 3, 18, 0, 0), (14, .iconst 1, 1, 0, 0, 1152921504606846976), (15, .goto 4, 3, 19, 0, 0), (18, .iconst 0, 1, 0, 0, 1152921504606846976), (19, .ireturn, 1, 0, 0, 1152921504606846976)]
def xR_X5_hasItem : MethodName × ByteArray × Nat × Option FieldType × Nat × Bool × Nat × Nat × Nat × List (Nat × xEnt) := (yX5_hasItem, cX5_hasItem, 3, (some .boolean), 5, true, 2, 0, 0, xL_X5_hasItem)
def xL_X5_item : List (Nat × xEnt) := [(0, .aload_n 0, 1, 0, 0, 0), (1, .iload_n 1, 1, 0, 0, 0), (2, .iload_n 2, 1, 0, 0, 0), (3, .invokevirtual 27, 3, 22, 2, 0), (6, .ifCond .eq 17, 3, 23, 0, 0), (9, .aload_n 0, 1, 0, 0, 7), (10, .getfield 18, 3, 5, 2, 0), (13, .iload_n 1, 1, 0, 0, 0), (14, .bipush 60, 2, 0, 0, 0), (16, .imul, 1, 0, 0, 0), (17, .iload_n 2, 1, 0, 0, 0), (18, .iadd, 1, 0, 0, 0), (19, .iaload, 1, 0, 0, 0), (20, .goto 4, 3, 24, 0, 0), (23, .iconst 0, 1, 0, 0, 1152921504606846976), (24, .ireturn, 1, 0, 0, 1152921504606846976)]
def xR_X5_item : MethodName × ByteArray × Nat × Option FieldType × Nat × Bool × Nat × Nat × Nat × List (Nat × xEnt) := (yX5_item, cX5_item, 3, (some .int), 5, true, 2, 1, 22, xL_X5_item)
def xL_X5_store : List (Nat × xEnt) := [(0, .aload_n 0, 1, 0, 0, 0), (1, .iload_n 1, 1, 0, 0, 0), (2, .iload_n 2, 1, 0, 0, 0), (3, .invokevirtual 27, 3, 22, 2, 0), (6, .ifCond .eq 24, 3, 30, 0, 0), (9, .aload_n 0, 1, 0, 0, 15), (10, .getfield 18, 3, 5, 2, 0), (13, .iload_n 1, 1, 0, 0, 0), (14, .bipush 60, 2, 0, 0, 0), (16, .imul, 1, 0, 0, 0), (17, .iload_n 2, 1, 0, 0, 0), (18, .iadd, 1, 0, 0, 0), (19, .aload_n 0, 1, 0, 0, 0), (20, .getfield 9, 3, 5, 0, 0), (23, .iload_n 1, 1, 0, 0, 0), (24, .iaload, 1, 0, 0, 0), (25, .iload_n 3, 1, 0, 0, 0), (26, .invokestatic 31, 3, 25, 2, 0), (29, .iastore, 1, 0, 0, 0), (30, .return_, 1, 0, 0, 1152921504606846976)]
def xR_X5_store : MethodName × ByteArray × Nat × Option FieldType × Nat × Bool × Nat × Nat × Nat × List (Nat × xEnt) := (yX5_store, cX5_store, 4, none, 5, true, 3, 1, 22, xL_X5_store)
def xL_X5_cut : List (Nat × xEnt) := [(0, .iload_n 0, 1, 0, 0, 0), (1, .lookupswitch 33 #[(0, 27), (1, 30)], 27, 0, 0, 0), (28, .iload_n 1, 1, 0, 0, 2), (29, .i2b, 1, 0, 0, 0), (30, .ireturn, 1, 0, 0, 0), (31, .iload_n 1, 1, 0, 0, 2), (32, .i2s, 1, 0, 0, 0), (33, .ireturn, 1, 0, 0, 0), (34, .iload_n 1, 1, 0, 0, 2), (35, .ireturn, 1, 0, 0, 0)]
def xR_X5_cut : MethodName × ByteArray × Nat × Option FieldType × Nat × Bool × Nat × Nat × Nat × List (Nat × xEnt) := (yX5_cut, cX5_cut, 2, (some .int), 5, false, 2, 0, 0, xL_X5_cut)
def xL_X5_hasItems : List (Nat × xEnt) := [(0, .iload_n 3, 1, 0, 0, 0), (1, .ifCond .lt 23, 3, 24, 0, 0), (4, .iload_n 2, 1, 0, 0, 15), (5, .ifCond .lt 19, 3, 24, 0, 0), (8, .iload_n 2, 1, 0, 0, 15), (9, .aload_n 0, 1, 0, 0, 0), (10, .getfield 15, 3, 5, 1, 0), (13, .iload_n 1, 1, 0, 0, 0), (14, .iaload, 1, 0, 0, 0), (15, .iload_n 3, 1, 0, 0, 0), (16, .isub, 1, 0, 0, 0), (17, .if_icmp .gt 7, 3, 24, 0, 0), (20, .iconst 1, 1, 0, 0, 1152921504606846976), (21, .goto 4, 3, 25, 0, 0), (24, .iconst 0, 1, 0, 0, 1152921504606846976), (25, .ireturn, 1, 0, 0, 1152921504606846976)]
def xR_X5_hasItems : MethodName × ByteArray × Nat × Option FieldType × Nat × Bool × Nat × Nat × Nat × List (Nat × xEnt) := (yX5_hasItems, cX5_hasItems, 4, (some .boolean), 5, true, 3, 0, 0, xL_X5_hasItems)
def xL_X5_move : List (Nat × xEnt) := [(0, .aload_n 0, 1, 0, 0, 0), (1, .iload_n 1, 1, 0, 0, 0), (2, .iload_n 2, 1, 0, 0, 0), (3, .iload 5, 2, 0, 0, 0), (5, .invokevirtual 35, 3, 26, 3, 0), (8, .ifCond .eq 41, 3, 49, 0, 0), (11, .aload_n 0, 1, 0, 0, 63), (12, .iload_n 3, 1, 0, 0, 0), (13, .iload 4, 2, 0, 0, 0), (15, .iload 5, 2, 0, 0, 0), (17, .invokevirtual 35, 3, 26, 3, 0), (20, .ifCond .eq 29, 3, 49, 0, 0), (23, .aload_n 0, 1, 0, 0, 63), (24, .getfield 18, 3, 5, 2, 0), (27, .iload_n 1, 1, 0, 0, 0), (28, .bipush 60, 2, 0, 0, 0), (30, .imul, 1, 0, 0, 0), (31, .iload_n 2, 1, 0, 0, 0), (32, .iadd, 1, 0, 0, 0), (33, .aload_n 0, 1, 0, 0, 0), (34, .getfield 18, 3, 5, 2, 0), (37, .iload_n 3, 1, 0, 0, 0), (38, .bipush 60, 2, 0, 0, 0), (40, .imul, 1, 0, 0, 0), (41, .iload 4, 2, 0, 0, 0), (43, .iadd, 1, 0, 0, 0), (44, .iload 5, 2, 0, 0, 0), (46, .invokestatic 39, 3, 902, 5, 0), (49, .return_, 1, 0, 0, 1152921504606846976)]
def xR_X5_move : MethodName × ByteArray × Nat × Option FieldType × Nat × Bool × Nat × Nat × Nat × List (Nat × xEnt) := (yX5_move, cX5_move, 6, none, 5, true, 5, 1, 40, xL_X5_move)
def xL_X6_isFull : List (Nat × xEnt) := [(0, .aload_n 0, 1, 0, 0, 0), (1, .getfield 25, 3, 6, 2, 0), (4, .aload_n 0, 1, 0, 0, 0), (5, .getfield 21, 3, 6, 1, 0), (8, .if_icmp .lt 7, 3, 15, 0, 0), (11, .iconst 1, 1, 0, 0, 1152921504606846976), (12, .goto 4, 3, 16, 0, 0), (15, .iconst 0, 1, 0, 0, 1152921504606846976), (16, .ireturn, 1, 0, 0, 1152921504606846976)]
def xR_X6_isFull : MethodName × ByteArray × Nat × Option FieldType × Nat × Bool × Nat × Nat × Nat × List (Nat × xEnt) := (yX6_isFull, cX6_isFull, 1, (some .boolean), 6, true, 0, 0, 0, xL_X6_isFull)
def xL_X6_append : List (Nat × xEnt) := [(0, .aload_n 0, 1, 0, 0, 0), (1, .getfield 25, 3, 6, 2, 0), (4, .ifCond .lt 35, 3, 39, 0, 0), (7, .aload_n 0, 1, 0, 0, 3), (8, .getfield 25, 3, 6, 2, 0), (11, .aload_n 0, 1, 0, 0, 0), (12, .getfield 9, 3, 6, 0, 0), (15, .arraylength, 1, 0, 0, 0), (16, .if_icmp .ge 23, 3, 39, 0, 0), (19, .aload_n 0, 1, 0, 0, 3), (20, .getfield 9, 3, 6, 0, 0), (23, .aload_n 0, 1, 0, 0, 0), (24, .getfield 25, 3, 6, 2, 0), (27, .iload_n 1, 1, 0, 0, 0), (28, .iastore, 1, 0, 0, 0), (29, .aload_n 0, 1, 0, 0, 0), (30, .dup, 1, 0, 0, 0), (31, .getfield 25, 3, 6, 2, 0), (34, .iconst 1, 1, 0, 0, 0), (35, .iadd, 1, 0, 0, 0), (36, .putfield 25, 3, 6, 2, 0), (39, .return_, 1, 0, 0, 1152921504606846976)]
def xR_X6_append : MethodName × ByteArray × Nat × Option FieldType × Nat × Bool × Nat × Nat × Nat × List (Nat × xEnt) := (yX6_append, cX6_append, 2, none, 6, true, 1, 0, 0, xL_X6_append)
def xL_X7_readFrom : List (Nat × xEnt) := [(0, .aload_n 0, 1, 0, 0, 0), (1, .invokevirtual 25, 3, 31, 0, 0), (4, .aload_n 0, 1, 0, 0, 0), (5, .aload_n 0, 1, 0, 0, 0), (6, .aload_n 1, 1, 0, 0, 0), (7, .invokevirtual 28, 3, 32, 1, 0), (10, .putfield 22, 3, 7, 5, 0), (13, .aload_n 0, 1, 0, 0, 0), (14, .getfield 22, 3, 7, 5, 0), (17, .iconst (-1), 1, 0, 0, 0), (18, .if_icmp .eq 7, 3, 25, 0, 0), (21, .aload_n 0, 1, 0, 0, 1), (22, .invokevirtual 25, 3, 31, 0, 0), (25, .aload_n 0, 1, 0, 0, 1), (26, .invokevirtual 32, 3, 36, 0, 0), (29, .return_, 1, 0, 0, 0)]
def xR_X7_readFrom : MethodName × ByteArray × Nat × Option FieldType × Nat × Bool × Nat × Nat × Nat × List (Nat × xEnt) := (yX7_readFrom, cX7_readFrom, 2, none, 7, true, 1, 5, 132, xL_X7_readFrom)
def xL_X7_empty : List (Nat × xEnt) := [(0, .aload_n 0, 1, 0, 0, 0), (1, .iconst 0, 1, 0, 0, 0), (2, .putfield 35, 3, 7, 2, 0), (5, .aload_n 0, 1, 0, 0, 0), (6, .iconst 0, 1, 0, 0, 0), (7, .putfield 38, 3, 7, 3, 0), (10, .aload_n 0, 1, 0, 0, 0), (11, .iconst (-1), 1, 0, 0, 0), (12, .putfield 18, 3, 7, 4, 0), (15, .return_, 1, 0, 0, 0)]
def xR_X7_empty : MethodName × ByteArray × Nat × Option FieldType × Nat × Bool × Nat × Nat × Nat × List (Nat × xEnt) := (yX7_empty, cX7_empty, 1, none, 7, true, 0, 0, 0, xL_X7_empty)
def xL_X7_place : List (Nat × xEnt) := [(0, .iconst 0, 1, 0, 0, 0), (1, .istore_n 2, 1, 0, 0, 0), (2, .iconst 0, 1, 0, 0, 0), (3, .istore_n 3, 1, 0, 0, 0), (4, .iconst 0, 1, 0, 0, 0), (5, .istore 4, 2, 0, 0, 0), (7, .iload 4, 2, 0, 0, 31), (9, .aload_n 1, 1, 0, 0, 0), (10, .getfield 41, 3, 6, 2, 0), (13, .if_icmp .ge 86, 3, 99, 0, 0), (16, .aload_n 1, 1, 0, 0, 31), (17, .getfield 46, 3, 6, 0, 0), (20, .iload 4, 2, 0, 0, 0), (22, .iaload, 1, 0, 0, 0), (23, .istore 5, 2, 0, 0, 0), (25, .iload 5, 2, 0, 0, 0), (27, .bipush 59, 2, 0, 0, 0), (29, .if_icmp .ne 22, 3, 51, 0, 0), (32, .aload_n 0, 1, 0, 0, 31), (33, .iload_n 3, 1, 0, 0, 0), (34, .invokevirtual 49, 3, 33, 1, 0), (37, .ifCond .eq 6, 3, 43, 0, 0), (40, .iload 4, 2, 0, 0, 16), (42, .ireturn, 1, 0, 0, 0), (43, .iinc 2 1, 3, 0, 0, 23), (46, .iconst 0, 1, 0, 0, 0), (47, .istore_n 3, 1, 0, 0, 0), (48, .goto 45, 3, 93, 0, 0), (51, .ldc 53, 2, 1002, 1, 63), (53, .iload 5, 2, 0, 0, 0), (55, .i2c, 1, 0, 0, 0), (56, .invokevirtual 55, 3, 202, 1, 0), (59, .istore 6, 2, 0, 0, 0), (61, .aload_n 0, 1, 0, 0, 0), (62, .iload 6, 2, 0, 0, 0), (64, .iload_n 2, 1, 0, 0, 0), (65, .iload_n 3, 1, 0, 0, 0), (66, .invokevirtual 61, 3, 34, 3, 0), (69, .ifCond .ne 6, 3, 75, 0, 0), (72, .iload 4, 2, 0, 0, 16), (74, .ireturn, 1, 0, 0, 0), (75, .aload_n 0, 1, 0, 0, 95), (76, .iload 6, 2, 0, 0, 0), (78, .invokevirtual 65, 3, 35, 1, 0), (81, .iinc 3 1, 3, 0, 0, 0), (84, .iload_n 2, 1, 0, 0, 0), (85, .ifCond .ne 8, 3, 93, 0, 0), (88, .aload_n 0, 1, 0, 0, 31), (89, .iload_n 3, 1, 0, 0, 0), (90, .putfield 38, 3, 7, 3, 0), (93, .iinc 4 1, 3, 0, 0, 31), (96, .goto (-89), 3, 7, 0, 0), (99, .aload_n 1, 1, 0, 0, 11), (100, .getfield 41, 3, 6, 2, 0), (103, .ifCond .le 18, 3, 121, 0, 0), (106, .aload_n 0, 1, 0, 0, 11), (107, .iload_n 3, 1, 0, 0, 0), (108, .invokevirtual 49, 3, 33, 1, 0), (111, .ifCond .eq 10, 3, 121, 0, 0), (114, .aload_n 1, 1, 0, 0, 2), (115, .getfield 41, 3, 6, 2, 0), (118, .goto 4, 3, 122, 0, 0), (121, .iconst (-1), 1, 0, 0, 1152921504606846976), (122, .ireturn, 1, 0, 0, 1152921504606846976)]
def xR_X7_place : MethodName × ByteArray × Nat × Option FieldType × Nat × Bool × Nat × Nat × Nat × List (Nat × xEnt) := (yX7_place, cX7_place, 7, (some .int), 7, true, 1, 4, 106, xL_X7_place)
def xL_X7_isTooShort : List (Nat × xEnt) := [(0, .iload_n 1, 1, 0, 0, 0), (1, .ifCond .eq 11, 3, 12, 0, 0), (4, .iload_n 1, 1, 0, 0, 3), (5, .aload_n 0, 1, 0, 0, 0), (6, .getfield 38, 3, 7, 3, 0), (9, .if_icmp .ge 7, 3, 16, 0, 0), (12, .iconst 1, 1, 0, 0, 1152921504606846976), (13, .goto 4, 3, 17, 0, 0), (16, .iconst 0, 1, 0, 0, 1152921504606846976), (17, .ireturn, 1, 0, 0, 1152921504606846976)]
def xR_X7_isTooShort : MethodName × ByteArray × Nat × Option FieldType × Nat × Bool × Nat × Nat × Nat × List (Nat × xEnt) := (yX7_isTooShort, cX7_isTooShort, 2, (some .boolean), 7, true, 1, 0, 0, xL_X7_isTooShort)
def xL_X7_mayStand : List (Nat × xEnt) := [(0, .iload_n 2, 1, 0, 0, 0), (1, .ifCond .ne 8, 3, 9, 0, 0), (4, .bipush 6, 2, 0, 0, 15), (6, .goto 7, 3, 13, 0, 0), (9, .aload_n 0, 1, 0, 0, 15), (10, .getfield 38, 3, 7, 3, 0), (13, .istore 4, 2, 0, 0, 15), (15, .iload_n 1, 1, 0, 0, 0), (16, .ifCond .lt 24, 3, 40, 0, 0), (19, .iload_n 2, 1, 0, 0, 31), (20, .bipush 6, 2, 0, 0, 0), (22, .if_icmp .ge 18, 3, 40, 0, 0), (25, .iload_n 3, 1, 0, 0, 27), (26, .iload 4, 2, 0, 0, 0), (28, .if_icmp .ge 12, 3, 40, 0, 0), (31, .aload_n 0, 1, 0, 0, 3), (32, .getfield 35, 3, 7, 2, 0), (35, .bipush 36, 2, 0, 0, 0), (37, .if_icmp .lt 5, 3, 42, 0, 0), (40, .iconst 0, 1, 0, 0, 1152921504606846976), (41, .ireturn, 1, 0, 0, 0), (42, .iload_n 1, 1, 0, 0, 3), (43, .iconst 3, 1, 0, 0, 0), (44, .if_icmp .ne 11, 3, 55, 0, 0), (47, .aload_n 0, 1, 0, 0, 1), (48, .getfield 18, 3, 7, 4, 0), (51, .iconst (-1), 1, 0, 0, 0), (52, .if_icmp .ne 7, 3, 59, 0, 0), (55, .iconst 1, 1, 0, 0, 1152921504606846976), (56, .goto 4, 3, 60, 0, 0), (59, .iconst 0, 1, 0, 0, 1152921504606846976), (60, .ireturn, 1, 0, 0, 1152921504606846976)]
def xR_X7_mayStand : MethodName × ByteArray × Nat × Option FieldType × Nat × Bool × Nat × Nat × Nat × List (Nat × xEnt) := (yX7_mayStand, cX7_mayStand, 5, (some .boolean), 7, true, 3, 0, 0, xL_X7_mayStand)
def xL_X7_add : List (Nat × xEnt) := [(0, .iload_n 1, 1, 0, 0, 0), (1, .iconst 3, 1, 0, 0, 0), (2, .if_icmp .ne 11, 3, 13, 0, 0), (5, .aload_n 0, 1, 0, 0, 3), (6, .aload_n 0, 1, 0, 0, 0), (7, .getfield 35, 3, 7, 2, 0), (10, .putfield 18, 3, 7, 4, 0), (13, .aload_n 0, 1, 0, 0, 3), (14, .getfield 9, 3, 7, 0, 0), (17, .aload_n 0, 1, 0, 0, 0), (18, .getfield 35, 3, 7, 2, 0), (21, .iload_n 1, 1, 0, 0, 0), (22, .iastore, 1, 0, 0, 0), (23, .aload_n 0, 1, 0, 0, 0), (24, .dup, 1, 0, 0, 0), (25, .getfield 35, 3, 7, 2, 0), (28, .iconst 1, 1, 0, 0, 0), (29, .iadd, 1, 0, 0, 0), (30, .putfield 35, 3, 7, 2, 0), (33, .return_, 1, 0, 0, 0)]
def xR_X7_add : MethodName × ByteArray × Nat × Option FieldType × Nat × Bool × Nat × Nat × Nat × List (Nat × xEnt) := (yX7_add, cX7_add, 2, none, 7, true, 1, 0, 0, xL_X7_add)
def xL_X7_link : List (Nat × xEnt) := [(0, .iconst 0, 1, 0, 0, 0), (1, .istore_n 1, 1, 0, 0, 0), (2, .iconst 0, 1, 0, 0, 0), (3, .istore_n 2, 1, 0, 0, 0), (4, .iload_n 2, 1, 0, 0, 7), (5, .aload_n 0, 1, 0, 0, 0), (6, .getfield 35, 3, 7, 2, 0), (9, .if_icmp .ge 130, 3, 139, 0, 0), (12, .iload_n 2, 1, 0, 0, 7), (13, .iconst 4, 1, 0, 0, 0), (14, .imul, 1, 0, 0, 0), (15, .istore_n 3, 1, 0, 0, 0), (16, .aload_n 0, 1, 0, 0, 0), (17, .getfield 15, 3, 7, 1, 0), (20, .iload_n 3, 1, 0, 0, 0), (21, .iload_n 2, 1, 0, 0, 0), (22, .aload_n 0, 1, 0, 0, 0), (23, .getfield 38, 3, 7, 3, 0), (26, .if_icmp .lt 12, 3, 38, 0, 0), (29, .iload_n 2, 1, 0, 0, 15), (30, .aload_n 0, 1, 0, 0, 0), (31, .getfield 38, 3, 7, 3, 0), (34, .isub, 1, 0, 0, 0), (35, .goto 4, 3, 39, 0, 0), (38, .iconst (-1), 1, 0, 0, 15), (39, .iastore, 1, 0, 0, 15), (40, .aload_n 0, 1, 0, 0, 0), (41, .getfield 15, 3, 7, 1, 0), (44, .iload_n 3, 1, 0, 0, 0), (45, .iconst 1, 1, 0, 0, 0), (46, .iadd, 1, 0, 0, 0), (47, .iload_n 1, 1, 0, 0, 0), (48, .iconst 1, 1, 0, 0, 0), (49, .iadd, 1, 0, 0, 0), (50, .aload_n 0, 1, 0, 0, 0), (51, .getfield 38, 3, 7, 3, 0), (54, .if_icmp .ge 9, 3, 63, 0, 0), (57, .iload_n 2, 1, 0, 0, 15), (58, .iconst 1, 1, 0, 0, 0), (59, .iadd, 1, 0, 0, 0), (60, .goto 4, 3, 64, 0, 0), (63, .iconst (-1), 1, 0, 0, 15), (64, .iastore, 1, 0, 0, 15), (65, .aload_n 0, 1, 0, 0, 0), (66, .getfield 15, 3, 7, 1, 0), (69, .iload_n 3, 1, 0, 0, 0), (70, .iconst 2, 1, 0, 0, 0), (71, .iadd, 1, 0, 0, 0), (72, .iload_n 2, 1, 0, 0, 0), (73, .aload_n 0, 1, 0, 0, 0), (74, .getfield 38, 3, 7, 3, 0), (77, .iadd, 1, 0, 0, 0), (78, .aload_n 0, 1, 0, 0, 0), (79, .getfield 35, 3, 7, 2, 0), (82, .if_icmp .ge 12, 3, 94, 0, 0), (85, .iload_n 2, 1, 0, 0, 15), (86, .aload_n 0, 1, 0, 0, 0), (87, .getfield 38, 3, 7, 3, 0), (90, .iadd, 1, 0, 0, 0), (91, .goto 4, 3, 95, 0, 0), (94, .iconst (-1), 1, 0, 0, 15), (95, .iastore, 1, 0, 0, 15), (96, .aload_n 0, 1, 0, 0, 0), (97, .getfield 15, 3, 7, 1, 0), (100, .iload_n 3, 1, 0, 0, 0), (101, .iconst 3, 1, 0, 0, 0), (102, .iadd, 1, 0, 0, 0), (103, .iload_n 1, 1, 0, 0, 0), (104, .ifCond .le 9, 3, 113, 0, 0), (107, .iload_n 2, 1, 0, 0, 7), (108, .iconst 1, 1, 0, 0, 0), (109, .isub, 1, 0, 0, 0), (110, .goto 4, 3, 114, 0, 0), (113, .iconst (-1), 1, 0, 0, 7), (114, .iastore, 1, 0, 0, 7), (115, .iload_n 1, 1, 0, 0, 0), (116, .iconst 1, 1, 0, 0, 0), (117, .iadd, 1, 0, 0, 0), (118, .aload_n 0, 1, 0, 0, 0), (119, .getfield 38, 3, 7, 3, 0), (122, .if_icmp .ge 9, 3, 131, 0, 0), (125, .iload_n 1, 1, 0, 0, 7), (126, .iconst 1, 1, 0, 0, 0), (127, .iadd, 1, 0, 0, 0), (128, .goto 4, 3, 132, 0, 0), (131, .iconst 0, 1, 0, 0, 5), (132, .istore_n 1, 1, 0, 0, 5), (133, .iinc 2 1, 3, 0, 0, 0), (136, .goto (-132), 3, 4, 0, 0), (139, .return_, 1, 0, 0, 1152921504606846976)]
def xR_X7_link : MethodName × ByteArray × Nat × Option FieldType × Nat × Bool × Nat × Nat × Nat × List (Nat × xEnt) := (yX7_link, cX7_link, 4, none, 7, true, 0, 0, 0, xL_X7_link)
def xL_X7_has : List (Nat × xEnt) := [(0, .iload_n 1, 1, 0, 0, 0), (1, .ifCond .lt 15, 3, 16, 0, 0), (4, .iload_n 1, 1, 0, 0, 3), (5, .aload_n 0, 1, 0, 0, 0), (6, .getfield 35, 3, 7, 2, 0), (9, .if_icmp .ge 7, 3, 16, 0, 0), (12, .iconst 1, 1, 0, 0, 1152921504606846976), (13, .goto 4, 3, 17, 0, 0), (16, .iconst 0, 1, 0, 0, 1152921504606846976), (17, .ireturn, 1, 0, 0, 1152921504606846976)]
def xR_X7_has : MethodName × ByteArray × Nat × Option FieldType × Nat × Bool × Nat × Nat × Nat × List (Nat × xEnt) := (yX7_has, cX7_has, 2, (some .boolean), 7, true, 1, 0, 0, xL_X7_has)
def xL_X7_isOpen : List (Nat × xEnt) := [(0, .aload_n 0, 1, 0, 0, 0), (1, .iload_n 1, 1, 0, 0, 0), (2, .invokevirtual 69, 3, 37, 1, 0), (5, .ifCond .eq 16, 3, 21, 0, 0), (8, .aload_n 0, 1, 0, 0, 3), (9, .getfield 9, 3, 7, 0, 0), (12, .iload_n 1, 1, 0, 0, 0), (13, .iaload, 1, 0, 0, 0), (14, .ifCond .ne 7, 3, 21, 0, 0), (17, .iconst 1, 1, 0, 0, 1152921504606846976), (18, .goto 4, 3, 22, 0, 0), (21, .iconst 0, 1, 0, 0, 1152921504606846976), (22, .ireturn, 1, 0, 0, 1152921504606846976)]
def xR_X7_isOpen : MethodName × ByteArray × Nat × Option FieldType × Nat × Bool × Nat × Nat × Nat × List (Nat × xEnt) := (yX7_isOpen, cX7_isOpen, 2, (some .boolean), 7, true, 1, 1, 21, xL_X7_isOpen)
def xL_X8_type : List (Nat × xEnt) := [(0, .iload_n 1, 1, 0, 0, 0), (1, .iconst 2, 1, 0, 0, 0), (2, .invokestatic 94, 3, 79, 2, 0), (5, .ifCond .ne 13, 3, 18, 0, 0), (8, .iload_n 2, 1, 0, 0, 7), (9, .sipush 256, 3, 0, 0, 0), (12, .invokestatic 94, 3, 79, 2, 0), (15, .ifCond .eq 6, 3, 21, 0, 0), (18, .bipush (-2), 2, 0, 0, 1152921504606846976), (20, .ireturn, 1, 0, 0, 0), (21, .aload_n 0, 1, 0, 0, 7), (22, .iload_n 1, 1, 0, 0, 0), (23, .invokevirtual 98, 3, 82, 1, 0), (26, .astore_n 3, 1, 0, 0, 0), (27, .aload_n 3, 1, 0, 0, 0), (28, .invokevirtual 102, 3, 28, 0, 0), (31, .ifCond .eq 6, 3, 37, 0, 0), (34, .bipush (-4), 2, 0, 0, 1152921504606846976), (36, .ireturn, 1, 0, 0, 0), (37, .aload_n 3, 1, 0, 0, 15), (38, .iload_n 2, 1, 0, 0, 0), (39, .invokevirtual 106, 3, 29, 1, 0), (42, .aload_n 0, 1, 0, 0, 0), (43, .iload_n 1, 1, 0, 0, 0), (44, .invokevirtual 109, 3, 83, 1, 0), (47, .aload_n 3, 1, 0, 0, 0), (48, .getfield 112, 3, 6, 2, 0), (51, .ireturn, 1, 0, 0, 0)]
def xR_X8_type : MethodName × ByteArray × Nat × Option FieldType × Nat × Bool × Nat × Nat × Nat × List (Nat × xEnt) := (yX8_type, cX8_type, 4, (some .int), 8, true, 2, 8, 192, xL_X8_type)
def xL_X8_wipe : List (Nat × xEnt) := [(0, .iload_n 1, 1, 0, 0, 0), (1, .iconst 2, 1, 0, 0, 0), (2, .invokestatic 94, 3, 79, 2, 0), (5, .ifCond .eq 6, 3, 11, 0, 0), (8, .bipush (-2), 2, 0, 0, 1152921504606846976), (10, .ireturn, 1, 0, 0, 0), (11, .aload_n 0, 1, 0, 0, 3), (12, .iload_n 1, 1, 0, 0, 0), (13, .invokevirtual 98, 3, 82, 1, 0), (16, .astore_n 2, 1, 0, 0, 0), (17, .aload_n 2, 1, 0, 0, 0), (18, .getfield 112, 3, 6, 2, 0), (21, .istore_n 3, 1, 0, 0, 0), (22, .aload_n 2, 1, 0, 0, 0), (23, .iconst 0, 1, 0, 0, 0), (24, .putfield 112, 3, 6, 2, 0), (27, .aload_n 0, 1, 0, 0, 0), (28, .iload_n 1, 1, 0, 0, 0), (29, .invokevirtual 109, 3, 83, 1, 0), (32, .iload_n 3, 1, 0, 0, 0), (33, .ireturn, 1, 0, 0, 0)]
def xR_X8_wipe : MethodName × ByteArray × Nat × Option FieldType × Nat × Bool × Nat × Nat × Nat × List (Nat × xEnt) := (yX8_wipe, cX8_wipe, 4, (some .int), 8, true, 1, 8, 192, xL_X8_wipe)
def xL_X8_undo : List (Nat × xEnt) := [(0, .iload_n 1, 1, 0, 0, 0), (1, .iconst 2, 1, 0, 0, 0), (2, .invokestatic 94, 3, 79, 2, 0), (5, .ifCond .eq 6, 3, 11, 0, 0), (8, .bipush (-2), 2, 0, 0, 1152921504606846976), (10, .ireturn, 1, 0, 0, 0), (11, .aload_n 0, 1, 0, 0, 3), (12, .iload_n 1, 1, 0, 0, 0), (13, .invokevirtual 98, 3, 82, 1, 0), (16, .astore_n 2, 1, 0, 0, 0), (17, .aload_n 2, 1, 0, 0, 0), (18, .getfield 112, 3, 6, 2, 0), (21, .ifCond .ne 6, 3, 27, 0, 0), (24, .bipush (-3), 2, 0, 0, 1152921504606846976), (26, .ireturn, 1, 0, 0, 0), (27, .aload_n 2, 1, 0, 0, 7), (28, .dup, 1, 0, 0, 0), (29, .getfield 112, 3, 6, 2, 0), (32, .iconst 1, 1, 0, 0, 0), (33, .isub, 1, 0, 0, 0), (34, .putfield 112, 3, 6, 2, 0), (37, .aload_n 0, 1, 0, 0, 0), (38, .iload_n 1, 1, 0, 0, 0), (39, .invokevirtual 109, 3, 83, 1, 0), (42, .aload_n 2, 1, 0, 0, 0), (43, .getfield 112, 3, 6, 2, 0), (46, .ireturn, 1, 0, 0, 0)]
def xR_X8_undo : MethodName × ByteArray × Nat × Option FieldType × Nat × Bool × Nat × Nat × Nat × List (Nat × xEnt) := (yX8_undo, cX8_undo, 3, (some .int), 8, true, 1, 8, 192, xL_X8_undo)
def xL_X8_fault : List (Nat × xEnt) := [(0, .iload_n 1, 1, 0, 0, 0), (1, .iconst 2, 1, 0, 0, 0), (2, .invokestatic 94, 3, 79, 2, 0), (5, .ifCond .eq 6, 3, 11, 0, 0), (8, .bipush (-2), 2, 0, 0, 1152921504606846976), (10, .ireturn, 1, 0, 0, 0), (11, .iload_n 1, 1, 0, 0, 3), (12, .ifCond .ne 13, 3, 25, 0, 0), (15, .aload_n 0, 1, 0, 0, 1), (16, .getfield 24, 3, 8, 2, 0), (19, .getfield 116, 3, 7, 5, 0), (22, .goto 10, 3, 32, 0, 0), (25, .aload_n 0, 1, 0, 0, 1), (26, .getfield 31, 3, 8, 3, 0), (29, .getfield 119, 3, 0, 4, 0), (32, .ireturn, 1, 0, 0, 1152921504606846976)]
def xR_X8_fault : MethodName × ByteArray × Nat × Option FieldType × Nat × Bool × Nat × Nat × Nat × List (Nat × xEnt) := (yX8_fault, cX8_fault, 2, (some .int), 8, true, 1, 1, 21, xL_X8_fault)
def xL_X8_cell : List (Nat × xEnt) := [(0, .iload_n 1, 1, 0, 0, 0), (1, .bipush 36, 2, 0, 0, 0), (3, .invokestatic 94, 3, 79, 2, 0), (6, .ifCond .eq 6, 3, 12, 0, 0), (9, .bipush (-2), 2, 0, 0, 1152921504606846976), (11, .ireturn, 1, 0, 0, 0), (12, .aload_n 0, 1, 0, 0, 3), (13, .getfield 24, 3, 8, 2, 0), (16, .iload_n 1, 1, 0, 0, 0), (17, .invokevirtual 120, 3, 37, 1, 0), (20, .ifCond .eq 15, 3, 35, 0, 0), (23, .aload_n 0, 1, 0, 0, 3), (24, .getfield 24, 3, 8, 2, 0), (27, .getfield 124, 3, 7, 0, 0), (30, .iload_n 1, 1, 0, 0, 0), (31, .iaload, 1, 0, 0, 0), (32, .goto 4, 3, 36, 0, 0), (35, .iconst (-1), 1, 0, 0, 1152921504606846976), (36, .ireturn, 1, 0, 0, 1152921504606846976)]
def xR_X8_cell : MethodName × ByteArray × Nat × Option FieldType × Nat × Bool × Nat × Nat × Nat × List (Nat × xEnt) := (yX8_cell, cX8_cell, 2, (some .int), 8, true, 1, 1, 21, xL_X8_cell)
def xL_X8_bed : List (Nat × xEnt) := [(0, .aload_n 0, 1, 0, 0, 0), (1, .getfield 24, 3, 8, 2, 0), (4, .getfield 127, 3, 7, 4, 0), (7, .ireturn, 1, 0, 0, 0)]
def xR_X8_bed : MethodName × ByteArray × Nat × Option FieldType × Nat × Bool × Nat × Nat × Nat × List (Nat × xEnt) := (yX8_bed, cX8_bed, 1, (some .int), 8, true, 0, 0, 0, xL_X8_bed)
def xL_X8_deed : List (Nat × xEnt) := [(0, .aload_n 0, 1, 0, 0, 0), (1, .iload_n 1, 1, 0, 0, 0), (2, .invokevirtual 130, 3, 80, 1, 0), (5, .ifCond .ne 11, 3, 16, 0, 0), (8, .iload_n 2, 1, 0, 0, 7), (9, .iconst 3, 1, 0, 0, 0), (10, .invokestatic 94, 3, 79, 2, 0), (13, .ifCond .eq 6, 3, 19, 0, 0), (16, .bipush (-2), 2, 0, 0, 1152921504606846976), (18, .ireturn, 1, 0, 0, 0), (19, .iload_n 2, 1, 0, 0, 7), (20, .ifCond .ne 13, 3, 33, 0, 0), (23, .aload_n 0, 1, 0, 0, 3), (24, .getfield 31, 3, 8, 3, 0), (27, .getfield 133, 3, 0, 0, 0), (30, .iload_n 1, 1, 0, 0, 0), (31, .iaload, 1, 0, 0, 0), (32, .ireturn, 1, 0, 0, 0), (33, .iload_n 2, 1, 0, 0, 7), (34, .iconst 1, 1, 0, 0, 0), (35, .if_icmp .ne 15, 3, 50, 0, 0), (38, .aload_n 0, 1, 0, 0, 3), (39, .getfield 31, 3, 8, 3, 0), (42, .getfield 134, 3, 0, 1, 0), (45, .iload_n 1, 1, 0, 0, 0), (46, .iaload, 1, 0, 0, 0), (47, .goto 12, 3, 59, 0, 0), (50, .aload_n 0, 1, 0, 0, 3), (51, .getfield 31, 3, 8, 3, 0), (54, .getfield 135, 3, 0, 2, 0), (57, .iload_n 1, 1, 0, 0, 0), (58, .iaload, 1, 0, 0, 0), (59, .ireturn, 1, 0, 0, 1152921504606846976)]
def xR_X8_deed : MethodName × ByteArray × Nat × Option FieldType × Nat × Bool × Nat × Nat × Nat × List (Nat × xEnt) := (yX8_deed, cX8_deed, 3, (some .int), 8, true, 2, 2, 42, xL_X8_deed)
def xL_X8_set : List (Nat × xEnt) := [(0, .iload_n 1, 1, 0, 0, 0), (1, .iconst 2, 1, 0, 0, 0), (2, .invokestatic 94, 3, 79, 2, 0), (5, .ifCond .ne 23, 3, 28, 0, 0), (8, .iload_n 2, 1, 0, 0, 7), (9, .iload_n 1, 1, 0, 0, 0), (10, .ifCond .ne 8, 3, 18, 0, 0), (13, .bipush 30, 2, 0, 0, 7), (15, .goto 5, 3, 20, 0, 0), (18, .bipush 20, 2, 0, 0, 7), (20, .iconst 1, 1, 0, 0, 7), (21, .iadd, 1, 0, 0, 0), (22, .invokestatic 94, 3, 79, 2, 0), (25, .ifCond .eq 6, 3, 31, 0, 0), (28, .bipush (-2), 2, 0, 0, 1152921504606846976), (30, .ireturn, 1, 0, 0, 0), (31, .iload_n 1, 1, 0, 0, 7), (32, .ifCond .ne 13, 3, 45, 0, 0), (35, .aload_n 0, 1, 0, 0, 7), (36, .getfield 38, 3, 8, 4, 0), (39, .getfield 138, 3, 1, 1, 0), (42, .goto 10, 3, 52, 0, 0), (45, .aload_n 0, 1, 0, 0, 7), (46, .getfield 38, 3, 8, 4, 0), (49, .getfield 141, 3, 1, 2, 0), (52, .istore_n 3, 1, 0, 0, 7), (53, .iload_n 1, 1, 0, 0, 0), (54, .ifCond .ne 14, 3, 68, 0, 0), (57, .aload_n 0, 1, 0, 0, 13), (58, .getfield 38, 3, 8, 4, 0), (61, .iload_n 2, 1, 0, 0, 0), (62, .putfield 138, 3, 1, 1, 0), (65, .goto 11, 3, 76, 0, 0), (68, .aload_n 0, 1, 0, 0, 13), (69, .getfield 38, 3, 8, 4, 0), (72, .iload_n 2, 1, 0, 0, 0), (73, .putfield 141, 3, 1, 2, 0), (76, .aload_n 0, 1, 0, 0, 9), (77, .invokevirtual 91, 3, 84, 0, 0), (80, .iload_n 3, 1, 0, 0, 0), (81, .ireturn, 1, 0, 0, 0)]
def xR_X8_set : MethodName × ByteArray × Nat × Option FieldType × Nat × Bool × Nat × Nat × Nat × List (Nat × xEnt) := (yX8_set, cX8_set, 4, (some .int), 8, true, 2, 3, 86, xL_X8_set)
def xL_X8_thunder : List (Nat × xEnt) := [(0, .iload_n 1, 1, 0, 0, 0), (1, .iload_n 2, 1, 0, 0, 0), (2, .invokestatic 144, 3, 81, 2, 0), (5, .ifCond .eq 6, 3, 11, 0, 0), (8, .bipush (-2), 2, 0, 0, 1152921504606846976), (10, .ireturn, 1, 0, 0, 0), (11, .aload_n 0, 1, 0, 0, 7), (12, .getfield 38, 3, 8, 4, 0), (15, .getfield 147, 3, 1, 0, 0), (18, .invokevirtual 150, 3, 6, 0, 0), (21, .ifCond .eq 6, 3, 27, 0, 0), (24, .bipush (-4), 2, 0, 0, 1152921504606846976), (26, .ireturn, 1, 0, 0, 0), (27, .aload_n 0, 1, 0, 0, 7), (28, .getfield 38, 3, 8, 4, 0), (31, .getfield 147, 3, 1, 0, 0), (34, .iload_n 1, 1, 0, 0, 0), (35, .iload_n 2, 1, 0, 0, 0), (36, .invokevirtual 151, 3, 7, 2, 0), (39, .aload_n 0, 1, 0, 0, 0), (40, .invokevirtual 91, 3, 84, 0, 0), (43, .aload_n 0, 1, 0, 0, 0), (44, .getfield 38, 3, 8, 4, 0), (47, .getfield 147, 3, 1, 0, 0), (50, .getfield 155, 3, 2, 3, 0), (53, .ireturn, 1, 0, 0, 0)]
def xR_X8_thunder : MethodName × ByteArray × Nat × Option FieldType × Nat × Bool × Nat × Nat × Nat × List (Nat × xEnt) := (yX8_thunder, cX8_thunder, 3, (some .int), 8, true, 2, 3, 86, xL_X8_thunder)
def xL_X8_back : List (Nat × xEnt) := [(0, .aload_n 0, 1, 0, 0, 0), (1, .getfield 38, 3, 8, 4, 0), (4, .getfield 147, 3, 1, 0, 0), (7, .getfield 155, 3, 2, 3, 0), (10, .ifCond .ne 6, 3, 16, 0, 0), (13, .bipush (-3), 2, 0, 0, 1152921504606846976), (15, .ireturn, 1, 0, 0, 0), (16, .aload_n 0, 1, 0, 0, 1), (17, .getfield 38, 3, 8, 4, 0), (20, .getfield 147, 3, 1, 0, 0), (23, .dup, 1, 0, 0, 0), (24, .getfield 155, 3, 2, 3, 0), (27, .iconst 1, 1, 0, 0, 0), (28, .isub, 1, 0, 0, 0), (29, .putfield 155, 3, 2, 3, 0), (32, .aload_n 0, 1, 0, 0, 0), (33, .invokevirtual 91, 3, 84, 0, 0), (36, .aload_n 0, 1, 0, 0, 0), (37, .getfield 38, 3, 8, 4, 0), (40, .getfield 147, 3, 1, 0, 0), (43, .getfield 155, 3, 2, 3, 0), (46, .ireturn, 1, 0, 0, 0)]
def xR_X8_back : MethodName × ByteArray × Nat × Option FieldType × Nat × Bool × Nat × Nat × Nat × List (Nat × xEnt) := (yX8_back, cX8_back, 1, (some .int), 8, true, 0, 3, 86, xL_X8_back)
def xL_X8_read : List (Nat × xEnt) := [(0, .iload_n 1, 1, 0, 0, 0), (1, .iconst 4, 1, 0, 0, 0), (2, .invokestatic 94, 3, 79, 2, 0), (5, .ifCond .eq 6, 3, 11, 0, 0), (8, .bipush (-2), 2, 0, 0, 1152921504606846976), (10, .ireturn, 1, 0, 0, 0), (11, .aload_n 0, 1, 0, 0, 3), (12, .getfield 87, 3, 8, 16, 0), (15, .iload_n 1, 1, 0, 0, 0), (16, .invokevirtual 156, 3, 20, 1, 0), (19, .ifCond .eq 9, 3, 28, 0, 0), (22, .aload_n 0, 1, 0, 0, 1), (23, .iconst 1, 1, 0, 0, 0), (24, .invokevirtual 159, 3, 101, 1, 0), (27, .ireturn, 1, 0, 0, 0), (28, .aload_n 0, 1, 0, 0, 3), (29, .getfield 38, 3, 8, 4, 0), (32, .getfield 147, 3, 1, 0, 0), (35, .getfield 155, 3, 2, 3, 0), (38, .istore_n 2, 1, 0, 0, 0), (39, .iconst 0, 1, 0, 0, 0), (40, .istore_n 3, 1, 0, 0, 0), (41, .iload_n 3, 1, 0, 0, 15), (42, .iconst 1, 1, 0, 0, 0), (43, .iadd, 1, 0, 0, 0), (44, .aload_n 0, 1, 0, 0, 0), (45, .getfield 87, 3, 8, 16, 0), (48, .getfield 163, 3, 5, 1, 0), (51, .iload_n 1, 1, 0, 0, 0), (52, .iaload, 1, 0, 0, 0), (53, .if_icmp .ge 73, 3, 126, 0, 0), (56, .aload_n 0, 1, 0, 0, 15), (57, .getfield 38, 3, 8, 4, 0), (60, .getfield 147, 3, 1, 0, 0), (63, .invokevirtual 150, 3, 6, 0, 0), (66, .ifCond .ne 60, 3, 126, 0, 0), (69, .aload_n 0, 1, 0, 0, 15), (70, .getfield 87, 3, 8, 16, 0), (73, .iload_n 1, 1, 0, 0, 0), (74, .iload_n 3, 1, 0, 0, 0), (75, .invokevirtual 166, 3, 23, 2, 0), (78, .istore 4, 2, 0, 0, 0), (80, .aload_n 0, 1, 0, 0, 0), (81, .getfield 87, 3, 8, 16, 0), (84, .iload_n 1, 1, 0, 0, 0), (85, .iload_n 3, 1, 0, 0, 0), (86, .iconst 1, 1, 0, 0, 0), (87, .iadd, 1, 0, 0, 0), (88, .invokevirtual 166, 3, 23, 2, 0), (91, .istore 5, 2, 0, 0, 0), (93, .iload 4, 2, 0, 0, 0), (95, .iload 5, 2, 0, 0, 0), (97, .invokestatic 144, 3, 81, 2, 0), (100, .ifCond .eq 6, 3, 106, 0, 0), (103, .goto 23, 3, 126, 0, 5), (106, .aload_n 0, 1, 0, 0, 63), (107, .getfield 38, 3, 8, 4, 0), (110, .getfield 147, 3, 1, 0, 0), (113, .iload 4, 2, 0, 0, 0), (115, .iload 5, 2, 0, 0, 0), (117, .invokevirtual 151, 3, 7, 2, 0), (120, .iinc 3 2, 3, 0, 0, 0), (123, .goto (-82), 3, 41, 0, 0), (126, .aload_n 0, 1, 0, 0, 5), (127, .invokevirtual 91, 3, 84, 0, 0), (130, .aload_n 0, 1, 0, 0, 0), (131, .getfield 38, 3, 8, 4, 0), (134, .getfield 147, 3, 1, 0, 0), (137, .getfield 155, 3, 2, 3, 0), (140, .iload_n 2, 1, 0, 0, 0), (141, .isub, 1, 0, 0, 0), (142, .ireturn, 1, 0, 0, 0)]
def xR_X8_read : MethodName × ByteArray × Nat × Option FieldType × Nat × Bool × Nat × Nat × Nat × List (Nat × xEnt) := (yX8_read, cX8_read, 6, (some .int), 8, true, 1, 3, 86, xL_X8_read)
def xL_X8_carry : List (Nat × xEnt) := [(0, .iload_n 1, 1, 0, 0, 0), (1, .bipush 100, 2, 0, 0, 0), (3, .invokestatic 94, 3, 79, 2, 0), (6, .ifCond .ne 25, 3, 31, 0, 0), (9, .aload_n 0, 1, 0, 0, 15), (10, .getfield 24, 3, 8, 2, 0), (13, .iload_n 2, 1, 0, 0, 0), (14, .invokevirtual 120, 3, 37, 1, 0), (17, .ifCond .eq 14, 3, 31, 0, 0), (20, .aload_n 0, 1, 0, 0, 15), (21, .getfield 24, 3, 8, 2, 0), (24, .iload_n 3, 1, 0, 0, 0), (25, .invokevirtual 120, 3, 37, 1, 0), (28, .ifCond .ne 6, 3, 34, 0, 0), (31, .bipush (-2), 2, 0, 0, 1152921504606846976), (33, .ireturn, 1, 0, 0, 0), (34, .aload_n 0, 1, 0, 0, 15), (35, .getfield 68, 3, 8, 9, 0), (38, .aload_n 0, 1, 0, 0, 0), (39, .getfield 24, 3, 8, 2, 0), (42, .invokevirtual 170, 3, 15, 1, 0), (45, .aload_n 0, 1, 0, 0, 0), (46, .getfield 68, 3, 8, 9, 0), (49, .aload_n 0, 1, 0, 0, 0), (50, .getfield 24, 3, 8, 2, 0), (53, .iload_n 3, 1, 0, 0, 0), (54, .invokevirtual 174, 3, 17, 2, 0), (57, .aload_n 0, 1, 0, 0, 0), (58, .getfield 68, 3, 8, 9, 0), (61, .iload_n 1, 1, 0, 0, 0), (62, .iload_n 2, 1, 0, 0, 0), (63, .invokevirtual 178, 3, 19, 2, 0), (66, .ireturn, 1, 0, 0, 0)]
def xR_X8_carry : MethodName × ByteArray × Nat × Option FieldType × Nat × Bool × Nat × Nat × Nat × List (Nat × xEnt) := (yX8_carry, cX8_carry, 4, (some .int), 8, true, 3, 2, 52, xL_X8_carry)
def xL_X8_heard : List (Nat × xEnt) := [(0, .aload_n 0, 1, 0, 0, 0), (1, .iload_n 1, 1, 0, 0, 0), (2, .invokevirtual 130, 3, 80, 1, 0), (5, .ifCond .ne 11, 3, 16, 0, 0), (8, .iload_n 2, 1, 0, 0, 7), (9, .iconst 2, 1, 0, 0, 0), (10, .invokestatic 94, 3, 79, 2, 0), (13, .ifCond .eq 6, 3, 19, 0, 0), (16, .bipush (-2), 2, 0, 0, 1152921504606846976), (18, .ireturn, 1, 0, 0, 0), (19, .iload_n 2, 1, 0, 0, 7), (20, .ifCond .ne 15, 3, 35, 0, 0), (23, .aload_n 0, 1, 0, 0, 3), (24, .getfield 61, 3, 8, 7, 0), (27, .getfield 181, 3, 3, 3, 0), (30, .iload_n 1, 1, 0, 0, 0), (31, .iaload, 1, 0, 0, 0), (32, .goto 12, 3, 44, 0, 0), (35, .aload_n 0, 1, 0, 0, 3), (36, .getfield 61, 3, 8, 7, 0), (39, .getfield 184, 3, 3, 4, 0), (42, .iload_n 1, 1, 0, 0, 0), (43, .iaload, 1, 0, 0, 0), (44, .ireturn, 1, 0, 0, 1152921504606846976)]
def xR_X8_heard : MethodName × ByteArray × Nat × Option FieldType × Nat × Bool × Nat × Nat × Nat × List (Nat × xEnt) := (yX8_heard, cX8_heard, 3, (some .int), 8, true, 2, 2, 42, xL_X8_heard)
def xL_X8_noise : List (Nat × xEnt) := [(0, .iload_n 1, 1, 0, 0, 0), (1, .bipush 10, 2, 0, 0, 0), (3, .invokestatic 94, 3, 79, 2, 0), (6, .ifCond .eq 8, 3, 14, 0, 0), (9, .bipush (-2), 2, 0, 0, 1152921504606846976), (11, .goto 12, 3, 23, 0, 0), (14, .aload_n 0, 1, 0, 0, 3), (15, .getfield 61, 3, 8, 7, 0), (18, .getfield 187, 3, 3, 1, 0), (21, .iload_n 1, 1, 0, 0, 0), (22, .iaload, 1, 0, 0, 0), (23, .ireturn, 1, 0, 0, 1152921504606846976)]
def xR_X8_noise : MethodName × ByteArray × Nat × Option FieldType × Nat × Bool × Nat × Nat × Nat × List (Nat × xEnt) := (yX8_noise, cX8_noise, 2, (some .int), 8, true, 1, 1, 21, xL_X8_noise)
def xL_X8_depth : List (Nat × xEnt) := [(0, .iload_n 1, 1, 0, 0, 0), (1, .bipush 10, 2, 0, 0, 0), (3, .invokestatic 94, 3, 79, 2, 0), (6, .ifCond .eq 8, 3, 14, 0, 0), (9, .bipush (-2), 2, 0, 0, 1152921504606846976), (11, .goto 12, 3, 23, 0, 0), (14, .aload_n 0, 1, 0, 0, 3), (15, .getfield 61, 3, 8, 7, 0), (18, .getfield 190, 3, 3, 2, 0), (21, .iload_n 1, 1, 0, 0, 0), (22, .iaload, 1, 0, 0, 0), (23, .ireturn, 1, 0, 0, 1152921504606846976)]
def xR_X8_depth : MethodName × ByteArray × Nat × Option FieldType × Nat × Bool × Nat × Nat × Nat × List (Nat × xEnt) := (yX8_depth, cX8_depth, 2, (some .int), 8, true, 1, 1, 21, xL_X8_depth)
def xL_X8_wakes : List (Nat × xEnt) := [(0, .aload_n 0, 1, 0, 0, 0), (1, .getfield 61, 3, 8, 7, 0), (4, .getfield 193, 3, 3, 5, 0), (7, .ireturn, 1, 0, 0, 0)]
def xR_X8_wakes : MethodName × ByteArray × Nat × Option FieldType × Nat × Bool × Nat × Nat × Nat × List (Nat × xEnt) := (yX8_wakes, cX8_wakes, 1, (some .int), 8, true, 0, 0, 0, xL_X8_wakes)
def xL_X8_exiled : List (Nat × xEnt) := [(0, .iload_n 1, 1, 0, 0, 0), (1, .iconst 2, 1, 0, 0, 0), (2, .invokestatic 94, 3, 79, 2, 0), (5, .ifCond .eq 6, 3, 11, 0, 0), (8, .bipush (-2), 2, 0, 0, 1152921504606846976), (10, .ireturn, 1, 0, 0, 0), (11, .iload_n 1, 1, 0, 0, 3), (12, .ifCond .ne 13, 3, 25, 0, 0), (15, .aload_n 0, 1, 0, 0, 1), (16, .getfield 61, 3, 8, 7, 0), (19, .getfield 196, 3, 3, 6, 0), (22, .goto 13, 3, 35, 0, 0), (25, .aload_n 0, 1, 0, 0, 1), (26, .getfield 61, 3, 8, 7, 0), (29, .getfield 196, 3, 3, 6, 0), (32, .bipush 18, 2, 0, 0, 0), (34, .lshr, 1, 0, 0, 0), (35, .lstore_n 2, 1, 0, 0, 1152921504606846976), (36, .lload_n 2, 1, 0, 0, 0), (37, .ldc2_w 200, 3, 6, 0, 0), (40, .land, 1, 0, 0, 0), (41, .l2i, 1, 0, 0, 0), (42, .ireturn, 1, 0, 0, 0)]
def xR_X8_exiled : MethodName × ByteArray × Nat × Option FieldType × Nat × Bool × Nat × Nat × Nat × List (Nat × xEnt) := (yX8_exiled, cX8_exiled, 4, (some .int), 8, true, 1, 1, 21, xL_X8_exiled)
def xL_X8_loudest : List (Nat × xEnt) := [(0, .iconst (-1), 1, 0, 0, 0), (1, .istore_n 1, 1, 0, 0, 0), (2, .iconst 0, 1, 0, 0, 0), (3, .istore_n 2, 1, 0, 0, 0), (4, .iload_n 2, 1, 0, 0, 7), (5, .aload_n 0, 1, 0, 0, 0), (6, .getfield 31, 3, 8, 3, 0), (9, .getfield 202, 3, 0, 3, 0), (12, .if_icmp .ge 59, 3, 71, 0, 0), (15, .aload_n 0, 1, 0, 0, 7), (16, .getfield 61, 3, 8, 7, 0), (19, .getfield 184, 3, 3, 4, 0), (22, .iload_n 2, 1, 0, 0, 0), (23, .iaload, 1, 0, 0, 0), (24, .ifCond .ne 7, 3, 31, 0, 0), (27, .iconst 1, 1, 0, 0, 7), (28, .goto 4, 3, 32, 0, 0), (31, .iconst 0, 1, 0, 0, 7), (32, .istore_n 3, 1, 0, 0, 7), (33, .iload_n 3, 1, 0, 0, 0), (34, .ifCond .eq 31, 3, 65, 0, 0), (37, .iload_n 1, 1, 0, 0, 7), (38, .iconst (-1), 1, 0, 0, 0), (39, .if_icmp .eq 24, 3, 63, 0, 0), (42, .aload_n 0, 1, 0, 0, 7), (43, .getfield 61, 3, 8, 7, 0), (46, .getfield 181, 3, 3, 3, 0), (49, .iload_n 2, 1, 0, 0, 0), (50, .iaload, 1, 0, 0, 0), (51, .aload_n 0, 1, 0, 0, 0), (52, .getfield 61, 3, 8, 7, 0), (55, .getfield 181, 3, 3, 3, 0), (58, .iload_n 1, 1, 0, 0, 0), (59, .iaload, 1, 0, 0, 0), (60, .if_icmp .le 5, 3, 65, 0, 0), (63, .iload_n 2, 1, 0, 0, 5), (64, .istore_n 1, 1, 0, 0, 0), (65, .iinc 2 1, 3, 0, 0, 7), (68, .goto (-64), 3, 4, 0, 0), (71, .iload_n 1, 1, 0, 0, 2), (72, .ireturn, 1, 0, 0, 0)]
def xR_X8_loudest : MethodName × ByteArray × Nat × Option FieldType × Nat × Bool × Nat × Nat × Nat × List (Nat × xEnt) := (yX8_loudest, cX8_loudest, 4, (some .int), 8, true, 0, 0, 0, xL_X8_loudest)
def xL_X8_hour : List (Nat × xEnt) := [(0, .aload_n 0, 1, 0, 0, 0), (1, .iload_n 1, 1, 0, 0, 0), (2, .invokevirtual 130, 3, 80, 1, 0), (5, .ifCond .ne 11, 3, 16, 0, 0), (8, .iload_n 2, 1, 0, 0, 7), (9, .iconst 2, 1, 0, 0, 0), (10, .invokestatic 94, 3, 79, 2, 0), (13, .ifCond .eq 6, 3, 19, 0, 0), (16, .bipush (-2), 2, 0, 0, 1152921504606846976), (18, .ireturn, 1, 0, 0, 0), (19, .aload_n 0, 1, 0, 0, 7), (20, .iload_n 1, 1, 0, 0, 0), (21, .invokevirtual 203, 3, 86, 1, 0), (24, .istore_n 3, 1, 0, 0, 0), (25, .iload_n 2, 1, 0, 0, 0), (26, .ifCond .ne 7, 3, 33, 0, 0), (29, .iload_n 3, 1, 0, 0, 8), (30, .goto 12, 3, 42, 0, 0), (33, .aload_n 0, 1, 0, 0, 11), (34, .iload_n 1, 1, 0, 0, 0), (35, .iload_n 3, 1, 0, 0, 0), (36, .invokevirtual 206, 3, 87, 2, 0), (39, .invokestatic 209, 3, 85, 1, 0), (42, .ireturn, 1, 0, 0, 1152921504606846976)]
def xR_X8_hour : MethodName × ByteArray × Nat × Option FieldType × Nat × Bool × Nat × Nat × Nat × List (Nat × xEnt) := (yX8_hour, cX8_hour, 4, (some .int), 8, true, 2, 4, 113, xL_X8_hour)
def xL_X8_felt : List (Nat × xEnt) := [(0, .iload_n 1, 1, 0, 0, 0), (1, .iconst (-1), 1, 0, 0, 0), (2, .if_icmp .lt 8, 3, 10, 0, 0), (5, .iload_n 1, 1, 0, 0, 3), (6, .iconst 1, 1, 0, 0, 0), (7, .if_icmp .le 6, 3, 13, 0, 0), (10, .bipush (-2), 2, 0, 0, 1152921504606846976), (12, .ireturn, 1, 0, 0, 0), (13, .aload_n 0, 1, 0, 0, 3), (14, .invokevirtual 212, 3, 90, 0, 0), (17, .iload_n 1, 1, 0, 0, 0), (18, .iconst (-1), 1, 0, 0, 0), (19, .if_icmp .ne 10, 3, 29, 0, 0), (22, .aload_n 0, 1, 0, 0, 1), (23, .getfield 215, 3, 8, 14, 0), (26, .goto 9, 3, 35, 0, 0), (29, .aload_n 0, 1, 0, 0, 3), (30, .getfield 81, 3, 8, 13, 0), (33, .iload_n 1, 1, 0, 0, 0), (34, .iaload, 1, 0, 0, 0), (35, .ireturn, 1, 0, 0, 1152921504606846976)]
def xR_X8_felt : MethodName × ByteArray × Nat × Option FieldType × Nat × Bool × Nat × Nat × Nat × List (Nat × xEnt) := (yX8_felt, cX8_felt, 2, (some .int), 8, true, 1, 5, 130, xL_X8_felt)
def xL_X8_lay : List (Nat × xEnt) := [(0, .iload_n 1, 1, 0, 0, 0), (1, .iconst 2, 1, 0, 0, 0), (2, .invokestatic 94, 3, 79, 2, 0), (5, .ifCond .eq 6, 3, 11, 0, 0), (8, .bipush (-2), 2, 0, 0, 1152921504606846976), (10, .ireturn, 1, 0, 0, 0), (11, .aload_n 0, 1, 0, 0, 3), (12, .invokevirtual 218, 3, 88, 0, 0), (15, .istore_n 2, 1, 0, 0, 0), (16, .iload_n 1, 1, 0, 0, 0), (17, .ifCond .eq 8, 3, 25, 0, 0), (20, .iload_n 2, 1, 0, 0, 5), (21, .iconst (-1), 1, 0, 0, 0), (22, .if_icmp .ne 5, 3, 27, 0, 0), (25, .iload_n 2, 1, 0, 0, 4), (26, .ireturn, 1, 0, 0, 0), (27, .aload_n 0, 1, 0, 0, 5), (28, .iload_n 2, 1, 0, 0, 0), (29, .invokevirtual 222, 3, 89, 1, 0), (32, .invokestatic 209, 3, 85, 1, 0), (35, .ireturn, 1, 0, 0, 0)]
def xR_X8_lay : MethodName × ByteArray × Nat × Option FieldType × Nat × Bool × Nat × Nat × Nat × List (Nat × xEnt) := (yX8_lay, cX8_lay, 3, (some .int), 8, true, 1, 4, 111, xL_X8_lay)
def xL_X8_way : List (Nat × xEnt) := [(0, .aload_n 0, 1, 0, 0, 0), (1, .getfield 24, 3, 8, 2, 0), (4, .iload_n 1, 1, 0, 0, 0), (5, .invokevirtual 120, 3, 37, 1, 0), (8, .ifCond .eq 14, 3, 22, 0, 0), (11, .aload_n 0, 1, 0, 0, 7), (12, .getfield 24, 3, 8, 2, 0), (15, .iload_n 2, 1, 0, 0, 0), (16, .invokevirtual 120, 3, 37, 1, 0), (19, .ifCond .ne 6, 3, 25, 0, 0), (22, .bipush (-2), 2, 0, 0, 1152921504606846976), (24, .ireturn, 1, 0, 0, 0), (25, .aload_n 0, 1, 0, 0, 7), (26, .getfield 24, 3, 8, 2, 0), (29, .iload_n 1, 1, 0, 0, 0), (30, .invokevirtual 225, 3, 38, 1, 0), (33, .ifCond .eq 14, 3, 47, 0, 0), (36, .aload_n 0, 1, 0, 0, 7), (37, .getfield 24, 3, 8, 2, 0), (40, .iload_n 2, 1, 0, 0, 0), (41, .invokevirtual 225, 3, 38, 1, 0), (44, .ifCond .ne 5, 3, 49, 0, 0), (47, .iconst (-1), 1, 0, 0, 1152921504606846976), (48, .ireturn, 1, 0, 0, 0), (49, .iconst 0, 1, 0, 0, 7), (50, .istore_n 3, 1, 0, 0, 0), (51, .iload_n 3, 1, 0, 0, 15), (52, .aload_n 0, 1, 0, 0, 0), (53, .getfield 24, 3, 8, 2, 0), (56, .getfield 228, 3, 7, 2, 0), (59, .if_icmp .ge 47, 3, 106, 0, 0), (62, .aload_n 0, 1, 0, 0, 15), (63, .getfield 68, 3, 8, 9, 0), (66, .getfield 231, 3, 4, 0, 0), (69, .iload_n 3, 1, 0, 0, 0), (70, .aload_n 0, 1, 0, 0, 0), (71, .getfield 24, 3, 8, 2, 0), (74, .iload_n 3, 1, 0, 0, 0), (75, .invokevirtual 225, 3, 38, 1, 0), (78, .ifCond .eq 19, 3, 97, 0, 0), (81, .aload_n 0, 1, 0, 0, 15), (82, .getfield 52, 3, 8, 6, 0), (85, .getstatic 234, 3, 1, 0, 0), (88, .iconst 2, 1, 0, 0, 0), (89, .iaload, 1, 0, 0, 0), (90, .iload_n 3, 1, 0, 0, 0), (91, .invokevirtual 178, 3, 19, 2, 0), (94, .goto 5, 3, 99, 0, 0), (97, .ldc 237, 2, 4, 0, 15), (99, .iastore, 1, 0, 0, 15), (100, .iinc 3 1, 3, 0, 0, 0), (103, .goto (-52), 3, 51, 0, 0), (106, .aload_n 0, 1, 0, 0, 7), (107, .getfield 68, 3, 8, 9, 0), (110, .aload_n 0, 1, 0, 0, 0), (111, .getfield 24, 3, 8, 2, 0), (114, .iload_n 2, 1, 0, 0, 0), (115, .invokevirtual 174, 3, 17, 2, 0), (118, .aload_n 0, 1, 0, 0, 0), (119, .getfield 68, 3, 8, 9, 0), (122, .getfield 238, 3, 4, 1, 0), (125, .iload_n 1, 1, 0, 0, 0), (126, .iaload, 1, 0, 0, 0), (127, .istore_n 3, 1, 0, 0, 0), (128, .iload_n 3, 1, 0, 0, 0), (129, .ldc 237, 2, 4, 0, 0), (131, .if_icmp .lt 7, 3, 138, 0, 0), (134, .iconst (-1), 1, 0, 0, 1152921504606846976), (135, .goto 14, 3, 149, 0, 0), (138, .iload_n 3, 1, 0, 0, 11), (139, .aload_n 0, 1, 0, 0, 0), (140, .getfield 68, 3, 8, 9, 0), (143, .getfield 231, 3, 4, 0, 0), (146, .iload_n 1, 1, 0, 0, 0), (147, .iaload, 1, 0, 0, 0), (148, .iadd, 1, 0, 0, 0), (149, .ireturn, 1, 0, 0, 1152921504606846976)]
def xR_X8_way : MethodName × ByteArray × Nat × Option FieldType × Nat × Bool × Nat × Nat × Nat × List (Nat × xEnt) := (yX8_way, cX8_way, 4, (some .int), 8, true, 2, 2, 52, xL_X8_way)
def xL_X8_listened : List (Nat × xEnt) := [(0, .iload_n 1, 1, 0, 0, 0), (1, .bipush 10, 2, 0, 0, 0), (3, .invokestatic 94, 3, 79, 2, 0), (6, .ifCond .ne 12, 3, 18, 0, 0), (9, .iload_n 2, 1, 0, 0, 7), (10, .bipush 100, 2, 0, 0, 0), (12, .invokestatic 94, 3, 79, 2, 0), (15, .ifCond .eq 6, 3, 21, 0, 0), (18, .bipush (-2), 2, 0, 0, 1152921504606846976), (20, .ireturn, 1, 0, 0, 0), (21, .aload_n 0, 1, 0, 0, 7), (22, .getfield 45, 3, 8, 5, 0), (25, .invokevirtual 150, 3, 6, 0, 0), (28, .ifCond .eq 6, 3, 34, 0, 0), (31, .bipush (-4), 2, 0, 0, 1152921504606846976), (33, .ireturn, 1, 0, 0, 0), (34, .aload_n 0, 1, 0, 0, 7), (35, .getfield 45, 3, 8, 5, 0), (38, .iload_n 1, 1, 0, 0, 0), (39, .iload_n 2, 1, 0, 0, 0), (40, .invokevirtual 151, 3, 7, 2, 0), (43, .aload_n 0, 1, 0, 0, 0), (44, .getfield 45, 3, 8, 5, 0), (47, .getfield 155, 3, 2, 3, 0), (50, .ireturn, 1, 0, 0, 0)]
def xR_X8_listened : MethodName × ByteArray × Nat × Option FieldType × Nat × Bool × Nat × Nat × Nat × List (Nat × xEnt) := (yX8_listened, cX8_listened, 3, (some .int), 8, true, 2, 2, 42, xL_X8_listened)
def xL_X8_forget : List (Nat × xEnt) := [(0, .aload_n 0, 1, 0, 0, 0), (1, .getfield 45, 3, 8, 5, 0), (4, .getfield 155, 3, 2, 3, 0), (7, .istore_n 1, 1, 0, 0, 0), (8, .aload_n 0, 1, 0, 0, 0), (9, .getfield 45, 3, 8, 5, 0), (12, .iconst 0, 1, 0, 0, 0), (13, .putfield 155, 3, 2, 3, 0), (16, .iload_n 1, 1, 0, 0, 0), (17, .ireturn, 1, 0, 0, 0)]
def xR_X8_forget : MethodName × ByteArray × Nat × Option FieldType × Nat × Bool × Nat × Nat × Nat × List (Nat × xEnt) := (yX8_forget, cX8_forget, 2, (some .int), 8, true, 0, 0, 0, xL_X8_forget)
def xL_X8_never : List (Nat × xEnt) := [(0, .iconst 0, 1, 0, 0, 0), (1, .istore_n 1, 1, 0, 0, 0), (2, .iconst 0, 1, 0, 0, 0), (3, .istore_n 2, 1, 0, 0, 0), (4, .iload_n 2, 1, 0, 0, 7), (5, .aload_n 0, 1, 0, 0, 0), (6, .getfield 31, 3, 8, 3, 0), (9, .getfield 202, 3, 0, 3, 0), (12, .if_icmp .ge 53, 3, 65, 0, 0), (15, .aload_n 0, 1, 0, 0, 7), (16, .getfield 71, 3, 8, 10, 0), (19, .aload_n 0, 1, 0, 0, 0), (20, .getfield 31, 3, 8, 3, 0), (23, .sipush 255, 3, 0, 0, 0), (26, .iconst 1, 1, 0, 0, 0), (27, .iload_n 2, 1, 0, 0, 0), (28, .ishl, 1, 0, 0, 0), (29, .iconst (-1), 1, 0, 0, 0), (30, .ixor, 1, 0, 0, 0), (31, .iand, 1, 0, 0, 0), (32, .aload_n 0, 1, 0, 0, 0), (33, .getfield 52, 3, 8, 6, 0), (36, .invokevirtual 241, 3, 10, 3, 0), (39, .aload_n 0, 1, 0, 0, 0), (40, .getfield 45, 3, 8, 5, 0), (43, .aload_n 0, 1, 0, 0, 0), (44, .getfield 71, 3, 8, 10, 0), (47, .invokevirtual 245, 3, 9, 1, 0), (50, .ifCond .eq 9, 3, 59, 0, 0), (53, .iload_n 1, 1, 0, 0, 7), (54, .iconst 1, 1, 0, 0, 0), (55, .iload_n 2, 1, 0, 0, 0), (56, .ishl, 1, 0, 0, 0), (57, .ior, 1, 0, 0, 0), (58, .istore_n 1, 1, 0, 0, 0), (59, .iinc 2 1, 3, 0, 0, 7), (62, .goto (-58), 3, 4, 0, 0), (65, .iload_n 1, 1, 0, 0, 2), (66, .ireturn, 1, 0, 0, 0)]
def xR_X8_never : MethodName × ByteArray × Nat × Option FieldType × Nat × Bool × Nat × Nat × Nat × List (Nat × xEnt) := (yX8_never, cX8_never, 3, (some .int), 8, true, 0, 2, 66, xL_X8_never)
def xL_X8_whence : List (Nat × xEnt) := [(0, .aload_n 0, 1, 0, 0, 0), (1, .iload_n 1, 1, 0, 0, 0), (2, .invokevirtual 130, 3, 80, 1, 0), (5, .ifCond .ne 14, 3, 19, 0, 0), (8, .iload_n 2, 1, 0, 0, 7), (9, .iconst (-1), 1, 0, 0, 0), (10, .if_icmp .lt 9, 3, 19, 0, 0), (13, .iload_n 2, 1, 0, 0, 7), (14, .bipush 36, 2, 0, 0, 0), (16, .if_icmp .lt 6, 3, 22, 0, 0), (19, .bipush (-2), 2, 0, 0, 1152921504606846976), (21, .ireturn, 1, 0, 0, 0), (22, .aload_n 0, 1, 0, 0, 7), (23, .iload_n 1, 1, 0, 0, 0), (24, .invokevirtual 249, 3, 94, 1, 0), (27, .istore_n 3, 1, 0, 0, 0), (28, .iload_n 2, 1, 0, 0, 0), (29, .iconst (-1), 1, 0, 0, 0), (30, .if_icmp .ne 5, 3, 35, 0, 0), (33, .iload_n 3, 1, 0, 0, 8), (34, .ireturn, 1, 0, 0, 0), (35, .iload_n 2, 1, 0, 0, 13), (36, .iload_n 3, 1, 0, 0, 0), (37, .if_icmp .ge 12, 3, 49, 0, 0), (40, .aload_n 0, 1, 0, 0, 5), (41, .getfield 74, 3, 8, 11, 0), (44, .iload_n 2, 1, 0, 0, 0), (45, .iaload, 1, 0, 0, 0), (46, .goto 4, 3, 50, 0, 0), (49, .iconst (-1), 1, 0, 0, 1152921504606846976), (50, .ireturn, 1, 0, 0, 1152921504606846976)]
def xR_X8_whence : MethodName × ByteArray × Nat × Option FieldType × Nat × Bool × Nat × Nat × Nat × List (Nat × xEnt) := (yX8_whence, cX8_whence, 4, (some .int), 8, true, 2, 3, 89, xL_X8_whence)
def xL_X8_what : List (Nat × xEnt) := [(0, .aload_n 0, 1, 0, 0, 0), (1, .iload_n 1, 1, 0, 0, 0), (2, .invokevirtual 130, 3, 80, 1, 0), (5, .ifCond .eq 6, 3, 11, 0, 0), (8, .bipush (-2), 2, 0, 0, 1152921504606846976), (10, .ireturn, 1, 0, 0, 0), (11, .iconst 0, 1, 0, 0, 3), (12, .istore_n 2, 1, 0, 0, 0), (13, .aload_n 0, 1, 0, 0, 0), (14, .getfield 65, 3, 8, 8, 0), (17, .aload_n 0, 1, 0, 0, 0), (18, .getfield 31, 3, 8, 3, 0), (21, .invokevirtual 252, 3, 5, 1, 0), (24, .iconst 0, 1, 0, 0, 0), (25, .istore_n 3, 1, 0, 0, 0), (26, .iload_n 3, 1, 0, 0, 15), (27, .iconst 4, 1, 0, 0, 0), (28, .if_icmp .ge 57, 3, 85, 0, 0), (31, .aload_n 0, 1, 0, 0, 15), (32, .getfield 65, 3, 8, 8, 0), (35, .getfield 134, 3, 0, 1, 0), (38, .iload_n 1, 1, 0, 0, 0), (39, .iload_n 3, 1, 0, 0, 0), (40, .iastore, 1, 0, 0, 0), (41, .aload_n 0, 1, 0, 0, 0), (42, .getfield 71, 3, 8, 10, 0), (45, .aload_n 0, 1, 0, 0, 0), (46, .getfield 65, 3, 8, 8, 0), (49, .sipush 255, 3, 0, 0, 0), (52, .aload_n 0, 1, 0, 0, 0), (53, .getfield 52, 3, 8, 6, 0), (56, .invokevirtual 241, 3, 10, 3, 0), (59, .aload_n 0, 1, 0, 0, 0), (60, .getfield 45, 3, 8, 5, 0), (63, .aload_n 0, 1, 0, 0, 0), (64, .getfield 71, 3, 8, 10, 0), (67, .invokevirtual 245, 3, 9, 1, 0), (70, .ifCond .eq 9, 3, 79, 0, 0), (73, .iload_n 2, 1, 0, 0, 15), (74, .iconst 1, 1, 0, 0, 0), (75, .iload_n 3, 1, 0, 0, 0), (76, .ishl, 1, 0, 0, 0), (77, .ior, 1, 0, 0, 0), (78, .istore_n 2, 1, 0, 0, 0), (79, .iinc 3 1, 3, 0, 0, 15), (82, .goto (-56), 3, 26, 0, 0), (85, .iload_n 2, 1, 0, 0, 4), (86, .ireturn, 1, 0, 0, 0)]
def xR_X8_what : MethodName × ByteArray × Nat × Option FieldType × Nat × Bool × Nat × Nat × Nat × List (Nat × xEnt) := (yX8_what, cX8_what, 4, (some .int), 8, true, 1, 2, 66, xL_X8_what)
def xL_X8_ask : List (Nat × xEnt) := [(0, .aload_n 0, 1, 0, 0, 0), (1, .iload_n 1, 1, 0, 0, 0), (2, .invokevirtual 130, 3, 80, 1, 0), (5, .ifCond .eq 6, 3, 11, 0, 0), (8, .bipush (-2), 2, 0, 0, 1152921504606846976), (10, .ireturn, 1, 0, 0, 0), (11, .aload_n 0, 1, 0, 0, 3), (12, .iload_n 1, 1, 0, 0, 0), (13, .invokevirtual 249, 3, 94, 1, 0), (16, .istore_n 2, 1, 0, 0, 0), (17, .iconst 0, 1, 0, 0, 0), (18, .istore_n 3, 1, 0, 0, 0), (19, .aload_n 0, 1, 0, 0, 0), (20, .iconst 0, 1, 0, 0, 0), (21, .iload_n 2, 1, 0, 0, 0), (22, .invokevirtual 256, 3, 95, 2, 0), (25, .istore 4, 2, 0, 0, 0), (27, .iconst 1, 1, 0, 0, 0), (28, .istore 5, 2, 0, 0, 0), (30, .iload 5, 2, 0, 0, 61), (32, .bipush 10, 2, 0, 0, 0), (34, .if_icmp .ge 32, 3, 66, 0, 0), (37, .aload_n 0, 1, 0, 0, 61), (38, .iload 5, 2, 0, 0, 0), (40, .iload_n 2, 1, 0, 0, 0), (41, .invokevirtual 256, 3, 95, 2, 0), (44, .istore 6, 2, 0, 0, 0), (46, .iload 6, 2, 0, 0, 0), (48, .iload 4, 2, 0, 0, 0), (50, .if_icmp .ge 10, 3, 60, 0, 0), (53, .iload 6, 2, 0, 0, 101), (55, .istore 4, 2, 0, 0, 0), (57, .iload 5, 2, 0, 0, 0), (59, .istore_n 3, 1, 0, 0, 0), (60, .iinc 5 1, 3, 0, 0, 61), (63, .goto (-33), 3, 30, 0, 0), (66, .iload_n 3, 1, 0, 0, 8), (67, .ireturn, 1, 0, 0, 0)]
def xR_X8_ask : MethodName × ByteArray × Nat × Option FieldType × Nat × Bool × Nat × Nat × Nat × List (Nat × xEnt) := (yX8_ask, cX8_ask, 7, (some .int), 8, true, 1, 3, 89, xL_X8_ask)
def xL_X8_sleeps : List (Nat × xEnt) := [(0, .iload_n 1, 1, 0, 0, 0), (1, .bipush 17, 2, 0, 0, 0), (3, .invokestatic 94, 3, 79, 2, 0), (6, .ifCond .ne 11, 3, 17, 0, 0), (9, .iload_n 2, 1, 0, 0, 7), (10, .iconst 2, 1, 0, 0, 0), (11, .invokestatic 94, 3, 79, 2, 0), (14, .ifCond .eq 7, 3, 21, 0, 0), (17, .ldc2_w 261, 3, 1, 0, 1152921504606846976), (20, .lreturn, 1, 0, 0, 0), (21, .aload_n 0, 1, 0, 0, 7), (22, .iload_n 1, 1, 0, 0, 0), (23, .invokevirtual 263, 3, 96, 1, 0), (26, .lstore_n 3, 1, 0, 0, 0), (27, .lconst 1, 1, 0, 0, 0), (28, .lstore 5, 2, 0, 0, 0), (30, .iconst 0, 1, 0, 0, 0), (31, .istore 7, 2, 0, 0, 0), (33, .iload 7, 2, 0, 0, 173), (35, .aload_n 0, 1, 0, 0, 0), (36, .getfield 31, 3, 8, 3, 0), (39, .getfield 202, 3, 0, 3, 0), (42, .if_icmp .ge 17, 3, 59, 0, 0), (45, .lload 5, 2, 0, 0, 173), (47, .ldc2_w 267, 3, 3, 0, 0), (50, .lmul, 1, 0, 0, 0), (51, .lstore 5, 2, 0, 0, 0), (53, .iinc 7 1, 3, 0, 0, 0), (56, .goto (-23), 3, 33, 0, 0), (59, .iconst 0, 1, 0, 0, 44), (60, .istore 7, 2, 0, 0, 0), (62, .iload 7, 2, 0, 0, 172), (64, .bipush 64, 2, 0, 0, 0), (66, .if_icmp .ge 44, 3, 110, 0, 0), (69, .lload_n 3, 1, 0, 0, 172), (70, .ldc2_w 269, 3, 2, 0, 0), (73, .lrem, 1, 0, 0, 0), (74, .lconst 0, 1, 0, 0, 0), (75, .lcmp, 1, 0, 0, 0), (76, .ifCond .ne 34, 3, 110, 0, 0), (79, .lload 5, 2, 0, 0, 172), (81, .ldc2_w 269, 3, 2, 0, 0), (84, .lrem, 1, 0, 0, 0), (85, .lconst 0, 1, 0, 0, 0), (86, .lcmp, 1, 0, 0, 0), (87, .ifCond .ne 23, 3, 110, 0, 0), (90, .lload_n 3, 1, 0, 0, 172), (91, .ldc2_w 269, 3, 2, 0, 0), (94, .ldiv, 1, 0, 0, 0), (95, .lstore_n 3, 1, 0, 0, 0), (96, .lload 5, 2, 0, 0, 0), (98, .ldc2_w 269, 3, 2, 0, 0), (101, .ldiv, 1, 0, 0, 0), (102, .lstore 5, 2, 0, 0, 0), (104, .iinc 7 1, 3, 0, 0, 0), (107, .goto (-45), 3, 62, 0, 0), (110, .iload_n 2, 1, 0, 0, 44), (111, .ifCond .ne 7, 3, 118, 0, 0), (114, .lload_n 3, 1, 0, 0, 8), (115, .goto 5, 3, 120, 0, 0), (118, .lload 5, 2, 0, 0, 32), (120, .lreturn, 1, 0, 0, 1152921504606846976)]
def xR_X8_sleeps : MethodName × ByteArray × Nat × Option FieldType × Nat × Bool × Nat × Nat × Nat × List (Nat × xEnt) := (yX8_sleeps, cX8_sleeps, 8, (some .long), 8, true, 2, 3, 90, xL_X8_sleeps)
def xL_X8_day : List (Nat × xEnt) := [(0, .iload_n 2, 1, 0, 0, 0), (1, .iconst 1, 1, 0, 0, 0), (2, .if_icmp .lt 17, 3, 19, 0, 0), (5, .iload_n 2, 1, 0, 0, 15), (6, .bipush 8, 2, 0, 0, 0), (8, .if_icmp .gt 11, 3, 19, 0, 0), (11, .iload_n 3, 1, 0, 0, 15), (12, .iconst 2, 1, 0, 0, 0), (13, .invokestatic 94, 3, 79, 2, 0), (16, .ifCond .eq 6, 3, 22, 0, 0), (19, .bipush (-2), 2, 0, 0, 1152921504606846976), (21, .ireturn, 1, 0, 0, 0), (22, .aload_n 0, 1, 0, 0, 15), (23, .iload_n 1, 1, 0, 0, 0), (24, .iload_n 2, 1, 0, 0, 0), (25, .invokevirtual 271, 3, 98, 2, 0), (28, .aload_n 0, 1, 0, 0, 0), (29, .getfield 71, 3, 8, 10, 0), (32, .aload_n 0, 1, 0, 0, 0), (33, .getfield 65, 3, 8, 8, 0), (36, .sipush 255, 3, 0, 0, 0), (39, .aload_n 0, 1, 0, 0, 0), (40, .getfield 52, 3, 8, 6, 0), (43, .invokevirtual 241, 3, 10, 3, 0), (46, .iload_n 3, 1, 0, 0, 0), (47, .ifCond .ne 13, 3, 60, 0, 0), (50, .aload_n 0, 1, 0, 0, 1), (51, .getfield 71, 3, 8, 10, 0), (54, .getfield 193, 3, 3, 5, 0), (57, .goto 13, 3, 70, 0, 0), (60, .aload_n 0, 1, 0, 0, 1), (61, .getfield 71, 3, 8, 10, 0), (64, .getfield 196, 3, 3, 6, 0), (67, .invokestatic 274, 3, 200, 1, 0), (70, .ireturn, 1, 0, 0, 1152921504606846976)]
def xR_X8_day : MethodName × ByteArray × Nat × Option FieldType × Nat × Bool × Nat × Nat × Nat × List (Nat × xEnt) := (yX8_day, cX8_day, 4, (some .int), 8, true, 3, 2, 66, xL_X8_day)
def xL_X8_sheet : List (Nat × xEnt) := [(0, .iload_n 1, 1, 0, 0, 0), (1, .iconst 4, 1, 0, 0, 0), (2, .invokestatic 94, 3, 79, 2, 0), (5, .ifCond .ne 17, 3, 22, 0, 0), (8, .iload_n 2, 1, 0, 0, 15), (9, .iconst 3, 1, 0, 0, 0), (10, .invokestatic 94, 3, 79, 2, 0), (13, .ifCond .ne 9, 3, 22, 0, 0), (16, .iload_n 3, 1, 0, 0, 15), (17, .bipush 60, 2, 0, 0, 0), (19, .if_icmp .le 6, 3, 25, 0, 0), (22, .bipush (-2), 2, 0, 0, 1152921504606846976), (24, .ireturn, 1, 0, 0, 0), (25, .iload_n 3, 1, 0, 0, 15), (26, .ifCond .ge 9, 3, 35, 0, 0), (29, .aload_n 0, 1, 0, 0, 1), (30, .iconst 5, 1, 0, 0, 0), (31, .invokevirtual 159, 3, 101, 1, 0), (34, .ireturn, 1, 0, 0, 0), (35, .aload_n 0, 1, 0, 0, 15), (36, .getfield 87, 3, 8, 16, 0), (39, .iload_n 1, 1, 0, 0, 0), (40, .iload_n 2, 1, 0, 0, 0), (41, .iload_n 3, 1, 0, 0, 0), (42, .invokevirtual 278, 3, 21, 3, 0), (45, .iload_n 3, 1, 0, 0, 0), (46, .ireturn, 1, 0, 0, 0)]
def xR_X8_sheet : MethodName × ByteArray × Nat × Option FieldType × Nat × Bool × Nat × Nat × Nat × List (Nat × xEnt) := (yX8_sheet, cX8_sheet, 4, (some .int), 8, true, 3, 1, 24, xL_X8_sheet)
def xL_X8_lose : List (Nat × xEnt) := [(0, .iload_n 1, 1, 0, 0, 0), (1, .iconst 4, 1, 0, 0, 0), (2, .invokestatic 94, 3, 79, 2, 0), (5, .ifCond .eq 6, 3, 11, 0, 0), (8, .bipush (-2), 2, 0, 0, 1152921504606846976), (10, .ireturn, 1, 0, 0, 0), (11, .aload_n 0, 1, 0, 0, 3), (12, .getfield 87, 3, 8, 16, 0), (15, .iload_n 1, 1, 0, 0, 0), (16, .invokevirtual 156, 3, 20, 1, 0), (19, .ifCond .eq 9, 3, 28, 0, 0), (22, .aload_n 0, 1, 0, 0, 1), (23, .iconst 1, 1, 0, 0, 0), (24, .invokevirtual 159, 3, 101, 1, 0), (27, .ireturn, 1, 0, 0, 0), (28, .aload_n 0, 1, 0, 0, 3), (29, .getfield 87, 3, 8, 16, 0), (32, .getfield 163, 3, 5, 1, 0), (35, .iload_n 1, 1, 0, 0, 0), (36, .iaload, 1, 0, 0, 0), (37, .istore_n 2, 1, 0, 0, 0), (38, .aload_n 0, 1, 0, 0, 0), (39, .getfield 87, 3, 8, 16, 0), (42, .iload_n 1, 1, 0, 0, 0), (43, .iconst (-1), 1, 0, 0, 0), (44, .iconst 0, 1, 0, 0, 0), (45, .invokevirtual 278, 3, 21, 3, 0), (48, .iload_n 2, 1, 0, 0, 0), (49, .ireturn, 1, 0, 0, 0)]
def xR_X8_lose : MethodName × ByteArray × Nat × Option FieldType × Nat × Bool × Nat × Nat × Nat × List (Nat × xEnt) := (yX8_lose, cX8_lose, 3, (some .int), 8, true, 1, 1, 24, xL_X8_lose)
def xL_X8_put : List (Nat × xEnt) := [(0, .aload_n 0, 1, 0, 0, 0), (1, .iload_n 1, 1, 0, 0, 0), (2, .iload_n 2, 1, 0, 0, 0), (3, .iload_n 3, 1, 0, 0, 0), (4, .invokevirtual 282, 3, 100, 3, 0), (7, .istore 5, 2, 0, 0, 0), (9, .iload 5, 2, 0, 0, 0), (11, .ifCond .eq 6, 3, 17, 0, 0), (14, .iload 5, 2, 0, 0, 32), (16, .ireturn, 1, 0, 0, 0), (17, .aload_n 0, 1, 0, 0, 27), (18, .getfield 87, 3, 8, 16, 0), (21, .iload_n 1, 1, 0, 0, 0), (22, .iload_n 3, 1, 0, 0, 0), (23, .iload 4, 2, 0, 0, 0), (25, .invokevirtual 286, 3, 24, 3, 0), (28, .iconst 1, 1, 0, 0, 0), (29, .ireturn, 1, 0, 0, 0)]
def xR_X8_put : MethodName × ByteArray × Nat × Option FieldType × Nat × Bool × Nat × Nat × Nat × List (Nat × xEnt) := (yX8_put, cX8_put, 6, (some .int), 8, true, 4, 2, 45, xL_X8_put)
def xL_X8_get : List (Nat × xEnt) := [(0, .aload_n 0, 1, 0, 0, 0), (1, .iload_n 1, 1, 0, 0, 0), (2, .iload_n 2, 1, 0, 0, 0), (3, .iload_n 3, 1, 0, 0, 0), (4, .invokevirtual 282, 3, 100, 3, 0), (7, .ifCond .eq 9, 3, 16, 0, 0), (10, .ldc_w 291, 3, 0, 0, 1152921504606846976), (13, .goto 12, 3, 25, 0, 0), (16, .aload_n 0, 1, 0, 0, 11), (17, .getfield 87, 3, 8, 16, 0), (20, .iload_n 1, 1, 0, 0, 0), (21, .iload_n 3, 1, 0, 0, 0), (22, .invokevirtual 166, 3, 23, 2, 0), (25, .ireturn, 1, 0, 0, 1152921504606846976)]
def xR_X8_get : MethodName × ByteArray × Nat × Option FieldType × Nat × Bool × Nat × Nat × Nat × List (Nat × xEnt) := (yX8_get, cX8_get, 4, (some .int), 8, true, 3, 2, 45, xL_X8_get)
def xL_X8_copy : List (Nat × xEnt) := [(0, .iload_n 1, 1, 0, 0, 0), (1, .iconst 4, 1, 0, 0, 0), (2, .invokestatic 94, 3, 79, 2, 0), (5, .ifCond .ne 11, 3, 16, 0, 0), (8, .iload_n 3, 1, 0, 0, 63), (9, .iconst 4, 1, 0, 0, 0), (10, .invokestatic 94, 3, 79, 2, 0), (13, .ifCond .eq 6, 3, 19, 0, 0), (16, .bipush (-2), 2, 0, 0, 1152921504606846976), (18, .ireturn, 1, 0, 0, 0), (19, .aload_n 0, 1, 0, 0, 63), (20, .getfield 87, 3, 8, 16, 0), (23, .iload_n 1, 1, 0, 0, 0), (24, .invokevirtual 156, 3, 20, 1, 0), (27, .ifCond .ne 14, 3, 41, 0, 0), (30, .aload_n 0, 1, 0, 0, 63), (31, .getfield 87, 3, 8, 16, 0), (34, .iload_n 3, 1, 0, 0, 0), (35, .invokevirtual 156, 3, 20, 1, 0), (38, .ifCond .eq 9, 3, 47, 0, 0), (41, .aload_n 0, 1, 0, 0, 1), (42, .iconst 1, 1, 0, 0, 0), (43, .invokevirtual 159, 3, 101, 1, 0), (46, .ireturn, 1, 0, 0, 0), (47, .aload_n 0, 1, 0, 0, 63), (48, .getfield 87, 3, 8, 16, 0), (51, .getfield 292, 3, 5, 0, 0), (54, .iload_n 1, 1, 0, 0, 0), (55, .iaload, 1, 0, 0, 0), (56, .aload_n 0, 1, 0, 0, 0), (57, .getfield 87, 3, 8, 16, 0), (60, .getfield 292, 3, 5, 0, 0), (63, .iload_n 3, 1, 0, 0, 0), (64, .iaload, 1, 0, 0, 0), (65, .if_icmp .eq 9, 3, 74, 0, 0), (68, .aload_n 0, 1, 0, 0, 1), (69, .iconst 4, 1, 0, 0, 0), (70, .invokevirtual 159, 3, 101, 1, 0), (73, .ireturn, 1, 0, 0, 0), (74, .aload_n 0, 1, 0, 0, 63), (75, .getfield 87, 3, 8, 16, 0), (78, .iload_n 1, 1, 0, 0, 0), (79, .iload_n 2, 1, 0, 0, 0), (80, .iload 5, 2, 0, 0, 0), (82, .invokevirtual 295, 3, 26, 3, 0), (85, .ifCond .eq 18, 3, 103, 0, 0), (88, .aload_n 0, 1, 0, 0, 63), (89, .getfield 87, 3, 8, 16, 0), (92, .iload_n 3, 1, 0, 0, 0), (93, .iload 4, 2, 0, 0, 0), (95, .iload 5, 2, 0, 0, 0), (97, .invokevirtual 295, 3, 26, 3, 0), (100, .ifCond .ne 9, 3, 109, 0, 0), (103, .aload_n 0, 1, 0, 0, 1), (104, .iconst 2, 1, 0, 0, 0), (105, .invokevirtual 159, 3, 101, 1, 0), (108, .ireturn, 1, 0, 0, 0), (109, .aload_n 0, 1, 0, 0, 63), (110, .getfield 87, 3, 8, 16, 0), (113, .iload_n 1, 1, 0, 0, 0), (114, .iload_n 2, 1, 0, 0, 0), (115, .iload_n 3, 1, 0, 0, 0), (116, .iload 4, 2, 0, 0, 0), (118, .iload 5, 2, 0, 0, 0), (120, .invokevirtual 299, 3, 27, 5, 0), (123, .iconst 1, 1, 0, 0, 0), (124, .ireturn, 1, 0, 0, 0)]
def xR_X8_copy : MethodName × ByteArray × Nat × Option FieldType × Nat × Bool × Nat × Nat × Nat × List (Nat × xEnt) := (yX8_copy, cX8_copy, 6, (some .int), 8, true, 5, 2, 65, xL_X8_copy)
def xL_X8_write : List (Nat × xEnt) := [(0, .iload_n 1, 1, 0, 0, 0), (1, .iconst 4, 1, 0, 0, 0), (2, .invokestatic 94, 3, 79, 2, 0), (5, .ifCond .eq 6, 3, 11, 0, 0), (8, .bipush (-2), 2, 0, 0, 1152921504606846976), (10, .ireturn, 1, 0, 0, 0), (11, .aload_n 0, 1, 0, 0, 3), (12, .getfield 87, 3, 8, 16, 0), (15, .iload_n 1, 1, 0, 0, 0), (16, .invokevirtual 156, 3, 20, 1, 0), (19, .ifCond .eq 9, 3, 28, 0, 0), (22, .aload_n 0, 1, 0, 0, 1), (23, .iconst 1, 1, 0, 0, 0), (24, .invokevirtual 159, 3, 101, 1, 0), (27, .ireturn, 1, 0, 0, 0), (28, .bipush 10, 2, 0, 0, 3), (30, .aload_n 0, 1, 0, 0, 0), (31, .getfield 87, 3, 8, 16, 0), (34, .getfield 163, 3, 5, 1, 0), (37, .iload_n 1, 1, 0, 0, 0), (38, .iaload, 1, 0, 0, 0), (39, .invokestatic 303, 3, 900, 2, 0), (42, .istore_n 2, 1, 0, 0, 0), (43, .iconst 0, 1, 0, 0, 0), (44, .istore_n 3, 1, 0, 0, 0), (45, .iload_n 3, 1, 0, 0, 15), (46, .iload_n 2, 1, 0, 0, 0), (47, .if_icmp .ge 27, 3, 74, 0, 0), (50, .aload_n 0, 1, 0, 0, 15), (51, .getfield 87, 3, 8, 16, 0), (54, .iload_n 1, 1, 0, 0, 0), (55, .iload_n 3, 1, 0, 0, 0), (56, .aload_n 0, 1, 0, 0, 0), (57, .getfield 61, 3, 8, 7, 0), (60, .getfield 187, 3, 3, 1, 0), (63, .iload_n 3, 1, 0, 0, 0), (64, .iaload, 1, 0, 0, 0), (65, .invokevirtual 286, 3, 24, 3, 0), (68, .iinc 3 1, 3, 0, 0, 0), (71, .goto (-26), 3, 45, 0, 0), (74, .iload_n 2, 1, 0, 0, 4), (75, .ireturn, 1, 0, 0, 0)]
def xR_X8_write : MethodName × ByteArray × Nat × Option FieldType × Nat × Bool × Nat × Nat × Nat × List (Nat × xEnt) := (yX8_write, cX8_write, 4, (some .int), 8, true, 1, 2, 45, xL_X8_write)
def xL_X8_count : List (Nat × xEnt) := [(0, .iload_n 1, 1, 0, 0, 0), (1, .tableswitch 130 0 8 #[51, 59, 67, 75, 83, 94, 106, 117, 125], 51, 0, 0, 0), (52, .aload_n 0, 1, 0, 0, 1), (53, .getfield 24, 3, 8, 2, 0), (56, .getfield 228, 3, 7, 2, 0), (59, .ireturn, 1, 0, 0, 0), (60, .aload_n 0, 1, 0, 0, 1), (61, .getfield 31, 3, 8, 3, 0), (64, .getfield 202, 3, 0, 3, 0), (67, .ireturn, 1, 0, 0, 0), (68, .aload_n 0, 1, 0, 0, 1), (69, .getfield 14, 3, 8, 0, 0), (72, .getfield 112, 3, 6, 2, 0), (75, .ireturn, 1, 0, 0, 0), (76, .aload_n 0, 1, 0, 0, 1), (77, .getfield 18, 3, 8, 1, 0), (80, .getfield 112, 3, 6, 2, 0), (83, .ireturn, 1, 0, 0, 0), (84, .aload_n 0, 1, 0, 0, 1), (85, .getfield 38, 3, 8, 4, 0), (88, .getfield 147, 3, 1, 0, 0), (91, .getfield 155, 3, 2, 3, 0), (94, .ireturn, 1, 0, 0, 0), (95, .aload_n 0, 1, 0, 0, 1), (96, .getfield 61, 3, 8, 7, 0), (99, .aload_n 0, 1, 0, 0, 0), (100, .getfield 31, 3, 8, 3, 0), (103, .invokevirtual 308, 3, 14, 1, 0), (106, .ireturn, 1, 0, 0, 0), (107, .aload_n 0, 1, 0, 0, 1), (108, .getfield 61, 3, 8, 7, 0), (111, .getfield 196, 3, 3, 6, 0), (114, .invokestatic 274, 3, 200, 1, 0), (117, .ireturn, 1, 0, 0, 0), (118, .aload_n 0, 1, 0, 0, 1), (119, .getfield 45, 3, 8, 5, 0), (122, .getfield 155, 3, 2, 3, 0), (125, .ireturn, 1, 0, 0, 0), (126, .aload_n 0, 1, 0, 0, 1), (127, .getfield 312, 3, 8, 17, 0), (130, .ireturn, 1, 0, 0, 0), (131, .bipush (-2), 2, 0, 0, 1152921504606846976), (133, .ireturn, 1, 0, 0, 0)]
def xR_X8_count : MethodName × ByteArray × Nat × Option FieldType × Nat × Bool × Nat × Nat × Nat × List (Nat × xEnt) := (yX8_count, cX8_count, 2, (some .int), 8, true, 1, 1, 23, xL_X8_count)
def xL_X8_digest : List (Nat × xEnt) := [(0, .ldc2_w 315, 3, 4, 0, 0), (3, .lstore_n 1, 1, 0, 0, 0), (4, .iconst 0, 1, 0, 0, 0), (5, .istore_n 3, 1, 0, 0, 0), (6, .iload_n 3, 1, 0, 0, 11), (7, .bipush 7, 2, 0, 0, 0), (9, .if_icmp .gt 20, 3, 29, 0, 0), (12, .lload_n 1, 1, 0, 0, 11), (13, .aload_n 0, 1, 0, 0, 0), (14, .iload_n 3, 1, 0, 0, 0), (15, .invokevirtual 317, 3, 75, 1, 0), (18, .i2l, 1, 0, 0, 0), (19, .invokestatic 320, 3, 78, 2, 0), (22, .lstore_n 1, 1, 0, 0, 0), (23, .iinc 3 1, 3, 0, 0, 0), (26, .goto (-20), 3, 6, 0, 0), (29, .lload_n 1, 1, 0, 0, 3), (30, .aload_n 0, 1, 0, 0, 0), (31, .iconst 0, 1, 0, 0, 0), (32, .invokevirtual 324, 3, 42, 1, 0), (35, .i2l, 1, 0, 0, 0), (36, .invokestatic 320, 3, 78, 2, 0), (39, .aload_n 0, 1, 0, 0, 0), (40, .iconst 1, 1, 0, 0, 0), (41, .invokevirtual 324, 3, 42, 1, 0), (44, .i2l, 1, 0, 0, 0), (45, .invokestatic 320, 3, 78, 2, 0), (48, .lstore_n 1, 1, 0, 0, 0), (49, .iconst 0, 1, 0, 0, 0), (50, .istore_n 3, 1, 0, 0, 0), (51, .iload_n 3, 1, 0, 0, 11), (52, .aload_n 0, 1, 0, 0, 0), (53, .getfield 24, 3, 8, 2, 0), (56, .getfield 228, 3, 7, 2, 0), (59, .if_icmp .ge 42, 3, 101, 0, 0), (62, .lload_n 1, 1, 0, 0, 11), (63, .aload_n 0, 1, 0, 0, 0), (64, .iload_n 3, 1, 0, 0, 0), (65, .invokevirtual 327, 3, 43, 1, 0), (68, .i2l, 1, 0, 0, 0), (69, .invokestatic 320, 3, 78, 2, 0), (72, .aload_n 0, 1, 0, 0, 0), (73, .bipush 20, 2, 0, 0, 0), (75, .iconst 0, 1, 0, 0, 0), (76, .iload_n 3, 1, 0, 0, 0), (77, .invokevirtual 330, 3, 50, 3, 0), (80, .i2l, 1, 0, 0, 0), (81, .invokestatic 320, 3, 78, 2, 0), (84, .aload_n 0, 1, 0, 0, 0), (85, .iconst 0, 1, 0, 0, 0), (86, .iload_n 3, 1, 0, 0, 0), (87, .invokevirtual 333, 3, 60, 2, 0), (90, .i2l, 1, 0, 0, 0), (91, .invokestatic 320, 3, 78, 2, 0), (94, .lstore_n 1, 1, 0, 0, 0), (95, .iinc 3 1, 3, 0, 0, 0), (98, .goto (-47), 3, 51, 0, 0), (101, .lload_n 1, 1, 0, 0, 3), (102, .aload_n 0, 1, 0, 0, 0), (103, .invokevirtual 336, 3, 44, 0, 0), (106, .i2l, 1, 0, 0, 0), (107, .invokestatic 320, 3, 78, 2, 0), (110, .lstore_n 1, 1, 0, 0, 0), (111, .iconst 0, 1, 0, 0, 0), (112, .istore_n 3, 1, 0, 0, 0), (113, .iload_n 3, 1, 0, 0, 11), (114, .aload_n 0, 1, 0, 0, 0), (115, .getfield 31, 3, 8, 3, 0), (118, .getfield 202, 3, 0, 3, 0), (121, .if_icmp .ge 16, 3, 137, 0, 0), (124, .aload_n 0, 1, 0, 0, 11), (125, .lload_n 1, 1, 0, 0, 0), (126, .iload_n 3, 1, 0, 0, 0), (127, .invokevirtual 339, 3, 77, 2, 0), (130, .lstore_n 1, 1, 0, 0, 0), (131, .iinc 3 1, 3, 0, 0, 0), (134, .goto (-21), 3, 113, 0, 0), (137, .iconst 0, 1, 0, 0, 3), (138, .istore_n 3, 1, 0, 0, 0), (139, .iload_n 3, 1, 0, 0, 11), (140, .bipush 10, 2, 0, 0, 0), (142, .if_icmp .ge 29, 3, 171, 0, 0), (145, .lload_n 1, 1, 0, 0, 11), (146, .aload_n 0, 1, 0, 0, 0), (147, .iload_n 3, 1, 0, 0, 0), (148, .invokevirtual 343, 3, 52, 1, 0), (151, .i2l, 1, 0, 0, 0), (152, .invokestatic 320, 3, 78, 2, 0), (155, .aload_n 0, 1, 0, 0, 0), (156, .iload_n 3, 1, 0, 0, 0), (157, .invokevirtual 346, 3, 53, 1, 0), (160, .i2l, 1, 0, 0, 0), (161, .invokestatic 320, 3, 78, 2, 0), (164, .lstore_n 1, 1, 0, 0, 0), (165, .iinc 3 1, 3, 0, 0, 0), (168, .goto (-29), 3, 139, 0, 0), (171, .lload_n 1, 1, 0, 0, 3), (172, .aload_n 0, 1, 0, 0, 0), (173, .invokevirtual 348, 3, 54, 0, 0), (176, .i2l, 1, 0, 0, 0), (177, .invokestatic 320, 3, 78, 2, 0), (180, .aload_n 0, 1, 0, 0, 0), (181, .iconst 0, 1, 0, 0, 0), (182, .invokevirtual 351, 3, 55, 1, 0), (185, .i2l, 1, 0, 0, 0), (186, .invokestatic 320, 3, 78, 2, 0), (189, .aload_n 0, 1, 0, 0, 0), (190, .iconst 1, 1, 0, 0, 0), (191, .invokevirtual 351, 3, 55, 1, 0), (194, .i2l, 1, 0, 0, 0), (195, .invokestatic 320, 3, 78, 2, 0), (198, .lstore_n 1, 1, 0, 0, 0), (199, .lload_n 1, 1, 0, 0, 0), (200, .aload_n 0, 1, 0, 0, 0), (201, .invokevirtual 354, 3, 56, 0, 0), (204, .i2l, 1, 0, 0, 0), (205, .invokestatic 320, 3, 78, 2, 0), (208, .aload_n 0, 1, 0, 0, 0), (209, .iconst (-1), 1, 0, 0, 0), (210, .invokevirtual 357, 3, 58, 1, 0), (213, .i2l, 1, 0, 0, 0), (214, .invokestatic 320, 3, 78, 2, 0), (217, .aload_n 0, 1, 0, 0, 0), (218, .iconst 0, 1, 0, 0, 0), (219, .invokevirtual 357, 3, 58, 1, 0), (222, .i2l, 1, 0, 0, 0), (223, .invokestatic 320, 3, 78, 2, 0), (226, .lstore_n 1, 1, 0, 0, 0), (227, .lload_n 1, 1, 0, 0, 0), (228, .aload_n 0, 1, 0, 0, 0), (229, .iconst 0, 1, 0, 0, 0), (230, .invokevirtual 360, 3, 59, 1, 0), (233, .i2l, 1, 0, 0, 0), (234, .invokestatic 320, 3, 78, 2, 0), (237, .aload_n 0, 1, 0, 0, 0), (238, .iconst 1, 1, 0, 0, 0), (239, .invokevirtual 360, 3, 59, 1, 0), (242, .i2l, 1, 0, 0, 0), (243, .invokestatic 320, 3, 78, 2, 0), (246, .aload_n 0, 1, 0, 0, 0), (247, .invokevirtual 363, 3, 63, 0, 0), (250, .i2l, 1, 0, 0, 0), (251, .invokestatic 320, 3, 78, 2, 0), (254, .lstore_n 1, 1, 0, 0, 0), (255, .lload_n 1, 1, 0, 0, 0), (256, .aload_n 0, 1, 0, 0, 0), (257, .iconst 5, 1, 0, 0, 0), (258, .iconst 0, 1, 0, 0, 0), (259, .invokevirtual 366, 3, 67, 2, 0), (262, .invokestatic 320, 3, 78, 2, 0), (265, .aload_n 0, 1, 0, 0, 0), (266, .iconst 5, 1, 0, 0, 0), (267, .iconst 1, 1, 0, 0, 0), (268, .invokevirtual 366, 3, 67, 2, 0), (271, .invokestatic 320, 3, 78, 2, 0), (274, .lstore_n 1, 1, 0, 0, 0), (275, .lload_n 1, 1, 0, 0, 0), (276, .aload_n 0, 1, 0, 0, 0), (277, .bipush 7, 2, 0, 0, 0), (279, .bipush 8, 2, 0, 0, 0), (281, .iconst 0, 1, 0, 0, 0), (282, .invokevirtual 370, 3, 68, 3, 0), (285, .i2l, 1, 0, 0, 0), (286, .invokestatic 320, 3, 78, 2, 0), (289, .aload_n 0, 1, 0, 0, 0), (290, .bipush 7, 2, 0, 0, 0), (292, .bipush 8, 2, 0, 0, 0), (294, .iconst 1, 1, 0, 0, 0), (295, .invokevirtual 370, 3, 68, 3, 0), (298, .i2l, 1, 0, 0, 0), (299, .invokestatic 320, 3, 78, 2, 0), (302, .lreturn, 1, 0, 0, 0)]
def xR_X8_digest : MethodName × ByteArray × Nat × Option FieldType × Nat × Bool × Nat × Nat × Nat × List (Nat × xEnt) := (yX8_digest, cX8_digest, 4, (some .long), 8, true, 0, 6, 161, xL_X8_digest)
def xL_X8_mixDeed : List (Nat × xEnt) := [(0, .lload_n 1, 1, 0, 0, 0), (1, .aload_n 0, 1, 0, 0, 0), (2, .iload_n 3, 1, 0, 0, 0), (3, .iconst 0, 1, 0, 0, 0), (4, .invokevirtual 373, 3, 45, 2, 0), (7, .i2l, 1, 0, 0, 0), (8, .invokestatic 320, 3, 78, 2, 0), (11, .aload_n 0, 1, 0, 0, 0), (12, .iload_n 3, 1, 0, 0, 0), (13, .iconst 1, 1, 0, 0, 0), (14, .invokevirtual 373, 3, 45, 2, 0), (17, .i2l, 1, 0, 0, 0), (18, .invokestatic 320, 3, 78, 2, 0), (21, .aload_n 0, 1, 0, 0, 0), (22, .iload_n 3, 1, 0, 0, 0), (23, .iconst 2, 1, 0, 0, 0), (24, .invokevirtual 373, 3, 45, 2, 0), (27, .i2l, 1, 0, 0, 0), (28, .invokestatic 320, 3, 78, 2, 0), (31, .lstore 4, 2, 0, 0, 0), (33, .lload 4, 2, 0, 0, 0), (35, .aload_n 0, 1, 0, 0, 0), (36, .iload_n 3, 1, 0, 0, 0), (37, .iconst 0, 1, 0, 0, 0), (38, .invokevirtual 376, 3, 51, 2, 0), (41, .i2l, 1, 0, 0, 0), (42, .invokestatic 320, 3, 78, 2, 0), (45, .aload_n 0, 1, 0, 0, 0), (46, .iload_n 3, 1, 0, 0, 0), (47, .iconst 1, 1, 0, 0, 0), (48, .invokevirtual 376, 3, 51, 2, 0), (51, .i2l, 1, 0, 0, 0), (52, .invokestatic 320, 3, 78, 2, 0), (55, .lstore 4, 2, 0, 0, 0), (57, .lload 4, 2, 0, 0, 0), (59, .aload_n 0, 1, 0, 0, 0), (60, .iload_n 3, 1, 0, 0, 0), (61, .iconst 0, 1, 0, 0, 0), (62, .invokevirtual 379, 3, 57, 2, 0), (65, .i2l, 1, 0, 0, 0), (66, .invokestatic 320, 3, 78, 2, 0), (69, .aload_n 0, 1, 0, 0, 0), (70, .iload_n 3, 1, 0, 0, 0), (71, .iconst 1, 1, 0, 0, 0), (72, .invokevirtual 379, 3, 57, 2, 0), (75, .i2l, 1, 0, 0, 0), (76, .invokestatic 320, 3, 78, 2, 0), (79, .lstore 4, 2, 0, 0, 0), (81, .lload 4, 2, 0, 0, 0), (83, .aload_n 0, 1, 0, 0, 0), (84, .iload_n 3, 1, 0, 0, 0), (85, .iconst (-1), 1, 0, 0, 0), (86, .invokevirtual 382, 3, 64, 2, 0), (89, .i2l, 1, 0, 0, 0), (90, .invokestatic 320, 3, 78, 2, 0), (93, .aload_n 0, 1, 0, 0, 0), (94, .iload_n 3, 1, 0, 0, 0), (95, .iconst 0, 1, 0, 0, 0), (96, .invokevirtual 382, 3, 64, 2, 0), (99, .i2l, 1, 0, 0, 0), (100, .invokestatic 320, 3, 78, 2, 0), (103, .lstore 4, 2, 0, 0, 0), (105, .lload 4, 2, 0, 0, 0), (107, .aload_n 0, 1, 0, 0, 0), (108, .iload_n 3, 1, 0, 0, 0), (109, .invokevirtual 385, 3, 65, 1, 0), (112, .i2l, 1, 0, 0, 0), (113, .invokestatic 320, 3, 78, 2, 0), (116, .aload_n 0, 1, 0, 0, 0), (117, .iload_n 3, 1, 0, 0, 0), (118, .invokevirtual 388, 3, 66, 1, 0), (121, .i2l, 1, 0, 0, 0), (122, .invokestatic 320, 3, 78, 2, 0), (125, .lreturn, 1, 0, 0, 0)]
def xR_X8_mixDeed : MethodName × ByteArray × Nat × Option FieldType × Nat × Bool × Nat × Nat × Nat × List (Nat × xEnt) := (yX8_mixDeed, cX8_mixDeed, 6, (some .long), 8, true, 2, 5, 136, xL_X8_mixDeed)
def xL_X8_mix : List (Nat × xEnt) := [(0, .ldc2_w 391, 3, 5, 0, 0), (3, .lload_n 0, 1, 0, 0, 0), (4, .lmul, 1, 0, 0, 0), (5, .lload_n 2, 1, 0, 0, 0), (6, .ladd, 1, 0, 0, 0), (7, .lreturn, 1, 0, 0, 0)]
def xR_X8_mix : MethodName × ByteArray × Nat × Option FieldType × Nat × Bool × Nat × Nat × Nat × List (Nat × xEnt) := (yX8_mix, cX8_mix, 4, (some .long), 8, false, 2, 0, 0, xL_X8_mix)
def xL_X8_isOutside : List (Nat × xEnt) := [(0, .iload_n 0, 1, 0, 0, 0), (1, .ifCond .lt 8, 3, 9, 0, 0), (4, .iload_n 0, 1, 0, 0, 3), (5, .iload_n 1, 1, 0, 0, 0), (6, .if_icmp .lt 7, 3, 13, 0, 0), (9, .iconst 1, 1, 0, 0, 1152921504606846976), (10, .goto 4, 3, 14, 0, 0), (13, .iconst 0, 1, 0, 0, 1152921504606846976), (14, .ireturn, 1, 0, 0, 1152921504606846976)]
def xR_X8_isOutside : MethodName × ByteArray × Nat × Option FieldType × Nat × Bool × Nat × Nat × Nat × List (Nat × xEnt) := (yX8_isOutside, cX8_isOutside, 2, (some .boolean), 8, false, 2, 0, 0, xL_X8_isOutside)
def xL_X8_isNoDeed : List (Nat × xEnt) := [(0, .iload_n 1, 1, 0, 0, 0), (1, .aload_n 0, 1, 0, 0, 0), (2, .getfield 31, 3, 8, 3, 0), (5, .getfield 202, 3, 0, 3, 0), (8, .invokestatic 94, 3, 79, 2, 0), (11, .ireturn, 1, 0, 0, 0)]
def xR_X8_isNoDeed : MethodName × ByteArray × Nat × Option FieldType × Nat × Bool × Nat × Nat × Nat × List (Nat × xEnt) := (yX8_isNoDeed, cX8_isNoDeed, 2, (some .boolean), 8, true, 1, 1, 21, xL_X8_isNoDeed)
def xL_X8_isNoThunder : List (Nat × xEnt) := [(0, .iload_n 0, 1, 0, 0, 0), (1, .bipush 10, 2, 0, 0, 0), (3, .invokestatic 94, 3, 79, 2, 0), (6, .ifCond .ne 14, 3, 20, 0, 0), (9, .iload_n 1, 1, 0, 0, 2), (10, .iconst 1, 1, 0, 0, 0), (11, .if_icmp .lt 9, 3, 20, 0, 0), (14, .iload_n 1, 1, 0, 0, 2), (15, .bipush 9, 2, 0, 0, 0), (17, .if_icmp .le 7, 3, 24, 0, 0), (20, .iconst 1, 1, 0, 0, 1152921504606846976), (21, .goto 4, 3, 25, 0, 0), (24, .iconst 0, 1, 0, 0, 1152921504606846976), (25, .ireturn, 1, 0, 0, 1152921504606846976)]
def xR_X8_isNoThunder : MethodName × ByteArray × Nat × Option FieldType × Nat × Bool × Nat × Nat × Nat × List (Nat × xEnt) := (yX8_isNoThunder, cX8_isNoThunder, 2, (some .boolean), 8, false, 2, 1, 21, xL_X8_isNoThunder)
def xL_X8_textOf : List (Nat × xEnt) := [(0, .iload_n 1, 1, 0, 0, 0), (1, .ifCond .ne 10, 3, 11, 0, 0), (4, .aload_n 0, 1, 0, 0, 1), (5, .getfield 14, 3, 8, 0, 0), (8, .goto 7, 3, 15, 0, 0), (11, .aload_n 0, 1, 0, 0, 1), (12, .getfield 18, 3, 8, 1, 0), (15, .areturn, 1, 0, 0, 1152921504606846976)]
def xR_X8_textOf : MethodName × ByteArray × Nat × Option FieldType × Nat × Bool × Nat × Nat × Nat × List (Nat × xEnt) := (yX8_textOf, cX8_textOf, 2, (some (.object "FounderSleeps$Text")), 8, true, 1, 0, 0, xL_X8_textOf)
def xL_X8_readAnew : List (Nat × xEnt) := [(0, .iload_n 1, 1, 0, 0, 0), (1, .ifCond .ne 17, 3, 18, 0, 0), (4, .aload_n 0, 1, 0, 0, 1), (5, .getfield 24, 3, 8, 2, 0), (8, .aload_n 0, 1, 0, 0, 0), (9, .getfield 14, 3, 8, 0, 0), (12, .invokevirtual 393, 3, 30, 1, 0), (15, .goto 14, 3, 29, 0, 0), (18, .aload_n 0, 1, 0, 0, 1), (19, .getfield 31, 3, 8, 3, 0), (22, .aload_n 0, 1, 0, 0, 0), (23, .getfield 18, 3, 8, 1, 0), (26, .invokevirtual 397, 3, 0, 1, 0), (29, .aload_n 0, 1, 0, 0, 1), (30, .invokevirtual 91, 3, 84, 0, 0), (33, .return_, 1, 0, 0, 0)]
def xR_X8_readAnew : MethodName × ByteArray × Nat × Option FieldType × Nat × Bool × Nat × Nat × Nat × List (Nat × xEnt) := (yX8_readAnew, cX8_readAnew, 2, none, 8, true, 1, 7, 171, xL_X8_readAnew)
def xL_X8_sleepAnew : List (Nat × xEnt) := [(0, .aload_n 0, 1, 0, 0, 0), (1, .getfield 52, 3, 8, 6, 0), (4, .aload_n 0, 1, 0, 0, 0), (5, .getfield 24, 3, 8, 2, 0), (8, .invokevirtual 170, 3, 15, 1, 0), (11, .aload_n 0, 1, 0, 0, 0), (12, .getfield 52, 3, 8, 6, 0), (15, .aload_n 0, 1, 0, 0, 0), (16, .getfield 24, 3, 8, 2, 0), (19, .aload_n 0, 1, 0, 0, 0), (20, .getfield 24, 3, 8, 2, 0), (23, .getfield 127, 3, 7, 4, 0), (26, .invokevirtual 174, 3, 17, 2, 0), (29, .aload_n 0, 1, 0, 0, 0), (30, .getfield 61, 3, 8, 7, 0), (33, .aload_n 0, 1, 0, 0, 0), (34, .getfield 31, 3, 8, 3, 0), (37, .sipush 255, 3, 0, 0, 0), (40, .aload_n 0, 1, 0, 0, 0), (41, .getfield 52, 3, 8, 6, 0), (44, .invokevirtual 241, 3, 10, 3, 0), (47, .aload_n 0, 1, 0, 0, 0), (48, .iconst 0, 1, 0, 0, 0), (49, .putfield 398, 3, 8, 15, 0), (52, .return_, 1, 0, 0, 0)]
def xR_X8_sleepAnew : MethodName × ByteArray × Nat × Option FieldType × Nat × Bool × Nat × Nat × Nat × List (Nat × xEnt) := (yX8_sleepAnew, cX8_sleepAnew, 1, none, 8, true, 0, 2, 66, xL_X8_sleepAnew)
def xL_X8_asHour : List (Nat × xEnt) := [(0, .iload_n 0, 1, 0, 0, 0), (1, .bipush 10, 2, 0, 0, 0), (3, .if_icmp .ge 7, 3, 10, 0, 0), (6, .iload_n 0, 1, 0, 0, 1), (7, .goto 4, 3, 11, 0, 0), (10, .iconst (-1), 1, 0, 0, 1152921504606846976), (11, .ireturn, 1, 0, 0, 1152921504606846976)]
def xR_X8_asHour : MethodName × ByteArray × Nat × Option FieldType × Nat × Bool × Nat × Nat × Nat × List (Nat × xEnt) := (yX8_asHour, cX8_asHour, 1, (some .int), 8, false, 1, 0, 0, xL_X8_asHour)
def xL_X8_bestHourOf : List (Nat × xEnt) := [(0, .iconst 0, 1, 0, 0, 0), (1, .istore_n 2, 1, 0, 0, 0), (2, .iconst (-1), 1, 0, 0, 0), (3, .istore_n 3, 1, 0, 0, 0), (4, .iconst 0, 1, 0, 0, 0), (5, .istore 4, 2, 0, 0, 0), (7, .iload 4, 2, 0, 0, 31), (9, .bipush 10, 2, 0, 0, 0), (11, .if_icmp .ge 30, 3, 41, 0, 0), (14, .aload_n 0, 1, 0, 0, 31), (15, .iload_n 1, 1, 0, 0, 0), (16, .iload 4, 2, 0, 0, 0), (18, .invokevirtual 206, 3, 87, 2, 0), (21, .istore 5, 2, 0, 0, 0), (23, .iload 5, 2, 0, 0, 0), (25, .iload_n 3, 1, 0, 0, 0), (26, .if_icmp .le 9, 3, 35, 0, 0), (29, .iload 5, 2, 0, 0, 51), (31, .istore_n 3, 1, 0, 0, 0), (32, .iload 4, 2, 0, 0, 0), (34, .istore_n 2, 1, 0, 0, 0), (35, .iinc 4 1, 3, 0, 0, 31), (38, .goto (-31), 3, 7, 0, 0), (41, .iload_n 2, 1, 0, 0, 4), (42, .ireturn, 1, 0, 0, 0)]
def xR_X8_bestHourOf : MethodName × ByteArray × Nat × Option FieldType × Nat × Bool × Nat × Nat × Nat × List (Nat × xEnt) := (yX8_bestHourOf, cX8_bestHourOf, 6, (some .int), 8, true, 1, 3, 88, xL_X8_bestHourOf)
def xL_X8_latenessAt : List (Nat × xEnt) := [(0, .aload_n 0, 1, 0, 0, 0), (1, .getfield 65, 3, 8, 8, 0), (4, .aload_n 0, 1, 0, 0, 0), (5, .getfield 31, 3, 8, 3, 0), (8, .invokevirtual 252, 3, 5, 1, 0), (11, .aload_n 0, 1, 0, 0, 0), (12, .getfield 65, 3, 8, 8, 0), (15, .getfield 135, 3, 0, 2, 0), (18, .iload_n 1, 1, 0, 0, 0), (19, .iload_n 2, 1, 0, 0, 0), (20, .iastore, 1, 0, 0, 0), (21, .aload_n 0, 1, 0, 0, 0), (22, .getfield 71, 3, 8, 10, 0), (25, .aload_n 0, 1, 0, 0, 0), (26, .getfield 65, 3, 8, 8, 0), (29, .sipush 255, 3, 0, 0, 0), (32, .aload_n 0, 1, 0, 0, 0), (33, .getfield 52, 3, 8, 6, 0), (36, .invokevirtual 241, 3, 10, 3, 0), (39, .aload_n 0, 1, 0, 0, 0), (40, .getfield 71, 3, 8, 10, 0), (43, .invokevirtual 402, 3, 13, 0, 0), (46, .ireturn, 1, 0, 0, 0)]
def xR_X8_latenessAt : MethodName × ByteArray × Nat × Option FieldType × Nat × Bool × Nat × Nat × Nat × List (Nat × xEnt) := (yX8_latenessAt, cX8_latenessAt, 3, (some .int), 8, true, 2, 2, 66, xL_X8_latenessAt)
def xL_X8_bestBed : List (Nat × xEnt) := [(0, .iconst (-1), 1, 0, 0, 0), (1, .istore_n 1, 1, 0, 0, 0), (2, .iconst (-1), 1, 0, 0, 0), (3, .istore_n 2, 1, 0, 0, 0), (4, .iconst 0, 1, 0, 0, 0), (5, .istore_n 3, 1, 0, 0, 0), (6, .iload_n 3, 1, 0, 0, 15), (7, .aload_n 0, 1, 0, 0, 0), (8, .getfield 24, 3, 8, 2, 0), (11, .getfield 228, 3, 7, 2, 0), (14, .if_icmp .ge 42, 3, 56, 0, 0), (17, .aload_n 0, 1, 0, 0, 15), (18, .getfield 24, 3, 8, 2, 0), (21, .iload_n 3, 1, 0, 0, 0), (22, .invokevirtual 225, 3, 38, 1, 0), (25, .ifCond .eq 11, 3, 36, 0, 0), (28, .aload_n 0, 1, 0, 0, 15), (29, .iload_n 3, 1, 0, 0, 0), (30, .invokevirtual 222, 3, 89, 1, 0), (33, .goto 4, 3, 37, 0, 0), (36, .iconst (-1), 1, 0, 0, 15), (37, .istore 4, 2, 0, 0, 15), (39, .iload 4, 2, 0, 0, 0), (41, .iload_n 2, 1, 0, 0, 0), (42, .if_icmp .le 8, 3, 50, 0, 0), (45, .iload 4, 2, 0, 0, 25), (47, .istore_n 2, 1, 0, 0, 0), (48, .iload_n 3, 1, 0, 0, 0), (49, .istore_n 1, 1, 0, 0, 0), (50, .iinc 3 1, 3, 0, 0, 15), (53, .goto (-47), 3, 6, 0, 0), (56, .iload_n 1, 1, 0, 0, 2), (57, .ireturn, 1, 0, 0, 0)]
def xR_X8_bestBed : MethodName × ByteArray × Nat × Option FieldType × Nat × Bool × Nat × Nat × Nat × List (Nat × xEnt) := (yX8_bestBed, cX8_bestBed, 5, (some .int), 8, true, 0, 3, 87, xL_X8_bestBed)
def xL_X8_latenessWithBed : List (Nat × xEnt) := [(0, .aload_n 0, 1, 0, 0, 0), (1, .getfield 68, 3, 8, 9, 0), (4, .aload_n 0, 1, 0, 0, 0), (5, .getfield 24, 3, 8, 2, 0), (8, .invokevirtual 170, 3, 15, 1, 0), (11, .aload_n 0, 1, 0, 0, 0), (12, .getfield 68, 3, 8, 9, 0), (15, .aload_n 0, 1, 0, 0, 0), (16, .getfield 24, 3, 8, 2, 0), (19, .iload_n 1, 1, 0, 0, 0), (20, .invokevirtual 174, 3, 17, 2, 0), (23, .aload_n 0, 1, 0, 0, 0), (24, .getfield 71, 3, 8, 10, 0), (27, .aload_n 0, 1, 0, 0, 0), (28, .getfield 31, 3, 8, 3, 0), (31, .sipush 255, 3, 0, 0, 0), (34, .aload_n 0, 1, 0, 0, 0), (35, .getfield 68, 3, 8, 9, 0), (38, .invokevirtual 241, 3, 10, 3, 0), (41, .aload_n 0, 1, 0, 0, 0), (42, .getfield 71, 3, 8, 10, 0), (45, .invokevirtual 402, 3, 13, 0, 0), (48, .ireturn, 1, 0, 0, 0)]
def xR_X8_latenessWithBed : MethodName × ByteArray × Nat × Option FieldType × Nat × Bool × Nat × Nat × Nat × List (Nat × xEnt) := (yX8_latenessWithBed, cX8_latenessWithBed, 2, (some .int), 8, true, 1, 2, 66, xL_X8_latenessWithBed)
def xL_X8_planFelt : List (Nat × xEnt) := [(0, .aload_n 0, 1, 0, 0, 0), (1, .getfield 398, 3, 8, 15, 0), (4, .ifCond .eq 4, 3, 8, 0, 0), (7, .return_, 1, 0, 0, 1152921504606846976), (8, .aload_n 0, 1, 0, 0, 1), (9, .iconst 1, 1, 0, 0, 0), (10, .putfield 398, 3, 8, 15, 0), (13, .aload_n 0, 1, 0, 0, 0), (14, .getfield 81, 3, 8, 13, 0), (17, .iconst 0, 1, 0, 0, 0), (18, .iconst (-1), 1, 0, 0, 0), (19, .iastore, 1, 0, 0, 0), (20, .aload_n 0, 1, 0, 0, 0), (21, .getfield 81, 3, 8, 13, 0), (24, .iconst 1, 1, 0, 0, 0), (25, .iconst (-1), 1, 0, 0, 0), (26, .iastore, 1, 0, 0, 0), (27, .aload_n 0, 1, 0, 0, 0), (28, .getfield 61, 3, 8, 7, 0), (31, .getfield 193, 3, 3, 5, 0), (34, .iconst (-1), 1, 0, 0, 0), (35, .if_icmp .ne 11, 3, 46, 0, 0), (38, .aload_n 0, 1, 0, 0, 1), (39, .iconst 0, 1, 0, 0, 0), (40, .putfield 215, 3, 8, 14, 0), (43, .goto 34, 3, 77, 0, 0), (46, .aload_n 0, 1, 0, 0, 1), (47, .invokevirtual 405, 3, 91, 0, 0), (50, .ifCond .eq 11, 3, 61, 0, 0), (53, .aload_n 0, 1, 0, 0, 1), (54, .iconst 1, 1, 0, 0, 0), (55, .putfield 215, 3, 8, 14, 0), (58, .goto 19, 3, 77, 0, 0), (61, .aload_n 0, 1, 0, 0, 1), (62, .aload_n 0, 1, 0, 0, 0), (63, .invokevirtual 408, 3, 92, 0, 0), (66, .ifCond .eq 7, 3, 73, 0, 0), (69, .iconst 2, 1, 0, 0, 1152921504606846976), (70, .goto 4, 3, 74, 0, 0), (73, .iconst (-1), 1, 0, 0, 1152921504606846976), (74, .putfield 215, 3, 8, 14, 1152921504606846976), (77, .return_, 1, 0, 0, 1152921504606846976)]
def xR_X8_planFelt : MethodName × ByteArray × Nat × Option FieldType × Nat × Bool × Nat × Nat × Nat × List (Nat × xEnt) := (yX8_planFelt, cX8_planFelt, 1, none, 8, true, 0, 4, 110, xL_X8_planFelt)
def xL_X8_isStillWithOne : List (Nat × xEnt) := [(0, .iconst 0, 1, 0, 0, 0), (1, .istore_n 1, 1, 0, 0, 0), (2, .iload_n 1, 1, 0, 0, 3), (3, .aload_n 0, 1, 0, 0, 0), (4, .getfield 24, 3, 8, 2, 0), (7, .getfield 228, 3, 7, 2, 0), (10, .if_icmp .ge 38, 3, 48, 0, 0), (13, .aload_n 0, 1, 0, 0, 3), (14, .getfield 24, 3, 8, 2, 0), (17, .iload_n 1, 1, 0, 0, 0), (18, .invokevirtual 225, 3, 38, 1, 0), (21, .ifCond .eq 21, 3, 42, 0, 0), (24, .aload_n 0, 1, 0, 0, 3), (25, .iload_n 1, 1, 0, 0, 0), (26, .iconst (-1), 1, 0, 0, 0), (27, .invokevirtual 411, 3, 93, 2, 0), (30, .ifCond .eq 12, 3, 42, 0, 0), (33, .aload_n 0, 1, 0, 0, 3), (34, .getfield 81, 3, 8, 13, 0), (37, .iconst 0, 1, 0, 0, 0), (38, .iload_n 1, 1, 0, 0, 0), (39, .iastore, 1, 0, 0, 0), (40, .iconst 1, 1, 0, 0, 0), (41, .ireturn, 1, 0, 0, 0), (42, .iinc 1 1, 3, 0, 0, 3), (45, .goto (-43), 3, 2, 0, 0), (48, .iconst 0, 1, 0, 0, 1152921504606846976), (49, .ireturn, 1, 0, 0, 0)]
def xR_X8_isStillWithOne : MethodName × ByteArray × Nat × Option FieldType × Nat × Bool × Nat × Nat × Nat × List (Nat × xEnt) := (yX8_isStillWithOne, cX8_isStillWithOne, 2, (some .boolean), 8, true, 0, 3, 88, xL_X8_isStillWithOne)
def xL_X8_isStillWithTwo : List (Nat × xEnt) := [(0, .iconst 0, 1, 0, 0, 0), (1, .istore_n 1, 1, 0, 0, 0), (2, .iload_n 1, 1, 0, 0, 3), (3, .aload_n 0, 1, 0, 0, 0), (4, .getfield 24, 3, 8, 2, 0), (7, .getfield 228, 3, 7, 2, 0), (10, .if_icmp .ge 77, 3, 87, 0, 0), (13, .iload_n 1, 1, 0, 0, 3), (14, .iconst 1, 1, 0, 0, 0), (15, .iadd, 1, 0, 0, 0), (16, .istore_n 2, 1, 0, 0, 0), (17, .iload_n 2, 1, 0, 0, 7), (18, .aload_n 0, 1, 0, 0, 0), (19, .getfield 24, 3, 8, 2, 0), (22, .getfield 228, 3, 7, 2, 0), (25, .if_icmp .ge 56, 3, 81, 0, 0), (28, .aload_n 0, 1, 0, 0, 7), (29, .getfield 24, 3, 8, 2, 0), (32, .iload_n 1, 1, 0, 0, 0), (33, .invokevirtual 225, 3, 38, 1, 0), (36, .ifCond .eq 39, 3, 75, 0, 0), (39, .aload_n 0, 1, 0, 0, 7), (40, .getfield 24, 3, 8, 2, 0), (43, .iload_n 2, 1, 0, 0, 0), (44, .invokevirtual 225, 3, 38, 1, 0), (47, .ifCond .eq 28, 3, 75, 0, 0), (50, .aload_n 0, 1, 0, 0, 7), (51, .iload_n 1, 1, 0, 0, 0), (52, .iload_n 2, 1, 0, 0, 0), (53, .invokevirtual 411, 3, 93, 2, 0), (56, .ifCond .eq 19, 3, 75, 0, 0), (59, .aload_n 0, 1, 0, 0, 7), (60, .getfield 81, 3, 8, 13, 0), (63, .iconst 0, 1, 0, 0, 0), (64, .iload_n 1, 1, 0, 0, 0), (65, .iastore, 1, 0, 0, 0), (66, .aload_n 0, 1, 0, 0, 0), (67, .getfield 81, 3, 8, 13, 0), (70, .iconst 1, 1, 0, 0, 0), (71, .iload_n 2, 1, 0, 0, 0), (72, .iastore, 1, 0, 0, 0), (73, .iconst 1, 1, 0, 0, 0), (74, .ireturn, 1, 0, 0, 0), (75, .iinc 2 1, 3, 0, 0, 7), (78, .goto (-61), 3, 17, 0, 0), (81, .iinc 1 1, 3, 0, 0, 3), (84, .goto (-82), 3, 2, 0, 0), (87, .iconst 0, 1, 0, 0, 1152921504606846976), (88, .ireturn, 1, 0, 0, 0)]
def xR_X8_isStillWithTwo : MethodName × ByteArray × Nat × Option FieldType × Nat × Bool × Nat × Nat × Nat × List (Nat × xEnt) := (yX8_isStillWithTwo, cX8_isStillWithTwo, 3, (some .boolean), 8, true, 0, 3, 88, xL_X8_isStillWithTwo)
def xL_X8_isStillWith : List (Nat × xEnt) := [(0, .aload_n 0, 1, 0, 0, 0), (1, .getfield 68, 3, 8, 9, 0), (4, .aload_n 0, 1, 0, 0, 0), (5, .getfield 24, 3, 8, 2, 0), (8, .invokevirtual 170, 3, 15, 1, 0), (11, .aload_n 0, 1, 0, 0, 0), (12, .getfield 68, 3, 8, 9, 0), (15, .iload_n 1, 1, 0, 0, 0), (16, .invokevirtual 414, 3, 16, 1, 0), (19, .aload_n 0, 1, 0, 0, 0), (20, .getfield 68, 3, 8, 9, 0), (23, .iload_n 2, 1, 0, 0, 0), (24, .invokevirtual 414, 3, 16, 1, 0), (27, .aload_n 0, 1, 0, 0, 0), (28, .getfield 68, 3, 8, 9, 0), (31, .aload_n 0, 1, 0, 0, 0), (32, .getfield 24, 3, 8, 2, 0), (35, .aload_n 0, 1, 0, 0, 0), (36, .getfield 24, 3, 8, 2, 0), (39, .getfield 127, 3, 7, 4, 0), (42, .invokevirtual 174, 3, 17, 2, 0), (45, .aload_n 0, 1, 0, 0, 0), (46, .getfield 71, 3, 8, 10, 0), (49, .aload_n 0, 1, 0, 0, 0), (50, .getfield 31, 3, 8, 3, 0), (53, .sipush 255, 3, 0, 0, 0), (56, .aload_n 0, 1, 0, 0, 0), (57, .getfield 68, 3, 8, 9, 0), (60, .invokevirtual 241, 3, 10, 3, 0), (63, .aload_n 0, 1, 0, 0, 0), (64, .getfield 71, 3, 8, 10, 0), (67, .getfield 193, 3, 3, 5, 0), (70, .iconst (-1), 1, 0, 0, 0), (71, .if_icmp .ne 7, 3, 78, 0, 0), (74, .iconst 1, 1, 0, 0, 1152921504606846976), (75, .goto 4, 3, 79, 0, 0), (78, .iconst 0, 1, 0, 0, 1152921504606846976), (79, .ireturn, 1, 0, 0, 1152921504606846976)]
def xR_X8_isStillWith : MethodName × ByteArray × Nat × Option FieldType × Nat × Bool × Nat × Nat × Nat × List (Nat × xEnt) := (yX8_isStillWith, cX8_isStillWith, 3, (some .boolean), 8, true, 2, 2, 66, xL_X8_isStillWith)
def xL_X8_findPlaces : List (Nat × xEnt) := [(0, .iconst 0, 1, 0, 0, 0), (1, .istore_n 2, 1, 0, 0, 0), (2, .aload_n 0, 1, 0, 0, 0), (3, .getfield 65, 3, 8, 8, 0), (6, .aload_n 0, 1, 0, 0, 0), (7, .getfield 31, 3, 8, 3, 0), (10, .invokevirtual 252, 3, 5, 1, 0), (13, .iconst 0, 1, 0, 0, 0), (14, .istore_n 3, 1, 0, 0, 0), (15, .iload_n 3, 1, 0, 0, 15), (16, .aload_n 0, 1, 0, 0, 0), (17, .getfield 24, 3, 8, 2, 0), (20, .getfield 228, 3, 7, 2, 0), (23, .if_icmp .ge 82, 3, 105, 0, 0), (26, .aload_n 0, 1, 0, 0, 15), (27, .getfield 65, 3, 8, 8, 0), (30, .getfield 133, 3, 0, 0, 0), (33, .iload_n 1, 1, 0, 0, 0), (34, .iload_n 3, 1, 0, 0, 0), (35, .iastore, 1, 0, 0, 0), (36, .aload_n 0, 1, 0, 0, 0), (37, .getfield 71, 3, 8, 10, 0), (40, .aload_n 0, 1, 0, 0, 0), (41, .getfield 65, 3, 8, 8, 0), (44, .sipush 255, 3, 0, 0, 0), (47, .aload_n 0, 1, 0, 0, 0), (48, .getfield 52, 3, 8, 6, 0), (51, .invokevirtual 241, 3, 10, 3, 0), (54, .aload_n 0, 1, 0, 0, 0), (55, .getfield 45, 3, 8, 5, 0), (58, .aload_n 0, 1, 0, 0, 0), (59, .getfield 71, 3, 8, 10, 0), (62, .invokevirtual 245, 3, 9, 1, 0), (65, .ifCond .eq 34, 3, 99, 0, 0), (68, .aload_n 0, 1, 0, 0, 15), (69, .getfield 74, 3, 8, 11, 0), (72, .iload_n 2, 1, 0, 0, 0), (73, .iload_n 3, 1, 0, 0, 0), (74, .iastore, 1, 0, 0, 0), (75, .aload_n 0, 1, 0, 0, 0), (76, .getfield 71, 3, 8, 10, 0), (79, .getfield 187, 3, 3, 1, 0), (82, .iconst 0, 1, 0, 0, 0), (83, .aload_n 0, 1, 0, 0, 0), (84, .getfield 78, 3, 8, 12, 0), (87, .iload_n 2, 1, 0, 0, 0), (88, .bipush 10, 2, 0, 0, 0), (90, .imul, 1, 0, 0, 0), (91, .bipush 10, 2, 0, 0, 0), (93, .invokestatic 417, 3, 902, 5, 0), (96, .iinc 2 1, 3, 0, 0, 0), (99, .iinc 3 1, 3, 0, 0, 15), (102, .goto (-87), 3, 15, 0, 0), (105, .iload_n 2, 1, 0, 0, 4), (106, .ireturn, 1, 0, 0, 0)]
def xR_X8_findPlaces : MethodName × ByteArray × Nat × Option FieldType × Nat × Bool × Nat × Nat × Nat × List (Nat × xEnt) := (yX8_findPlaces, cX8_findPlaces, 4, (some .int), 8, true, 1, 2, 66, xL_X8_findPlaces)
def xL_X8_mostAlike : List (Nat × xEnt) := [(0, .iconst 0, 1, 0, 0, 0), (1, .istore_n 3, 1, 0, 0, 0), (2, .iconst 0, 1, 0, 0, 0), (3, .istore 4, 2, 0, 0, 0), (5, .iload 4, 2, 0, 0, 31), (7, .iload_n 2, 1, 0, 0, 0), (8, .if_icmp .ge 71, 3, 79, 0, 0), (11, .iconst 0, 1, 0, 0, 31), (12, .istore 5, 2, 0, 0, 0), (14, .iconst 0, 1, 0, 0, 0), (15, .istore 6, 2, 0, 0, 0), (17, .iload 6, 2, 0, 0, 127), (19, .iload_n 2, 1, 0, 0, 0), (20, .if_icmp .ge 46, 3, 66, 0, 0), (23, .iload 5, 2, 0, 0, 127), (25, .aload_n 0, 1, 0, 0, 0), (26, .getfield 78, 3, 8, 12, 0), (29, .iload 4, 2, 0, 0, 0), (31, .bipush 10, 2, 0, 0, 0), (33, .imul, 1, 0, 0, 0), (34, .iload_n 1, 1, 0, 0, 0), (35, .iadd, 1, 0, 0, 0), (36, .iaload, 1, 0, 0, 0), (37, .aload_n 0, 1, 0, 0, 0), (38, .getfield 78, 3, 8, 12, 0), (41, .iload 6, 2, 0, 0, 0), (43, .bipush 10, 2, 0, 0, 0), (45, .imul, 1, 0, 0, 0), (46, .iload_n 1, 1, 0, 0, 0), (47, .iadd, 1, 0, 0, 0), (48, .iaload, 1, 0, 0, 0), (49, .if_icmp .ne 7, 3, 56, 0, 0), (52, .iconst 1, 1, 0, 0, 95), (53, .goto 4, 3, 57, 0, 0), (56, .iconst 0, 1, 0, 0, 95), (57, .iadd, 1, 0, 0, 95), (58, .istore 5, 2, 0, 0, 0), (60, .iinc 6 1, 3, 0, 0, 0), (63, .goto (-46), 3, 17, 0, 0), (66, .iload_n 3, 1, 0, 0, 63), (67, .iload 5, 2, 0, 0, 0), (69, .invokestatic 423, 3, 901, 2, 0), (72, .istore_n 3, 1, 0, 0, 0), (73, .iinc 4 1, 3, 0, 0, 0), (76, .goto (-71), 3, 5, 0, 0), (79, .iload_n 3, 1, 0, 0, 8), (80, .ireturn, 1, 0, 0, 0)]
def xR_X8_mostAlike : MethodName × ByteArray × Nat × Option FieldType × Nat × Bool × Nat × Nat × Nat × List (Nat × xEnt) := (yX8_mostAlike, cX8_mostAlike, 7, (some .int), 8, true, 2, 1, 40, xL_X8_mostAlike)
def xL_X8_weightOfSleep : List (Nat × xEnt) := [(0, .lconst 0, 1, 0, 0, 0), (1, .lstore_n 2, 1, 0, 0, 0), (2, .iconst 0, 1, 0, 0, 0), (3, .istore 4, 2, 0, 0, 0), (5, .iload 4, 2, 0, 0, 23), (7, .iconst 1, 1, 0, 0, 0), (8, .aload_n 0, 1, 0, 0, 0), (9, .getfield 31, 3, 8, 3, 0), (12, .getfield 202, 3, 0, 3, 0), (15, .ishl, 1, 0, 0, 0), (16, .if_icmp .ge 47, 3, 63, 0, 0), (19, .aload_n 0, 1, 0, 0, 23), (20, .getfield 71, 3, 8, 10, 0), (23, .aload_n 0, 1, 0, 0, 0), (24, .getfield 31, 3, 8, 3, 0), (27, .iload 4, 2, 0, 0, 0), (29, .aload_n 0, 1, 0, 0, 0), (30, .getfield 52, 3, 8, 6, 0), (33, .invokevirtual 241, 3, 10, 3, 0), (36, .aload_n 0, 1, 0, 0, 0), (37, .getfield 71, 3, 8, 10, 0), (40, .getfield 193, 3, 3, 5, 0), (43, .iconst (-1), 1, 0, 0, 0), (44, .if_icmp .ne 13, 3, 57, 0, 0), (47, .lload_n 2, 1, 0, 0, 23), (48, .aload_n 0, 1, 0, 0, 0), (49, .iload 4, 2, 0, 0, 0), (51, .iload_n 1, 1, 0, 0, 0), (52, .invokevirtual 426, 3, 97, 2, 0), (55, .ladd, 1, 0, 0, 0), (56, .lstore_n 2, 1, 0, 0, 0), (57, .iinc 4 1, 3, 0, 0, 23), (60, .goto (-55), 3, 5, 0, 0), (63, .lload_n 2, 1, 0, 0, 4), (64, .lreturn, 1, 0, 0, 0)]
def xR_X8_weightOfSleep : MethodName × ByteArray × Nat × Option FieldType × Nat × Bool × Nat × Nat × Nat × List (Nat × xEnt) := (yX8_weightOfSleep, cX8_weightOfSleep, 5, (some .long), 8, true, 1, 2, 66, xL_X8_weightOfSleep)
def xL_X8_weightOf : List (Nat × xEnt) := [(0, .lconst 1, 1, 0, 0, 0), (1, .lstore_n 3, 1, 0, 0, 0), (2, .iconst 0, 1, 0, 0, 0), (3, .istore 5, 2, 0, 0, 0), (5, .iload 5, 2, 0, 0, 47), (7, .aload_n 0, 1, 0, 0, 0), (8, .getfield 31, 3, 8, 3, 0), (11, .getfield 202, 3, 0, 3, 0), (14, .if_icmp .ge 32, 3, 46, 0, 0), (17, .lload_n 3, 1, 0, 0, 47), (18, .iload_n 1, 1, 0, 0, 0), (19, .iload 5, 2, 0, 0, 0), (21, .ishr, 1, 0, 0, 0), (22, .iconst 1, 1, 0, 0, 0), (23, .iand, 1, 0, 0, 0), (24, .iconst 1, 1, 0, 0, 0), (25, .if_icmp .ne 8, 3, 33, 0, 0), (28, .iload_n 2, 1, 0, 0, 39), (29, .i2l, 1, 0, 0, 0), (30, .goto 8, 3, 38, 0, 0), (33, .bipush 16, 2, 0, 0, 39), (35, .iload_n 2, 1, 0, 0, 0), (36, .isub, 1, 0, 0, 0), (37, .i2l, 1, 0, 0, 0), (38, .lmul, 1, 0, 0, 39), (39, .lstore_n 3, 1, 0, 0, 0), (40, .iinc 5 1, 3, 0, 0, 0), (43, .goto (-38), 3, 5, 0, 0), (46, .lload_n 3, 1, 0, 0, 8), (47, .lreturn, 1, 0, 0, 0)]
def xR_X8_weightOf : MethodName × ByteArray × Nat × Option FieldType × Nat × Bool × Nat × Nat × Nat × List (Nat × xEnt) := (yX8_weightOf, cX8_weightOf, 6, (some .long), 8, true, 2, 0, 0, xL_X8_weightOf)
def xL_X8_drawDeeds : List (Nat × xEnt) := [(0, .aload_n 0, 1, 0, 0, 0), (1, .getfield 65, 3, 8, 8, 0), (4, .iconst 0, 1, 0, 0, 0), (5, .putfield 202, 3, 0, 3, 0), (8, .iload_n 1, 1, 0, 0, 0), (9, .istore_n 3, 1, 0, 0, 0), (10, .iconst 0, 1, 0, 0, 0), (11, .istore 4, 2, 0, 0, 0), (13, .iload 4, 2, 0, 0, 29), (15, .iload_n 2, 1, 0, 0, 0), (16, .if_icmp .ge 74, 3, 90, 0, 0), (19, .aload_n 0, 1, 0, 0, 29), (20, .getfield 24, 3, 8, 2, 0), (23, .getfield 228, 3, 7, 2, 0), (26, .ifCond .le 64, 3, 90, 0, 0), (29, .iload_n 3, 1, 0, 0, 29), (30, .invokestatic 429, 3, 99, 1, 0), (33, .istore_n 3, 1, 0, 0, 0), (34, .iload_n 3, 1, 0, 0, 0), (35, .bipush 16, 2, 0, 0, 0), (37, .iushr, 1, 0, 0, 0), (38, .aload_n 0, 1, 0, 0, 0), (39, .getfield 24, 3, 8, 2, 0), (42, .getfield 228, 3, 7, 2, 0), (45, .irem, 1, 0, 0, 0), (46, .istore 5, 2, 0, 0, 0), (48, .iload_n 3, 1, 0, 0, 0), (49, .invokestatic 429, 3, 99, 1, 0), (52, .istore_n 3, 1, 0, 0, 0), (53, .iload_n 3, 1, 0, 0, 0), (54, .bipush 16, 2, 0, 0, 0), (56, .iushr, 1, 0, 0, 0), (57, .iconst 4, 1, 0, 0, 0), (58, .irem, 1, 0, 0, 0), (59, .istore 6, 2, 0, 0, 0), (61, .iload_n 3, 1, 0, 0, 0), (62, .invokestatic 429, 3, 99, 1, 0), (65, .istore_n 3, 1, 0, 0, 0), (66, .aload_n 0, 1, 0, 0, 0), (67, .getfield 65, 3, 8, 8, 0), (70, .iload 5, 2, 0, 0, 0), (72, .iload 6, 2, 0, 0, 0), (74, .iload_n 3, 1, 0, 0, 0), (75, .bipush 16, 2, 0, 0, 0), (77, .iushr, 1, 0, 0, 0), (78, .bipush 10, 2, 0, 0, 0), (80, .irem, 1, 0, 0, 0), (81, .invokevirtual 432, 3, 4, 3, 0), (84, .iinc 4 1, 3, 0, 0, 0), (87, .goto (-74), 3, 13, 0, 0), (90, .return_, 1, 0, 0, 1152921504606846976)]
def xR_X8_drawDeeds : MethodName × ByteArray × Nat × Option FieldType × Nat × Bool × Nat × Nat × Nat × List (Nat × xEnt) := (yX8_drawDeeds, cX8_drawDeeds, 7, none, 8, true, 2, 1, 23, xL_X8_drawDeeds)
def xL_X8_nextLot : List (Nat × xEnt) := [(0, .ldc_w 434, 3, 5, 0, 0), (3, .iload_n 0, 1, 0, 0, 0), (4, .imul, 1, 0, 0, 0), (5, .sipush 12345, 3, 0, 0, 0), (8, .iadd, 1, 0, 0, 0), (9, .ireturn, 1, 0, 0, 0)]
def xR_X8_nextLot : MethodName × ByteArray × Nat × Option FieldType × Nat × Bool × Nat × Nat × Nat × List (Nat × xEnt) := (yX8_nextLot, cX8_nextLot, 1, (some .int), 8, false, 1, 0, 0, xL_X8_nextLot)
def xL_X8_refusalOfItem : List (Nat × xEnt) := [(0, .iload_n 1, 1, 0, 0, 0), (1, .iconst 4, 1, 0, 0, 0), (2, .invokestatic 94, 3, 79, 2, 0), (5, .ifCond .ne 11, 3, 16, 0, 0), (8, .iload_n 2, 1, 0, 0, 15), (9, .iconst 3, 1, 0, 0, 0), (10, .invokestatic 94, 3, 79, 2, 0), (13, .ifCond .eq 6, 3, 19, 0, 0), (16, .bipush (-2), 2, 0, 0, 1152921504606846976), (18, .ireturn, 1, 0, 0, 0), (19, .aload_n 0, 1, 0, 0, 15), (20, .getfield 87, 3, 8, 16, 0), (23, .iload_n 1, 1, 0, 0, 0), (24, .invokevirtual 156, 3, 20, 1, 0), (27, .ifCond .eq 9, 3, 36, 0, 0), (30, .aload_n 0, 1, 0, 0, 1), (31, .iconst 1, 1, 0, 0, 0), (32, .invokevirtual 159, 3, 101, 1, 0), (35, .ireturn, 1, 0, 0, 0), (36, .aload_n 0, 1, 0, 0, 15), (37, .getfield 87, 3, 8, 16, 0), (40, .getfield 292, 3, 5, 0, 0), (43, .iload_n 1, 1, 0, 0, 0), (44, .iaload, 1, 0, 0, 0), (45, .iload_n 2, 1, 0, 0, 0), (46, .if_icmp .eq 9, 3, 55, 0, 0), (49, .aload_n 0, 1, 0, 0, 1), (50, .iconst 3, 1, 0, 0, 0), (51, .invokevirtual 159, 3, 101, 1, 0), (54, .ireturn, 1, 0, 0, 0), (55, .aload_n 0, 1, 0, 0, 11), (56, .getfield 87, 3, 8, 16, 0), (59, .iload_n 1, 1, 0, 0, 0), (60, .iload_n 3, 1, 0, 0, 0), (61, .invokevirtual 435, 3, 22, 2, 0), (64, .ifCond .eq 7, 3, 71, 0, 0), (67, .iconst 0, 1, 0, 0, 1152921504606846976), (68, .goto 8, 3, 76, 0, 0), (71, .aload_n 0, 1, 0, 0, 1), (72, .iconst 2, 1, 0, 0, 0), (73, .invokevirtual 159, 3, 101, 1, 0), (76, .ireturn, 1, 0, 0, 1152921504606846976)]
def xR_X8_refusalOfItem : MethodName × ByteArray × Nat × Option FieldType × Nat × Bool × Nat × Nat × Nat × List (Nat × xEnt) := (yX8_refusalOfItem, cX8_refusalOfItem, 4, (some .int), 8, true, 3, 1, 22, xL_X8_refusalOfItem)
def xL_X8_find : List (Nat × xEnt) := [(0, .aload_n 0, 1, 0, 0, 0), (1, .iload_n 1, 1, 0, 0, 0), (2, .putfield 312, 3, 8, 17, 0), (5, .bipush (-10), 2, 0, 0, 0), (7, .iload_n 1, 1, 0, 0, 0), (8, .isub, 1, 0, 0, 0), (9, .ireturn, 1, 0, 0, 0)]
def xR_X8_find : MethodName × ByteArray × Nat × Option FieldType × Nat × Bool × Nat × Nat × Nat × List (Nat × xEnt) := (yX8_find, cX8_find, 2, (some .int), 8, true, 1, 0, 0, xL_X8_find)
def xL_X9_in : List (Nat × xEnt) := [(0, .iload_n 0, 1, 0, 0, 0), (1, .iload_n 1, 1, 0, 0, 0), (2, .if_icmp .lt 12, 3, 14, 0, 0), (5, .iload_n 0, 1, 0, 0, 5), (6, .iload_n 2, 1, 0, 0, 0), (7, .if_icmp .gt 7, 3, 14, 0, 0), (10, .iconst 1, 1, 0, 0, 1152921504606846976), (11, .goto 4, 3, 15, 0, 0), (14, .iconst 0, 1, 0, 0, 1152921504606846976), (15, .ireturn, 1, 0, 0, 1152921504606846976)]
def xR_X9_in : MethodName × ByteArray × Nat × Option FieldType × Nat × Bool × Nat × Nat × Nat × List (Nat × xEnt) := (yX9_in, cX9_in, 3, (some .boolean), 9, false, 3, 0, 0, xL_X9_in)
def xL_X9_isIn : List (Nat × xEnt) := [(0, .iload_n 0, 1, 0, 0, 0), (1, .iload_n 1, 1, 0, 0, 0), (2, .ishr, 1, 0, 0, 0), (3, .iconst 1, 1, 0, 0, 0), (4, .iand, 1, 0, 0, 0), (5, .iconst 1, 1, 0, 0, 0), (6, .if_icmp .ne 7, 3, 13, 0, 0), (9, .iconst 1, 1, 0, 0, 1152921504606846976), (10, .goto 4, 3, 14, 0, 0), (13, .iconst 0, 1, 0, 0, 1152921504606846976), (14, .ireturn, 1, 0, 0, 1152921504606846976)]
def xR_X9_isIn : MethodName × ByteArray × Nat × Option FieldType × Nat × Bool × Nat × Nat × Nat × List (Nat × xEnt) := (yX9_isIn, cX9_isIn, 2, (some .boolean), 9, false, 2, 0, 0, xL_X9_isIn)
def xL_X9_no : List (Nat × xEnt) := [(0, .ldc2_w 96, 3, 0, 0, 0), (3, .iload_n 0, 1, 0, 0, 0), (4, .i2l, 1, 0, 0, 0), (5, .lsub, 1, 0, 0, 0), (6, .lreturn, 1, 0, 0, 0)]
def xR_X9_no : MethodName × ByteArray × Nat × Option FieldType × Nat × Bool × Nat × Nat × Nat × List (Nat × xEnt) := (yX9_no, cX9_no, 1, (some .long), 9, false, 1, 0, 0, xL_X9_no)
def xL_X9_lowest : List (Nat × xEnt) := [(0, .lload_n 0, 1, 0, 0, 0), (1, .lstore 5, 2, 0, 0, 0), (3, .lload_n 2, 1, 0, 0, 0), (4, .lstore 7, 2, 0, 0, 0), (6, .lload 7, 2, 0, 0, 181), (8, .lconst 0, 1, 0, 0, 0), (9, .lcmp, 1, 0, 0, 0), (10, .ifCond .eq 21, 3, 31, 0, 0), (13, .lload 5, 2, 0, 0, 181), (15, .lload 7, 2, 0, 0, 0), (17, .lrem, 1, 0, 0, 0), (18, .lstore 9, 2, 0, 0, 0), (20, .lload 7, 2, 0, 0, 0), (22, .lstore 5, 2, 0, 0, 0), (24, .lload 9, 2, 0, 0, 0), (26, .lstore 7, 2, 0, 0, 0), (28, .goto (-22), 3, 6, 0, 0), (31, .iload 4, 2, 0, 0, 53), (33, .ifCond .ne 10, 3, 43, 0, 0), (36, .lload_n 0, 1, 0, 0, 33), (37, .lload 5, 2, 0, 0, 0), (39, .ldiv, 1, 0, 0, 0), (40, .goto 7, 3, 47, 0, 0), (43, .lload_n 2, 1, 0, 0, 36), (44, .lload 5, 2, 0, 0, 0), (46, .ldiv, 1, 0, 0, 0), (47, .lreturn, 1, 0, 0, 1152921504606846976)]
def xR_X9_lowest : MethodName × ByteArray × Nat × Option FieldType × Nat × Bool × Nat × Nat × Nat × List (Nat × xEnt) := (yX9_lowest, cX9_lowest, 11, (some .long), 9, false, 3, 0, 0, xL_X9_lowest)
def xL_X9_isText : List (Nat × xEnt) := [(0, .iload_n 0, 1, 0, 0, 0), (1, .iconst 0, 1, 0, 0, 0), (2, .iconst 1, 1, 0, 0, 0), (3, .invokestatic 98, 3, 102, 3, 0), (6, .ireturn, 1, 0, 0, 0)]
def xR_X9_isText : MethodName × ByteArray × Nat × Option FieldType × Nat × Bool × Nat × Nat × Nat × List (Nat × xEnt) := (yX9_isText, cX9_isText, 1, (some .boolean), 9, false, 1, 1, 22, xL_X9_isText)
def xL_X9_isHour : List (Nat × xEnt) := [(0, .iload_n 0, 1, 0, 0, 0), (1, .iconst 0, 1, 0, 0, 0), (2, .bipush 9, 2, 0, 0, 0), (4, .invokestatic 98, 3, 102, 3, 0), (7, .ireturn, 1, 0, 0, 0)]
def xR_X9_isHour : MethodName × ByteArray × Nat × Option FieldType × Nat × Bool × Nat × Nat × Nat × List (Nat × xEnt) := (yX9_isHour, cX9_isHour, 1, (some .boolean), 9, false, 1, 1, 22, xL_X9_isHour)
def xL_X9_type : List (Nat × xEnt) := [(0, .iload_n 1, 1, 0, 0, 0), (1, .invokestatic 102, 3, 106, 1, 0), (4, .ifCond .eq 14, 3, 18, 0, 0), (7, .iload_n 2, 1, 0, 0, 7), (8, .iconst 0, 1, 0, 0, 0), (9, .sipush 255, 3, 0, 0, 0), (12, .invokestatic 98, 3, 102, 3, 0), (15, .ifCond .ne 6, 3, 21, 0, 0), (18, .bipush (-2), 2, 0, 0, 1152921504606846976), (20, .ireturn, 1, 0, 0, 0), (21, .aload_n 0, 1, 0, 0, 7), (22, .getfield 7, 3, 9, 0, 0), (25, .iload_n 1, 1, 0, 0, 0), (26, .iaload, 1, 0, 0, 0), (27, .iload_n 1, 1, 0, 0, 0), (28, .ifCond .ne 8, 3, 36, 0, 0), (31, .bipush 41, 2, 0, 0, 7), (33, .goto 5, 3, 38, 0, 0), (36, .bipush 39, 2, 0, 0, 7), (38, .if_icmp .ne 6, 3, 44, 0, 7), (41, .bipush (-4), 2, 0, 0, 1152921504606846976), (43, .ireturn, 1, 0, 0, 0), (44, .aload_n 0, 1, 0, 0, 7), (45, .getfield 13, 3, 9, 1, 0), (48, .bipush 41, 2, 0, 0, 0), (50, .iload_n 1, 1, 0, 0, 0), (51, .imul, 1, 0, 0, 0), (52, .aload_n 0, 1, 0, 0, 0), (53, .getfield 7, 3, 9, 0, 0), (56, .iload_n 1, 1, 0, 0, 0), (57, .iaload, 1, 0, 0, 0), (58, .iadd, 1, 0, 0, 0), (59, .iload_n 2, 1, 0, 0, 0), (60, .iastore, 1, 0, 0, 0), (61, .aload_n 0, 1, 0, 0, 0), (62, .getfield 7, 3, 9, 0, 0), (65, .iload_n 1, 1, 0, 0, 0), (66, .dup2, 1, 0, 0, 0), (67, .iaload, 1, 0, 0, 0), (68, .iconst 1, 1, 0, 0, 0), (69, .iadd, 1, 0, 0, 0), (70, .iastore, 1, 0, 0, 0), (71, .aload_n 0, 1, 0, 0, 0), (72, .getfield 7, 3, 9, 0, 0), (75, .iload_n 1, 1, 0, 0, 0), (76, .iaload, 1, 0, 0, 0), (77, .ireturn, 1, 0, 0, 0)]
def xR_X9_type : MethodName × ByteArray × Nat × Option FieldType × Nat × Bool × Nat × Nat × Nat × List (Nat × xEnt) := (yX9_type, cX9_type, 3, (some .int), 9, true, 2, 2, 42, xL_X9_type)
def xL_X9_wipe : List (Nat × xEnt) := [(0, .iload_n 1, 1, 0, 0, 0), (1, .invokestatic 102, 3, 106, 1, 0), (4, .ifCond .ne 6, 3, 10, 0, 0), (7, .bipush (-2), 2, 0, 0, 1152921504606846976), (9, .ireturn, 1, 0, 0, 0), (10, .aload_n 0, 1, 0, 0, 3), (11, .getfield 7, 3, 9, 0, 0), (14, .iload_n 1, 1, 0, 0, 0), (15, .iaload, 1, 0, 0, 0), (16, .istore_n 2, 1, 0, 0, 0), (17, .aload_n 0, 1, 0, 0, 0), (18, .getfield 7, 3, 9, 0, 0), (21, .iload_n 1, 1, 0, 0, 0), (22, .iconst 0, 1, 0, 0, 0), (23, .iastore, 1, 0, 0, 0), (24, .iload_n 2, 1, 0, 0, 0), (25, .ireturn, 1, 0, 0, 0)]
def xR_X9_wipe : MethodName × ByteArray × Nat × Option FieldType × Nat × Bool × Nat × Nat × Nat × List (Nat × xEnt) := (yX9_wipe, cX9_wipe, 3, (some .int), 9, true, 1, 2, 42, xL_X9_wipe)
def xL_X9_undo : List (Nat × xEnt) := [(0, .iload_n 1, 1, 0, 0, 0), (1, .invokestatic 102, 3, 106, 1, 0), (4, .ifCond .ne 6, 3, 10, 0, 0), (7, .bipush (-2), 2, 0, 0, 1152921504606846976), (9, .ireturn, 1, 0, 0, 0), (10, .aload_n 0, 1, 0, 0, 3), (11, .getfield 7, 3, 9, 0, 0), (14, .iload_n 1, 1, 0, 0, 0), (15, .iaload, 1, 0, 0, 0), (16, .ifCond .ne 6, 3, 22, 0, 0), (19, .bipush (-3), 2, 0, 0, 1152921504606846976), (21, .ireturn, 1, 0, 0, 0), (22, .aload_n 0, 1, 0, 0, 3), (23, .getfield 7, 3, 9, 0, 0), (26, .iload_n 1, 1, 0, 0, 0), (27, .dup2, 1, 0, 0, 0), (28, .iaload, 1, 0, 0, 0), (29, .iconst 1, 1, 0, 0, 0), (30, .isub, 1, 0, 0, 0), (31, .iastore, 1, 0, 0, 0), (32, .aload_n 0, 1, 0, 0, 0), (33, .getfield 7, 3, 9, 0, 0), (36, .iload_n 1, 1, 0, 0, 0), (37, .iaload, 1, 0, 0, 0), (38, .ireturn, 1, 0, 0, 0)]
def xR_X9_undo : MethodName × ByteArray × Nat × Option FieldType × Nat × Bool × Nat × Nat × Nat × List (Nat × xEnt) := (yX9_undo, cX9_undo, 2, (some .int), 9, true, 1, 2, 42, xL_X9_undo)
def xL_X9_byteAt : List (Nat × xEnt) := [(0, .iload_n 2, 1, 0, 0, 0), (1, .aload_n 0, 1, 0, 0, 0), (2, .getfield 7, 3, 9, 0, 0), (5, .iload_n 1, 1, 0, 0, 0), (6, .iaload, 1, 0, 0, 0), (7, .if_icmp .ge 17, 3, 24, 0, 0), (10, .aload_n 0, 1, 0, 0, 7), (11, .getfield 13, 3, 9, 1, 0), (14, .bipush 41, 2, 0, 0, 0), (16, .iload_n 1, 1, 0, 0, 0), (17, .imul, 1, 0, 0, 0), (18, .iload_n 2, 1, 0, 0, 0), (19, .iadd, 1, 0, 0, 0), (20, .iaload, 1, 0, 0, 0), (21, .goto 4, 3, 25, 0, 0), (24, .iconst (-1), 1, 0, 0, 1152921504606846976), (25, .ireturn, 1, 0, 0, 1152921504606846976)]
def xR_X9_byteAt : MethodName × ByteArray × Nat × Option FieldType × Nat × Bool × Nat × Nat × Nat × List (Nat × xEnt) := (yX9_byteAt, cX9_byteAt, 3, (some .int), 9, true, 2, 0, 0, xL_X9_byteAt)
def xL_X9_kindOf : List (Nat × xEnt) := [(0, .iload_n 0, 1, 0, 0, 0), (1, .bipush 46, 2, 0, 0, 0), (3, .if_icmp .ne 7, 3, 10, 0, 0), (6, .iconst 0, 1, 0, 0, 1152921504606846976), (7, .goto 34, 3, 41, 0, 0), (10, .iload_n 0, 1, 0, 0, 1), (11, .bipush 104, 2, 0, 0, 0), (13, .if_icmp .ne 7, 3, 20, 0, 0), (16, .iconst 1, 1, 0, 0, 1152921504606846976), (17, .goto 24, 3, 41, 0, 0), (20, .iload_n 0, 1, 0, 0, 1), (21, .bipush 102, 2, 0, 0, 0), (23, .if_icmp .ne 7, 3, 30, 0, 0), (26, .iconst 2, 1, 0, 0, 1152921504606846976), (27, .goto 14, 3, 41, 0, 0), (30, .iload_n 0, 1, 0, 0, 1), (31, .bipush 98, 2, 0, 0, 0), (33, .if_icmp .ne 7, 3, 40, 0, 0), (36, .iconst 3, 1, 0, 0, 1152921504606846976), (37, .goto 4, 3, 41, 0, 0), (40, .iconst (-1), 1, 0, 0, 1152921504606846976), (41, .ireturn, 1, 0, 0, 1152921504606846976)]
def xR_X9_kindOf : MethodName × ByteArray × Nat × Option FieldType × Nat × Bool × Nat × Nat × Nat × List (Nat × xEnt) := (yX9_kindOf, cX9_kindOf, 1, (some .int), 9, false, 1, 0, 0, xL_X9_kindOf)
def xL_X9_readsTown : List (Nat × xEnt) := [(0, .iconst 0, 1, 0, 0, 0), (1, .istore_n 1, 1, 0, 0, 0), (2, .iconst 0, 1, 0, 0, 0), (3, .istore_n 2, 1, 0, 0, 0), (4, .iconst 0, 1, 0, 0, 0), (5, .istore_n 3, 1, 0, 0, 0), (6, .bipush 6, 2, 0, 0, 0), (8, .istore 4, 2, 0, 0, 0), (10, .iconst 0, 1, 0, 0, 0), (11, .istore 5, 2, 0, 0, 0), (13, .aload_n 0, 1, 0, 0, 0), (14, .iconst 0, 1, 0, 0, 0), (15, .putfield 106, 3, 9, 3, 0), (18, .aload_n 0, 1, 0, 0, 0), (19, .iconst 1, 1, 0, 0, 0), (20, .putfield 109, 3, 9, 2, 0), (23, .iconst 0, 1, 0, 0, 0), (24, .istore 6, 2, 0, 0, 0), (26, .iload 6, 2, 0, 0, 127), (28, .aload_n 0, 1, 0, 0, 0), (29, .getfield 7, 3, 9, 0, 0), (32, .iconst 0, 1, 0, 0, 0), (33, .iaload, 1, 0, 0, 0), (34, .if_icmp .ge 129, 3, 163, 0, 0), (37, .aload_n 0, 1, 0, 0, 127), (38, .iconst 0, 1, 0, 0, 0), (39, .iload 6, 2, 0, 0, 0), (41, .invokevirtual 112, 3, 111, 2, 0), (44, .istore 7, 2, 0, 0, 0), (46, .iload_n 1, 1, 0, 0, 0), (47, .bipush 6, 2, 0, 0, 0), (49, .if_icmp .ne 6, 3, 55, 0, 0), (52, .iload 6, 2, 0, 0, 64), (54, .ireturn, 1, 0, 0, 0), (55, .iload 7, 2, 0, 0, 255), (57, .bipush 59, 2, 0, 0, 0), (59, .if_icmp .ne 40, 3, 99, 0, 0), (62, .iload_n 2, 1, 0, 0, 127), (63, .ifCond .eq 13, 3, 76, 0, 0), (66, .iload_n 1, 1, 0, 0, 127), (67, .ifCond .le 12, 3, 79, 0, 0), (70, .iload_n 2, 1, 0, 0, 127), (71, .iload 4, 2, 0, 0, 0), (73, .if_icmp .ge 6, 3, 79, 0, 0), (76, .iload 6, 2, 0, 0, 64), (78, .ireturn, 1, 0, 0, 0), (79, .iload_n 1, 1, 0, 0, 127), (80, .ifCond .ne 7, 3, 87, 0, 0), (83, .iload_n 2, 1, 0, 0, 111), (84, .goto 5, 3, 89, 0, 0), (87, .iload 4, 2, 0, 0, 123), (89, .istore 4, 2, 0, 0, 107), (91, .iinc 1 1, 3, 0, 0, 0), (94, .iconst 0, 1, 0, 0, 0), (95, .istore_n 2, 1, 0, 0, 0), (96, .goto 61, 3, 157, 0, 0), (99, .iload 7, 2, 0, 0, 255), (101, .invokestatic 116, 3, 112, 1, 0), (104, .istore 8, 2, 0, 0, 0), (106, .iload 5, 2, 0, 0, 0), (108, .iload 8, 2, 0, 0, 0), (110, .iconst 3, 1, 0, 0, 0), (111, .if_icmp .ne 7, 3, 118, 0, 0), (114, .iconst 1, 1, 0, 0, 351), (115, .goto 4, 3, 119, 0, 0), (118, .iconst 0, 1, 0, 0, 351), (119, .iadd, 1, 0, 0, 351), (120, .istore 5, 2, 0, 0, 0), (122, .iload 8, 2, 0, 0, 0), (124, .iconst (-1), 1, 0, 0, 0), (125, .if_icmp .eq 15, 3, 140, 0, 0), (128, .iload_n 2, 1, 0, 0, 383), (129, .iload 4, 2, 0, 0, 0), (131, .if_icmp .eq 9, 3, 140, 0, 0), (134, .iload 5, 2, 0, 0, 383), (136, .iconst 1, 1, 0, 0, 0), (137, .if_icmp .le 6, 3, 143, 0, 0), (140, .iload 6, 2, 0, 0, 64), (142, .ireturn, 1, 0, 0, 0), (143, .aload_n 0, 1, 0, 0, 383), (144, .getfield 16, 3, 9, 4, 0), (147, .iload_n 3, 1, 0, 0, 0), (148, .iload 8, 2, 0, 0, 0), (150, .iastore, 1, 0, 0, 0), (151, .iinc 3 1, 3, 0, 0, 0), (154, .iinc 2 1, 3, 0, 0, 0), (157, .iinc 6 1, 3, 0, 0, 127), (160, .goto (-134), 3, 26, 0, 0), (163, .aload_n 0, 1, 0, 0, 31), (164, .getfield 7, 3, 9, 0, 0), (167, .iconst 0, 1, 0, 0, 0), (168, .iaload, 1, 0, 0, 0), (169, .ifCond .le 24, 3, 193, 0, 0), (172, .iload_n 2, 1, 0, 0, 31), (173, .ifCond .eq 13, 3, 186, 0, 0), (176, .iload_n 1, 1, 0, 0, 31), (177, .ifCond .le 16, 3, 193, 0, 0), (180, .iload_n 2, 1, 0, 0, 31), (181, .iload 4, 2, 0, 0, 0), (183, .if_icmp .ge 10, 3, 193, 0, 0), (186, .aload_n 0, 1, 0, 0, 1), (187, .getfield 7, 3, 9, 0, 0), (190, .iconst 0, 1, 0, 0, 0), (191, .iaload, 1, 0, 0, 0), (192, .ireturn, 1, 0, 0, 0), (193, .aload_n 0, 1, 0, 0, 31), (194, .aload_n 0, 1, 0, 0, 0), (195, .getfield 7, 3, 9, 0, 0), (198, .iconst 0, 1, 0, 0, 0), (199, .iaload, 1, 0, 0, 0), (200, .ifCond .ne 7, 3, 207, 0, 0), (203, .iconst 1, 1, 0, 0, 9), (204, .goto 13, 3, 217, 0, 0), (207, .iload_n 1, 1, 0, 0, 31), (208, .ifCond .ne 7, 3, 215, 0, 0), (211, .iload_n 2, 1, 0, 0, 13), (212, .goto 5, 3, 217, 0, 0), (215, .iload 4, 2, 0, 0, 25), (217, .putfield 109, 3, 9, 2, 9), (220, .aload_n 0, 1, 0, 0, 0), (221, .iload_n 3, 1, 0, 0, 0), (222, .putfield 106, 3, 9, 3, 0), (225, .iconst (-1), 1, 0, 0, 0), (226, .ireturn, 1, 0, 0, 0)]
def xR_X9_readsTown : MethodName × ByteArray × Nat × Option FieldType × Nat × Bool × Nat × Nat × Nat × List (Nat × xEnt) := (yX9_readsTown, cX9_readsTown, 9, (some .int), 9, true, 0, 1, 22, xL_X9_readsTown)
def xL_X9_figureAt : List (Nat × xEnt) := [(0, .aload_n 0, 1, 0, 0, 0), (1, .iconst 1, 1, 0, 0, 0), (2, .iload_n 1, 1, 0, 0, 0), (3, .invokevirtual 112, 3, 111, 2, 0), (6, .bipush 48, 2, 0, 0, 0), (8, .isub, 1, 0, 0, 0), (9, .istore_n 3, 1, 0, 0, 0), (10, .iload_n 3, 1, 0, 0, 0), (11, .iconst 0, 1, 0, 0, 0), (12, .iload_n 2, 1, 0, 0, 0), (13, .invokestatic 98, 3, 102, 3, 0), (16, .ifCond .eq 7, 3, 23, 0, 0), (19, .iload_n 3, 1, 0, 0, 8), (20, .goto 4, 3, 24, 0, 0), (23, .iconst (-1), 1, 0, 0, 1152921504606846976), (24, .ireturn, 1, 0, 0, 1152921504606846976)]
def xR_X9_figureAt : MethodName × ByteArray × Nat × Option FieldType × Nat × Bool × Nat × Nat × Nat × List (Nat × xEnt) := (yX9_figureAt, cX9_figureAt, 4, (some .int), 9, true, 2, 1, 22, xL_X9_figureAt)
def xL_X9_readsDeed : List (Nat × xEnt) := [(0, .aload_n 0, 1, 0, 0, 0), (1, .iload_n 2, 1, 0, 0, 0), (2, .iconst 3, 1, 0, 0, 0), (3, .invokevirtual 120, 3, 114, 2, 0), (6, .istore_n 3, 1, 0, 0, 0), (7, .aload_n 0, 1, 0, 0, 0), (8, .iload_n 2, 1, 0, 0, 0), (9, .iconst 1, 1, 0, 0, 0), (10, .iadd, 1, 0, 0, 0), (11, .bipush 9, 2, 0, 0, 0), (13, .invokevirtual 120, 3, 114, 2, 0), (16, .istore 4, 2, 0, 0, 0), (18, .aload_n 0, 1, 0, 0, 0), (19, .iconst 1, 1, 0, 0, 0), (20, .iload_n 2, 1, 0, 0, 0), (21, .iconst 2, 1, 0, 0, 0), (22, .iadd, 1, 0, 0, 0), (23, .invokevirtual 112, 3, 111, 2, 0), (26, .istore 5, 2, 0, 0, 0), (28, .iload 5, 2, 0, 0, 0), (30, .bipush 119, 2, 0, 0, 0), (32, .if_icmp .ne 7, 3, 39, 0, 0), (35, .iconst 0, 1, 0, 0, 31), (36, .goto 37, 3, 73, 0, 0), (39, .iload 5, 2, 0, 0, 63), (41, .bipush 99, 2, 0, 0, 0), (43, .if_icmp .ne 7, 3, 50, 0, 0), (46, .iconst 1, 1, 0, 0, 31), (47, .goto 26, 3, 73, 0, 0), (50, .iload 5, 2, 0, 0, 63), (52, .bipush 107, 2, 0, 0, 0), (54, .if_icmp .ne 7, 3, 61, 0, 0), (57, .iconst 2, 1, 0, 0, 31), (58, .goto 15, 3, 73, 0, 0), (61, .iload 5, 2, 0, 0, 63), (63, .bipush 110, 2, 0, 0, 0), (65, .if_icmp .ne 7, 3, 72, 0, 0), (68, .iconst 3, 1, 0, 0, 31), (69, .goto 4, 3, 73, 0, 0), (72, .iconst (-1), 1, 0, 0, 31), (73, .istore 6, 2, 0, 0, 31), (75, .aload_n 0, 1, 0, 0, 0), (76, .iload_n 2, 1, 0, 0, 0), (77, .iconst 3, 1, 0, 0, 0), (78, .iadd, 1, 0, 0, 0), (79, .bipush 9, 2, 0, 0, 0), (81, .invokevirtual 120, 3, 114, 2, 0), (84, .istore 7, 2, 0, 0, 0), (86, .iload_n 3, 1, 0, 0, 0), (87, .iconst (-1), 1, 0, 0, 0), (88, .if_icmp .ne 5, 3, 93, 0, 0), (91, .iconst 0, 1, 0, 0, 1152921504606846976), (92, .ireturn, 1, 0, 0, 0), (93, .iload 4, 2, 0, 0, 219), (95, .iconst (-1), 1, 0, 0, 0), (96, .if_icmp .ne 5, 3, 101, 0, 0), (99, .iconst 1, 1, 0, 0, 1152921504606846976), (100, .ireturn, 1, 0, 0, 0), (101, .iload 6, 2, 0, 0, 219), (103, .iconst (-1), 1, 0, 0, 0), (104, .if_icmp .ne 5, 3, 109, 0, 0), (107, .iconst 2, 1, 0, 0, 1152921504606846976), (108, .ireturn, 1, 0, 0, 0), (109, .iload 7, 2, 0, 0, 219), (111, .iconst (-1), 1, 0, 0, 0), (112, .if_icmp .ne 5, 3, 117, 0, 0), (115, .iconst 3, 1, 0, 0, 1152921504606846976), (116, .ireturn, 1, 0, 0, 0), (117, .aload_n 0, 1, 0, 0, 219), (118, .getfield 19, 3, 9, 6, 0), (121, .iload_n 1, 1, 0, 0, 0), (122, .bipush 10, 2, 0, 0, 0), (124, .iload_n 3, 1, 0, 0, 0), (125, .imul, 1, 0, 0, 0), (126, .iload 4, 2, 0, 0, 0), (128, .iadd, 1, 0, 0, 0), (129, .iastore, 1, 0, 0, 0), (130, .aload_n 0, 1, 0, 0, 0), (131, .getfield 22, 3, 9, 7, 0), (134, .iload_n 1, 1, 0, 0, 0), (135, .iload 6, 2, 0, 0, 0), (137, .iastore, 1, 0, 0, 0), (138, .aload_n 0, 1, 0, 0, 0), (139, .getfield 25, 3, 9, 8, 0), (142, .iload_n 1, 1, 0, 0, 0), (143, .iload 7, 2, 0, 0, 0), (145, .iastore, 1, 0, 0, 0), (146, .iconst 4, 1, 0, 0, 0), (147, .ireturn, 1, 0, 0, 0)]
def xR_X9_readsDeed : MethodName × ByteArray × Nat × Option FieldType × Nat × Bool × Nat × Nat × Nat × List (Nat × xEnt) := (yX9_readsDeed, cX9_readsDeed, 8, (some .int), 9, true, 2, 2, 45, xL_X9_readsDeed)
def xL_X9_readsDeeds : List (Nat × xEnt) := [(0, .iconst 0, 1, 0, 0, 0), (1, .istore_n 1, 1, 0, 0, 0), (2, .iconst 0, 1, 0, 0, 0), (3, .istore_n 2, 1, 0, 0, 0), (4, .aload_n 0, 1, 0, 0, 0), (5, .iconst 0, 1, 0, 0, 0), (6, .putfield 123, 3, 9, 5, 0), (9, .iload_n 2, 1, 0, 0, 7), (10, .aload_n 0, 1, 0, 0, 0), (11, .getfield 7, 3, 9, 0, 0), (14, .iconst 1, 1, 0, 0, 0), (15, .iaload, 1, 0, 0, 0), (16, .if_icmp .lt 7, 3, 23, 0, 0), (19, .iload_n 2, 1, 0, 0, 7), (20, .ifCond .le 71, 3, 91, 0, 0), (23, .iload_n 1, 1, 0, 0, 7), (24, .bipush 8, 2, 0, 0, 0), (26, .if_icmp .ne 7, 3, 33, 0, 0), (29, .iconst 0, 1, 0, 0, 7), (30, .goto 9, 3, 39, 0, 0), (33, .aload_n 0, 1, 0, 0, 7), (34, .iload_n 1, 1, 0, 0, 0), (35, .iload_n 2, 1, 0, 0, 0), (36, .invokevirtual 126, 3, 115, 2, 0), (39, .istore_n 3, 1, 0, 0, 7), (40, .iload_n 3, 1, 0, 0, 0), (41, .iconst 4, 1, 0, 0, 0), (42, .if_icmp .ge 7, 3, 49, 0, 0), (45, .iload_n 2, 1, 0, 0, 12), (46, .iload_n 3, 1, 0, 0, 0), (47, .iadd, 1, 0, 0, 0), (48, .ireturn, 1, 0, 0, 0), (49, .iinc 1 1, 3, 0, 0, 7), (52, .iinc 2 4, 3, 0, 0, 0), (55, .iload_n 2, 1, 0, 0, 0), (56, .aload_n 0, 1, 0, 0, 0), (57, .getfield 7, 3, 9, 0, 0), (60, .iconst 1, 1, 0, 0, 0), (61, .iaload, 1, 0, 0, 0), (62, .if_icmp .ne 10, 3, 72, 0, 0), (65, .aload_n 0, 1, 0, 0, 3), (66, .iload_n 1, 1, 0, 0, 0), (67, .putfield 123, 3, 9, 5, 0), (70, .iconst (-1), 1, 0, 0, 0), (71, .ireturn, 1, 0, 0, 0), (72, .aload_n 0, 1, 0, 0, 7), (73, .iconst 1, 1, 0, 0, 0), (74, .iload_n 2, 1, 0, 0, 0), (75, .invokevirtual 112, 3, 111, 2, 0), (78, .bipush 59, 2, 0, 0, 0), (80, .if_icmp .eq 5, 3, 85, 0, 0), (83, .iload_n 2, 1, 0, 0, 4), (84, .ireturn, 1, 0, 0, 0), (85, .iinc 2 1, 3, 0, 0, 7), (88, .goto (-79), 3, 9, 0, 0), (91, .iconst (-1), 1, 0, 0, 1152921504606846976), (92, .ireturn, 1, 0, 0, 0)]
def xR_X9_readsDeeds : MethodName × ByteArray × Nat × Option FieldType × Nat × Bool × Nat × Nat × Nat × List (Nat × xEnt) := (yX9_readsDeeds, cX9_readsDeeds, 4, (some .int), 9, true, 0, 3, 72, xL_X9_readsDeeds)
def xL_X9_faultOf : List (Nat × xEnt) := [(0, .aload_n 0, 1, 0, 0, 0), (1, .invokevirtual 129, 3, 113, 0, 0), (4, .istore_n 2, 1, 0, 0, 0), (5, .aload_n 0, 1, 0, 0, 0), (6, .invokevirtual 133, 3, 116, 0, 0), (9, .istore_n 3, 1, 0, 0, 0), (10, .iload_n 1, 1, 0, 0, 0), (11, .ifCond .ne 7, 3, 18, 0, 0), (14, .iload_n 2, 1, 0, 0, 4), (15, .goto 4, 3, 19, 0, 0), (18, .iload_n 3, 1, 0, 0, 8), (19, .ireturn, 1, 0, 0, 1152921504606846976)]
def xR_X9_faultOf : MethodName × ByteArray × Nat × Option FieldType × Nat × Bool × Nat × Nat × Nat × List (Nat × xEnt) := (yX9_faultOf, cX9_faultOf, 4, (some .int), 9, true, 1, 4, 95, xL_X9_faultOf)
def xL_X9_reads : List (Nat × xEnt) := [(0, .aload_n 0, 1, 0, 0, 0), (1, .iconst 0, 1, 0, 0, 0), (2, .invokevirtual 136, 3, 117, 1, 0), (5, .istore_n 1, 1, 0, 0, 0), (6, .return_, 1, 0, 0, 0)]
def xR_X9_reads : MethodName × ByteArray × Nat × Option FieldType × Nat × Bool × Nat × Nat × Nat × List (Nat × xEnt) := (yX9_reads, cX9_reads, 2, none, 9, true, 0, 5, 118, xL_X9_reads)
def xL_X9_fault : List (Nat × xEnt) := [(0, .iload_n 1, 1, 0, 0, 0), (1, .invokestatic 102, 3, 106, 1, 0), (4, .ifCond .eq 11, 3, 15, 0, 0), (7, .aload_n 0, 1, 0, 0, 3), (8, .iload_n 1, 1, 0, 0, 0), (9, .invokevirtual 136, 3, 117, 1, 0), (12, .goto 5, 3, 17, 0, 0), (15, .bipush (-2), 2, 0, 0, 1152921504606846976), (17, .ireturn, 1, 0, 0, 1152921504606846976)]
def xR_X9_fault : MethodName × ByteArray × Nat × Option FieldType × Nat × Bool × Nat × Nat × Nat × List (Nat × xEnt) := (yX9_fault, cX9_fault, 2, (some .int), 9, true, 1, 5, 118, xL_X9_fault)
def xL_X9_isCell : List (Nat × xEnt) := [(0, .aload_n 0, 1, 0, 0, 0), (1, .invokevirtual 139, 3, 118, 0, 0), (4, .iload_n 1, 1, 0, 0, 0), (5, .iconst 0, 1, 0, 0, 0), (6, .aload_n 0, 1, 0, 0, 0), (7, .getfield 106, 3, 9, 3, 0), (10, .iconst 1, 1, 0, 0, 0), (11, .isub, 1, 0, 0, 0), (12, .invokestatic 98, 3, 102, 3, 0), (15, .ireturn, 1, 0, 0, 0)]
def xR_X9_isCell : MethodName × ByteArray × Nat × Option FieldType × Nat × Bool × Nat × Nat × Nat × List (Nat × xEnt) := (yX9_isCell, cX9_isCell, 2, (some .boolean), 9, true, 1, 6, 139, xL_X9_isCell)
def xL_X9_isDeed : List (Nat × xEnt) := [(0, .aload_n 0, 1, 0, 0, 0), (1, .invokevirtual 139, 3, 118, 0, 0), (4, .iload_n 1, 1, 0, 0, 0), (5, .iconst 0, 1, 0, 0, 0), (6, .aload_n 0, 1, 0, 0, 0), (7, .getfield 123, 3, 9, 5, 0), (10, .iconst 1, 1, 0, 0, 0), (11, .isub, 1, 0, 0, 0), (12, .invokestatic 98, 3, 102, 3, 0), (15, .ireturn, 1, 0, 0, 0)]
def xR_X9_isDeed : MethodName × ByteArray × Nat × Option FieldType × Nat × Bool × Nat × Nat × Nat × List (Nat × xEnt) := (yX9_isDeed, cX9_isDeed, 2, (some .boolean), 9, true, 1, 6, 139, xL_X9_isDeed)
def xL_X9_cell : List (Nat × xEnt) := [(0, .iload_n 1, 1, 0, 0, 0), (1, .iconst 0, 1, 0, 0, 0), (2, .bipush 35, 2, 0, 0, 0), (4, .invokestatic 98, 3, 102, 3, 0), (7, .ifCond .eq 24, 3, 31, 0, 0), (10, .aload_n 0, 1, 0, 0, 3), (11, .iload_n 1, 1, 0, 0, 0), (12, .invokevirtual 142, 3, 120, 1, 0), (15, .ifCond .eq 12, 3, 27, 0, 0), (18, .aload_n 0, 1, 0, 0, 3), (19, .getfield 16, 3, 9, 4, 0), (22, .iload_n 1, 1, 0, 0, 0), (23, .iaload, 1, 0, 0, 0), (24, .goto 9, 3, 33, 0, 0), (27, .iconst (-1), 1, 0, 0, 1152921504606846976), (28, .goto 5, 3, 33, 0, 0), (31, .bipush (-2), 2, 0, 0, 1152921504606846976), (33, .ireturn, 1, 0, 0, 1152921504606846976)]
def xR_X9_cell : MethodName × ByteArray × Nat × Option FieldType × Nat × Bool × Nat × Nat × Nat × List (Nat × xEnt) := (yX9_cell, cX9_cell, 2, (some .int), 9, true, 1, 7, 160, xL_X9_cell)
def xL_X9_bedNow : List (Nat × xEnt) := [(0, .iconst (-1), 1, 0, 0, 0), (1, .istore_n 1, 1, 0, 0, 0), (2, .iconst 0, 1, 0, 0, 0), (3, .istore_n 2, 1, 0, 0, 0), (4, .iload_n 2, 1, 0, 0, 7), (5, .aload_n 0, 1, 0, 0, 0), (6, .getfield 106, 3, 9, 3, 0), (9, .if_icmp .ge 25, 3, 34, 0, 0), (12, .aload_n 0, 1, 0, 0, 7), (13, .getfield 16, 3, 9, 4, 0), (16, .iload_n 2, 1, 0, 0, 0), (17, .iaload, 1, 0, 0, 0), (18, .iconst 3, 1, 0, 0, 0), (19, .if_icmp .ne 7, 3, 26, 0, 0), (22, .iload_n 2, 1, 0, 0, 5), (23, .goto 4, 3, 27, 0, 0), (26, .iload_n 1, 1, 0, 0, 7), (27, .istore_n 1, 1, 0, 0, 5), (28, .iinc 2 1, 3, 0, 0, 0), (31, .goto (-27), 3, 4, 0, 0), (34, .iload_n 1, 1, 0, 0, 2), (35, .ireturn, 1, 0, 0, 0)]
def xR_X9_bedNow : MethodName × ByteArray × Nat × Option FieldType × Nat × Bool × Nat × Nat × Nat × List (Nat × xEnt) := (yX9_bedNow, cX9_bedNow, 3, (some .int), 9, true, 0, 0, 0, xL_X9_bedNow)
def xL_X9_bed : List (Nat × xEnt) := [(0, .aload_n 0, 1, 0, 0, 0), (1, .invokevirtual 139, 3, 118, 0, 0), (4, .aload_n 0, 1, 0, 0, 0), (5, .invokevirtual 145, 3, 123, 0, 0), (8, .ireturn, 1, 0, 0, 0)]
def xR_X9_bed : MethodName × ByteArray × Nat × Option FieldType × Nat × Bool × Nat × Nat × Nat × List (Nat × xEnt) := (yX9_bed, cX9_bed, 1, (some .int), 9, true, 0, 6, 139, xL_X9_bed)
def xL_X9_deedOf : List (Nat × xEnt) := [(0, .iload_n 2, 1, 0, 0, 0), (1, .ifCond .ne 12, 3, 13, 0, 0), (4, .aload_n 0, 1, 0, 0, 3), (5, .getfield 19, 3, 9, 6, 0), (8, .iload_n 1, 1, 0, 0, 0), (9, .iaload, 1, 0, 0, 0), (10, .goto 23, 3, 33, 0, 0), (13, .iload_n 2, 1, 0, 0, 7), (14, .iconst 1, 1, 0, 0, 0), (15, .if_icmp .ne 12, 3, 27, 0, 0), (18, .aload_n 0, 1, 0, 0, 3), (19, .getfield 22, 3, 9, 7, 0), (22, .iload_n 1, 1, 0, 0, 0), (23, .iaload, 1, 0, 0, 0), (24, .goto 9, 3, 33, 0, 0), (27, .aload_n 0, 1, 0, 0, 3), (28, .getfield 25, 3, 9, 8, 0), (31, .iload_n 1, 1, 0, 0, 0), (32, .iaload, 1, 0, 0, 0), (33, .ireturn, 1, 0, 0, 1152921504606846976)]
def xR_X9_deedOf : MethodName × ByteArray × Nat × Option FieldType × Nat × Bool × Nat × Nat × Nat × List (Nat × xEnt) := (yX9_deedOf, cX9_deedOf, 3, (some .int), 9, true, 2, 0, 0, xL_X9_deedOf)
def xL_X9_deed : List (Nat × xEnt) := [(0, .aload_n 0, 1, 0, 0, 0), (1, .iload_n 1, 1, 0, 0, 0), (2, .invokevirtual 148, 3, 121, 1, 0), (5, .ifCond .eq 21, 3, 26, 0, 0), (8, .iload_n 2, 1, 0, 0, 7), (9, .iconst 0, 1, 0, 0, 0), (10, .iconst 2, 1, 0, 0, 0), (11, .invokestatic 98, 3, 102, 3, 0), (14, .ifCond .eq 12, 3, 26, 0, 0), (17, .aload_n 0, 1, 0, 0, 7), (18, .iload_n 1, 1, 0, 0, 0), (19, .iload_n 2, 1, 0, 0, 0), (20, .invokevirtual 151, 3, 125, 2, 0), (23, .goto 5, 3, 28, 0, 0), (26, .bipush (-2), 2, 0, 0, 1152921504606846976), (28, .ireturn, 1, 0, 0, 1152921504606846976)]
def xR_X9_deed : MethodName × ByteArray × Nat × Option FieldType × Nat × Bool × Nat × Nat × Nat × List (Nat × xEnt) := (yX9_deed, cX9_deed, 3, (some .int), 9, true, 2, 7, 160, xL_X9_deed)
def xL_X9_set : List (Nat × xEnt) := [(0, .iload_n 1, 1, 0, 0, 0), (1, .iconst 0, 1, 0, 0, 0), (2, .iconst 1, 1, 0, 0, 0), (3, .invokestatic 98, 3, 102, 3, 0), (6, .ifCond .eq 22, 3, 28, 0, 0), (9, .iload_n 2, 1, 0, 0, 7), (10, .iconst 0, 1, 0, 0, 0), (11, .iload_n 1, 1, 0, 0, 0), (12, .ifCond .ne 8, 3, 20, 0, 0), (15, .bipush 30, 2, 0, 0, 7), (17, .goto 5, 3, 22, 0, 0), (20, .bipush 20, 2, 0, 0, 7), (22, .invokestatic 98, 3, 102, 3, 7), (25, .ifCond .ne 6, 3, 31, 0, 0), (28, .bipush (-2), 2, 0, 0, 1152921504606846976), (30, .ireturn, 1, 0, 0, 0), (31, .iload_n 1, 1, 0, 0, 7), (32, .ifCond .ne 10, 3, 42, 0, 0), (35, .aload_n 0, 1, 0, 0, 7), (36, .getfield 89, 3, 9, 9, 0), (39, .goto 7, 3, 46, 0, 0), (42, .aload_n 0, 1, 0, 0, 7), (43, .getfield 93, 3, 9, 10, 0), (46, .istore_n 3, 1, 0, 0, 7), (47, .aload_n 0, 1, 0, 0, 0), (48, .iload_n 1, 1, 0, 0, 0), (49, .ifCond .ne 7, 3, 56, 0, 0), (52, .iload_n 2, 1, 0, 0, 15), (53, .goto 7, 3, 60, 0, 0), (56, .aload_n 0, 1, 0, 0, 15), (57, .getfield 89, 3, 9, 9, 0), (60, .putfield 89, 3, 9, 9, 15), (63, .aload_n 0, 1, 0, 0, 0), (64, .iload_n 1, 1, 0, 0, 0), (65, .iconst 1, 1, 0, 0, 0), (66, .if_icmp .ne 7, 3, 73, 0, 0), (69, .iload_n 2, 1, 0, 0, 12), (70, .goto 7, 3, 77, 0, 0), (73, .aload_n 0, 1, 0, 0, 9), (74, .getfield 93, 3, 9, 10, 0), (77, .putfield 93, 3, 9, 10, 8), (80, .iload_n 3, 1, 0, 0, 0), (81, .ireturn, 1, 0, 0, 0)]
def xR_X9_set : MethodName × ByteArray × Nat × Option FieldType × Nat × Bool × Nat × Nat × Nat × List (Nat × xEnt) := (yX9_set, cX9_set, 4, (some .int), 9, true, 2, 1, 22, xL_X9_set)
def xL_X9_thunder : List (Nat × xEnt) := [(0, .iload_n 1, 1, 0, 0, 0), (1, .invokestatic 154, 3, 107, 1, 0), (4, .ifCond .eq 13, 3, 17, 0, 0), (7, .iload_n 2, 1, 0, 0, 7), (8, .iconst 1, 1, 0, 0, 0), (9, .bipush 9, 2, 0, 0, 0), (11, .invokestatic 98, 3, 102, 3, 0), (14, .ifCond .ne 6, 3, 20, 0, 0), (17, .bipush (-2), 2, 0, 0, 1152921504606846976), (19, .ireturn, 1, 0, 0, 0), (20, .aload_n 0, 1, 0, 0, 7), (21, .getfield 157, 3, 9, 11, 0), (24, .bipush 6, 2, 0, 0, 0), (26, .if_icmp .ne 6, 3, 32, 0, 0), (29, .bipush (-4), 2, 0, 0, 1152921504606846976), (31, .ireturn, 1, 0, 0, 0), (32, .aload_n 0, 1, 0, 0, 7), (33, .getfield 28, 3, 9, 12, 0), (36, .aload_n 0, 1, 0, 0, 0), (37, .getfield 157, 3, 9, 11, 0), (40, .iload_n 1, 1, 0, 0, 0), (41, .iastore, 1, 0, 0, 0), (42, .aload_n 0, 1, 0, 0, 0), (43, .getfield 31, 3, 9, 13, 0), (46, .aload_n 0, 1, 0, 0, 0), (47, .getfield 157, 3, 9, 11, 0), (50, .iload_n 2, 1, 0, 0, 0), (51, .iastore, 1, 0, 0, 0), (52, .aload_n 0, 1, 0, 0, 0), (53, .dup, 1, 0, 0, 0), (54, .getfield 157, 3, 9, 11, 0), (57, .iconst 1, 1, 0, 0, 0), (58, .iadd, 1, 0, 0, 0), (59, .putfield 157, 3, 9, 11, 0), (62, .aload_n 0, 1, 0, 0, 0), (63, .getfield 157, 3, 9, 11, 0), (66, .ireturn, 1, 0, 0, 0)]
def xR_X9_thunder : MethodName × ByteArray × Nat × Option FieldType × Nat × Bool × Nat × Nat × Nat × List (Nat × xEnt) := (yX9_thunder, cX9_thunder, 3, (some .int), 9, true, 2, 2, 42, xL_X9_thunder)
def xL_X9_back : List (Nat × xEnt) := [(0, .aload_n 0, 1, 0, 0, 0), (1, .getfield 157, 3, 9, 11, 0), (4, .ifCond .ne 6, 3, 10, 0, 0), (7, .bipush (-3), 2, 0, 0, 1152921504606846976), (9, .ireturn, 1, 0, 0, 0), (10, .aload_n 0, 1, 0, 0, 1), (11, .dup, 1, 0, 0, 0), (12, .getfield 157, 3, 9, 11, 0), (15, .iconst 1, 1, 0, 0, 0), (16, .isub, 1, 0, 0, 0), (17, .putfield 157, 3, 9, 11, 0), (20, .aload_n 0, 1, 0, 0, 0), (21, .getfield 157, 3, 9, 11, 0), (24, .ireturn, 1, 0, 0, 0)]
def xR_X9_back : MethodName × ByteArray × Nat × Option FieldType × Nat × Bool × Nat × Nat × Nat × List (Nat × xEnt) := (yX9_back, cX9_back, 1, (some .int), 9, true, 0, 0, 0, xL_X9_back)
def xL_X9_read : List (Nat × xEnt) := [(0, .iload_n 1, 1, 0, 0, 0), (1, .invokestatic 160, 3, 186, 1, 0), (4, .ifCond .ne 6, 3, 10, 0, 0), (7, .bipush (-2), 2, 0, 0, 1152921504606846976), (9, .ireturn, 1, 0, 0, 0), (10, .aload_n 0, 1, 0, 0, 3), (11, .getfield 74, 3, 9, 30, 0), (14, .iload_n 1, 1, 0, 0, 0), (15, .baload, 1, 0, 0, 0), (16, .ifCond .ne 9, 3, 25, 0, 0), (19, .aload_n 0, 1, 0, 0, 1), (20, .iconst 1, 1, 0, 0, 0), (21, .invokevirtual 163, 3, 185, 1, 0), (24, .ireturn, 1, 0, 0, 0), (25, .iconst 0, 1, 0, 0, 3), (26, .istore_n 2, 1, 0, 0, 0), (27, .iconst 2, 1, 0, 0, 7), (28, .iload_n 2, 1, 0, 0, 0), (29, .imul, 1, 0, 0, 0), (30, .iconst 1, 1, 0, 0, 0), (31, .iadd, 1, 0, 0, 0), (32, .aload_n 0, 1, 0, 0, 0), (33, .getfield 80, 3, 9, 32, 0), (36, .iload_n 1, 1, 0, 0, 0), (37, .iaload, 1, 0, 0, 0), (38, .if_icmp .ge 44, 3, 82, 0, 0), (41, .aload_n 0, 1, 0, 0, 7), (42, .aload_n 0, 1, 0, 0, 0), (43, .getfield 83, 3, 9, 33, 0), (46, .bipush 60, 2, 0, 0, 0), (48, .iload_n 1, 1, 0, 0, 0), (49, .imul, 1, 0, 0, 0), (50, .iconst 2, 1, 0, 0, 0), (51, .iload_n 2, 1, 0, 0, 0), (52, .imul, 1, 0, 0, 0), (53, .iadd, 1, 0, 0, 0), (54, .iaload, 1, 0, 0, 0), (55, .aload_n 0, 1, 0, 0, 0), (56, .getfield 83, 3, 9, 33, 0), (59, .bipush 60, 2, 0, 0, 0), (61, .iload_n 1, 1, 0, 0, 0), (62, .imul, 1, 0, 0, 0), (63, .iconst 2, 1, 0, 0, 0), (64, .iload_n 2, 1, 0, 0, 0), (65, .imul, 1, 0, 0, 0), (66, .iadd, 1, 0, 0, 0), (67, .iconst 1, 1, 0, 0, 0), (68, .iadd, 1, 0, 0, 0), (69, .iaload, 1, 0, 0, 0), (70, .invokevirtual 166, 3, 128, 2, 0), (73, .ifCond .le 9, 3, 82, 0, 0), (76, .iinc 2 1, 3, 0, 0, 7), (79, .goto (-52), 3, 27, 0, 0), (82, .iload_n 2, 1, 0, 0, 4), (83, .ireturn, 1, 0, 0, 0)]
def xR_X9_read : MethodName × ByteArray × Nat × Option FieldType × Nat × Bool × Nat × Nat × Nat × List (Nat × xEnt) := (yX9_read, cX9_read, 3, (some .int), 9, true, 1, 3, 64, xL_X9_read)
def xL_X9_beside : List (Nat × xEnt) := [(0, .iload_n 2, 1, 0, 0, 0), (1, .ifCond .ne 12, 3, 13, 0, 0), (4, .iload_n 1, 1, 0, 0, 3), (5, .aload_n 0, 1, 0, 0, 0), (6, .getfield 109, 3, 9, 2, 0), (9, .isub, 1, 0, 0, 0), (10, .goto 63, 3, 73, 0, 0), (13, .iload_n 2, 1, 0, 0, 7), (14, .iconst 1, 1, 0, 0, 0), (15, .if_icmp .ne 28, 3, 43, 0, 0), (18, .iload_n 1, 1, 0, 0, 3), (19, .aload_n 0, 1, 0, 0, 0), (20, .getfield 109, 3, 9, 2, 0), (23, .irem, 1, 0, 0, 0), (24, .aload_n 0, 1, 0, 0, 0), (25, .getfield 109, 3, 9, 2, 0), (28, .iconst 1, 1, 0, 0, 0), (29, .isub, 1, 0, 0, 0), (30, .if_icmp .ge 9, 3, 39, 0, 0), (33, .iload_n 1, 1, 0, 0, 3), (34, .iconst 1, 1, 0, 0, 0), (35, .iadd, 1, 0, 0, 0), (36, .goto 37, 3, 73, 0, 0), (39, .iconst (-1), 1, 0, 0, 1), (40, .goto 33, 3, 73, 0, 0), (43, .iload_n 2, 1, 0, 0, 7), (44, .iconst 2, 1, 0, 0, 0), (45, .if_icmp .ne 12, 3, 57, 0, 0), (48, .iload_n 1, 1, 0, 0, 3), (49, .aload_n 0, 1, 0, 0, 0), (50, .getfield 109, 3, 9, 2, 0), (53, .iadd, 1, 0, 0, 0), (54, .goto 19, 3, 73, 0, 0), (57, .iload_n 1, 1, 0, 0, 3), (58, .aload_n 0, 1, 0, 0, 0), (59, .getfield 109, 3, 9, 2, 0), (62, .irem, 1, 0, 0, 0), (63, .ifCond .le 9, 3, 72, 0, 0), (66, .iload_n 1, 1, 0, 0, 3), (67, .iconst 1, 1, 0, 0, 0), (68, .isub, 1, 0, 0, 0), (69, .goto 4, 3, 73, 0, 0), (72, .iconst (-1), 1, 0, 0, 1), (73, .istore_n 3, 1, 0, 0, 1), (74, .iload_n 3, 1, 0, 0, 0), (75, .iconst 0, 1, 0, 0, 0), (76, .aload_n 0, 1, 0, 0, 0), (77, .getfield 106, 3, 9, 3, 0), (80, .iconst 1, 1, 0, 0, 0), (81, .isub, 1, 0, 0, 0), (82, .invokestatic 98, 3, 102, 3, 0), (85, .ifCond .eq 7, 3, 92, 0, 0), (88, .iload_n 3, 1, 0, 0, 8), (89, .goto 4, 3, 93, 0, 0), (92, .iconst (-1), 1, 0, 0, 1152921504606846976), (93, .ireturn, 1, 0, 0, 1152921504606846976)]
def xR_X9_beside : MethodName × ByteArray × Nat × Option FieldType × Nat × Bool × Nat × Nat × Nat × List (Nat × xEnt) := (yX9_beside, cX9_beside, 4, (some .int), 9, true, 2, 1, 22, xL_X9_beside)
def xL_X9_into : List (Nat × xEnt) := [(0, .aload_n 0, 1, 0, 0, 0), (1, .getfield 16, 3, 9, 4, 0), (4, .iload_n 1, 1, 0, 0, 0), (5, .iaload, 1, 0, 0, 0), (6, .iconst 1, 1, 0, 0, 0), (7, .if_icmp .ne 7, 3, 14, 0, 0), (10, .iconst 4, 1, 0, 0, 1152921504606846976), (11, .goto 18, 3, 29, 0, 0), (14, .aload_n 0, 1, 0, 0, 3), (15, .getfield 16, 3, 9, 4, 0), (18, .iload_n 1, 1, 0, 0, 0), (19, .iaload, 1, 0, 0, 0), (20, .iconst 2, 1, 0, 0, 0), (21, .if_icmp .ne 7, 3, 28, 0, 0), (24, .iconst 3, 1, 0, 0, 1152921504606846976), (25, .goto 4, 3, 29, 0, 0), (28, .iconst 1, 1, 0, 0, 1152921504606846976), (29, .ireturn, 1, 0, 0, 1152921504606846976)]
def xR_X9_into : MethodName × ByteArray × Nat × Option FieldType × Nat × Bool × Nat × Nat × Nat × List (Nat × xEnt) := (yX9_into, cX9_into, 2, (some .int), 9, true, 1, 0, 0, xL_X9_into)
def xL_X9_doesEase : List (Nat × xEnt) := [(0, .iconst 0, 1, 0, 0, 0), (1, .istore_n 1, 1, 0, 0, 0), (2, .iconst 0, 1, 0, 0, 0), (3, .istore_n 2, 1, 0, 0, 0), (4, .iload_n 2, 1, 0, 0, 7), (5, .aload_n 0, 1, 0, 0, 0), (6, .getfield 106, 3, 9, 3, 0), (9, .if_icmp .ge 81, 3, 90, 0, 0), (12, .iconst 0, 1, 0, 0, 7), (13, .istore_n 3, 1, 0, 0, 0), (14, .iload_n 3, 1, 0, 0, 15), (15, .iconst 4, 1, 0, 0, 0), (16, .if_icmp .ge 68, 3, 84, 0, 0), (19, .aload_n 0, 1, 0, 0, 15), (20, .iload_n 2, 1, 0, 0, 0), (21, .iload_n 3, 1, 0, 0, 0), (22, .invokevirtual 169, 3, 131, 2, 0), (25, .istore 4, 2, 0, 0, 0), (27, .iload 4, 2, 0, 0, 0), (29, .iconst (-1), 1, 0, 0, 0), (30, .if_icmp .eq 48, 3, 78, 0, 0), (33, .aload_n 0, 1, 0, 0, 31), (34, .getfield 34, 3, 9, 14, 0), (37, .iload 4, 2, 0, 0, 0), (39, .iaload, 1, 0, 0, 0), (40, .aload_n 0, 1, 0, 0, 0), (41, .iload 4, 2, 0, 0, 0), (43, .invokevirtual 172, 3, 132, 1, 0), (46, .iadd, 1, 0, 0, 0), (47, .aload_n 0, 1, 0, 0, 0), (48, .getfield 34, 3, 9, 14, 0), (51, .iload_n 2, 1, 0, 0, 0), (52, .iaload, 1, 0, 0, 0), (53, .if_icmp .ge 25, 3, 78, 0, 0), (56, .aload_n 0, 1, 0, 0, 29), (57, .getfield 34, 3, 9, 14, 0), (60, .iload_n 2, 1, 0, 0, 0), (61, .aload_n 0, 1, 0, 0, 0), (62, .getfield 34, 3, 9, 14, 0), (65, .iload 4, 2, 0, 0, 0), (67, .iaload, 1, 0, 0, 0), (68, .aload_n 0, 1, 0, 0, 0), (69, .iload 4, 2, 0, 0, 0), (71, .invokevirtual 172, 3, 132, 1, 0), (74, .iadd, 1, 0, 0, 0), (75, .iastore, 1, 0, 0, 0), (76, .iconst 1, 1, 0, 0, 0), (77, .istore_n 1, 1, 0, 0, 0), (78, .iinc 3 1, 3, 0, 0, 15), (81, .goto (-67), 3, 14, 0, 0), (84, .iinc 2 1, 3, 0, 0, 7), (87, .goto (-83), 3, 4, 0, 0), (90, .iload_n 1, 1, 0, 0, 2), (91, .ireturn, 1, 0, 0, 0)]
def xR_X9_doesEase : MethodName × ByteArray × Nat × Option FieldType × Nat × Bool × Nat × Nat × Nat × List (Nat × xEnt) := (yX9_doesEase, cX9_doesEase, 5, (some .boolean), 9, true, 0, 2, 45, xL_X9_doesEase)
def xL_X9_carriesTo : List (Nat × xEnt) := [(0, .iconst 0, 1, 0, 0, 0), (1, .istore_n 2, 1, 0, 0, 0), (2, .iload_n 2, 1, 0, 0, 7), (3, .bipush 36, 2, 0, 0, 0), (5, .if_icmp .ge 27, 3, 32, 0, 0), (8, .aload_n 0, 1, 0, 0, 7), (9, .getfield 34, 3, 9, 14, 0), (12, .iload_n 2, 1, 0, 0, 0), (13, .iload_n 2, 1, 0, 0, 0), (14, .iload_n 1, 1, 0, 0, 0), (15, .if_icmp .ne 7, 3, 22, 0, 0), (18, .iconst 0, 1, 0, 0, 7), (19, .goto 6, 3, 25, 0, 0), (22, .sipush 999, 3, 0, 0, 7), (25, .iastore, 1, 0, 0, 7), (26, .iinc 2 1, 3, 0, 0, 0), (29, .goto (-27), 3, 2, 0, 0), (32, .iload_n 1, 1, 0, 0, 3), (33, .iconst (-1), 1, 0, 0, 0), (34, .if_icmp .eq 7, 3, 41, 0, 0), (37, .iconst 1, 1, 0, 0, 1), (38, .goto 4, 3, 42, 0, 0), (41, .iconst 0, 1, 0, 0, 1), (42, .istore_n 2, 1, 0, 0, 1), (43, .iload_n 2, 1, 0, 0, 5), (44, .ifCond .eq 11, 3, 55, 0, 0), (47, .aload_n 0, 1, 0, 0, 1), (48, .invokevirtual 175, 3, 133, 0, 0), (51, .istore_n 2, 1, 0, 0, 0), (52, .goto (-9), 3, 43, 0, 0), (55, .return_, 1, 0, 0, 1152921504606846976)]
def xR_X9_carriesTo : MethodName × ByteArray × Nat × Option FieldType × Nat × Bool × Nat × Nat × Nat × List (Nat × xEnt) := (yX9_carriesTo, cX9_carriesTo, 3, none, 9, true, 1, 3, 69, xL_X9_carriesTo)
def xL_X9_carryOf : List (Nat × xEnt) := [(0, .aload_n 0, 1, 0, 0, 0), (1, .iload_n 3, 1, 0, 0, 0), (2, .invokevirtual 179, 3, 134, 1, 0), (5, .iload_n 1, 1, 0, 0, 0), (6, .aload_n 0, 1, 0, 0, 0), (7, .getfield 34, 3, 9, 14, 0), (10, .iload_n 2, 1, 0, 0, 0), (11, .iaload, 1, 0, 0, 0), (12, .if_icmp .le 14, 3, 26, 0, 0), (15, .iload_n 1, 1, 0, 0, 7), (16, .aload_n 0, 1, 0, 0, 0), (17, .getfield 34, 3, 9, 14, 0), (20, .iload_n 2, 1, 0, 0, 0), (21, .iaload, 1, 0, 0, 0), (22, .isub, 1, 0, 0, 0), (23, .goto 4, 3, 27, 0, 0), (26, .iconst 0, 1, 0, 0, 1152921504606846976), (27, .ireturn, 1, 0, 0, 1152921504606846976)]
def xR_X9_carryOf : MethodName × ByteArray × Nat × Option FieldType × Nat × Bool × Nat × Nat × Nat × List (Nat × xEnt) := (yX9_carryOf, cX9_carryOf, 4, (some .int), 9, true, 3, 4, 91, xL_X9_carryOf)
def xL_X9_carry : List (Nat × xEnt) := [(0, .iload_n 1, 1, 0, 0, 0), (1, .iconst 0, 1, 0, 0, 0), (2, .bipush 99, 2, 0, 0, 0), (4, .invokestatic 98, 3, 102, 3, 0), (7, .ifCond .eq 29, 3, 36, 0, 0), (10, .aload_n 0, 1, 0, 0, 15), (11, .iload_n 2, 1, 0, 0, 0), (12, .invokevirtual 142, 3, 120, 1, 0), (15, .ifCond .eq 21, 3, 36, 0, 0), (18, .aload_n 0, 1, 0, 0, 15), (19, .iload_n 3, 1, 0, 0, 0), (20, .invokevirtual 142, 3, 120, 1, 0), (23, .ifCond .eq 13, 3, 36, 0, 0), (26, .aload_n 0, 1, 0, 0, 15), (27, .iload_n 1, 1, 0, 0, 0), (28, .iload_n 2, 1, 0, 0, 0), (29, .iload_n 3, 1, 0, 0, 0), (30, .invokevirtual 183, 3, 135, 3, 0), (33, .goto 5, 3, 38, 0, 0), (36, .bipush (-2), 2, 0, 0, 1152921504606846976), (38, .ireturn, 1, 0, 0, 1152921504606846976)]
def xR_X9_carry : MethodName × ByteArray × Nat × Option FieldType × Nat × Bool × Nat × Nat × Nat × List (Nat × xEnt) := (yX9_carry, cX9_carry, 4, (some .int), 9, true, 3, 7, 160, xL_X9_carry)
def xL_X9_loudOf : List (Nat × xEnt) := [(0, .iload_n 0, 1, 0, 0, 0), (1, .ifCond .ne 7, 3, 8, 0, 0), (4, .iconst 3, 1, 0, 0, 1152921504606846976), (5, .goto 25, 3, 30, 0, 0), (8, .iload_n 0, 1, 0, 0, 1), (9, .iconst 1, 1, 0, 0, 0), (10, .if_icmp .ne 8, 3, 18, 0, 0), (13, .bipush 6, 2, 0, 0, 1152921504606846976), (15, .goto 15, 3, 30, 0, 0), (18, .iload_n 0, 1, 0, 0, 1), (19, .iconst 2, 1, 0, 0, 0), (20, .if_icmp .ne 8, 3, 28, 0, 0), (23, .bipush 9, 2, 0, 0, 1152921504606846976), (25, .goto 5, 3, 30, 0, 0), (28, .bipush 14, 2, 0, 0, 1152921504606846976), (30, .ireturn, 1, 0, 0, 1152921504606846976)]
def xR_X9_loudOf : MethodName × ByteArray × Nat × Option FieldType × Nat × Bool × Nat × Nat × Nat × List (Nat × xEnt) := (yX9_loudOf, cX9_loudOf, 1, (some .int), 9, false, 1, 0, 0, xL_X9_loudOf)
def xL_X9_lays : List (Nat × xEnt) := [(0, .aload_n 0, 1, 0, 0, 0), (1, .aload_n 0, 1, 0, 0, 0), (2, .invokevirtual 145, 3, 123, 0, 0), (5, .invokevirtual 179, 3, 134, 1, 0), (8, .return_, 1, 0, 0, 0)]
def xR_X9_lays : MethodName × ByteArray × Nat × Option FieldType × Nat × Bool × Nat × Nat × Nat × List (Nat × xEnt) := (yX9_lays, cX9_lays, 1, none, 9, true, 0, 4, 91, xL_X9_lays)
def xL_X9_hears : List (Nat × xEnt) := [(0, .iconst 0, 1, 0, 0, 0), (1, .istore_n 1, 1, 0, 0, 0), (2, .iload_n 1, 1, 0, 0, 3), (3, .aload_n 0, 1, 0, 0, 0), (4, .getfield 123, 3, 9, 5, 0), (7, .if_icmp .ge 63, 3, 70, 0, 0), (10, .aload_n 0, 1, 0, 0, 3), (11, .getfield 19, 3, 9, 6, 0), (14, .iload_n 1, 1, 0, 0, 0), (15, .iaload, 1, 0, 0, 0), (16, .aload_n 0, 1, 0, 0, 0), (17, .getfield 106, 3, 9, 3, 0), (20, .if_icmp .ge 27, 3, 47, 0, 0), (23, .aload_n 0, 1, 0, 0, 3), (24, .getfield 22, 3, 9, 7, 0), (27, .iload_n 1, 1, 0, 0, 0), (28, .iaload, 1, 0, 0, 0), (29, .invokestatic 187, 3, 137, 1, 0), (32, .aload_n 0, 1, 0, 0, 0), (33, .getfield 34, 3, 9, 14, 0), (36, .aload_n 0, 1, 0, 0, 0), (37, .getfield 19, 3, 9, 6, 0), (40, .iload_n 1, 1, 0, 0, 0), (41, .iaload, 1, 0, 0, 0), (42, .iaload, 1, 0, 0, 0), (43, .isub, 1, 0, 0, 0), (44, .goto 4, 3, 48, 0, 0), (47, .iconst 0, 1, 0, 0, 3), (48, .istore_n 2, 1, 0, 0, 3), (49, .aload_n 0, 1, 0, 0, 0), (50, .getfield 37, 3, 9, 16, 0), (53, .iload_n 1, 1, 0, 0, 0), (54, .iload_n 2, 1, 0, 0, 0), (55, .ifCond .le 7, 3, 62, 0, 0), (58, .iload_n 2, 1, 0, 0, 7), (59, .goto 4, 3, 63, 0, 0), (62, .iconst 0, 1, 0, 0, 3), (63, .iastore, 1, 0, 0, 3), (64, .iinc 1 1, 3, 0, 0, 0), (67, .goto (-65), 3, 2, 0, 0), (70, .return_, 1, 0, 0, 1152921504606846976)]
def xR_X9_hears : MethodName × ByteArray × Nat × Option FieldType × Nat × Bool × Nat × Nat × Nat × List (Nat × xEnt) := (yX9_hears, cX9_hears, 3, none, 9, true, 0, 1, 20, xL_X9_hears)
def xL_X9_noiseIn : List (Nat × xEnt) := [(0, .iconst 0, 1, 0, 0, 0), (1, .istore_n 2, 1, 0, 0, 0), (2, .iconst 0, 1, 0, 0, 0), (3, .istore_n 3, 1, 0, 0, 0), (4, .iload_n 3, 1, 0, 0, 15), (5, .aload_n 0, 1, 0, 0, 0), (6, .getfield 123, 3, 9, 5, 0), (9, .if_icmp .ge 77, 3, 86, 0, 0), (12, .aload_n 0, 1, 0, 0, 15), (13, .getfield 25, 3, 9, 8, 0), (16, .iload_n 3, 1, 0, 0, 0), (17, .iaload, 1, 0, 0, 0), (18, .iload_n 1, 1, 0, 0, 0), (19, .if_icmp .ne 61, 3, 80, 0, 0), (22, .aload_n 0, 1, 0, 0, 15), (23, .getfield 190, 3, 9, 15, 0), (26, .iload_n 3, 1, 0, 0, 0), (27, .invokestatic 193, 3, 103, 2, 0), (30, .ifCond .ne 50, 3, 80, 0, 0), (33, .aload_n 0, 1, 0, 0, 15), (34, .getfield 40, 3, 9, 17, 0), (37, .iload_n 3, 1, 0, 0, 0), (38, .aload_n 0, 1, 0, 0, 0), (39, .getfield 49, 3, 9, 21, 0), (42, .aload_n 0, 1, 0, 0, 0), (43, .getfield 19, 3, 9, 6, 0), (46, .iload_n 3, 1, 0, 0, 0), (47, .iaload, 1, 0, 0, 0), (48, .baload, 1, 0, 0, 0), (49, .ifCond .eq 7, 3, 56, 0, 0), (52, .iconst 1, 1, 0, 0, 15), (53, .goto 4, 3, 57, 0, 0), (56, .iconst 0, 1, 0, 0, 15), (57, .iastore, 1, 0, 0, 15), (58, .iload_n 2, 1, 0, 0, 0), (59, .aload_n 0, 1, 0, 0, 0), (60, .getfield 40, 3, 9, 17, 0), (63, .iload_n 3, 1, 0, 0, 0), (64, .iaload, 1, 0, 0, 0), (65, .ifCond .ne 12, 3, 77, 0, 0), (68, .aload_n 0, 1, 0, 0, 11), (69, .getfield 37, 3, 9, 16, 0), (72, .iload_n 3, 1, 0, 0, 0), (73, .iaload, 1, 0, 0, 0), (74, .goto 4, 3, 78, 0, 0), (77, .iconst 0, 1, 0, 0, 11), (78, .iadd, 1, 0, 0, 11), (79, .istore_n 2, 1, 0, 0, 0), (80, .iinc 3 1, 3, 0, 0, 15), (83, .goto (-79), 3, 4, 0, 0), (86, .iconst 0, 1, 0, 0, 7), (87, .istore_n 3, 1, 0, 0, 0), (88, .iload_n 3, 1, 0, 0, 15), (89, .aload_n 0, 1, 0, 0, 0), (90, .getfield 157, 3, 9, 11, 0), (93, .if_icmp .ge 32, 3, 125, 0, 0), (96, .iload_n 2, 1, 0, 0, 15), (97, .aload_n 0, 1, 0, 0, 0), (98, .getfield 28, 3, 9, 12, 0), (101, .iload_n 3, 1, 0, 0, 0), (102, .iaload, 1, 0, 0, 0), (103, .iload_n 1, 1, 0, 0, 0), (104, .if_icmp .ne 12, 3, 116, 0, 0), (107, .aload_n 0, 1, 0, 0, 11), (108, .getfield 31, 3, 9, 13, 0), (111, .iload_n 3, 1, 0, 0, 0), (112, .iaload, 1, 0, 0, 0), (113, .goto 4, 3, 117, 0, 0), (116, .iconst 0, 1, 0, 0, 11), (117, .iadd, 1, 0, 0, 11), (118, .istore_n 2, 1, 0, 0, 0), (119, .iinc 3 1, 3, 0, 0, 0), (122, .goto (-34), 3, 88, 0, 0), (125, .iload_n 2, 1, 0, 0, 4), (126, .ireturn, 1, 0, 0, 0)]
def xR_X9_noiseIn : MethodName × ByteArray × Nat × Option FieldType × Nat × Bool × Nat × Nat × Nat × List (Nat × xEnt) := (yX9_noiseIn, cX9_noiseIn, 4, (some .int), 9, true, 1, 1, 21, xL_X9_noiseIn)
def xL_X9_sleepsOn : List (Nat × xEnt) := [(0, .aload_n 0, 1, 0, 0, 0), (1, .invokevirtual 197, 3, 139, 0, 0), (4, .aload_n 0, 1, 0, 0, 0), (5, .iconst (-1), 1, 0, 0, 0), (6, .putfield 200, 3, 9, 20, 0), (9, .iconst 0, 1, 0, 0, 0), (10, .istore_n 1, 1, 0, 0, 0), (11, .iload_n 1, 1, 0, 0, 3), (12, .bipush 40, 2, 0, 0, 0), (14, .if_icmp .ge 16, 3, 30, 0, 0), (17, .aload_n 0, 1, 0, 0, 3), (18, .getfield 49, 3, 9, 21, 0), (21, .iload_n 1, 1, 0, 0, 0), (22, .iconst 0, 1, 0, 0, 0), (23, .bastore, 1, 0, 0, 0), (24, .iinc 1 1, 3, 0, 0, 0), (27, .goto (-16), 3, 11, 0, 0), (30, .iconst 0, 1, 0, 0, 1), (31, .istore_n 1, 1, 0, 0, 0), (32, .iload_n 1, 1, 0, 0, 3), (33, .aload_n 0, 1, 0, 0, 0), (34, .getfield 123, 3, 9, 5, 0), (37, .if_icmp .ge 16, 3, 53, 0, 0), (40, .aload_n 0, 1, 0, 0, 3), (41, .getfield 40, 3, 9, 17, 0), (44, .iload_n 1, 1, 0, 0, 0), (45, .iconst 2, 1, 0, 0, 0), (46, .iastore, 1, 0, 0, 0), (47, .iinc 1 1, 3, 0, 0, 0), (50, .goto (-18), 3, 32, 0, 0), (53, .aload_n 0, 1, 0, 0, 1), (54, .getfield 89, 3, 9, 9, 0), (57, .istore_n 1, 1, 0, 0, 0), (58, .iconst 0, 1, 0, 0, 0), (59, .istore_n 2, 1, 0, 0, 0), (60, .iload_n 2, 1, 0, 0, 7), (61, .bipush 10, 2, 0, 0, 0), (63, .if_icmp .ge 214, 3, 277, 0, 0), (66, .aload_n 0, 1, 0, 0, 7), (67, .getfield 43, 3, 9, 18, 0), (70, .iload_n 2, 1, 0, 0, 0), (71, .iconst (-1), 1, 0, 0, 0), (72, .iastore, 1, 0, 0, 0), (73, .aload_n 0, 1, 0, 0, 0), (74, .getfield 46, 3, 9, 19, 0), (77, .iload_n 2, 1, 0, 0, 0), (78, .iconst (-1), 1, 0, 0, 0), (79, .iastore, 1, 0, 0, 0), (80, .aload_n 0, 1, 0, 0, 0), (81, .getfield 200, 3, 9, 20, 0), (84, .iconst (-1), 1, 0, 0, 0), (85, .if_icmp .ne 186, 3, 271, 0, 0), (88, .aload_n 0, 1, 0, 0, 7), (89, .getfield 46, 3, 9, 19, 0), (92, .iload_n 2, 1, 0, 0, 0), (93, .iload_n 1, 1, 0, 0, 0), (94, .iastore, 1, 0, 0, 0), (95, .aload_n 0, 1, 0, 0, 0), (96, .getfield 43, 3, 9, 18, 0), (99, .iload_n 2, 1, 0, 0, 0), (100, .aload_n 0, 1, 0, 0, 0), (101, .iload_n 2, 1, 0, 0, 0), (102, .invokevirtual 203, 3, 140, 1, 0), (105, .iastore, 1, 0, 0, 0), (106, .aload_n 0, 1, 0, 0, 0), (107, .aload_n 0, 1, 0, 0, 0), (108, .getfield 43, 3, 9, 18, 0), (111, .iload_n 2, 1, 0, 0, 0), (112, .iaload, 1, 0, 0, 0), (113, .iload_n 1, 1, 0, 0, 0), (114, .if_icmp .le 7, 3, 121, 0, 0), (117, .iload_n 2, 1, 0, 0, 7), (118, .goto 4, 3, 122, 0, 0), (121, .iconst (-1), 1, 0, 0, 7), (122, .putfield 200, 3, 9, 20, 7), (125, .aload_n 0, 1, 0, 0, 0), (126, .getfield 43, 3, 9, 18, 0), (129, .iload_n 2, 1, 0, 0, 0), (130, .iaload, 1, 0, 0, 0), (131, .ifCond .le 16, 3, 147, 0, 0), (134, .iload_n 1, 1, 0, 0, 7), (135, .aload_n 0, 1, 0, 0, 0), (136, .getfield 43, 3, 9, 18, 0), (139, .iload_n 2, 1, 0, 0, 0), (140, .iaload, 1, 0, 0, 0), (141, .iconst 2, 1, 0, 0, 0), (142, .idiv, 1, 0, 0, 0), (143, .isub, 1, 0, 0, 0), (144, .goto 17, 3, 161, 0, 0), (147, .iload_n 1, 1, 0, 0, 7), (148, .bipush 27, 2, 0, 0, 0), (150, .if_icmp .le 8, 3, 158, 0, 0), (153, .bipush 30, 2, 0, 0, 5), (155, .goto 6, 3, 161, 0, 0), (158, .iload_n 1, 1, 0, 0, 7), (159, .iconst 3, 1, 0, 0, 0), (160, .iadd, 1, 0, 0, 0), (161, .istore_n 1, 1, 0, 0, 5), (162, .iconst 0, 1, 0, 0, 0), (163, .istore_n 3, 1, 0, 0, 0), (164, .iload_n 3, 1, 0, 0, 15), (165, .aload_n 0, 1, 0, 0, 0), (166, .getfield 123, 3, 9, 5, 0), (169, .if_icmp .ge 102, 3, 271, 0, 0), (172, .aload_n 0, 1, 0, 0, 15), (173, .getfield 200, 3, 9, 20, 0), (176, .iconst (-1), 1, 0, 0, 0), (177, .if_icmp .ne 94, 3, 271, 0, 0), (180, .aload_n 0, 1, 0, 0, 15), (181, .getfield 25, 3, 9, 8, 0), (184, .iload_n 3, 1, 0, 0, 0), (185, .iaload, 1, 0, 0, 0), (186, .iload_n 2, 1, 0, 0, 0), (187, .if_icmp .ne 40, 3, 227, 0, 0), (190, .aload_n 0, 1, 0, 0, 15), (191, .getfield 190, 3, 9, 15, 0), (194, .iload_n 3, 1, 0, 0, 0), (195, .invokestatic 193, 3, 103, 2, 0), (198, .ifCond .ne 29, 3, 227, 0, 0), (201, .aload_n 0, 1, 0, 0, 15), (202, .getfield 40, 3, 9, 17, 0), (205, .iload_n 3, 1, 0, 0, 0), (206, .iaload, 1, 0, 0, 0), (207, .ifCond .ne 20, 3, 227, 0, 0), (210, .aload_n 0, 1, 0, 0, 15), (211, .getfield 37, 3, 9, 16, 0), (214, .iload_n 3, 1, 0, 0, 0), (215, .iaload, 1, 0, 0, 0), (216, .aload_n 0, 1, 0, 0, 0), (217, .getfield 93, 3, 9, 10, 0), (220, .if_icmp .le 7, 3, 227, 0, 0), (223, .iconst 1, 1, 0, 0, 15), (224, .goto 4, 3, 228, 0, 0), (227, .iconst 0, 1, 0, 0, 15), (228, .istore 4, 2, 0, 0, 15), (230, .aload_n 0, 1, 0, 0, 0), (231, .getfield 49, 3, 9, 21, 0), (234, .aload_n 0, 1, 0, 0, 0), (235, .getfield 19, 3, 9, 6, 0), (238, .iload_n 3, 1, 0, 0, 0), (239, .iaload, 1, 0, 0, 0), (240, .aload_n 0, 1, 0, 0, 0), (241, .getfield 49, 3, 9, 21, 0), (244, .aload_n 0, 1, 0, 0, 0), (245, .getfield 19, 3, 9, 6, 0), (248, .iload_n 3, 1, 0, 0, 0), (249, .iaload, 1, 0, 0, 0), (250, .baload, 1, 0, 0, 0), (251, .ifCond .ne 8, 3, 259, 0, 0), (254, .iload 4, 2, 0, 0, 31), (256, .ifCond .eq 7, 3, 263, 0, 0), (259, .iconst 1, 1, 0, 0, 15), (260, .goto 4, 3, 264, 0, 0), (263, .iconst 0, 1, 0, 0, 15), (264, .bastore, 1, 0, 0, 15), (265, .iinc 3 1, 3, 0, 0, 0), (268, .goto (-104), 3, 164, 0, 0), (271, .iinc 2 1, 3, 0, 0, 7), (274, .goto (-214), 3, 60, 0, 0), (277, .return_, 1, 0, 0, 1152921504606846976)]
def xR_X9_sleepsOn : MethodName × ByteArray × Nat × Option FieldType × Nat × Bool × Nat × Nat × Nat × List (Nat × xEnt) := (yX9_sleepsOn, cX9_sleepsOn, 5, none, 9, true, 0, 2, 44, xL_X9_sleepsOn)
def xL_X9_runs : List (Nat × xEnt) := [(0, .aload_n 0, 1, 0, 0, 0), (1, .invokevirtual 206, 3, 138, 0, 0), (4, .aload_n 0, 1, 0, 0, 0), (5, .invokevirtual 209, 3, 141, 0, 0), (8, .return_, 1, 0, 0, 0)]
def xR_X9_runs : MethodName × ByteArray × Nat × Option FieldType × Nat × Bool × Nat × Nat × Nat × List (Nat × xEnt) := (yX9_runs, cX9_runs, 1, none, 9, true, 0, 5, 111, xL_X9_runs)
def xL_X9_asTold : List (Nat × xEnt) := [(0, .aload_n 0, 1, 0, 0, 0), (1, .invokevirtual 139, 3, 118, 0, 0), (4, .aload_n 0, 1, 0, 0, 0), (5, .iconst 0, 1, 0, 0, 0), (6, .putfield 190, 3, 9, 15, 0), (9, .return_, 1, 0, 0, 0)]
def xR_X9_asTold : MethodName × ByteArray × Nat × Option FieldType × Nat × Bool × Nat × Nat × Nat × List (Nat × xEnt) := (yX9_asTold, cX9_asTold, 1, none, 9, true, 0, 6, 139, xL_X9_asTold)
def xL_X9_runsTold : List (Nat × xEnt) := [(0, .aload_n 0, 1, 0, 0, 0), (1, .invokevirtual 212, 3, 143, 0, 0), (4, .aload_n 0, 1, 0, 0, 0), (5, .invokevirtual 215, 3, 142, 0, 0), (8, .return_, 1, 0, 0, 0)]
def xR_X9_runsTold : MethodName × ByteArray × Nat × Option FieldType × Nat × Bool × Nat × Nat × Nat × List (Nat × xEnt) := (yX9_runsTold, cX9_runsTold, 1, none, 9, true, 0, 7, 159, xL_X9_runsTold)
def xL_X9_heardBy : List (Nat × xEnt) := [(0, .aload_n 0, 1, 0, 0, 0), (1, .invokevirtual 218, 3, 144, 0, 0), (4, .iload_n 2, 1, 0, 0, 0), (5, .ifCond .ne 12, 3, 17, 0, 0), (8, .aload_n 0, 1, 0, 0, 3), (9, .getfield 37, 3, 9, 16, 0), (12, .iload_n 1, 1, 0, 0, 0), (13, .iaload, 1, 0, 0, 0), (14, .goto 9, 3, 23, 0, 0), (17, .aload_n 0, 1, 0, 0, 3), (18, .getfield 40, 3, 9, 17, 0), (21, .iload_n 1, 1, 0, 0, 0), (22, .iaload, 1, 0, 0, 0), (23, .ireturn, 1, 0, 0, 1152921504606846976)]
def xR_X9_heardBy : MethodName × ByteArray × Nat × Option FieldType × Nat × Bool × Nat × Nat × Nat × List (Nat × xEnt) := (yX9_heardBy, cX9_heardBy, 3, (some .int), 9, true, 2, 8, 179, xL_X9_heardBy)
def xL_X9_heard : List (Nat × xEnt) := [(0, .aload_n 0, 1, 0, 0, 0), (1, .iload_n 1, 1, 0, 0, 0), (2, .invokevirtual 148, 3, 121, 1, 0), (5, .ifCond .eq 21, 3, 26, 0, 0), (8, .iload_n 2, 1, 0, 0, 7), (9, .iconst 0, 1, 0, 0, 0), (10, .iconst 1, 1, 0, 0, 0), (11, .invokestatic 98, 3, 102, 3, 0), (14, .ifCond .eq 12, 3, 26, 0, 0), (17, .aload_n 0, 1, 0, 0, 7), (18, .iload_n 1, 1, 0, 0, 0), (19, .iload_n 2, 1, 0, 0, 0), (20, .invokevirtual 221, 3, 145, 2, 0), (23, .goto 5, 3, 28, 0, 0), (26, .bipush (-2), 2, 0, 0, 1152921504606846976), (28, .ireturn, 1, 0, 0, 1152921504606846976)]
def xR_X9_heard : MethodName × ByteArray × Nat × Option FieldType × Nat × Bool × Nat × Nat × Nat × List (Nat × xEnt) := (yX9_heard, cX9_heard, 3, (some .int), 9, true, 2, 9, 201, xL_X9_heard)
def xL_X9_noiseOf : List (Nat × xEnt) := [(0, .aload_n 0, 1, 0, 0, 0), (1, .invokevirtual 218, 3, 144, 0, 0), (4, .aload_n 0, 1, 0, 0, 0), (5, .getfield 43, 3, 9, 18, 0), (8, .iload_n 1, 1, 0, 0, 0), (9, .iaload, 1, 0, 0, 0), (10, .ireturn, 1, 0, 0, 0)]
def xR_X9_noiseOf : MethodName × ByteArray × Nat × Option FieldType × Nat × Bool × Nat × Nat × Nat × List (Nat × xEnt) := (yX9_noiseOf, cX9_noiseOf, 2, (some .int), 9, true, 1, 8, 179, xL_X9_noiseOf)
def xL_X9_noise : List (Nat × xEnt) := [(0, .iload_n 1, 1, 0, 0, 0), (1, .invokestatic 154, 3, 107, 1, 0), (4, .ifCond .eq 11, 3, 15, 0, 0), (7, .aload_n 0, 1, 0, 0, 3), (8, .iload_n 1, 1, 0, 0, 0), (9, .invokevirtual 224, 3, 147, 1, 0), (12, .goto 5, 3, 17, 0, 0), (15, .bipush (-2), 2, 0, 0, 1152921504606846976), (17, .ireturn, 1, 0, 0, 1152921504606846976)]
def xR_X9_noise : MethodName × ByteArray × Nat × Option FieldType × Nat × Bool × Nat × Nat × Nat × List (Nat × xEnt) := (yX9_noise, cX9_noise, 2, (some .int), 9, true, 1, 9, 200, xL_X9_noise)
def xL_X9_depthOf : List (Nat × xEnt) := [(0, .aload_n 0, 1, 0, 0, 0), (1, .invokevirtual 218, 3, 144, 0, 0), (4, .aload_n 0, 1, 0, 0, 0), (5, .getfield 46, 3, 9, 19, 0), (8, .iload_n 1, 1, 0, 0, 0), (9, .iaload, 1, 0, 0, 0), (10, .ireturn, 1, 0, 0, 0)]
def xR_X9_depthOf : MethodName × ByteArray × Nat × Option FieldType × Nat × Bool × Nat × Nat × Nat × List (Nat × xEnt) := (yX9_depthOf, cX9_depthOf, 2, (some .int), 9, true, 1, 8, 179, xL_X9_depthOf)
def xL_X9_depth : List (Nat × xEnt) := [(0, .iload_n 1, 1, 0, 0, 0), (1, .invokestatic 154, 3, 107, 1, 0), (4, .ifCond .eq 11, 3, 15, 0, 0), (7, .aload_n 0, 1, 0, 0, 3), (8, .iload_n 1, 1, 0, 0, 0), (9, .invokevirtual 227, 3, 149, 1, 0), (12, .goto 5, 3, 17, 0, 0), (15, .bipush (-2), 2, 0, 0, 1152921504606846976), (17, .ireturn, 1, 0, 0, 1152921504606846976)]
def xR_X9_depth : MethodName × ByteArray × Nat × Option FieldType × Nat × Bool × Nat × Nat × Nat × List (Nat × xEnt) := (yX9_depth, cX9_depth, 2, (some .int), 9, true, 1, 9, 200, xL_X9_depth)
def xL_X9_wakesOf : List (Nat × xEnt) := [(0, .aload_n 0, 1, 0, 0, 0), (1, .invokevirtual 218, 3, 144, 0, 0), (4, .aload_n 0, 1, 0, 0, 0), (5, .getfield 200, 3, 9, 20, 0), (8, .ireturn, 1, 0, 0, 0)]
def xR_X9_wakesOf : MethodName × ByteArray × Nat × Option FieldType × Nat × Bool × Nat × Nat × Nat × List (Nat × xEnt) := (yX9_wakesOf, cX9_wakesOf, 1, (some .int), 9, true, 0, 8, 179, xL_X9_wakesOf)
def xL_X9_wakes : List (Nat × xEnt) := [(0, .aload_n 0, 1, 0, 0, 0), (1, .invokevirtual 230, 3, 151, 0, 0), (4, .ireturn, 1, 0, 0, 0)]
def xR_X9_wakes : MethodName × ByteArray × Nat × Option FieldType × Nat × Bool × Nat × Nat × Nat × List (Nat × xEnt) := (yX9_wakes, cX9_wakes, 1, (some .int), 9, true, 0, 9, 199, xL_X9_wakes)
def xL_X9_exiledOf : List (Nat × xEnt) := [(0, .aload_n 0, 1, 0, 0, 0), (1, .invokevirtual 218, 3, 144, 0, 0), (4, .iconst 0, 1, 0, 0, 0), (5, .istore_n 2, 1, 0, 0, 0), (6, .iconst 0, 1, 0, 0, 0), (7, .istore_n 3, 1, 0, 0, 0), (8, .iload_n 3, 1, 0, 0, 15), (9, .bipush 18, 2, 0, 0, 0), (11, .if_icmp .ge 46, 3, 57, 0, 0), (14, .bipush 18, 2, 0, 0, 15), (16, .iload_n 1, 1, 0, 0, 0), (17, .imul, 1, 0, 0, 0), (18, .iload_n 3, 1, 0, 0, 0), (19, .iadd, 1, 0, 0, 0), (20, .istore 4, 2, 0, 0, 0), (22, .iload_n 2, 1, 0, 0, 0), (23, .iload 4, 2, 0, 0, 0), (25, .aload_n 0, 1, 0, 0, 0), (26, .getfield 106, 3, 9, 3, 0), (29, .if_icmp .ge 19, 3, 48, 0, 0), (32, .aload_n 0, 1, 0, 0, 27), (33, .getfield 49, 3, 9, 21, 0), (36, .iload 4, 2, 0, 0, 0), (38, .baload, 1, 0, 0, 0), (39, .ifCond .eq 9, 3, 48, 0, 0), (42, .iconst 1, 1, 0, 0, 11), (43, .iload_n 3, 1, 0, 0, 0), (44, .ishl, 1, 0, 0, 0), (45, .goto 4, 3, 49, 0, 0), (48, .iconst 0, 1, 0, 0, 11), (49, .ior, 1, 0, 0, 11), (50, .istore_n 2, 1, 0, 0, 0), (51, .iinc 3 1, 3, 0, 0, 0), (54, .goto (-46), 3, 8, 0, 0), (57, .iload_n 2, 1, 0, 0, 4), (58, .ireturn, 1, 0, 0, 0)]
def xR_X9_exiledOf : MethodName × ByteArray × Nat × Option FieldType × Nat × Bool × Nat × Nat × Nat × List (Nat × xEnt) := (yX9_exiledOf, cX9_exiledOf, 5, (some .int), 9, true, 1, 8, 179, xL_X9_exiledOf)
def xL_X9_exiled : List (Nat × xEnt) := [(0, .iload_n 1, 1, 0, 0, 0), (1, .iconst 0, 1, 0, 0, 0), (2, .iconst 1, 1, 0, 0, 0), (3, .invokestatic 98, 3, 102, 3, 0), (6, .ifCond .eq 11, 3, 17, 0, 0), (9, .aload_n 0, 1, 0, 0, 3), (10, .iload_n 1, 1, 0, 0, 0), (11, .invokevirtual 233, 3, 153, 1, 0), (14, .goto 5, 3, 19, 0, 0), (17, .bipush (-2), 2, 0, 0, 1152921504606846976), (19, .ireturn, 1, 0, 0, 1152921504606846976)]
def xR_X9_exiled : MethodName × ByteArray × Nat × Option FieldType × Nat × Bool × Nat × Nat × Nat × List (Nat × xEnt) := (yX9_exiled, cX9_exiled, 2, (some .int), 9, true, 1, 9, 203, xL_X9_exiled)
def xL_X9_loudestNow : List (Nat × xEnt) := [(0, .aload_n 0, 1, 0, 0, 0), (1, .invokevirtual 218, 3, 144, 0, 0), (4, .iconst (-1), 1, 0, 0, 0), (5, .istore_n 1, 1, 0, 0, 0), (6, .iconst 0, 1, 0, 0, 0), (7, .istore_n 2, 1, 0, 0, 0), (8, .iload_n 2, 1, 0, 0, 7), (9, .aload_n 0, 1, 0, 0, 0), (10, .getfield 123, 3, 9, 5, 0), (13, .if_icmp .ge 44, 3, 57, 0, 0), (16, .aload_n 0, 1, 0, 0, 7), (17, .getfield 40, 3, 9, 17, 0), (20, .iload_n 2, 1, 0, 0, 0), (21, .iaload, 1, 0, 0, 0), (22, .ifCond .ne 27, 3, 49, 0, 0), (25, .iload_n 1, 1, 0, 0, 7), (26, .iconst (-1), 1, 0, 0, 0), (27, .if_icmp .eq 18, 3, 45, 0, 0), (30, .aload_n 0, 1, 0, 0, 7), (31, .getfield 37, 3, 9, 16, 0), (34, .iload_n 2, 1, 0, 0, 0), (35, .iaload, 1, 0, 0, 0), (36, .aload_n 0, 1, 0, 0, 0), (37, .getfield 37, 3, 9, 16, 0), (40, .iload_n 1, 1, 0, 0, 0), (41, .iaload, 1, 0, 0, 0), (42, .if_icmp .le 7, 3, 49, 0, 0), (45, .iload_n 2, 1, 0, 0, 5), (46, .goto 4, 3, 50, 0, 0), (49, .iload_n 1, 1, 0, 0, 7), (50, .istore_n 1, 1, 0, 0, 5), (51, .iinc 2 1, 3, 0, 0, 0), (54, .goto (-46), 3, 8, 0, 0), (57, .iload_n 1, 1, 0, 0, 2), (58, .ireturn, 1, 0, 0, 0)]
def xR_X9_loudestNow : MethodName × ByteArray × Nat × Option FieldType × Nat × Bool × Nat × Nat × Nat × List (Nat × xEnt) := (yX9_loudestNow, cX9_loudestNow, 3, (some .int), 9, true, 0, 8, 179, xL_X9_loudestNow)
def xL_X9_loudest : List (Nat × xEnt) := [(0, .aload_n 0, 1, 0, 0, 0), (1, .invokevirtual 236, 3, 155, 0, 0), (4, .ireturn, 1, 0, 0, 0)]
def xR_X9_loudest : MethodName × ByteArray × Nat × Option FieldType × Nat × Bool × Nat × Nat × Nat × List (Nat × xEnt) := (yX9_loudest, cX9_loudest, 1, (some .int), 9, true, 0, 9, 201, xL_X9_loudest)
def xL_X9_hourOf : List (Nat × xEnt) := [(0, .aload_n 0, 1, 0, 0, 0), (1, .invokevirtual 212, 3, 143, 0, 0), (4, .aload_n 0, 1, 0, 0, 0), (5, .invokevirtual 206, 3, 138, 0, 0), (8, .aload_n 0, 1, 0, 0, 0), (9, .getfield 25, 3, 9, 8, 0), (12, .iload_n 1, 1, 0, 0, 0), (13, .iaload, 1, 0, 0, 0), (14, .istore_n 3, 1, 0, 0, 0), (15, .iconst (-1), 1, 0, 0, 0), (16, .istore 4, 2, 0, 0, 0), (18, .iconst (-1), 1, 0, 0, 0), (19, .istore 5, 2, 0, 0, 0), (21, .iconst 0, 1, 0, 0, 0), (22, .istore 6, 2, 0, 0, 0), (24, .iload 6, 2, 0, 0, 127), (26, .bipush 10, 2, 0, 0, 0), (28, .if_icmp .ge 72, 3, 100, 0, 0), (31, .aload_n 0, 1, 0, 0, 127), (32, .getfield 25, 3, 9, 8, 0), (35, .iload_n 1, 1, 0, 0, 0), (36, .iload 6, 2, 0, 0, 0), (38, .iastore, 1, 0, 0, 0), (39, .aload_n 0, 1, 0, 0, 0), (40, .invokevirtual 209, 3, 141, 0, 0), (43, .aload_n 0, 1, 0, 0, 0), (44, .getfield 200, 3, 9, 20, 0), (47, .iconst (-1), 1, 0, 0, 0), (48, .if_icmp .ne 8, 3, 56, 0, 0), (51, .bipush 10, 2, 0, 0, 127), (53, .goto 7, 3, 60, 0, 0), (56, .aload_n 0, 1, 0, 0, 127), (57, .getfield 200, 3, 9, 20, 0), (60, .istore 7, 2, 0, 0, 127), (62, .iload 7, 2, 0, 0, 0), (64, .iload 5, 2, 0, 0, 0), (66, .if_icmp .le 8, 3, 74, 0, 0), (69, .iload 6, 2, 0, 0, 239), (71, .goto 5, 3, 76, 0, 0), (74, .iload 4, 2, 0, 0, 255), (76, .istore 4, 2, 0, 0, 239), (78, .iload 7, 2, 0, 0, 0), (80, .iload 5, 2, 0, 0, 0), (82, .if_icmp .le 8, 3, 90, 0, 0), (85, .iload 7, 2, 0, 0, 223), (87, .goto 5, 3, 92, 0, 0), (90, .iload 5, 2, 0, 0, 127), (92, .istore 5, 2, 0, 0, 95), (94, .iinc 6 1, 3, 0, 0, 0), (97, .goto (-73), 3, 24, 0, 0), (100, .aload_n 0, 1, 0, 0, 63), (101, .getfield 25, 3, 9, 8, 0), (104, .iload_n 1, 1, 0, 0, 0), (105, .iload_n 3, 1, 0, 0, 0), (106, .iastore, 1, 0, 0, 0), (107, .iload_n 2, 1, 0, 0, 0), (108, .ifCond .ne 8, 3, 116, 0, 0), (111, .iload 4, 2, 0, 0, 16), (113, .goto 16, 3, 129, 0, 0), (116, .iload 5, 2, 0, 0, 32), (118, .bipush 10, 2, 0, 0, 0), (120, .if_icmp .ne 7, 3, 127, 0, 0), (123, .iconst (-1), 1, 0, 0, 1152921504606846976), (124, .goto 5, 3, 129, 0, 0), (127, .iload 5, 2, 0, 0, 32), (129, .ireturn, 1, 0, 0, 1152921504606846976)]
def xR_X9_hourOf : MethodName × ByteArray × Nat × Option FieldType × Nat × Bool × Nat × Nat × Nat × List (Nat × xEnt) := (yX9_hourOf, cX9_hourOf, 8, (some .int), 9, true, 2, 7, 159, xL_X9_hourOf)
def xL_X9_hour : List (Nat × xEnt) := [(0, .aload_n 0, 1, 0, 0, 0), (1, .iload_n 1, 1, 0, 0, 0), (2, .invokevirtual 148, 3, 121, 1, 0), (5, .ifCond .eq 21, 3, 26, 0, 0), (8, .iload_n 2, 1, 0, 0, 7), (9, .iconst 0, 1, 0, 0, 0), (10, .iconst 1, 1, 0, 0, 0), (11, .invokestatic 98, 3, 102, 3, 0), (14, .ifCond .eq 12, 3, 26, 0, 0), (17, .aload_n 0, 1, 0, 0, 7), (18, .iload_n 1, 1, 0, 0, 0), (19, .iload_n 2, 1, 0, 0, 0), (20, .invokevirtual 239, 3, 157, 2, 0), (23, .goto 5, 3, 28, 0, 0), (26, .bipush (-2), 2, 0, 0, 1152921504606846976), (28, .ireturn, 1, 0, 0, 1152921504606846976)]
def xR_X9_hour : MethodName × ByteArray × Nat × Option FieldType × Nat × Bool × Nat × Nat × Nat × List (Nat × xEnt) := (yX9_hour, cX9_hour, 3, (some .int), 9, true, 2, 8, 186, xL_X9_hour)
def xL_X9_isStill : List (Nat × xEnt) := [(0, .iload_n 1, 1, 0, 0, 0), (1, .iconst (-1), 1, 0, 0, 0), (2, .if_icmp .ne 7, 3, 9, 0, 0), (5, .iconst 0, 1, 0, 0, 7), (6, .goto 9, 3, 15, 0, 0), (9, .aload_n 0, 1, 0, 0, 7), (10, .getfield 16, 3, 9, 4, 0), (13, .iload_n 1, 1, 0, 0, 0), (14, .iaload, 1, 0, 0, 0), (15, .istore_n 3, 1, 0, 0, 7), (16, .iload_n 2, 1, 0, 0, 0), (17, .iconst (-1), 1, 0, 0, 0), (18, .if_icmp .ne 7, 3, 25, 0, 0), (21, .iconst 0, 1, 0, 0, 15), (22, .goto 9, 3, 31, 0, 0), (25, .aload_n 0, 1, 0, 0, 15), (26, .getfield 16, 3, 9, 4, 0), (29, .iload_n 2, 1, 0, 0, 0), (30, .iaload, 1, 0, 0, 0), (31, .istore 4, 2, 0, 0, 15), (33, .iload_n 3, 1, 0, 0, 0), (34, .ifCond .ne 8, 3, 42, 0, 0), (37, .iload 4, 2, 0, 0, 23), (39, .ifCond .eq 5, 3, 44, 0, 0), (42, .iconst 0, 1, 0, 0, 1152921504606846976), (43, .ireturn, 1, 0, 0, 0), (44, .iload_n 1, 1, 0, 0, 7), (45, .iconst (-1), 1, 0, 0, 0), (46, .if_icmp .eq 10, 3, 56, 0, 0), (49, .aload_n 0, 1, 0, 0, 7), (50, .getfield 16, 3, 9, 4, 0), (53, .iload_n 1, 1, 0, 0, 0), (54, .iconst 2, 1, 0, 0, 0), (55, .iastore, 1, 0, 0, 0), (56, .iload_n 2, 1, 0, 0, 7), (57, .iconst (-1), 1, 0, 0, 0), (58, .if_icmp .eq 10, 3, 68, 0, 0), (61, .aload_n 0, 1, 0, 0, 7), (62, .getfield 16, 3, 9, 4, 0), (65, .iload_n 2, 1, 0, 0, 0), (66, .iconst 2, 1, 0, 0, 0), (67, .iastore, 1, 0, 0, 0), (68, .aload_n 0, 1, 0, 0, 7), (69, .invokevirtual 215, 3, 142, 0, 0), (72, .iload_n 1, 1, 0, 0, 0), (73, .iconst (-1), 1, 0, 0, 0), (74, .if_icmp .eq 10, 3, 84, 0, 0), (77, .aload_n 0, 1, 0, 0, 7), (78, .getfield 16, 3, 9, 4, 0), (81, .iload_n 1, 1, 0, 0, 0), (82, .iconst 0, 1, 0, 0, 0), (83, .iastore, 1, 0, 0, 0), (84, .iload_n 2, 1, 0, 0, 5), (85, .iconst (-1), 1, 0, 0, 0), (86, .if_icmp .eq 10, 3, 96, 0, 0), (89, .aload_n 0, 1, 0, 0, 5), (90, .getfield 16, 3, 9, 4, 0), (93, .iload_n 2, 1, 0, 0, 0), (94, .iconst 0, 1, 0, 0, 0), (95, .iastore, 1, 0, 0, 0), (96, .aload_n 0, 1, 0, 0, 1), (97, .getfield 200, 3, 9, 20, 0), (100, .iconst (-1), 1, 0, 0, 0), (101, .if_icmp .ne 7, 3, 108, 0, 0), (104, .iconst 1, 1, 0, 0, 1152921504606846976), (105, .goto 4, 3, 109, 0, 0), (108, .iconst 0, 1, 0, 0, 1152921504606846976), (109, .ireturn, 1, 0, 0, 1152921504606846976)]
def xR_X9_isStill : MethodName × ByteArray × Nat × Option FieldType × Nat × Bool × Nat × Nat × Nat × List (Nat × xEnt) := (yX9_isStill, cX9_isStill, 5, (some .boolean), 9, true, 2, 6, 131, xL_X9_isStill)
def xL_X9_feltBy : List (Nat × xEnt) := [(0, .aload_n 0, 1, 0, 0, 0), (1, .invokevirtual 212, 3, 143, 0, 0), (4, .aload_n 0, 1, 0, 0, 0), (5, .iconst (-1), 1, 0, 0, 0), (6, .iconst (-1), 1, 0, 0, 0), (7, .invokevirtual 242, 3, 159, 2, 0), (10, .ifCond .eq 5, 3, 15, 0, 0), (13, .iconst 0, 1, 0, 0, 1152921504606846976), (14, .ireturn, 1, 0, 0, 0), (15, .iconst 0, 1, 0, 0, 1), (16, .istore_n 1, 1, 0, 0, 0), (17, .iload_n 1, 1, 0, 0, 3), (18, .aload_n 0, 1, 0, 0, 0), (19, .getfield 106, 3, 9, 3, 0), (22, .if_icmp .ge 27, 3, 49, 0, 0), (25, .aload_n 0, 1, 0, 0, 3), (26, .getfield 53, 3, 9, 22, 0), (29, .iconst 0, 1, 0, 0, 0), (30, .iload_n 1, 1, 0, 0, 0), (31, .iastore, 1, 0, 0, 0), (32, .aload_n 0, 1, 0, 0, 0), (33, .iload_n 1, 1, 0, 0, 0), (34, .iconst (-1), 1, 0, 0, 0), (35, .invokevirtual 242, 3, 159, 2, 0), (38, .ifCond .eq 5, 3, 43, 0, 0), (41, .iconst 1, 1, 0, 0, 1152921504606846976), (42, .ireturn, 1, 0, 0, 0), (43, .iinc 1 1, 3, 0, 0, 3), (46, .goto (-29), 3, 17, 0, 0), (49, .iconst 0, 1, 0, 0, 1), (50, .istore_n 1, 1, 0, 0, 0), (51, .iload_n 1, 1, 0, 0, 3), (52, .aload_n 0, 1, 0, 0, 0), (53, .getfield 106, 3, 9, 3, 0), (56, .if_icmp .ge 52, 3, 108, 0, 0), (59, .iload_n 1, 1, 0, 0, 3), (60, .iconst 1, 1, 0, 0, 0), (61, .iadd, 1, 0, 0, 0), (62, .istore_n 2, 1, 0, 0, 0), (63, .iload_n 2, 1, 0, 0, 7), (64, .aload_n 0, 1, 0, 0, 0), (65, .getfield 106, 3, 9, 3, 0), (68, .if_icmp .ge 34, 3, 102, 0, 0), (71, .aload_n 0, 1, 0, 0, 7), (72, .getfield 53, 3, 9, 22, 0), (75, .iconst 0, 1, 0, 0, 0), (76, .iload_n 1, 1, 0, 0, 0), (77, .iastore, 1, 0, 0, 0), (78, .aload_n 0, 1, 0, 0, 0), (79, .getfield 53, 3, 9, 22, 0), (82, .iconst 1, 1, 0, 0, 0), (83, .iload_n 2, 1, 0, 0, 0), (84, .iastore, 1, 0, 0, 0), (85, .aload_n 0, 1, 0, 0, 0), (86, .iload_n 1, 1, 0, 0, 0), (87, .iload_n 2, 1, 0, 0, 0), (88, .invokevirtual 242, 3, 159, 2, 0), (91, .ifCond .eq 5, 3, 96, 0, 0), (94, .iconst 2, 1, 0, 0, 1152921504606846976), (95, .ireturn, 1, 0, 0, 0), (96, .iinc 2 1, 3, 0, 0, 7), (99, .goto (-36), 3, 63, 0, 0), (102, .iinc 1 1, 3, 0, 0, 3), (105, .goto (-54), 3, 51, 0, 0), (108, .iconst (-1), 1, 0, 0, 1152921504606846976), (109, .ireturn, 1, 0, 0, 0)]
def xR_X9_feltBy : MethodName × ByteArray × Nat × Option FieldType × Nat × Bool × Nat × Nat × Nat × List (Nat × xEnt) := (yX9_feltBy, cX9_feltBy, 3, (some .int), 9, true, 0, 7, 159, xL_X9_feltBy)
def xL_X9_ofRow : List (Nat × xEnt) := [(0, .iload_n 2, 1, 0, 0, 0), (1, .iconst (-1), 1, 0, 0, 0), (2, .if_icmp .ne 7, 3, 9, 0, 0), (5, .iload_n 1, 1, 0, 0, 2), (6, .goto 18, 3, 24, 0, 0), (9, .iload_n 2, 1, 0, 0, 7), (10, .iload_n 1, 1, 0, 0, 0), (11, .if_icmp .ge 12, 3, 23, 0, 0), (14, .aload_n 0, 1, 0, 0, 5), (15, .getfield 53, 3, 9, 22, 0), (18, .iload_n 2, 1, 0, 0, 0), (19, .iaload, 1, 0, 0, 0), (20, .goto 4, 3, 24, 0, 0), (23, .iconst (-1), 1, 0, 0, 1152921504606846976), (24, .ireturn, 1, 0, 0, 1152921504606846976)]
def xR_X9_ofRow : MethodName × ByteArray × Nat × Option FieldType × Nat × Bool × Nat × Nat × Nat × List (Nat × xEnt) := (yX9_ofRow, cX9_ofRow, 3, (some .int), 9, true, 2, 0, 0, xL_X9_ofRow)
def xL_X9_felt : List (Nat × xEnt) := [(0, .iload_n 1, 1, 0, 0, 0), (1, .iconst (-1), 1, 0, 0, 0), (2, .iconst 1, 1, 0, 0, 0), (3, .invokestatic 98, 3, 102, 3, 0), (6, .ifCond .eq 15, 3, 21, 0, 0), (9, .aload_n 0, 1, 0, 0, 3), (10, .aload_n 0, 1, 0, 0, 0), (11, .invokevirtual 245, 3, 160, 0, 0), (14, .iload_n 1, 1, 0, 0, 0), (15, .invokevirtual 248, 3, 161, 2, 0), (18, .goto 5, 3, 23, 0, 0), (21, .bipush (-2), 2, 0, 0, 1152921504606846976), (23, .ireturn, 1, 0, 0, 1152921504606846976)]
def xR_X9_felt : MethodName × ByteArray × Nat × Option FieldType × Nat × Bool × Nat × Nat × Nat × List (Nat × xEnt) := (yX9_felt, cX9_felt, 2, (some .int), 9, true, 1, 8, 181, xL_X9_felt)
def xL_X9_layOf : List (Nat × xEnt) := [(0, .aload_n 0, 1, 0, 0, 0), (1, .invokevirtual 212, 3, 143, 0, 0), (4, .aload_n 0, 1, 0, 0, 0), (5, .invokevirtual 145, 3, 123, 0, 0), (8, .istore_n 2, 1, 0, 0, 0), (9, .iconst (-1), 1, 0, 0, 0), (10, .istore_n 3, 1, 0, 0, 0), (11, .iconst (-1), 1, 0, 0, 0), (12, .istore 4, 2, 0, 0, 0), (14, .iconst 0, 1, 0, 0, 0), (15, .istore 5, 2, 0, 0, 0), (17, .iload 5, 2, 0, 0, 63), (19, .aload_n 0, 1, 0, 0, 0), (20, .getfield 106, 3, 9, 3, 0), (23, .if_icmp .ge 118, 3, 141, 0, 0), (26, .aload_n 0, 1, 0, 0, 63), (27, .getfield 16, 3, 9, 4, 0), (30, .iload 5, 2, 0, 0, 0), (32, .iaload, 1, 0, 0, 0), (33, .ifCond .ne 102, 3, 135, 0, 0), (36, .iload 5, 2, 0, 0, 63), (38, .iload_n 2, 1, 0, 0, 0), (39, .if_icmp .eq 96, 3, 135, 0, 0), (42, .iload_n 2, 1, 0, 0, 63), (43, .iconst (-1), 1, 0, 0, 0), (44, .if_icmp .eq 10, 3, 54, 0, 0), (47, .aload_n 0, 1, 0, 0, 63), (48, .getfield 16, 3, 9, 4, 0), (51, .iload_n 2, 1, 0, 0, 0), (52, .iconst 0, 1, 0, 0, 0), (53, .iastore, 1, 0, 0, 0), (54, .aload_n 0, 1, 0, 0, 63), (55, .getfield 16, 3, 9, 4, 0), (58, .iload 5, 2, 0, 0, 0), (60, .iconst 3, 1, 0, 0, 0), (61, .iastore, 1, 0, 0, 0), (62, .aload_n 0, 1, 0, 0, 0), (63, .invokevirtual 215, 3, 142, 0, 0), (66, .aload_n 0, 1, 0, 0, 0), (67, .getfield 16, 3, 9, 4, 0), (70, .iload 5, 2, 0, 0, 0), (72, .iconst 0, 1, 0, 0, 0), (73, .iastore, 1, 0, 0, 0), (74, .iload_n 2, 1, 0, 0, 0), (75, .iconst (-1), 1, 0, 0, 0), (76, .if_icmp .eq 10, 3, 86, 0, 0), (79, .aload_n 0, 1, 0, 0, 63), (80, .getfield 16, 3, 9, 4, 0), (83, .iload_n 2, 1, 0, 0, 0), (84, .iconst 3, 1, 0, 0, 0), (85, .iastore, 1, 0, 0, 0), (86, .aload_n 0, 1, 0, 0, 63), (87, .getfield 200, 3, 9, 20, 0), (90, .iconst (-1), 1, 0, 0, 0), (91, .if_icmp .ne 8, 3, 99, 0, 0), (94, .bipush 10, 2, 0, 0, 63), (96, .goto 7, 3, 103, 0, 0), (99, .aload_n 0, 1, 0, 0, 63), (100, .getfield 200, 3, 9, 20, 0), (103, .istore 6, 2, 0, 0, 63), (105, .iload 6, 2, 0, 0, 0), (107, .iload 4, 2, 0, 0, 0), (109, .if_icmp .le 8, 3, 117, 0, 0), (112, .iload 5, 2, 0, 0, 119), (114, .goto 4, 3, 118, 0, 0), (117, .iload_n 3, 1, 0, 0, 127), (118, .istore_n 3, 1, 0, 0, 119), (119, .iload 6, 2, 0, 0, 0), (121, .iload 4, 2, 0, 0, 0), (123, .if_icmp .le 8, 3, 131, 0, 0), (126, .iload 6, 2, 0, 0, 111), (128, .goto 5, 3, 133, 0, 0), (131, .iload 4, 2, 0, 0, 63), (133, .istore 4, 2, 0, 0, 47), (135, .iinc 5 1, 3, 0, 0, 63), (138, .goto (-121), 3, 17, 0, 0), (141, .iload_n 1, 1, 0, 0, 26), (142, .ifCond .ne 7, 3, 149, 0, 0), (145, .iload_n 3, 1, 0, 0, 8), (146, .goto 16, 3, 162, 0, 0), (149, .iload 4, 2, 0, 0, 16), (151, .bipush 10, 2, 0, 0, 0), (153, .if_icmp .ne 7, 3, 160, 0, 0), (156, .iconst (-1), 1, 0, 0, 1152921504606846976), (157, .goto 5, 3, 162, 0, 0), (160, .iload 4, 2, 0, 0, 16), (162, .ireturn, 1, 0, 0, 1152921504606846976)]
def xR_X9_layOf : MethodName × ByteArray × Nat × Option FieldType × Nat × Bool × Nat × Nat × Nat × List (Nat × xEnt) := (yX9_layOf, cX9_layOf, 7, (some .int), 9, true, 1, 7, 159, xL_X9_layOf)
def xL_X9_lay : List (Nat × xEnt) := [(0, .iload_n 1, 1, 0, 0, 0), (1, .iconst 0, 1, 0, 0, 0), (2, .iconst 1, 1, 0, 0, 0), (3, .invokestatic 98, 3, 102, 3, 0), (6, .ifCond .eq 11, 3, 17, 0, 0), (9, .aload_n 0, 1, 0, 0, 3), (10, .iload_n 1, 1, 0, 0, 0), (11, .invokevirtual 251, 3, 163, 1, 0), (14, .goto 5, 3, 19, 0, 0), (17, .bipush (-2), 2, 0, 0, 1152921504606846976), (19, .ireturn, 1, 0, 0, 1152921504606846976)]
def xR_X9_lay : MethodName × ByteArray × Nat × Option FieldType × Nat × Bool × Nat × Nat × Nat × List (Nat × xEnt) := (yX9_lay, cX9_lay, 2, (some .int), 9, true, 1, 8, 185, xL_X9_lay)
def xL_X9_doesShorten : List (Nat × xEnt) := [(0, .iconst 0, 1, 0, 0, 0), (1, .istore_n 1, 1, 0, 0, 0), (2, .iconst 0, 1, 0, 0, 0), (3, .istore_n 2, 1, 0, 0, 0), (4, .iload_n 2, 1, 0, 0, 7), (5, .aload_n 0, 1, 0, 0, 0), (6, .getfield 106, 3, 9, 3, 0), (9, .if_icmp .ge 134, 3, 143, 0, 0), (12, .iconst 0, 1, 0, 0, 7), (13, .istore_n 3, 1, 0, 0, 0), (14, .iload_n 3, 1, 0, 0, 15), (15, .iconst 4, 1, 0, 0, 0), (16, .if_icmp .ge 121, 3, 137, 0, 0), (19, .aload_n 0, 1, 0, 0, 15), (20, .iload_n 2, 1, 0, 0, 0), (21, .iload_n 3, 1, 0, 0, 0), (22, .invokevirtual 169, 3, 131, 2, 0), (25, .istore 4, 2, 0, 0, 0), (27, .iload 4, 2, 0, 0, 0), (29, .iconst (-1), 1, 0, 0, 0), (30, .if_icmp .eq 49, 3, 79, 0, 0), (33, .aload_n 0, 1, 0, 0, 31), (34, .getfield 16, 3, 9, 4, 0), (37, .iload 4, 2, 0, 0, 0), (39, .iaload, 1, 0, 0, 0), (40, .ifCond .ne 39, 3, 79, 0, 0), (43, .aload_n 0, 1, 0, 0, 31), (44, .getfield 16, 3, 9, 4, 0), (47, .iload_n 2, 1, 0, 0, 0), (48, .iaload, 1, 0, 0, 0), (49, .ifCond .ne 30, 3, 79, 0, 0), (52, .aload_n 0, 1, 0, 0, 31), (53, .getfield 59, 3, 9, 24, 0), (56, .iload 4, 2, 0, 0, 0), (58, .iaload, 1, 0, 0, 0), (59, .aload_n 0, 1, 0, 0, 0), (60, .getfield 56, 3, 9, 23, 0), (63, .iload_n 2, 1, 0, 0, 0), (64, .iaload, 1, 0, 0, 0), (65, .iadd, 1, 0, 0, 0), (66, .aload_n 0, 1, 0, 0, 0), (67, .getfield 59, 3, 9, 24, 0), (70, .iload_n 2, 1, 0, 0, 0), (71, .iaload, 1, 0, 0, 0), (72, .if_icmp .ge 7, 3, 79, 0, 0), (75, .iconst 1, 1, 0, 0, 31), (76, .goto 4, 3, 80, 0, 0), (79, .iconst 0, 1, 0, 0, 31), (80, .istore 5, 2, 0, 0, 31), (82, .aload_n 0, 1, 0, 0, 0), (83, .getfield 59, 3, 9, 24, 0), (86, .iload_n 2, 1, 0, 0, 0), (87, .iload 5, 2, 0, 0, 0), (89, .ifCond .eq 20, 3, 109, 0, 0), (92, .aload_n 0, 1, 0, 0, 63), (93, .getfield 59, 3, 9, 24, 0), (96, .iload 4, 2, 0, 0, 0), (98, .iaload, 1, 0, 0, 0), (99, .aload_n 0, 1, 0, 0, 0), (100, .getfield 56, 3, 9, 23, 0), (103, .iload_n 2, 1, 0, 0, 0), (104, .iaload, 1, 0, 0, 0), (105, .iadd, 1, 0, 0, 0), (106, .goto 9, 3, 115, 0, 0), (109, .aload_n 0, 1, 0, 0, 47), (110, .getfield 59, 3, 9, 24, 0), (113, .iload_n 2, 1, 0, 0, 0), (114, .iaload, 1, 0, 0, 0), (115, .iastore, 1, 0, 0, 47), (116, .iload_n 1, 1, 0, 0, 0), (117, .ifCond .ne 8, 3, 125, 0, 0), (120, .iload 5, 2, 0, 0, 45), (122, .ifCond .eq 7, 3, 129, 0, 0), (125, .iconst 1, 1, 0, 0, 13), (126, .goto 4, 3, 130, 0, 0), (129, .iconst 0, 1, 0, 0, 13), (130, .istore_n 1, 1, 0, 0, 13), (131, .iinc 3 1, 3, 0, 0, 0), (134, .goto (-120), 3, 14, 0, 0), (137, .iinc 2 1, 3, 0, 0, 7), (140, .goto (-136), 3, 4, 0, 0), (143, .iload_n 1, 1, 0, 0, 2), (144, .ireturn, 1, 0, 0, 0)]
def xR_X9_doesShorten : MethodName × ByteArray × Nat × Option FieldType × Nat × Bool × Nat × Nat × Nat × List (Nat × xEnt) := (yX9_doesShorten, cX9_doesShorten, 6, (some .boolean), 9, true, 0, 2, 45, xL_X9_doesShorten)
def xL_X9_wayOf : List (Nat × xEnt) := [(0, .aload_n 0, 1, 0, 0, 0), (1, .invokevirtual 139, 3, 118, 0, 0), (4, .aload_n 0, 1, 0, 0, 0), (5, .invokevirtual 206, 3, 138, 0, 0), (8, .aload_n 0, 1, 0, 0, 0), (9, .getfield 16, 3, 9, 4, 0), (12, .iload_n 1, 1, 0, 0, 0), (13, .iaload, 1, 0, 0, 0), (14, .ifCond .ne 12, 3, 26, 0, 0), (17, .aload_n 0, 1, 0, 0, 7), (18, .getfield 16, 3, 9, 4, 0), (21, .iload_n 2, 1, 0, 0, 0), (22, .iaload, 1, 0, 0, 0), (23, .ifCond .eq 5, 3, 28, 0, 0), (26, .iconst (-1), 1, 0, 0, 1152921504606846976), (27, .ireturn, 1, 0, 0, 0), (28, .iconst 0, 1, 0, 0, 7), (29, .istore_n 3, 1, 0, 0, 0), (30, .iload_n 3, 1, 0, 0, 15), (31, .aload_n 0, 1, 0, 0, 0), (32, .getfield 106, 3, 9, 3, 0), (35, .if_icmp .ge 48, 3, 83, 0, 0), (38, .aload_n 0, 1, 0, 0, 15), (39, .getfield 56, 3, 9, 23, 0), (42, .iload_n 3, 1, 0, 0, 0), (43, .aload_n 0, 1, 0, 0, 0), (44, .getfield 34, 3, 9, 14, 0), (47, .iload_n 3, 1, 0, 0, 0), (48, .iaload, 1, 0, 0, 0), (49, .bipush 9, 2, 0, 0, 0), (51, .if_icmp .ge 15, 3, 66, 0, 0), (54, .bipush 9, 2, 0, 0, 15), (56, .aload_n 0, 1, 0, 0, 0), (57, .getfield 34, 3, 9, 14, 0), (60, .iload_n 3, 1, 0, 0, 0), (61, .iaload, 1, 0, 0, 0), (62, .isub, 1, 0, 0, 0), (63, .goto 4, 3, 67, 0, 0), (66, .iconst 0, 1, 0, 0, 15), (67, .iastore, 1, 0, 0, 15), (68, .aload_n 0, 1, 0, 0, 0), (69, .getfield 59, 3, 9, 24, 0), (72, .iload_n 3, 1, 0, 0, 0), (73, .sipush 999, 3, 0, 0, 0), (76, .iastore, 1, 0, 0, 0), (77, .iinc 3 1, 3, 0, 0, 0), (80, .goto (-50), 3, 30, 0, 0), (83, .aload_n 0, 1, 0, 0, 7), (84, .getfield 59, 3, 9, 24, 0), (87, .iload_n 1, 1, 0, 0, 0), (88, .aload_n 0, 1, 0, 0, 0), (89, .getfield 56, 3, 9, 23, 0), (92, .iload_n 1, 1, 0, 0, 0), (93, .iaload, 1, 0, 0, 0), (94, .iastore, 1, 0, 0, 0), (95, .iconst 1, 1, 0, 0, 0), (96, .istore_n 3, 1, 0, 0, 0), (97, .iload_n 3, 1, 0, 0, 13), (98, .ifCond .eq 11, 3, 109, 0, 0), (101, .aload_n 0, 1, 0, 0, 5), (102, .invokevirtual 254, 3, 165, 0, 0), (105, .istore_n 3, 1, 0, 0, 0), (106, .goto (-9), 3, 97, 0, 0), (109, .aload_n 0, 1, 0, 0, 5), (110, .getfield 59, 3, 9, 24, 0), (113, .iload_n 2, 1, 0, 0, 0), (114, .iaload, 1, 0, 0, 0), (115, .sipush 999, 3, 0, 0, 0), (118, .if_icmp .ne 7, 3, 125, 0, 0), (121, .iconst (-1), 1, 0, 0, 1152921504606846976), (122, .goto 9, 3, 131, 0, 0), (125, .aload_n 0, 1, 0, 0, 5), (126, .getfield 59, 3, 9, 24, 0), (129, .iload_n 2, 1, 0, 0, 0), (130, .iaload, 1, 0, 0, 0), (131, .ireturn, 1, 0, 0, 1152921504606846976)]
def xR_X9_wayOf : MethodName × ByteArray × Nat × Option FieldType × Nat × Bool × Nat × Nat × Nat × List (Nat × xEnt) := (yX9_wayOf, cX9_wayOf, 4, (some .int), 9, true, 2, 6, 139, xL_X9_wayOf)
def xL_X9_way : List (Nat × xEnt) := [(0, .aload_n 0, 1, 0, 0, 0), (1, .iload_n 1, 1, 0, 0, 0), (2, .invokevirtual 142, 3, 120, 1, 0), (5, .ifCond .eq 20, 3, 25, 0, 0), (8, .aload_n 0, 1, 0, 0, 7), (9, .iload_n 2, 1, 0, 0, 0), (10, .invokevirtual 142, 3, 120, 1, 0), (13, .ifCond .eq 12, 3, 25, 0, 0), (16, .aload_n 0, 1, 0, 0, 7), (17, .iload_n 1, 1, 0, 0, 0), (18, .iload_n 2, 1, 0, 0, 0), (19, .invokevirtual 257, 3, 166, 2, 0), (22, .goto 5, 3, 27, 0, 0), (25, .bipush (-2), 2, 0, 0, 1152921504606846976), (27, .ireturn, 1, 0, 0, 1152921504606846976)]
def xR_X9_way : MethodName × ByteArray × Nat × Option FieldType × Nat × Bool × Nat × Nat × Nat × List (Nat × xEnt) := (yX9_way, cX9_way, 3, (some .int), 9, true, 2, 7, 162, xL_X9_way)
def xL_X9_listened : List (Nat × xEnt) := [(0, .iload_n 1, 1, 0, 0, 0), (1, .invokestatic 154, 3, 107, 1, 0), (4, .ifCond .eq 13, 3, 17, 0, 0), (7, .iload_n 2, 1, 0, 0, 7), (8, .iconst 0, 1, 0, 0, 0), (9, .bipush 99, 2, 0, 0, 0), (11, .invokestatic 98, 3, 102, 3, 0), (14, .ifCond .ne 6, 3, 20, 0, 0), (17, .bipush (-2), 2, 0, 0, 1152921504606846976), (19, .ireturn, 1, 0, 0, 0), (20, .aload_n 0, 1, 0, 0, 7), (21, .getfield 260, 3, 9, 25, 0), (24, .bipush 8, 2, 0, 0, 0), (26, .if_icmp .ne 6, 3, 32, 0, 0), (29, .bipush (-4), 2, 0, 0, 1152921504606846976), (31, .ireturn, 1, 0, 0, 0), (32, .aload_n 0, 1, 0, 0, 7), (33, .getfield 62, 3, 9, 26, 0), (36, .aload_n 0, 1, 0, 0, 0), (37, .getfield 260, 3, 9, 25, 0), (40, .iload_n 1, 1, 0, 0, 0), (41, .iastore, 1, 0, 0, 0), (42, .aload_n 0, 1, 0, 0, 0), (43, .getfield 65, 3, 9, 27, 0), (46, .aload_n 0, 1, 0, 0, 0), (47, .getfield 260, 3, 9, 25, 0), (50, .iload_n 2, 1, 0, 0, 0), (51, .iastore, 1, 0, 0, 0), (52, .aload_n 0, 1, 0, 0, 0), (53, .dup, 1, 0, 0, 0), (54, .getfield 260, 3, 9, 25, 0), (57, .iconst 1, 1, 0, 0, 0), (58, .iadd, 1, 0, 0, 0), (59, .putfield 260, 3, 9, 25, 0), (62, .aload_n 0, 1, 0, 0, 0), (63, .getfield 260, 3, 9, 25, 0), (66, .ireturn, 1, 0, 0, 0)]
def xR_X9_listened : MethodName × ByteArray × Nat × Option FieldType × Nat × Bool × Nat × Nat × Nat × List (Nat × xEnt) := (yX9_listened, cX9_listened, 3, (some .int), 9, true, 2, 2, 42, xL_X9_listened)
def xL_X9_forget : List (Nat × xEnt) := [(0, .aload_n 0, 1, 0, 0, 0), (1, .getfield 260, 3, 9, 25, 0), (4, .istore_n 1, 1, 0, 0, 0), (5, .aload_n 0, 1, 0, 0, 0), (6, .iconst 0, 1, 0, 0, 0), (7, .putfield 260, 3, 9, 25, 0), (10, .iload_n 1, 1, 0, 0, 0), (11, .ireturn, 1, 0, 0, 0)]
def xR_X9_forget : MethodName × ByteArray × Nat × Option FieldType × Nat × Bool × Nat × Nat × Nat × List (Nat × xEnt) := (yX9_forget, cX9_forget, 2, (some .int), 9, true, 0, 0, 0, xL_X9_forget)
def xL_X9_isListened : List (Nat × xEnt) := [(0, .aload_n 0, 1, 0, 0, 0), (1, .invokevirtual 209, 3, 141, 0, 0), (4, .iconst 1, 1, 0, 0, 0), (5, .istore_n 1, 1, 0, 0, 0), (6, .iconst 0, 1, 0, 0, 0), (7, .istore_n 2, 1, 0, 0, 0), (8, .iload_n 2, 1, 0, 0, 7), (9, .aload_n 0, 1, 0, 0, 0), (10, .getfield 260, 3, 9, 25, 0), (13, .if_icmp .ge 39, 3, 52, 0, 0), (16, .iload_n 1, 1, 0, 0, 7), (17, .ifCond .eq 35, 3, 52, 0, 0), (20, .aload_n 0, 1, 0, 0, 5), (21, .getfield 43, 3, 9, 18, 0), (24, .aload_n 0, 1, 0, 0, 0), (25, .getfield 62, 3, 9, 26, 0), (28, .iload_n 2, 1, 0, 0, 0), (29, .iaload, 1, 0, 0, 0), (30, .iaload, 1, 0, 0, 0), (31, .aload_n 0, 1, 0, 0, 0), (32, .getfield 65, 3, 9, 27, 0), (35, .iload_n 2, 1, 0, 0, 0), (36, .iaload, 1, 0, 0, 0), (37, .if_icmp .ne 7, 3, 44, 0, 0), (40, .iconst 1, 1, 0, 0, 5), (41, .goto 4, 3, 45, 0, 0), (44, .iconst 0, 1, 0, 0, 5), (45, .istore_n 1, 1, 0, 0, 5), (46, .iinc 2 1, 3, 0, 0, 0), (49, .goto (-41), 3, 8, 0, 0), (52, .iload_n 1, 1, 0, 0, 2), (53, .ireturn, 1, 0, 0, 0)]
def xR_X9_isListened : MethodName × ByteArray × Nat × Option FieldType × Nat × Bool × Nat × Nat × Nat × List (Nat × xEnt) := (yX9_isListened, cX9_isListened, 3, (some .boolean), 9, true, 0, 3, 68, xL_X9_isListened)
def xL_X9_neverNow : List (Nat × xEnt) := [(0, .aload_n 0, 1, 0, 0, 0), (1, .invokevirtual 212, 3, 143, 0, 0), (4, .aload_n 0, 1, 0, 0, 0), (5, .invokevirtual 206, 3, 138, 0, 0), (8, .iconst 0, 1, 0, 0, 0), (9, .istore_n 1, 1, 0, 0, 0), (10, .iconst 0, 1, 0, 0, 0), (11, .istore_n 2, 1, 0, 0, 0), (12, .iload_n 2, 1, 0, 0, 7), (13, .aload_n 0, 1, 0, 0, 0), (14, .getfield 123, 3, 9, 5, 0), (17, .if_icmp .ge 33, 3, 50, 0, 0), (20, .aload_n 0, 1, 0, 0, 7), (21, .iconst 1, 1, 0, 0, 0), (22, .iload_n 2, 1, 0, 0, 0), (23, .ishl, 1, 0, 0, 0), (24, .putfield 190, 3, 9, 15, 0), (27, .iload_n 1, 1, 0, 0, 0), (28, .aload_n 0, 1, 0, 0, 0), (29, .invokevirtual 263, 3, 170, 0, 0), (32, .ifCond .eq 9, 3, 41, 0, 0), (35, .iconst 1, 1, 0, 0, 5), (36, .iload_n 2, 1, 0, 0, 0), (37, .ishl, 1, 0, 0, 0), (38, .goto 4, 3, 42, 0, 0), (41, .iconst 0, 1, 0, 0, 5), (42, .ior, 1, 0, 0, 5), (43, .istore_n 1, 1, 0, 0, 0), (44, .iinc 2 1, 3, 0, 0, 0), (47, .goto (-35), 3, 12, 0, 0), (50, .iload_n 1, 1, 0, 0, 2), (51, .ireturn, 1, 0, 0, 0)]
def xR_X9_neverNow : MethodName × ByteArray × Nat × Option FieldType × Nat × Bool × Nat × Nat × Nat × List (Nat × xEnt) := (yX9_neverNow, cX9_neverNow, 3, (some .int), 9, true, 0, 7, 159, xL_X9_neverNow)
def xL_X9_never : List (Nat × xEnt) := [(0, .aload_n 0, 1, 0, 0, 0), (1, .invokevirtual 266, 3, 171, 0, 0), (4, .ireturn, 1, 0, 0, 0)]
def xR_X9_never : MethodName × ByteArray × Nat × Option FieldType × Nat × Bool × Nat × Nat × Nat × List (Nat × xEnt) := (yX9_never, cX9_never, 1, (some .int), 9, true, 0, 8, 181, xL_X9_never)
def xL_X9_whences : List (Nat × xEnt) := [(0, .aload_n 0, 1, 0, 0, 0), (1, .invokevirtual 212, 3, 143, 0, 0), (4, .aload_n 0, 1, 0, 0, 0), (5, .invokevirtual 206, 3, 138, 0, 0), (8, .aload_n 0, 1, 0, 0, 0), (9, .getfield 19, 3, 9, 6, 0), (12, .iload_n 1, 1, 0, 0, 0), (13, .iaload, 1, 0, 0, 0), (14, .istore_n 2, 1, 0, 0, 0), (15, .iconst 0, 1, 0, 0, 0), (16, .istore_n 3, 1, 0, 0, 0), (17, .iconst 0, 1, 0, 0, 0), (18, .istore 4, 2, 0, 0, 0), (20, .iload 4, 2, 0, 0, 31), (22, .aload_n 0, 1, 0, 0, 0), (23, .getfield 106, 3, 9, 3, 0), (26, .if_icmp .ge 82, 3, 108, 0, 0), (29, .aload_n 0, 1, 0, 0, 31), (30, .getfield 19, 3, 9, 6, 0), (33, .iload_n 1, 1, 0, 0, 0), (34, .iload 4, 2, 0, 0, 0), (36, .iastore, 1, 0, 0, 0), (37, .aload_n 0, 1, 0, 0, 0), (38, .getfield 68, 3, 9, 28, 0), (41, .iload 4, 2, 0, 0, 0), (43, .aload_n 0, 1, 0, 0, 0), (44, .invokevirtual 263, 3, 170, 0, 0), (47, .bastore, 1, 0, 0, 0), (48, .iload_n 3, 1, 0, 0, 0), (49, .aload_n 0, 1, 0, 0, 0), (50, .getfield 68, 3, 9, 28, 0), (53, .iload 4, 2, 0, 0, 0), (55, .baload, 1, 0, 0, 0), (56, .ifCond .eq 7, 3, 63, 0, 0), (59, .iconst 1, 1, 0, 0, 23), (60, .goto 4, 3, 64, 0, 0), (63, .iconst 0, 1, 0, 0, 23), (64, .iadd, 1, 0, 0, 23), (65, .istore_n 3, 1, 0, 0, 0), (66, .iconst 0, 1, 0, 0, 0), (67, .istore 5, 2, 0, 0, 0), (69, .iload 5, 2, 0, 0, 63), (71, .bipush 10, 2, 0, 0, 0), (73, .if_icmp .ge 29, 3, 102, 0, 0), (76, .aload_n 0, 1, 0, 0, 63), (77, .getfield 71, 3, 9, 29, 0), (80, .bipush 10, 2, 0, 0, 0), (82, .iload 4, 2, 0, 0, 0), (84, .imul, 1, 0, 0, 0), (85, .iload 5, 2, 0, 0, 0), (87, .iadd, 1, 0, 0, 0), (88, .aload_n 0, 1, 0, 0, 0), (89, .getfield 43, 3, 9, 18, 0), (92, .iload 5, 2, 0, 0, 0), (94, .iaload, 1, 0, 0, 0), (95, .iastore, 1, 0, 0, 0), (96, .iinc 5 1, 3, 0, 0, 0), (99, .goto (-30), 3, 69, 0, 0), (102, .iinc 4 1, 3, 0, 0, 31), (105, .goto (-85), 3, 20, 0, 0), (108, .aload_n 0, 1, 0, 0, 15), (109, .getfield 19, 3, 9, 6, 0), (112, .iload_n 1, 1, 0, 0, 0), (113, .iload_n 2, 1, 0, 0, 0), (114, .iastore, 1, 0, 0, 0), (115, .iload_n 3, 1, 0, 0, 0), (116, .ireturn, 1, 0, 0, 0)]
def xR_X9_whences : MethodName × ByteArray × Nat × Option FieldType × Nat × Bool × Nat × Nat × Nat × List (Nat × xEnt) := (yX9_whences, cX9_whences, 6, (some .int), 9, true, 1, 7, 159, xL_X9_whences)
def xL_X9_whenceOf : List (Nat × xEnt) := [(0, .aload_n 0, 1, 0, 0, 0), (1, .iload_n 1, 1, 0, 0, 0), (2, .invokevirtual 269, 3, 173, 1, 0), (5, .istore_n 3, 1, 0, 0, 0), (6, .iload_n 2, 1, 0, 0, 0), (7, .iconst (-1), 1, 0, 0, 0), (8, .if_icmp .ne 5, 3, 13, 0, 0), (11, .iload_n 3, 1, 0, 0, 8), (12, .ireturn, 1, 0, 0, 0), (13, .iload_n 2, 1, 0, 0, 5), (14, .istore 4, 2, 0, 0, 0), (16, .iconst 0, 1, 0, 0, 0), (17, .istore 5, 2, 0, 0, 0), (19, .iload 5, 2, 0, 0, 49), (21, .aload_n 0, 1, 0, 0, 0), (22, .getfield 106, 3, 9, 3, 0), (25, .if_icmp .ge 47, 3, 72, 0, 0), (28, .aload_n 0, 1, 0, 0, 49), (29, .getfield 68, 3, 9, 28, 0), (32, .iload 5, 2, 0, 0, 0), (34, .baload, 1, 0, 0, 0), (35, .ifCond .eq 11, 3, 46, 0, 0), (38, .iload 4, 2, 0, 0, 49), (40, .ifCond .ne 6, 3, 46, 0, 0), (43, .iload 5, 2, 0, 0, 32), (45, .ireturn, 1, 0, 0, 0), (46, .iload 4, 2, 0, 0, 49), (48, .aload_n 0, 1, 0, 0, 0), (49, .getfield 68, 3, 9, 28, 0), (52, .iload 5, 2, 0, 0, 0), (54, .baload, 1, 0, 0, 0), (55, .ifCond .eq 7, 3, 62, 0, 0), (58, .iconst 1, 1, 0, 0, 33), (59, .goto 4, 3, 63, 0, 0), (62, .iconst 0, 1, 0, 0, 33), (63, .isub, 1, 0, 0, 33), (64, .istore 4, 2, 0, 0, 0), (66, .iinc 5 1, 3, 0, 0, 0), (69, .goto (-50), 3, 19, 0, 0), (72, .iconst (-1), 1, 0, 0, 1152921504606846976), (73, .ireturn, 1, 0, 0, 0)]
def xR_X9_whenceOf : MethodName × ByteArray × Nat × Option FieldType × Nat × Bool × Nat × Nat × Nat × List (Nat × xEnt) := (yX9_whenceOf, cX9_whenceOf, 6, (some .int), 9, true, 2, 8, 184, xL_X9_whenceOf)
def xL_X9_whence : List (Nat × xEnt) := [(0, .aload_n 0, 1, 0, 0, 0), (1, .iload_n 1, 1, 0, 0, 0), (2, .invokevirtual 148, 3, 121, 1, 0), (5, .ifCond .eq 22, 3, 27, 0, 0), (8, .iload_n 2, 1, 0, 0, 7), (9, .iconst (-1), 1, 0, 0, 0), (10, .bipush 35, 2, 0, 0, 0), (12, .invokestatic 98, 3, 102, 3, 0), (15, .ifCond .eq 12, 3, 27, 0, 0), (18, .aload_n 0, 1, 0, 0, 7), (19, .iload_n 1, 1, 0, 0, 0), (20, .iload_n 2, 1, 0, 0, 0), (21, .invokevirtual 272, 3, 174, 2, 0), (24, .goto 5, 3, 29, 0, 0), (27, .bipush (-2), 2, 0, 0, 1152921504606846976), (29, .ireturn, 1, 0, 0, 1152921504606846976)]
def xR_X9_whence : MethodName × ByteArray × Nat × Option FieldType × Nat × Bool × Nat × Nat × Nat × List (Nat × xEnt) := (yX9_whence, cX9_whence, 3, (some .int), 9, true, 2, 9, 209, xL_X9_whence)
def xL_X9_whatOf : List (Nat × xEnt) := [(0, .aload_n 0, 1, 0, 0, 0), (1, .invokevirtual 212, 3, 143, 0, 0), (4, .aload_n 0, 1, 0, 0, 0), (5, .invokevirtual 206, 3, 138, 0, 0), (8, .aload_n 0, 1, 0, 0, 0), (9, .getfield 22, 3, 9, 7, 0), (12, .iload_n 1, 1, 0, 0, 0), (13, .iaload, 1, 0, 0, 0), (14, .istore_n 2, 1, 0, 0, 0), (15, .iconst 0, 1, 0, 0, 0), (16, .istore_n 3, 1, 0, 0, 0), (17, .iconst 0, 1, 0, 0, 0), (18, .istore 4, 2, 0, 0, 0), (20, .iload 4, 2, 0, 0, 31), (22, .iconst 4, 1, 0, 0, 0), (23, .if_icmp .ge 35, 3, 58, 0, 0), (26, .aload_n 0, 1, 0, 0, 31), (27, .getfield 22, 3, 9, 7, 0), (30, .iload_n 1, 1, 0, 0, 0), (31, .iload 4, 2, 0, 0, 0), (33, .iastore, 1, 0, 0, 0), (34, .iload_n 3, 1, 0, 0, 0), (35, .aload_n 0, 1, 0, 0, 0), (36, .invokevirtual 263, 3, 170, 0, 0), (39, .ifCond .eq 10, 3, 49, 0, 0), (42, .iconst 1, 1, 0, 0, 23), (43, .iload 4, 2, 0, 0, 0), (45, .ishl, 1, 0, 0, 0), (46, .goto 4, 3, 50, 0, 0), (49, .iconst 0, 1, 0, 0, 23), (50, .ior, 1, 0, 0, 23), (51, .istore_n 3, 1, 0, 0, 0), (52, .iinc 4 1, 3, 0, 0, 0), (55, .goto (-35), 3, 20, 0, 0), (58, .aload_n 0, 1, 0, 0, 15), (59, .getfield 22, 3, 9, 7, 0), (62, .iload_n 1, 1, 0, 0, 0), (63, .iload_n 2, 1, 0, 0, 0), (64, .iastore, 1, 0, 0, 0), (65, .iload_n 3, 1, 0, 0, 0), (66, .ireturn, 1, 0, 0, 0)]
def xR_X9_whatOf : MethodName × ByteArray × Nat × Option FieldType × Nat × Bool × Nat × Nat × Nat × List (Nat × xEnt) := (yX9_whatOf, cX9_whatOf, 5, (some .int), 9, true, 1, 7, 159, xL_X9_whatOf)
def xL_X9_what : List (Nat × xEnt) := [(0, .aload_n 0, 1, 0, 0, 0), (1, .iload_n 1, 1, 0, 0, 0), (2, .invokevirtual 148, 3, 121, 1, 0), (5, .ifCond .eq 11, 3, 16, 0, 0), (8, .aload_n 0, 1, 0, 0, 3), (9, .iload_n 1, 1, 0, 0, 0), (10, .invokevirtual 275, 3, 176, 1, 0), (13, .goto 5, 3, 18, 0, 0), (16, .bipush (-2), 2, 0, 0, 1152921504606846976), (18, .ireturn, 1, 0, 0, 1152921504606846976)]
def xR_X9_what : MethodName × ByteArray × Nat × Option FieldType × Nat × Bool × Nat × Nat × Nat × List (Nat × xEnt) := (yX9_what, cX9_what, 2, (some .int), 9, true, 1, 8, 183, xL_X9_what)
def xL_X9_askOf : List (Nat × xEnt) := [(0, .aload_n 0, 1, 0, 0, 0), (1, .iload_n 1, 1, 0, 0, 0), (2, .invokevirtual 269, 3, 173, 1, 0), (5, .istore_n 2, 1, 0, 0, 0), (6, .iconst (-1), 1, 0, 0, 0), (7, .istore_n 3, 1, 0, 0, 0), (8, .iconst 0, 1, 0, 0, 0), (9, .istore 4, 2, 0, 0, 0), (11, .iconst 0, 1, 0, 0, 0), (12, .istore 5, 2, 0, 0, 0), (14, .iload 5, 2, 0, 0, 57), (16, .bipush 10, 2, 0, 0, 0), (18, .if_icmp .ge 171, 3, 189, 0, 0), (21, .iconst 0, 1, 0, 0, 57), (22, .istore 6, 2, 0, 0, 0), (24, .iconst 0, 1, 0, 0, 0), (25, .istore 7, 2, 0, 0, 0), (27, .iload 7, 2, 0, 0, 249), (29, .aload_n 0, 1, 0, 0, 0), (30, .getfield 106, 3, 9, 3, 0), (33, .if_icmp .ge 105, 3, 138, 0, 0), (36, .iconst 0, 1, 0, 0, 249), (37, .istore 8, 2, 0, 0, 0), (39, .iconst 0, 1, 0, 0, 0), (40, .istore 9, 2, 0, 0, 0), (42, .iload 9, 2, 0, 0, 1017), (44, .aload_n 0, 1, 0, 0, 0), (45, .getfield 106, 3, 9, 3, 0), (48, .if_icmp .ge 68, 3, 116, 0, 0), (51, .iload 8, 2, 0, 0, 1017), (53, .aload_n 0, 1, 0, 0, 0), (54, .getfield 68, 3, 9, 28, 0), (57, .iload 7, 2, 0, 0, 0), (59, .baload, 1, 0, 0, 0), (60, .ifCond .eq 46, 3, 106, 0, 0), (63, .aload_n 0, 1, 0, 0, 761), (64, .getfield 68, 3, 9, 28, 0), (67, .iload 9, 2, 0, 0, 0), (69, .baload, 1, 0, 0, 0), (70, .ifCond .eq 36, 3, 106, 0, 0), (73, .aload_n 0, 1, 0, 0, 761), (74, .getfield 71, 3, 9, 29, 0), (77, .bipush 10, 2, 0, 0, 0), (79, .iload 7, 2, 0, 0, 0), (81, .imul, 1, 0, 0, 0), (82, .iload 5, 2, 0, 0, 0), (84, .iadd, 1, 0, 0, 0), (85, .iaload, 1, 0, 0, 0), (86, .aload_n 0, 1, 0, 0, 0), (87, .getfield 71, 3, 9, 29, 0), (90, .bipush 10, 2, 0, 0, 0), (92, .iload 9, 2, 0, 0, 0), (94, .imul, 1, 0, 0, 0), (95, .iload 5, 2, 0, 0, 0), (97, .iadd, 1, 0, 0, 0), (98, .iaload, 1, 0, 0, 0), (99, .if_icmp .ne 7, 3, 106, 0, 0), (102, .iconst 1, 1, 0, 0, 761), (103, .goto 4, 3, 107, 0, 0), (106, .iconst 0, 1, 0, 0, 761), (107, .iadd, 1, 0, 0, 761), (108, .istore 8, 2, 0, 0, 0), (110, .iinc 9 1, 3, 0, 0, 0), (113, .goto (-71), 3, 42, 0, 0), (116, .iload 8, 2, 0, 0, 505), (118, .iload 6, 2, 0, 0, 0), (120, .if_icmp .le 8, 3, 128, 0, 0), (123, .iload 8, 2, 0, 0, 441), (125, .goto 5, 3, 130, 0, 0), (128, .iload 6, 2, 0, 0, 249), (130, .istore 6, 2, 0, 0, 185), (132, .iinc 7 1, 3, 0, 0, 0), (135, .goto (-108), 3, 27, 0, 0), (138, .iload_n 3, 1, 0, 0, 121), (139, .iconst (-1), 1, 0, 0, 0), (140, .if_icmp .eq 10, 3, 150, 0, 0), (143, .iload 6, 2, 0, 0, 121), (145, .iload 4, 2, 0, 0, 0), (147, .if_icmp .ge 7, 3, 154, 0, 0), (150, .iconst 1, 1, 0, 0, 121), (151, .goto 4, 3, 155, 0, 0), (154, .iconst 0, 1, 0, 0, 121), (155, .istore 7, 2, 0, 0, 121), (157, .iload 7, 2, 0, 0, 0), (159, .ifCond .eq 8, 3, 167, 0, 0), (162, .iload 5, 2, 0, 0, 241), (164, .goto 4, 3, 168, 0, 0), (167, .iload_n 3, 1, 0, 0, 249), (168, .istore_n 3, 1, 0, 0, 241), (169, .iload 7, 2, 0, 0, 0), (171, .ifCond .eq 8, 3, 179, 0, 0), (174, .iload 6, 2, 0, 0, 105), (176, .goto 5, 3, 181, 0, 0), (179, .iload 4, 2, 0, 0, 57), (181, .istore 4, 2, 0, 0, 41), (183, .iinc 5 1, 3, 0, 0, 0), (186, .goto (-172), 3, 14, 0, 0), (189, .iload_n 3, 1, 0, 0, 8), (190, .ireturn, 1, 0, 0, 0)]
def xR_X9_askOf : MethodName × ByteArray × Nat × Option FieldType × Nat × Bool × Nat × Nat × Nat × List (Nat × xEnt) := (yX9_askOf, cX9_askOf, 10, (some .int), 9, true, 1, 8, 184, xL_X9_askOf)
def xL_X9_ask : List (Nat × xEnt) := [(0, .aload_n 0, 1, 0, 0, 0), (1, .iload_n 1, 1, 0, 0, 0), (2, .invokevirtual 148, 3, 121, 1, 0), (5, .ifCond .eq 11, 3, 16, 0, 0), (8, .aload_n 0, 1, 0, 0, 3), (9, .iload_n 1, 1, 0, 0, 0), (10, .invokevirtual 278, 3, 178, 1, 0), (13, .goto 5, 3, 18, 0, 0), (16, .bipush (-2), 2, 0, 0, 1152921504606846976), (18, .ireturn, 1, 0, 0, 1152921504606846976)]
def xR_X9_ask : MethodName × ByteArray × Nat × Option FieldType × Nat × Bool × Nat × Nat × Nat × List (Nat × xEnt) := (yX9_ask, cX9_ask, 2, (some .int), 9, true, 1, 9, 213, xL_X9_ask)
def xL_X9_sleepsBy : List (Nat × xEnt) := [(0, .aload_n 0, 1, 0, 0, 0), (1, .invokevirtual 212, 3, 143, 0, 0), (4, .aload_n 0, 1, 0, 0, 0), (5, .invokevirtual 206, 3, 138, 0, 0), (8, .lconst 0, 1, 0, 0, 0), (9, .lstore_n 3, 1, 0, 0, 0), (10, .iconst 0, 1, 0, 0, 0), (11, .istore 5, 2, 0, 0, 0), (13, .iload 5, 2, 0, 0, 47), (15, .iconst 1, 1, 0, 0, 0), (16, .aload_n 0, 1, 0, 0, 0), (17, .getfield 123, 3, 9, 5, 0), (20, .ishl, 1, 0, 0, 0), (21, .if_icmp .ge 82, 3, 103, 0, 0), (24, .lconst 1, 1, 0, 0, 47), (25, .lstore 6, 2, 0, 0, 0), (27, .iconst 0, 1, 0, 0, 0), (28, .istore 8, 2, 0, 0, 0), (30, .iload 8, 2, 0, 0, 367), (32, .aload_n 0, 1, 0, 0, 0), (33, .getfield 123, 3, 9, 5, 0), (36, .if_icmp .ge 34, 3, 70, 0, 0), (39, .lload 6, 2, 0, 0, 367), (41, .iload 5, 2, 0, 0, 0), (43, .iload 8, 2, 0, 0, 0), (45, .invokestatic 193, 3, 103, 2, 0), (48, .ifCond .eq 11, 3, 59, 0, 0), (51, .bipush 16, 2, 0, 0, 303), (53, .iload_n 1, 1, 0, 0, 0), (54, .isub, 1, 0, 0, 0), (55, .i2l, 1, 0, 0, 0), (56, .goto 5, 3, 61, 0, 0), (59, .iload_n 1, 1, 0, 0, 303), (60, .i2l, 1, 0, 0, 0), (61, .lmul, 1, 0, 0, 303), (62, .lstore 6, 2, 0, 0, 0), (64, .iinc 8 1, 3, 0, 0, 0), (67, .goto (-37), 3, 30, 0, 0), (70, .aload_n 0, 1, 0, 0, 111), (71, .iload 5, 2, 0, 0, 0), (73, .putfield 190, 3, 9, 15, 0), (76, .aload_n 0, 1, 0, 0, 0), (77, .invokevirtual 209, 3, 141, 0, 0), (80, .lload_n 3, 1, 0, 0, 0), (81, .aload_n 0, 1, 0, 0, 0), (82, .getfield 200, 3, 9, 20, 0), (85, .iconst (-1), 1, 0, 0, 0), (86, .if_icmp .ne 8, 3, 94, 0, 0), (89, .lload 6, 2, 0, 0, 103), (91, .goto 4, 3, 95, 0, 0), (94, .lconst 0, 1, 0, 0, 39), (95, .ladd, 1, 0, 0, 39), (96, .lstore_n 3, 1, 0, 0, 0), (97, .iinc 5 1, 3, 0, 0, 0), (100, .goto (-87), 3, 13, 0, 0), (103, .lload_n 3, 1, 0, 0, 13), (104, .lconst 1, 1, 0, 0, 0), (105, .iconst 4, 1, 0, 0, 0), (106, .aload_n 0, 1, 0, 0, 0), (107, .getfield 123, 3, 9, 5, 0), (110, .imul, 1, 0, 0, 0), (111, .lshl, 1, 0, 0, 0), (112, .iload_n 2, 1, 0, 0, 0), (113, .invokestatic 281, 3, 105, 3, 0), (116, .lreturn, 1, 0, 0, 0)]
def xR_X9_sleepsBy : MethodName × ByteArray × Nat × Option FieldType × Nat × Bool × Nat × Nat × Nat × List (Nat × xEnt) := (yX9_sleepsBy, cX9_sleepsBy, 9, (some .long), 9, true, 2, 7, 159, xL_X9_sleepsBy)
def xL_X9_sleeps : List (Nat × xEnt) := [(0, .iload_n 1, 1, 0, 0, 0), (1, .iconst 0, 1, 0, 0, 0), (2, .bipush 16, 2, 0, 0, 0), (4, .invokestatic 98, 3, 102, 3, 0), (7, .ifCond .eq 21, 3, 28, 0, 0), (10, .iload_n 2, 1, 0, 0, 7), (11, .iconst 0, 1, 0, 0, 0), (12, .iconst 1, 1, 0, 0, 0), (13, .invokestatic 98, 3, 102, 3, 0), (16, .ifCond .eq 12, 3, 28, 0, 0), (19, .aload_n 0, 1, 0, 0, 7), (20, .iload_n 1, 1, 0, 0, 0), (21, .iload_n 2, 1, 0, 0, 0), (22, .invokevirtual 285, 3, 180, 2, 0), (25, .goto 8, 3, 33, 0, 0), (28, .bipush (-2), 2, 0, 0, 1152921504606846976), (30, .invokestatic 289, 3, 104, 1, 0), (33, .lreturn, 1, 0, 0, 1152921504606846976)]
def xR_X9_sleeps : MethodName × ByteArray × Nat × Option FieldType × Nat × Bool × Nat × Nat × Nat × List (Nat × xEnt) := (yX9_sleeps, cX9_sleeps, 3, (some .long), 9, true, 2, 8, 187, xL_X9_sleeps)
def xL_X9_exiledMany : List (Nat × xEnt) := [(0, .iconst 0, 1, 0, 0, 0), (1, .istore_n 1, 1, 0, 0, 0), (2, .iconst 0, 1, 0, 0, 0), (3, .istore_n 2, 1, 0, 0, 0), (4, .iload_n 2, 1, 0, 0, 7), (5, .aload_n 0, 1, 0, 0, 0), (6, .getfield 106, 3, 9, 3, 0), (9, .if_icmp .ge 26, 3, 35, 0, 0), (12, .iload_n 1, 1, 0, 0, 7), (13, .aload_n 0, 1, 0, 0, 0), (14, .getfield 49, 3, 9, 21, 0), (17, .iload_n 2, 1, 0, 0, 0), (18, .baload, 1, 0, 0, 0), (19, .ifCond .eq 7, 3, 26, 0, 0), (22, .iconst 1, 1, 0, 0, 5), (23, .goto 4, 3, 27, 0, 0), (26, .iconst 0, 1, 0, 0, 5), (27, .iadd, 1, 0, 0, 5), (28, .istore_n 1, 1, 0, 0, 0), (29, .iinc 2 1, 3, 0, 0, 0), (32, .goto (-28), 3, 4, 0, 0), (35, .iload_n 1, 1, 0, 0, 2), (36, .ireturn, 1, 0, 0, 0)]
def xR_X9_exiledMany : MethodName × ByteArray × Nat × Option FieldType × Nat × Bool × Nat × Nat × Nat × List (Nat × xEnt) := (yX9_exiledMany, cX9_exiledMany, 3, (some .int), 9, true, 0, 0, 0, xL_X9_exiledMany)
def xL_X9_dayOf : List (Nat × xEnt) := [(0, .aload_n 0, 1, 0, 0, 0), (1, .invokevirtual 212, 3, 143, 0, 0), (4, .iload_n 1, 1, 0, 0, 0), (5, .istore 4, 2, 0, 0, 0), (7, .aload_n 0, 1, 0, 0, 0), (8, .aload_n 0, 1, 0, 0, 0), (9, .getfield 106, 3, 9, 3, 0), (12, .ifCond .ne 7, 3, 19, 0, 0), (15, .iconst 0, 1, 0, 0, 25), (16, .goto 4, 3, 20, 0, 0), (19, .iload_n 2, 1, 0, 0, 29), (20, .putfield 123, 3, 9, 5, 25), (23, .iconst 0, 1, 0, 0, 0), (24, .istore 5, 2, 0, 0, 0), (26, .iload 5, 2, 0, 0, 57), (28, .aload_n 0, 1, 0, 0, 0), (29, .getfield 123, 3, 9, 5, 0), (32, .if_icmp .ge 91, 3, 123, 0, 0), (35, .ldc_w 293, 3, 5, 0, 57), (38, .iload 4, 2, 0, 0, 0), (40, .imul, 1, 0, 0, 0), (41, .sipush 12345, 3, 0, 0, 0), (44, .iadd, 1, 0, 0, 0), (45, .istore 4, 2, 0, 0, 0), (47, .aload_n 0, 1, 0, 0, 0), (48, .getfield 19, 3, 9, 6, 0), (51, .iload 5, 2, 0, 0, 0), (53, .iload 4, 2, 0, 0, 0), (55, .bipush 16, 2, 0, 0, 0), (57, .iushr, 1, 0, 0, 0), (58, .aload_n 0, 1, 0, 0, 0), (59, .getfield 106, 3, 9, 3, 0), (62, .irem, 1, 0, 0, 0), (63, .iastore, 1, 0, 0, 0), (64, .ldc_w 293, 3, 5, 0, 0), (67, .iload 4, 2, 0, 0, 0), (69, .imul, 1, 0, 0, 0), (70, .sipush 12345, 3, 0, 0, 0), (73, .iadd, 1, 0, 0, 0), (74, .istore 4, 2, 0, 0, 0), (76, .aload_n 0, 1, 0, 0, 0), (77, .getfield 22, 3, 9, 7, 0), (80, .iload 5, 2, 0, 0, 0), (82, .iload 4, 2, 0, 0, 0), (84, .bipush 16, 2, 0, 0, 0), (86, .iushr, 1, 0, 0, 0), (87, .iconst 4, 1, 0, 0, 0), (88, .irem, 1, 0, 0, 0), (89, .iastore, 1, 0, 0, 0), (90, .ldc_w 293, 3, 5, 0, 0), (93, .iload 4, 2, 0, 0, 0), (95, .imul, 1, 0, 0, 0), (96, .sipush 12345, 3, 0, 0, 0), (99, .iadd, 1, 0, 0, 0), (100, .istore 4, 2, 0, 0, 0), (102, .aload_n 0, 1, 0, 0, 0), (103, .getfield 25, 3, 9, 8, 0), (106, .iload 5, 2, 0, 0, 0), (108, .iload 4, 2, 0, 0, 0), (110, .bipush 16, 2, 0, 0, 0), (112, .iushr, 1, 0, 0, 0), (113, .bipush 10, 2, 0, 0, 0), (115, .irem, 1, 0, 0, 0), (116, .iastore, 1, 0, 0, 0), (117, .iinc 5 1, 3, 0, 0, 0), (120, .goto (-94), 3, 26, 0, 0), (123, .aload_n 0, 1, 0, 0, 9), (124, .invokevirtual 215, 3, 142, 0, 0), (127, .iload_n 3, 1, 0, 0, 0), (128, .ifCond .ne 10, 3, 138, 0, 0), (131, .aload_n 0, 1, 0, 0, 1), (132, .getfield 200, 3, 9, 20, 0), (135, .goto 7, 3, 142, 0, 0), (138, .aload_n 0, 1, 0, 0, 1), (139, .invokevirtual 294, 3, 182, 0, 0), (142, .ireturn, 1, 0, 0, 1152921504606846976)]
def xR_X9_dayOf : MethodName × ByteArray × Nat × Option FieldType × Nat × Bool × Nat × Nat × Nat × List (Nat × xEnt) := (yX9_dayOf, cX9_dayOf, 6, (some .int), 9, true, 3, 7, 159, xL_X9_dayOf)
def xL_X9_day : List (Nat × xEnt) := [(0, .iload_n 2, 1, 0, 0, 0), (1, .iconst 1, 1, 0, 0, 0), (2, .bipush 8, 2, 0, 0, 0), (4, .invokestatic 98, 3, 102, 3, 0), (7, .ifCond .eq 22, 3, 29, 0, 0), (10, .iload_n 3, 1, 0, 0, 15), (11, .iconst 0, 1, 0, 0, 0), (12, .iconst 1, 1, 0, 0, 0), (13, .invokestatic 98, 3, 102, 3, 0), (16, .ifCond .eq 13, 3, 29, 0, 0), (19, .aload_n 0, 1, 0, 0, 15), (20, .iload_n 1, 1, 0, 0, 0), (21, .iload_n 2, 1, 0, 0, 0), (22, .iload_n 3, 1, 0, 0, 0), (23, .invokevirtual 297, 3, 183, 3, 0), (26, .goto 5, 3, 31, 0, 0), (29, .bipush (-2), 2, 0, 0, 1152921504606846976), (31, .ireturn, 1, 0, 0, 1152921504606846976)]
def xR_X9_day : MethodName × ByteArray × Nat × Option FieldType × Nat × Bool × Nat × Nat × Nat × List (Nat × xEnt) := (yX9_day, cX9_day, 4, (some .int), 9, true, 3, 8, 184, xL_X9_day)
def xL_X9_meets : List (Nat × xEnt) := [(0, .aload_n 0, 1, 0, 0, 0), (1, .iload_n 1, 1, 0, 0, 0), (2, .putfield 300, 3, 9, 35, 0), (5, .bipush (-10), 2, 0, 0, 0), (7, .iload_n 1, 1, 0, 0, 0), (8, .isub, 1, 0, 0, 0), (9, .ireturn, 1, 0, 0, 0)]
def xR_X9_meets : MethodName × ByteArray × Nat × Option FieldType × Nat × Bool × Nat × Nat × Nat × List (Nat × xEnt) := (yX9_meets, cX9_meets, 2, (some .int), 9, true, 1, 0, 0, xL_X9_meets)
def xL_X9_isSheet : List (Nat × xEnt) := [(0, .iload_n 0, 1, 0, 0, 0), (1, .iconst 0, 1, 0, 0, 0), (2, .iconst 3, 1, 0, 0, 0), (3, .invokestatic 98, 3, 102, 3, 0), (6, .ireturn, 1, 0, 0, 0)]
def xR_X9_isSheet : MethodName × ByteArray × Nat × Option FieldType × Nat × Bool × Nat × Nat × Nat × List (Nat × xEnt) := (yX9_isSheet, cX9_isSheet, 1, (some .boolean), 9, false, 1, 1, 22, xL_X9_isSheet)
def xL_X9_sheet : List (Nat × xEnt) := [(0, .iload_n 1, 1, 0, 0, 0), (1, .invokestatic 160, 3, 186, 1, 0), (4, .ifCond .eq 18, 3, 22, 0, 0), (7, .iload_n 2, 1, 0, 0, 15), (8, .iconst 0, 1, 0, 0, 0), (9, .iconst 2, 1, 0, 0, 0), (10, .invokestatic 98, 3, 102, 3, 0), (13, .ifCond .eq 9, 3, 22, 0, 0), (16, .iload_n 3, 1, 0, 0, 15), (17, .bipush 60, 2, 0, 0, 0), (19, .if_icmp .le 6, 3, 25, 0, 0), (22, .bipush (-2), 2, 0, 0, 1152921504606846976), (24, .ireturn, 1, 0, 0, 0), (25, .iload_n 3, 1, 0, 0, 15), (26, .ifCond .ge 9, 3, 35, 0, 0), (29, .aload_n 0, 1, 0, 0, 1), (30, .iconst 5, 1, 0, 0, 0), (31, .invokevirtual 163, 3, 185, 1, 0), (34, .ireturn, 1, 0, 0, 0), (35, .aload_n 0, 1, 0, 0, 15), (36, .getfield 74, 3, 9, 30, 0), (39, .iload_n 1, 1, 0, 0, 0), (40, .iconst 1, 1, 0, 0, 0), (41, .bastore, 1, 0, 0, 0), (42, .aload_n 0, 1, 0, 0, 0), (43, .getfield 77, 3, 9, 31, 0), (46, .iload_n 1, 1, 0, 0, 0), (47, .iload_n 2, 1, 0, 0, 0), (48, .iastore, 1, 0, 0, 0), (49, .aload_n 0, 1, 0, 0, 0), (50, .getfield 80, 3, 9, 32, 0), (53, .iload_n 1, 1, 0, 0, 0), (54, .iload_n 3, 1, 0, 0, 0), (55, .iastore, 1, 0, 0, 0), (56, .iconst 0, 1, 0, 0, 0), (57, .istore 4, 2, 0, 0, 0), (59, .iload 4, 2, 0, 0, 27), (61, .bipush 60, 2, 0, 0, 0), (63, .if_icmp .ge 22, 3, 85, 0, 0), (66, .aload_n 0, 1, 0, 0, 27), (67, .getfield 83, 3, 9, 33, 0), (70, .bipush 60, 2, 0, 0, 0), (72, .iload_n 1, 1, 0, 0, 0), (73, .imul, 1, 0, 0, 0), (74, .iload 4, 2, 0, 0, 0), (76, .iadd, 1, 0, 0, 0), (77, .iconst 0, 1, 0, 0, 0), (78, .iastore, 1, 0, 0, 0), (79, .iinc 4 1, 3, 0, 0, 0), (82, .goto (-23), 3, 59, 0, 0), (85, .iload_n 3, 1, 0, 0, 8), (86, .ireturn, 1, 0, 0, 0)]
def xR_X9_sheet : MethodName × ByteArray × Nat × Option FieldType × Nat × Bool × Nat × Nat × Nat × List (Nat × xEnt) := (yX9_sheet, cX9_sheet, 5, (some .int), 9, true, 3, 2, 42, xL_X9_sheet)
def xL_X9_lose : List (Nat × xEnt) := [(0, .iload_n 1, 1, 0, 0, 0), (1, .invokestatic 160, 3, 186, 1, 0), (4, .ifCond .ne 6, 3, 10, 0, 0), (7, .bipush (-2), 2, 0, 0, 1152921504606846976), (9, .ireturn, 1, 0, 0, 0), (10, .aload_n 0, 1, 0, 0, 3), (11, .getfield 74, 3, 9, 30, 0), (14, .iload_n 1, 1, 0, 0, 0), (15, .baload, 1, 0, 0, 0), (16, .ifCond .ne 9, 3, 25, 0, 0), (19, .aload_n 0, 1, 0, 0, 1), (20, .iconst 1, 1, 0, 0, 0), (21, .invokevirtual 163, 3, 185, 1, 0), (24, .ireturn, 1, 0, 0, 0), (25, .aload_n 0, 1, 0, 0, 3), (26, .getfield 74, 3, 9, 30, 0), (29, .iload_n 1, 1, 0, 0, 0), (30, .iconst 0, 1, 0, 0, 0), (31, .bastore, 1, 0, 0, 0), (32, .aload_n 0, 1, 0, 0, 0), (33, .getfield 80, 3, 9, 32, 0), (36, .iload_n 1, 1, 0, 0, 0), (37, .iaload, 1, 0, 0, 0), (38, .ireturn, 1, 0, 0, 0)]
def xR_X9_lose : MethodName × ByteArray × Nat × Option FieldType × Nat × Bool × Nat × Nat × Nat × List (Nat × xEnt) := (yX9_lose, cX9_lose, 2, (some .int), 9, true, 1, 2, 42, xL_X9_lose)
def xL_X9_lacks : List (Nat × xEnt) := [(0, .aload_n 0, 1, 0, 0, 0), (1, .getfield 74, 3, 9, 30, 0), (4, .iload_n 1, 1, 0, 0, 0), (5, .baload, 1, 0, 0, 0), (6, .ifCond .ne 7, 3, 13, 0, 0), (9, .iconst 1, 1, 0, 0, 1152921504606846976), (10, .goto 38, 3, 48, 0, 0), (13, .aload_n 0, 1, 0, 0, 15), (14, .getfield 77, 3, 9, 31, 0), (17, .iload_n 1, 1, 0, 0, 0), (18, .iaload, 1, 0, 0, 0), (19, .iload_n 2, 1, 0, 0, 0), (20, .if_icmp .eq 7, 3, 27, 0, 0), (23, .iconst 3, 1, 0, 0, 1152921504606846976), (24, .goto 24, 3, 48, 0, 0), (27, .iload_n 3, 1, 0, 0, 11), (28, .iconst 0, 1, 0, 0, 0), (29, .aload_n 0, 1, 0, 0, 0), (30, .getfield 80, 3, 9, 32, 0), (33, .iload_n 1, 1, 0, 0, 0), (34, .iaload, 1, 0, 0, 0), (35, .iconst 1, 1, 0, 0, 0), (36, .isub, 1, 0, 0, 0), (37, .invokestatic 98, 3, 102, 3, 0), (40, .ifCond .eq 7, 3, 47, 0, 0), (43, .iconst 0, 1, 0, 0, 1152921504606846976), (44, .goto 4, 3, 48, 0, 0), (47, .iconst 2, 1, 0, 0, 1152921504606846976), (48, .ireturn, 1, 0, 0, 1152921504606846976)]
def xR_X9_lacks : MethodName × ByteArray × Nat × Option FieldType × Nat × Bool × Nat × Nat × Nat × List (Nat × xEnt) := (yX9_lacks, cX9_lacks, 4, (some .int), 9, true, 3, 1, 22, xL_X9_lacks)
def xL_X9_keep : List (Nat × xEnt) := [(0, .aload_n 0, 1, 0, 0, 0), (1, .getfield 83, 3, 9, 33, 0), (4, .bipush 60, 2, 0, 0, 0), (6, .iload_n 1, 1, 0, 0, 0), (7, .imul, 1, 0, 0, 0), (8, .iload_n 2, 1, 0, 0, 0), (9, .iadd, 1, 0, 0, 0), (10, .aload_n 0, 1, 0, 0, 0), (11, .getfield 77, 3, 9, 31, 0), (14, .iload_n 1, 1, 0, 0, 0), (15, .iaload, 1, 0, 0, 0), (16, .ifCond .ne 8, 3, 24, 0, 0), (19, .iload_n 3, 1, 0, 0, 8), (20, .i2b, 1, 0, 0, 0), (21, .goto 19, 3, 40, 0, 0), (24, .aload_n 0, 1, 0, 0, 11), (25, .getfield 77, 3, 9, 31, 0), (28, .iload_n 1, 1, 0, 0, 0), (29, .iaload, 1, 0, 0, 0), (30, .iconst 1, 1, 0, 0, 0), (31, .if_icmp .ne 8, 3, 39, 0, 0), (34, .iload_n 3, 1, 0, 0, 8), (35, .i2s, 1, 0, 0, 0), (36, .goto 4, 3, 40, 0, 0), (39, .iload_n 3, 1, 0, 0, 8), (40, .iastore, 1, 0, 0, 1152921504606846976), (41, .return_, 1, 0, 0, 0)]
def xR_X9_keep : MethodName × ByteArray × Nat × Option FieldType × Nat × Bool × Nat × Nat × Nat × List (Nat × xEnt) := (yX9_keep, cX9_keep, 4, none, 9, true, 3, 0, 0, xL_X9_keep)
def xL_X9_put : List (Nat × xEnt) := [(0, .iload_n 1, 1, 0, 0, 0), (1, .invokestatic 160, 3, 186, 1, 0), (4, .ifCond .eq 12, 3, 16, 0, 0), (7, .iload_n 2, 1, 0, 0, 31), (8, .iconst 0, 1, 0, 0, 0), (9, .iconst 2, 1, 0, 0, 0), (10, .invokestatic 98, 3, 102, 3, 0), (13, .ifCond .ne 6, 3, 19, 0, 0), (16, .bipush (-2), 2, 0, 0, 1152921504606846976), (18, .ireturn, 1, 0, 0, 0), (19, .aload_n 0, 1, 0, 0, 31), (20, .iload_n 1, 1, 0, 0, 0), (21, .iload_n 2, 1, 0, 0, 0), (22, .iload_n 3, 1, 0, 0, 0), (23, .invokevirtual 303, 3, 189, 3, 0), (26, .istore 5, 2, 0, 0, 0), (28, .iload 5, 2, 0, 0, 0), (30, .ifCond .le 10, 3, 40, 0, 0), (33, .aload_n 0, 1, 0, 0, 33), (34, .iload 5, 2, 0, 0, 0), (36, .invokevirtual 163, 3, 185, 1, 0), (39, .ireturn, 1, 0, 0, 0), (40, .aload_n 0, 1, 0, 0, 27), (41, .iload_n 1, 1, 0, 0, 0), (42, .iload_n 3, 1, 0, 0, 0), (43, .iload 4, 2, 0, 0, 0), (45, .invokevirtual 306, 3, 190, 3, 0), (48, .iconst 1, 1, 0, 0, 0), (49, .ireturn, 1, 0, 0, 0)]
def xR_X9_put : MethodName × ByteArray × Nat × Option FieldType × Nat × Bool × Nat × Nat × Nat × List (Nat × xEnt) := (yX9_put, cX9_put, 6, (some .int), 9, true, 4, 2, 45, xL_X9_put)
def xL_X9_get : List (Nat × xEnt) := [(0, .iload_n 1, 1, 0, 0, 0), (1, .invokestatic 160, 3, 186, 1, 0), (4, .ifCond .eq 12, 3, 16, 0, 0), (7, .iload_n 2, 1, 0, 0, 15), (8, .iconst 0, 1, 0, 0, 0), (9, .iconst 2, 1, 0, 0, 0), (10, .invokestatic 98, 3, 102, 3, 0), (13, .ifCond .ne 7, 3, 20, 0, 0), (16, .ldc_w 310, 3, 0, 0, 1152921504606846976), (19, .ireturn, 1, 0, 0, 0), (20, .aload_n 0, 1, 0, 0, 15), (21, .iload_n 1, 1, 0, 0, 0), (22, .iload_n 2, 1, 0, 0, 0), (23, .iload_n 3, 1, 0, 0, 0), (24, .invokevirtual 303, 3, 189, 3, 0), (27, .istore 4, 2, 0, 0, 0), (29, .iload 4, 2, 0, 0, 0), (31, .ifCond .le 13, 3, 44, 0, 0), (34, .aload_n 0, 1, 0, 0, 17), (35, .iload 4, 2, 0, 0, 0), (37, .putfield 300, 3, 9, 35, 0), (40, .ldc_w 310, 3, 0, 0, 0), (43, .ireturn, 1, 0, 0, 0), (44, .aload_n 0, 1, 0, 0, 11), (45, .getfield 83, 3, 9, 33, 0), (48, .bipush 60, 2, 0, 0, 0), (50, .iload_n 1, 1, 0, 0, 0), (51, .imul, 1, 0, 0, 0), (52, .iload_n 3, 1, 0, 0, 0), (53, .iadd, 1, 0, 0, 0), (54, .iaload, 1, 0, 0, 0), (55, .ireturn, 1, 0, 0, 0)]
def xR_X9_get : MethodName × ByteArray × Nat × Option FieldType × Nat × Bool × Nat × Nat × Nat × List (Nat × xEnt) := (yX9_get, cX9_get, 5, (some .int), 9, true, 3, 2, 45, xL_X9_get)
def xL_X9_copy : List (Nat × xEnt) := [(0, .iload_n 1, 1, 0, 0, 0), (1, .invokestatic 160, 3, 186, 1, 0), (4, .ifCond .eq 10, 3, 14, 0, 0), (7, .iload_n 3, 1, 0, 0, 63), (8, .invokestatic 160, 3, 186, 1, 0), (11, .ifCond .ne 6, 3, 17, 0, 0), (14, .bipush (-2), 2, 0, 0, 1152921504606846976), (16, .ireturn, 1, 0, 0, 0), (17, .aload_n 0, 1, 0, 0, 63), (18, .getfield 74, 3, 9, 30, 0), (21, .iload_n 1, 1, 0, 0, 0), (22, .baload, 1, 0, 0, 0), (23, .ifCond .eq 12, 3, 35, 0, 0), (26, .aload_n 0, 1, 0, 0, 63), (27, .getfield 74, 3, 9, 30, 0), (30, .iload_n 3, 1, 0, 0, 0), (31, .baload, 1, 0, 0, 0), (32, .ifCond .ne 9, 3, 41, 0, 0), (35, .aload_n 0, 1, 0, 0, 1), (36, .iconst 1, 1, 0, 0, 0), (37, .invokevirtual 163, 3, 185, 1, 0), (40, .ireturn, 1, 0, 0, 0), (41, .aload_n 0, 1, 0, 0, 63), (42, .getfield 77, 3, 9, 31, 0), (45, .iload_n 1, 1, 0, 0, 0), (46, .iaload, 1, 0, 0, 0), (47, .aload_n 0, 1, 0, 0, 0), (48, .getfield 77, 3, 9, 31, 0), (51, .iload_n 3, 1, 0, 0, 0), (52, .iaload, 1, 0, 0, 0), (53, .if_icmp .eq 9, 3, 62, 0, 0), (56, .aload_n 0, 1, 0, 0, 1), (57, .iconst 4, 1, 0, 0, 0), (58, .invokevirtual 163, 3, 185, 1, 0), (61, .ireturn, 1, 0, 0, 0), (62, .iload_n 2, 1, 0, 0, 63), (63, .ifCond .lt 48, 3, 111, 0, 0), (66, .iload 4, 2, 0, 0, 63), (68, .ifCond .lt 43, 3, 111, 0, 0), (71, .iload 5, 2, 0, 0, 63), (73, .ifCond .lt 38, 3, 111, 0, 0), (76, .iload_n 2, 1, 0, 0, 63), (77, .i2l, 1, 0, 0, 0), (78, .iload 5, 2, 0, 0, 0), (80, .i2l, 1, 0, 0, 0), (81, .ladd, 1, 0, 0, 0), (82, .aload_n 0, 1, 0, 0, 0), (83, .getfield 80, 3, 9, 32, 0), (86, .iload_n 1, 1, 0, 0, 0), (87, .iaload, 1, 0, 0, 0), (88, .i2l, 1, 0, 0, 0), (89, .lcmp, 1, 0, 0, 0), (90, .ifCond .gt 21, 3, 111, 0, 0), (93, .iload 4, 2, 0, 0, 63), (95, .i2l, 1, 0, 0, 0), (96, .iload 5, 2, 0, 0, 0), (98, .i2l, 1, 0, 0, 0), (99, .ladd, 1, 0, 0, 0), (100, .aload_n 0, 1, 0, 0, 0), (101, .getfield 80, 3, 9, 32, 0), (104, .iload_n 3, 1, 0, 0, 0), (105, .iaload, 1, 0, 0, 0), (106, .i2l, 1, 0, 0, 0), (107, .lcmp, 1, 0, 0, 0), (108, .ifCond .le 9, 3, 117, 0, 0), (111, .aload_n 0, 1, 0, 0, 1), (112, .iconst 2, 1, 0, 0, 0), (113, .invokevirtual 163, 3, 185, 1, 0), (116, .ireturn, 1, 0, 0, 0), (117, .iconst 0, 1, 0, 0, 63), (118, .istore 6, 2, 0, 0, 0), (120, .iload 6, 2, 0, 0, 127), (122, .iload 5, 2, 0, 0, 0), (124, .if_icmp .ge 30, 3, 154, 0, 0), (127, .aload_n 0, 1, 0, 0, 127), (128, .getfield 86, 3, 9, 34, 0), (131, .iload 6, 2, 0, 0, 0), (133, .aload_n 0, 1, 0, 0, 0), (134, .getfield 83, 3, 9, 33, 0), (137, .bipush 60, 2, 0, 0, 0), (139, .iload_n 1, 1, 0, 0, 0), (140, .imul, 1, 0, 0, 0), (141, .iload_n 2, 1, 0, 0, 0), (142, .iadd, 1, 0, 0, 0), (143, .iload 6, 2, 0, 0, 0), (145, .iadd, 1, 0, 0, 0), (146, .iaload, 1, 0, 0, 0), (147, .iastore, 1, 0, 0, 0), (148, .iinc 6 1, 3, 0, 0, 0), (151, .goto (-31), 3, 120, 0, 0), (154, .iconst 0, 1, 0, 0, 57), (155, .istore 6, 2, 0, 0, 0), (157, .iload 6, 2, 0, 0, 121), (159, .iload 5, 2, 0, 0, 0), (161, .if_icmp .ge 31, 3, 192, 0, 0), (164, .aload_n 0, 1, 0, 0, 121), (165, .getfield 83, 3, 9, 33, 0), (168, .bipush 60, 2, 0, 0, 0), (170, .iload_n 3, 1, 0, 0, 0), (171, .imul, 1, 0, 0, 0), (172, .iload 4, 2, 0, 0, 0), (174, .iadd, 1, 0, 0, 0), (175, .iload 6, 2, 0, 0, 0), (177, .iadd, 1, 0, 0, 0), (178, .aload_n 0, 1, 0, 0, 0), (179, .getfield 86, 3, 9, 34, 0), (182, .iload 6, 2, 0, 0, 0), (184, .iaload, 1, 0, 0, 0), (185, .iastore, 1, 0, 0, 0), (186, .iinc 6 1, 3, 0, 0, 0), (189, .goto (-32), 3, 157, 0, 0), (192, .iconst 1, 1, 0, 0, 1152921504606846976), (193, .ireturn, 1, 0, 0, 0)]
def xR_X9_copy : MethodName × ByteArray × Nat × Option FieldType × Nat × Bool × Nat × Nat × Nat × List (Nat × xEnt) := (yX9_copy, cX9_copy, 7, (some .int), 9, true, 5, 2, 42, xL_X9_copy)
def xL_X9_write : List (Nat × xEnt) := [(0, .iload_n 1, 1, 0, 0, 0), (1, .invokestatic 160, 3, 186, 1, 0), (4, .ifCond .ne 6, 3, 10, 0, 0), (7, .bipush (-2), 2, 0, 0, 1152921504606846976), (9, .ireturn, 1, 0, 0, 0), (10, .aload_n 0, 1, 0, 0, 3), (11, .getfield 74, 3, 9, 30, 0), (14, .iload_n 1, 1, 0, 0, 0), (15, .baload, 1, 0, 0, 0), (16, .ifCond .ne 9, 3, 25, 0, 0), (19, .aload_n 0, 1, 0, 0, 1), (20, .iconst 1, 1, 0, 0, 0), (21, .invokevirtual 163, 3, 185, 1, 0), (24, .ireturn, 1, 0, 0, 0), (25, .aload_n 0, 1, 0, 0, 3), (26, .invokevirtual 218, 3, 144, 0, 0), (29, .iconst 0, 1, 0, 0, 0), (30, .istore_n 2, 1, 0, 0, 0), (31, .iload_n 2, 1, 0, 0, 7), (32, .aload_n 0, 1, 0, 0, 0), (33, .getfield 80, 3, 9, 32, 0), (36, .iload_n 1, 1, 0, 0, 0), (37, .iaload, 1, 0, 0, 0), (38, .if_icmp .ge 27, 3, 65, 0, 0), (41, .iload_n 2, 1, 0, 0, 7), (42, .bipush 10, 2, 0, 0, 0), (44, .if_icmp .ge 21, 3, 65, 0, 0), (47, .aload_n 0, 1, 0, 0, 7), (48, .iload_n 1, 1, 0, 0, 0), (49, .iload_n 2, 1, 0, 0, 0), (50, .aload_n 0, 1, 0, 0, 0), (51, .getfield 43, 3, 9, 18, 0), (54, .iload_n 2, 1, 0, 0, 0), (55, .iaload, 1, 0, 0, 0), (56, .invokevirtual 306, 3, 190, 3, 0), (59, .iinc 2 1, 3, 0, 0, 0), (62, .goto (-31), 3, 31, 0, 0), (65, .iload_n 2, 1, 0, 0, 4), (66, .ireturn, 1, 0, 0, 0)]
def xR_X9_write : MethodName × ByteArray × Nat × Option FieldType × Nat × Bool × Nat × Nat × Nat × List (Nat × xEnt) := (yX9_write, cX9_write, 3, (some .int), 9, true, 1, 8, 179, xL_X9_write)
def xL_X9_doneMany : List (Nat × xEnt) := [(0, .iconst 0, 1, 0, 0, 0), (1, .istore_n 1, 1, 0, 0, 0), (2, .iconst 0, 1, 0, 0, 0), (3, .istore_n 2, 1, 0, 0, 0), (4, .iload_n 2, 1, 0, 0, 7), (5, .aload_n 0, 1, 0, 0, 0), (6, .getfield 123, 3, 9, 5, 0), (9, .if_icmp .ge 26, 3, 35, 0, 0), (12, .iload_n 1, 1, 0, 0, 7), (13, .aload_n 0, 1, 0, 0, 0), (14, .getfield 40, 3, 9, 17, 0), (17, .iload_n 2, 1, 0, 0, 0), (18, .iaload, 1, 0, 0, 0), (19, .ifCond .ne 7, 3, 26, 0, 0), (22, .iconst 1, 1, 0, 0, 5), (23, .goto 4, 3, 27, 0, 0), (26, .iconst 0, 1, 0, 0, 5), (27, .iadd, 1, 0, 0, 5), (28, .istore_n 1, 1, 0, 0, 0), (29, .iinc 2 1, 3, 0, 0, 0), (32, .goto (-28), 3, 4, 0, 0), (35, .iload_n 1, 1, 0, 0, 2), (36, .ireturn, 1, 0, 0, 0)]
def xR_X9_doneMany : MethodName × ByteArray × Nat × Option FieldType × Nat × Bool × Nat × Nat × Nat × List (Nat × xEnt) := (yX9_doneMany, cX9_doneMany, 3, (some .int), 9, true, 0, 0, 0, xL_X9_doneMany)
def xL_X9_sumOf : List (Nat × xEnt) := [(0, .aload_n 0, 1, 0, 0, 0), (1, .invokevirtual 218, 3, 144, 0, 0), (4, .iload_n 1, 1, 0, 0, 0), (5, .ifCond .ne 10, 3, 15, 0, 0), (8, .aload_n 0, 1, 0, 0, 1), (9, .getfield 106, 3, 9, 3, 0), (12, .goto 31, 3, 43, 0, 0), (15, .iload_n 1, 1, 0, 0, 3), (16, .iconst 1, 1, 0, 0, 0), (17, .if_icmp .ne 10, 3, 27, 0, 0), (20, .aload_n 0, 1, 0, 0, 1), (21, .getfield 123, 3, 9, 5, 0), (24, .goto 19, 3, 43, 0, 0), (27, .iload_n 1, 1, 0, 0, 3), (28, .iconst 5, 1, 0, 0, 0), (29, .if_icmp .ne 10, 3, 39, 0, 0), (32, .aload_n 0, 1, 0, 0, 1), (33, .invokevirtual 311, 3, 195, 0, 0), (36, .goto 7, 3, 43, 0, 0), (39, .aload_n 0, 1, 0, 0, 1), (40, .invokevirtual 294, 3, 182, 0, 0), (43, .ireturn, 1, 0, 0, 1152921504606846976)]
def xR_X9_sumOf : MethodName × ByteArray × Nat × Option FieldType × Nat × Bool × Nat × Nat × Nat × List (Nat × xEnt) := (yX9_sumOf, cX9_sumOf, 2, (some .int), 9, true, 1, 8, 179, xL_X9_sumOf)
def xL_X9_count : List (Nat × xEnt) := [(0, .iload_n 1, 1, 0, 0, 0), (1, .tableswitch 81 0 8 #[51, 51, 57, 57, 66, 51, 51, 71, 76], 51, 0, 0, 0), (52, .aload_n 0, 1, 0, 0, 3), (53, .iload_n 1, 1, 0, 0, 0), (54, .invokevirtual 314, 3, 196, 1, 0), (57, .ireturn, 1, 0, 0, 0), (58, .aload_n 0, 1, 0, 0, 3), (59, .getfield 7, 3, 9, 0, 0), (62, .iload_n 1, 1, 0, 0, 0), (63, .iconst 2, 1, 0, 0, 0), (64, .isub, 1, 0, 0, 0), (65, .iaload, 1, 0, 0, 0), (66, .ireturn, 1, 0, 0, 0), (67, .aload_n 0, 1, 0, 0, 1), (68, .getfield 157, 3, 9, 11, 0), (71, .ireturn, 1, 0, 0, 0), (72, .aload_n 0, 1, 0, 0, 1), (73, .getfield 260, 3, 9, 25, 0), (76, .ireturn, 1, 0, 0, 0), (77, .aload_n 0, 1, 0, 0, 1), (78, .getfield 300, 3, 9, 35, 0), (81, .ireturn, 1, 0, 0, 0), (82, .bipush (-2), 2, 0, 0, 1152921504606846976), (84, .ireturn, 1, 0, 0, 0)]
def xR_X9_count : MethodName × ByteArray × Nat × Option FieldType × Nat × Bool × Nat × Nat × Nat × List (Nat × xEnt) := (yX9_count, cX9_count, 2, (some .int), 9, true, 1, 9, 200, xL_X9_count)
def xL_X9_deedDigest : List (Nat × xEnt) := [(0, .lload_n 1, 1, 0, 0, 0), (1, .lstore 4, 2, 0, 0, 0), (3, .iconst 0, 1, 0, 0, 0), (4, .istore 6, 2, 0, 0, 0), (6, .iload 6, 2, 0, 0, 89), (8, .iconst 3, 1, 0, 0, 0), (9, .if_icmp .ge 26, 3, 35, 0, 0), (12, .ldc2_w 317, 3, 5, 0, 89), (15, .lload 4, 2, 0, 0, 0), (17, .lmul, 1, 0, 0, 0), (18, .aload_n 0, 1, 0, 0, 0), (19, .iload_n 3, 1, 0, 0, 0), (20, .iload 6, 2, 0, 0, 0), (22, .invokevirtual 151, 3, 125, 2, 0), (25, .i2l, 1, 0, 0, 0), (26, .ladd, 1, 0, 0, 0), (27, .lstore 4, 2, 0, 0, 0), (29, .iinc 6 1, 3, 0, 0, 0), (32, .goto (-26), 3, 6, 0, 0), (35, .ldc2_w 317, 3, 5, 0, 25), (38, .lload 4, 2, 0, 0, 0), (40, .lmul, 1, 0, 0, 0), (41, .aload_n 0, 1, 0, 0, 0), (42, .iload_n 3, 1, 0, 0, 0), (43, .iconst 0, 1, 0, 0, 0), (44, .invokevirtual 221, 3, 145, 2, 0), (47, .i2l, 1, 0, 0, 0), (48, .ladd, 1, 0, 0, 0), (49, .lstore 4, 2, 0, 0, 0), (51, .ldc2_w 317, 3, 5, 0, 0), (54, .lload 4, 2, 0, 0, 0), (56, .lmul, 1, 0, 0, 0), (57, .aload_n 0, 1, 0, 0, 0), (58, .iload_n 3, 1, 0, 0, 0), (59, .iconst 1, 1, 0, 0, 0), (60, .invokevirtual 221, 3, 145, 2, 0), (63, .i2l, 1, 0, 0, 0), (64, .ladd, 1, 0, 0, 0), (65, .lstore 4, 2, 0, 0, 0), (67, .ldc2_w 317, 3, 5, 0, 0), (70, .lload 4, 2, 0, 0, 0), (72, .lmul, 1, 0, 0, 0), (73, .aload_n 0, 1, 0, 0, 0), (74, .iload_n 3, 1, 0, 0, 0), (75, .iconst 0, 1, 0, 0, 0), (76, .invokevirtual 239, 3, 157, 2, 0), (79, .i2l, 1, 0, 0, 0), (80, .ladd, 1, 0, 0, 0), (81, .lstore 4, 2, 0, 0, 0), (83, .ldc2_w 317, 3, 5, 0, 0), (86, .lload 4, 2, 0, 0, 0), (88, .lmul, 1, 0, 0, 0), (89, .aload_n 0, 1, 0, 0, 0), (90, .iload_n 3, 1, 0, 0, 0), (91, .iconst 1, 1, 0, 0, 0), (92, .invokevirtual 239, 3, 157, 2, 0), (95, .i2l, 1, 0, 0, 0), (96, .ladd, 1, 0, 0, 0), (97, .lstore 4, 2, 0, 0, 0), (99, .ldc2_w 317, 3, 5, 0, 0), (102, .lload 4, 2, 0, 0, 0), (104, .lmul, 1, 0, 0, 0), (105, .aload_n 0, 1, 0, 0, 0), (106, .iload_n 3, 1, 0, 0, 0), (107, .iconst (-1), 1, 0, 0, 0), (108, .invokevirtual 272, 3, 174, 2, 0), (111, .i2l, 1, 0, 0, 0), (112, .ladd, 1, 0, 0, 0), (113, .lstore 4, 2, 0, 0, 0), (115, .ldc2_w 317, 3, 5, 0, 0), (118, .lload 4, 2, 0, 0, 0), (120, .lmul, 1, 0, 0, 0), (121, .aload_n 0, 1, 0, 0, 0), (122, .iload_n 3, 1, 0, 0, 0), (123, .iconst 0, 1, 0, 0, 0), (124, .invokevirtual 272, 3, 174, 2, 0), (127, .i2l, 1, 0, 0, 0), (128, .ladd, 1, 0, 0, 0), (129, .lstore 4, 2, 0, 0, 0), (131, .ldc2_w 317, 3, 5, 0, 0), (134, .lload 4, 2, 0, 0, 0), (136, .lmul, 1, 0, 0, 0), (137, .aload_n 0, 1, 0, 0, 0), (138, .iload_n 3, 1, 0, 0, 0), (139, .invokevirtual 275, 3, 176, 1, 0), (142, .i2l, 1, 0, 0, 0), (143, .ladd, 1, 0, 0, 0), (144, .lstore 4, 2, 0, 0, 0), (146, .ldc2_w 317, 3, 5, 0, 0), (149, .lload 4, 2, 0, 0, 0), (151, .lmul, 1, 0, 0, 0), (152, .aload_n 0, 1, 0, 0, 0), (153, .iload_n 3, 1, 0, 0, 0), (154, .invokevirtual 278, 3, 178, 1, 0), (157, .i2l, 1, 0, 0, 0), (158, .ladd, 1, 0, 0, 0), (159, .lreturn, 1, 0, 0, 0)]
def xR_X9_deedDigest : MethodName × ByteArray × Nat × Option FieldType × Nat × Bool × Nat × Nat × Nat × List (Nat × xEnt) := (yX9_deedDigest, cX9_deedDigest, 7, (some .long), 9, true, 2, 9, 213, xL_X9_deedDigest)
def xL_X9_digest : List (Nat × xEnt) := [(0, .ldc2_w 319, 3, 4, 0, 0), (3, .lstore_n 1, 1, 0, 0, 0), (4, .iconst 0, 1, 0, 0, 0), (5, .istore_n 3, 1, 0, 0, 0), (6, .iload_n 3, 1, 0, 0, 11), (7, .bipush 8, 2, 0, 0, 0), (9, .if_icmp .ge 22, 3, 31, 0, 0), (12, .ldc2_w 317, 3, 5, 0, 11), (15, .lload_n 1, 1, 0, 0, 0), (16, .lmul, 1, 0, 0, 0), (17, .aload_n 0, 1, 0, 0, 0), (18, .iload_n 3, 1, 0, 0, 0), (19, .invokevirtual 321, 3, 197, 1, 0), (22, .i2l, 1, 0, 0, 0), (23, .ladd, 1, 0, 0, 0), (24, .lstore_n 1, 1, 0, 0, 0), (25, .iinc 3 1, 3, 0, 0, 0), (28, .goto (-22), 3, 6, 0, 0), (31, .ldc2_w 317, 3, 5, 0, 3), (34, .lload_n 1, 1, 0, 0, 0), (35, .lmul, 1, 0, 0, 0), (36, .aload_n 0, 1, 0, 0, 0), (37, .iconst 0, 1, 0, 0, 0), (38, .invokevirtual 136, 3, 117, 1, 0), (41, .i2l, 1, 0, 0, 0), (42, .ladd, 1, 0, 0, 0), (43, .lstore_n 1, 1, 0, 0, 0), (44, .ldc2_w 317, 3, 5, 0, 0), (47, .lload_n 1, 1, 0, 0, 0), (48, .lmul, 1, 0, 0, 0), (49, .aload_n 0, 1, 0, 0, 0), (50, .iconst 1, 1, 0, 0, 0), (51, .invokevirtual 136, 3, 117, 1, 0), (54, .i2l, 1, 0, 0, 0), (55, .ladd, 1, 0, 0, 0), (56, .lstore_n 1, 1, 0, 0, 0), (57, .iconst 0, 1, 0, 0, 0), (58, .istore_n 3, 1, 0, 0, 0), (59, .iload_n 3, 1, 0, 0, 11), (60, .aload_n 0, 1, 0, 0, 0), (61, .getfield 106, 3, 9, 3, 0), (64, .if_icmp .ge 53, 3, 117, 0, 0), (67, .ldc2_w 317, 3, 5, 0, 11), (70, .lload_n 1, 1, 0, 0, 0), (71, .lmul, 1, 0, 0, 0), (72, .aload_n 0, 1, 0, 0, 0), (73, .getfield 16, 3, 9, 4, 0), (76, .iload_n 3, 1, 0, 0, 0), (77, .iaload, 1, 0, 0, 0), (78, .i2l, 1, 0, 0, 0), (79, .ladd, 1, 0, 0, 0), (80, .lstore_n 1, 1, 0, 0, 0), (81, .ldc2_w 317, 3, 5, 0, 0), (84, .lload_n 1, 1, 0, 0, 0), (85, .lmul, 1, 0, 0, 0), (86, .aload_n 0, 1, 0, 0, 0), (87, .bipush 20, 2, 0, 0, 0), (89, .iconst 0, 1, 0, 0, 0), (90, .iload_n 3, 1, 0, 0, 0), (91, .invokevirtual 183, 3, 135, 3, 0), (94, .i2l, 1, 0, 0, 0), (95, .ladd, 1, 0, 0, 0), (96, .lstore_n 1, 1, 0, 0, 0), (97, .ldc2_w 317, 3, 5, 0, 0), (100, .lload_n 1, 1, 0, 0, 0), (101, .lmul, 1, 0, 0, 0), (102, .aload_n 0, 1, 0, 0, 0), (103, .iconst 0, 1, 0, 0, 0), (104, .iload_n 3, 1, 0, 0, 0), (105, .invokevirtual 257, 3, 166, 2, 0), (108, .i2l, 1, 0, 0, 0), (109, .ladd, 1, 0, 0, 0), (110, .lstore_n 1, 1, 0, 0, 0), (111, .iinc 3 1, 3, 0, 0, 0), (114, .goto (-55), 3, 59, 0, 0), (117, .ldc2_w 317, 3, 5, 0, 3), (120, .lload_n 1, 1, 0, 0, 0), (121, .lmul, 1, 0, 0, 0), (122, .aload_n 0, 1, 0, 0, 0), (123, .invokevirtual 145, 3, 123, 0, 0), (126, .i2l, 1, 0, 0, 0), (127, .ladd, 1, 0, 0, 0), (128, .lstore_n 1, 1, 0, 0, 0), (129, .iconst 0, 1, 0, 0, 0), (130, .istore_n 3, 1, 0, 0, 0), (131, .iload_n 3, 1, 0, 0, 11), (132, .aload_n 0, 1, 0, 0, 0), (133, .getfield 123, 3, 9, 5, 0), (136, .if_icmp .ge 16, 3, 152, 0, 0), (139, .aload_n 0, 1, 0, 0, 11), (140, .lload_n 1, 1, 0, 0, 0), (141, .iload_n 3, 1, 0, 0, 0), (142, .invokevirtual 324, 3, 198, 2, 0), (145, .lstore_n 1, 1, 0, 0, 0), (146, .iinc 3 1, 3, 0, 0, 0), (149, .goto (-18), 3, 131, 0, 0), (152, .iconst 0, 1, 0, 0, 3), (153, .istore_n 3, 1, 0, 0, 0), (154, .iload_n 3, 1, 0, 0, 11), (155, .bipush 10, 2, 0, 0, 0), (157, .if_icmp .ge 35, 3, 192, 0, 0), (160, .ldc2_w 317, 3, 5, 0, 11), (163, .lload_n 1, 1, 0, 0, 0), (164, .lmul, 1, 0, 0, 0), (165, .aload_n 0, 1, 0, 0, 0), (166, .iload_n 3, 1, 0, 0, 0), (167, .invokevirtual 224, 3, 147, 1, 0), (170, .i2l, 1, 0, 0, 0), (171, .ladd, 1, 0, 0, 0), (172, .lstore_n 1, 1, 0, 0, 0), (173, .ldc2_w 317, 3, 5, 0, 0), (176, .lload_n 1, 1, 0, 0, 0), (177, .lmul, 1, 0, 0, 0), (178, .aload_n 0, 1, 0, 0, 0), (179, .iload_n 3, 1, 0, 0, 0), (180, .invokevirtual 227, 3, 149, 1, 0), (183, .i2l, 1, 0, 0, 0), (184, .ladd, 1, 0, 0, 0), (185, .lstore_n 1, 1, 0, 0, 0), (186, .iinc 3 1, 3, 0, 0, 0), (189, .goto (-35), 3, 154, 0, 0), (192, .ldc2_w 317, 3, 5, 0, 3), (195, .lload_n 1, 1, 0, 0, 0), (196, .lmul, 1, 0, 0, 0), (197, .aload_n 0, 1, 0, 0, 0), (198, .invokevirtual 230, 3, 151, 0, 0), (201, .i2l, 1, 0, 0, 0), (202, .ladd, 1, 0, 0, 0), (203, .lstore_n 1, 1, 0, 0, 0), (204, .ldc2_w 317, 3, 5, 0, 0), (207, .lload_n 1, 1, 0, 0, 0), (208, .lmul, 1, 0, 0, 0), (209, .aload_n 0, 1, 0, 0, 0), (210, .iconst 0, 1, 0, 0, 0), (211, .invokevirtual 233, 3, 153, 1, 0), (214, .i2l, 1, 0, 0, 0), (215, .ladd, 1, 0, 0, 0), (216, .lstore_n 1, 1, 0, 0, 0), (217, .ldc2_w 317, 3, 5, 0, 0), (220, .lload_n 1, 1, 0, 0, 0), (221, .lmul, 1, 0, 0, 0), (222, .aload_n 0, 1, 0, 0, 0), (223, .iconst 1, 1, 0, 0, 0), (224, .invokevirtual 233, 3, 153, 1, 0), (227, .i2l, 1, 0, 0, 0), (228, .ladd, 1, 0, 0, 0), (229, .lstore_n 1, 1, 0, 0, 0), (230, .ldc2_w 317, 3, 5, 0, 0), (233, .lload_n 1, 1, 0, 0, 0), (234, .lmul, 1, 0, 0, 0), (235, .aload_n 0, 1, 0, 0, 0), (236, .invokevirtual 236, 3, 155, 0, 0), (239, .i2l, 1, 0, 0, 0), (240, .ladd, 1, 0, 0, 0), (241, .lstore_n 1, 1, 0, 0, 0), (242, .aload_n 0, 1, 0, 0, 0), (243, .invokevirtual 245, 3, 160, 0, 0), (246, .istore_n 3, 1, 0, 0, 0), (247, .ldc2_w 317, 3, 5, 0, 0), (250, .lload_n 1, 1, 0, 0, 0), (251, .lmul, 1, 0, 0, 0), (252, .iload_n 3, 1, 0, 0, 0), (253, .i2l, 1, 0, 0, 0), (254, .ladd, 1, 0, 0, 0), (255, .lstore_n 1, 1, 0, 0, 0), (256, .ldc2_w 317, 3, 5, 0, 0), (259, .lload_n 1, 1, 0, 0, 0), (260, .lmul, 1, 0, 0, 0), (261, .aload_n 0, 1, 0, 0, 0), (262, .iload_n 3, 1, 0, 0, 0), (263, .iconst 0, 1, 0, 0, 0), (264, .invokevirtual 248, 3, 161, 2, 0), (267, .i2l, 1, 0, 0, 0), (268, .ladd, 1, 0, 0, 0), (269, .lstore_n 1, 1, 0, 0, 0), (270, .ldc2_w 317, 3, 5, 0, 0), (273, .lload_n 1, 1, 0, 0, 0), (274, .lmul, 1, 0, 0, 0), (275, .aload_n 0, 1, 0, 0, 0), (276, .iconst 0, 1, 0, 0, 0), (277, .invokevirtual 251, 3, 163, 1, 0), (280, .i2l, 1, 0, 0, 0), (281, .ladd, 1, 0, 0, 0), (282, .lstore_n 1, 1, 0, 0, 0), (283, .ldc2_w 317, 3, 5, 0, 0), (286, .lload_n 1, 1, 0, 0, 0), (287, .lmul, 1, 0, 0, 0), (288, .aload_n 0, 1, 0, 0, 0), (289, .iconst 1, 1, 0, 0, 0), (290, .invokevirtual 251, 3, 163, 1, 0), (293, .i2l, 1, 0, 0, 0), (294, .ladd, 1, 0, 0, 0), (295, .lstore_n 1, 1, 0, 0, 0), (296, .ldc2_w 317, 3, 5, 0, 0), (299, .lload_n 1, 1, 0, 0, 0), (300, .lmul, 1, 0, 0, 0), (301, .aload_n 0, 1, 0, 0, 0), (302, .invokevirtual 266, 3, 171, 0, 0), (305, .i2l, 1, 0, 0, 0), (306, .ladd, 1, 0, 0, 0), (307, .lstore_n 1, 1, 0, 0, 0), (308, .ldc2_w 317, 3, 5, 0, 0), (311, .lload_n 1, 1, 0, 0, 0), (312, .lmul, 1, 0, 0, 0), (313, .aload_n 0, 1, 0, 0, 0), (314, .iconst 5, 1, 0, 0, 0), (315, .iconst 0, 1, 0, 0, 0), (316, .invokevirtual 285, 3, 180, 2, 0), (319, .ladd, 1, 0, 0, 0), (320, .lstore_n 1, 1, 0, 0, 0), (321, .ldc2_w 317, 3, 5, 0, 0), (324, .lload_n 1, 1, 0, 0, 0), (325, .lmul, 1, 0, 0, 0), (326, .aload_n 0, 1, 0, 0, 0), (327, .iconst 5, 1, 0, 0, 0), (328, .iconst 1, 1, 0, 0, 0), (329, .invokevirtual 285, 3, 180, 2, 0), (332, .ladd, 1, 0, 0, 0), (333, .lstore_n 1, 1, 0, 0, 0), (334, .ldc2_w 317, 3, 5, 0, 0), (337, .lload_n 1, 1, 0, 0, 0), (338, .lmul, 1, 0, 0, 0), (339, .aload_n 0, 1, 0, 0, 0), (340, .bipush 7, 2, 0, 0, 0), (342, .bipush 8, 2, 0, 0, 0), (344, .iconst 0, 1, 0, 0, 0), (345, .invokevirtual 297, 3, 183, 3, 0), (348, .i2l, 1, 0, 0, 0), (349, .ladd, 1, 0, 0, 0), (350, .lstore_n 1, 1, 0, 0, 0), (351, .ldc2_w 317, 3, 5, 0, 0), (354, .lload_n 1, 1, 0, 0, 0), (355, .lmul, 1, 0, 0, 0), (356, .aload_n 0, 1, 0, 0, 0), (357, .bipush 7, 2, 0, 0, 0), (359, .bipush 8, 2, 0, 0, 0), (361, .iconst 1, 1, 0, 0, 0), (362, .invokevirtual 297, 3, 183, 3, 0), (365, .i2l, 1, 0, 0, 0), (366, .ladd, 1, 0, 0, 0), (367, .lreturn, 1, 0, 0, 0)]
def xR_X9_digest : MethodName × ByteArray × Nat × Option FieldType × Nat × Bool × Nat × Nat × Nat × List (Nat × xEnt) := (yX9_digest, cX9_digest, 4, (some .long), 9, true, 0, 10, 239, xL_X9_digest)
def xL_J13_bitCount_95d88 : List (Nat × xEnt) := [(0, .lload_n 0, 1, 0, 0, 0), (1, .lload_n 0, 1, 0, 0, 0), (2, .iconst 1, 1, 0, 0, 0), (3, .lushr, 1, 0, 0, 0), (4, .ldc2_w 314, 3, 9, 0, 0), (7, .land, 1, 0, 0, 0), (8, .lsub, 1, 0, 0, 0), (9, .lstore_n 0, 1, 0, 0, 0), (10, .lload_n 0, 1, 0, 0, 0), (11, .ldc2_w 316, 3, 8, 0, 0), (14, .land, 1, 0, 0, 0), (15, .lload_n 0, 1, 0, 0, 0), (16, .iconst 2, 1, 0, 0, 0), (17, .lushr, 1, 0, 0, 0), (18, .ldc2_w 316, 3, 8, 0, 0), (21, .land, 1, 0, 0, 0), (22, .ladd, 1, 0, 0, 0), (23, .lstore_n 0, 1, 0, 0, 0), (24, .lload_n 0, 1, 0, 0, 0), (25, .lload_n 0, 1, 0, 0, 0), (26, .iconst 4, 1, 0, 0, 0), (27, .lushr, 1, 0, 0, 0), (28, .ladd, 1, 0, 0, 0), (29, .ldc2_w 318, 3, 7, 0, 0), (32, .land, 1, 0, 0, 0), (33, .lstore_n 0, 1, 0, 0, 0), (34, .lload_n 0, 1, 0, 0, 0), (35, .lload_n 0, 1, 0, 0, 0), (36, .bipush 8, 2, 0, 0, 0), (38, .lushr, 1, 0, 0, 0), (39, .ladd, 1, 0, 0, 0), (40, .lstore_n 0, 1, 0, 0, 0), (41, .lload_n 0, 1, 0, 0, 0), (42, .lload_n 0, 1, 0, 0, 0), (43, .bipush 16, 2, 0, 0, 0), (45, .lushr, 1, 0, 0, 0), (46, .ladd, 1, 0, 0, 0), (47, .lstore_n 0, 1, 0, 0, 0), (48, .lload_n 0, 1, 0, 0, 0), (49, .lload_n 0, 1, 0, 0, 0), (50, .bipush 32, 2, 0, 0, 0), (52, .lushr, 1, 0, 0, 0), (53, .ladd, 1, 0, 0, 0), (54, .lstore_n 0, 1, 0, 0, 0), (55, .lload_n 0, 1, 0, 0, 0), (56, .l2i, 1, 0, 0, 0), (57, .bipush 127, 2, 0, 0, 0), (59, .iand, 1, 0, 0, 0), (60, .ireturn, 1, 0, 0, 0)]
def xR_J13_bitCount_95d88 : MethodName × ByteArray × Nat × Option FieldType × Nat × Bool × Nat × Nat × Nat × List (Nat × xEnt) := (yJ13_bitCount_95d88, cJ13_bitCount_95d88, 2, (some .int), 11, false, 1, 0, 0, xL_J13_bitCount_95d88)
def xL_J0_length_8abf5 : List (Nat × xEnt) := [(0, .aload_n 0, 1, 0, 0, 0), (1, .getfield 9, 3, 99, 0, 0), (4, .arraylength, 1, 0, 0, 0), (5, .aload_n 0, 1, 0, 0, 0), (6, .invokevirtual 335, 3, 204, 0, 0), (9, .ishr, 1, 0, 0, 0), (10, .ireturn, 1, 0, 0, 0)]
def xR_J0_length_8abf5 : MethodName × ByteArray × Nat × Option FieldType × Nat × Bool × Nat × Nat × Nat × List (Nat × xEnt) := (yJ0_length_8abf5, cJ0_length_8abf5, 1, (some .int), 12, true, 0, 1, 20, xL_J0_length_8abf5)
def xL_J0_indexOf_0f7a4 : List (Nat × xEnt) := [(0, .aload_n 0, 1, 0, 0, 0), (1, .iload_n 1, 1, 0, 0, 0), (2, .iconst 0, 1, 0, 0, 0), (3, .invokevirtual 633, 3, 203, 2, 0), (6, .ireturn, 1, 0, 0, 0)]
def xR_J0_indexOf_0f7a4 : MethodName × ByteArray × Nat × Option FieldType × Nat × Bool × Nat × Nat × Nat × List (Nat × xEnt) := (yJ0_indexOf_0f7a4, cJ0_indexOf_0f7a4, 2, (some .int), 12, true, 1, 3, 85, xL_J0_indexOf_0f7a4)
def xL_J0_indexOf_7cf53 : List (Nat × xEnt) := [(0, .aload_n 0, 1, 0, 0, 0), (1, .invokevirtual 492, 3, 205, 0, 0), (4, .ifCond .eq 19, 3, 23, 0, 0), (7, .aload_n 0, 1, 0, 0, 7), (8, .getfield 9, 3, 99, 0, 0), (11, .iload_n 1, 1, 0, 0, 0), (12, .iload_n 2, 1, 0, 0, 0), (13, .aload_n 0, 1, 0, 0, 0), (14, .invokevirtual 505, 3, 201, 0, 0), (17, .invokestatic 637, 3, 207, 4, 0), (20, .goto 16, 3, 36, 0, 0), (23, .aload_n 0, 1, 0, 0, 7), (24, .getfield 9, 3, 99, 0, 0), (27, .iload_n 1, 1, 0, 0, 0), (28, .iload_n 2, 1, 0, 0, 0), (29, .aload_n 0, 1, 0, 0, 0), (30, .invokevirtual 505, 3, 201, 0, 0), (33, .invokestatic 640, 3, 998, 4, 0), (36, .ireturn, 1, 0, 0, 1152921504606846976)]
def xR_J0_indexOf_7cf53 : MethodName × ByteArray × Nat × Option FieldType × Nat × Bool × Nat × Nat × Nat × List (Nat × xEnt) := (yJ0_indexOf_7cf53, cJ0_indexOf_7cf53, 3, (some .int), 12, true, 2, 2, 63, xL_J0_indexOf_7cf53)
def xL_J0_coder_7d493 : List (Nat × xEnt) := [(0, .getstatic 38, 3, 2, 0, 0), (3, .ifCond .eq 10, 3, 13, 0, 0), (6, .aload_n 0, 1, 0, 0, 1), (7, .getfield 15, 3, 99, 1, 0), (10, .goto 4, 3, 14, 0, 0), (13, .iconst 1, 1, 0, 0, 1152921504606846976), (14, .ireturn, 1, 0, 0, 1152921504606846976)]
def xR_J0_coder_7d493 : MethodName × ByteArray × Nat × Option FieldType × Nat × Bool × Nat × Nat × Nat × List (Nat × xEnt) := (yJ0_coder_7d493, cJ0_coder_7d493, 1, (some .byte), 12, true, 0, 0, 0, xL_J0_coder_7d493)
def xL_J0_isLatin1_aae02 : List (Nat × xEnt) := [(0, .getstatic 38, 3, 2, 0, 0), (3, .ifCond .eq 14, 3, 17, 0, 0), (6, .aload_n 0, 1, 0, 0, 1), (7, .getfield 15, 3, 99, 1, 0), (10, .ifCond .ne 7, 3, 17, 0, 0), (13, .iconst 1, 1, 0, 0, 1152921504606846976), (14, .goto 4, 3, 18, 0, 0), (17, .iconst 0, 1, 0, 0, 1152921504606846976), (18, .ireturn, 1, 0, 0, 1152921504606846976)]
def xR_J0_isLatin1_aae02 : MethodName × ByteArray × Nat × Option FieldType × Nat × Bool × Nat × Nat × Nat × List (Nat × xEnt) := (yJ0_isLatin1_aae02, cJ0_isLatin1_aae02, 1, (some .boolean), 12, true, 0, 0, 0, xL_J0_isLatin1_aae02)
def xL_J1_canEncode_9a6ad : List (Nat × xEnt) := [(0, .iload_n 0, 1, 0, 0, 0), (1, .ifCond .lt 14, 3, 15, 0, 0), (4, .iload_n 0, 1, 0, 0, 1), (5, .sipush 255, 3, 0, 0, 0), (8, .if_icmp .gt 7, 3, 15, 0, 0), (11, .iconst 1, 1, 0, 0, 1152921504606846976), (12, .goto 4, 3, 16, 0, 0), (15, .iconst 0, 1, 0, 0, 1152921504606846976), (16, .ireturn, 1, 0, 0, 1152921504606846976)]
def xR_J1_canEncode_9a6ad : MethodName × ByteArray × Nat × Option FieldType × Nat × Bool × Nat × Nat × Nat × List (Nat × xEnt) := (yJ1_canEncode_9a6ad, cJ1_canEncode_9a6ad, 1, (some .boolean), 13, false, 1, 0, 0, xL_J1_canEncode_9a6ad)
def xL_J1_indexOf_4cfef : List (Nat × xEnt) := [(0, .iload_n 1, 1, 0, 0, 0), (1, .invokestatic 88, 3, 206, 1, 0), (4, .ifCond .ne 5, 3, 9, 0, 0), (7, .iconst (-1), 1, 0, 0, 1152921504606846976), (8, .ireturn, 1, 0, 0, 0), (9, .iload_n 2, 1, 0, 0, 15), (10, .iconst 0, 1, 0, 0, 0), (11, .invokestatic 92, 3, 901, 2, 0), (14, .istore_n 2, 1, 0, 0, 0), (15, .iload_n 3, 1, 0, 0, 0), (16, .aload_n 0, 1, 0, 0, 0), (17, .arraylength, 1, 0, 0, 0), (18, .invokestatic 38, 3, 900, 2, 0), (21, .istore_n 3, 1, 0, 0, 0), (22, .iload_n 2, 1, 0, 0, 0), (23, .iload_n 3, 1, 0, 0, 0), (24, .if_icmp .lt 5, 3, 29, 0, 0), (27, .iconst (-1), 1, 0, 0, 1152921504606846976), (28, .ireturn, 1, 0, 0, 0), (29, .aload_n 0, 1, 0, 0, 15), (30, .iload_n 1, 1, 0, 0, 0), (31, .iload_n 2, 1, 0, 0, 0), (32, .iload_n 3, 1, 0, 0, 0), (33, .invokestatic 95, 3, 208, 4, 0), (36, .ireturn, 1, 0, 0, 0)]
def xR_J1_indexOf_4cfef : MethodName × ByteArray × Nat × Option FieldType × Nat × Bool × Nat × Nat × Nat × List (Nat × xEnt) := (yJ1_indexOf_4cfef, cJ1_indexOf_4cfef, 4, (some .int), 13, false, 4, 1, 40, xL_J1_indexOf_4cfef)
def xL_J1_indexOfChar_4cfef : List (Nat × xEnt) := [(0, .iload_n 1, 1, 0, 0, 0), (1, .i2b, 1, 0, 0, 0), (2, .istore 4, 2, 0, 0, 0), (4, .iload_n 2, 1, 0, 0, 0), (5, .istore 5, 2, 0, 0, 0), (7, .iload 5, 2, 0, 0, 57), (9, .iload_n 3, 1, 0, 0, 0), (10, .if_icmp .ge 21, 3, 31, 0, 0), (13, .aload_n 0, 1, 0, 0, 57), (14, .iload 5, 2, 0, 0, 0), (16, .baload, 1, 0, 0, 0), (17, .iload 4, 2, 0, 0, 0), (19, .if_icmp .ne 6, 3, 25, 0, 0), (22, .iload 5, 2, 0, 0, 32), (24, .ireturn, 1, 0, 0, 0), (25, .iinc 5 1, 3, 0, 0, 57), (28, .goto (-21), 3, 7, 0, 0), (31, .iconst (-1), 1, 0, 0, 1152921504606846976), (32, .ireturn, 1, 0, 0, 0)]
def xR_J1_indexOfChar_4cfef : MethodName × ByteArray × Nat × Option FieldType × Nat × Bool × Nat × Nat × Nat × List (Nat × xEnt) := (yJ1_indexOfChar_4cfef, cJ1_indexOfChar_4cfef, 6, (some .int), 13, false, 4, 0, 0, xL_J1_indexOfChar_4cfef)
def xL_J7_fill_53178 : List (Nat × xEnt) := [(0, .iconst 0, 1, 0, 0, 0), (1, .istore_n 2, 1, 0, 0, 0), (2, .aload_n 0, 1, 0, 0, 0), (3, .arraylength, 1, 0, 0, 0), (4, .istore_n 3, 1, 0, 0, 0), (5, .iload_n 2, 1, 0, 0, 15), (6, .iload_n 3, 1, 0, 0, 0), (7, .if_icmp .ge 13, 3, 20, 0, 0), (10, .aload_n 0, 1, 0, 0, 15), (11, .iload_n 2, 1, 0, 0, 0), (12, .iload_n 1, 1, 0, 0, 0), (13, .iastore, 1, 0, 0, 0), (14, .iinc 2 1, 3, 0, 0, 0), (17, .goto (-12), 3, 5, 0, 0), (20, .return_, 1, 0, 0, 1152921504606846976)]
def xR_J7_fill_53178 : MethodName × ByteArray × Nat × Option FieldType × Nat × Bool × Nat × Nat × Nat × List (Nat × xEnt) := (yJ7_fill_53178, cJ7_fill_53178, 4, none, 10, false, 2, 0, 0, xL_J7_fill_53178)
def xM_0 : List (MethodName × ByteArray × Nat × Option FieldType × Nat × Bool × Nat × Nat × Nat × List (Nat × xEnt)) := [xR_X0_readFrom, xR_X0_figure, xR_X0_faultOf, xR_X0_mayStand, xR_X0_add, xR_X0_takeFrom, xR_X2_isFull, xR_X2_add, xR_X2_sumIn, xR_X2_agreesWith, xR_X3_pass, xR_X3_doDeeds, xR_X3_exileBy, xR_X3_lateness, xR_X3_doneOf, xR_X4_takeTolls, xR_X4_layFelt, xR_X4_spread, xR_X4_leastBeside, xR_X4_left, xR_X5_isLost, xR_X5_renew, xR_X5_hasItem, xR_X5_item, xR_X5_store, xR_X5_cut, xR_X5_hasItems, xR_X5_move, xR_X6_isFull, xR_X6_append, xR_X7_readFrom, xR_X7_empty, xR_X7_place, xR_X7_isTooShort, xR_X7_mayStand, xR_X7_add]
def xM_1 : List (MethodName × ByteArray × Nat × Option FieldType × Nat × Bool × Nat × Nat × Nat × List (Nat × xEnt)) := [xR_X7_link, xR_X7_has, xR_X7_isOpen, xR_X8_type, xR_X8_wipe, xR_X8_undo, xR_X8_fault, xR_X8_cell, xR_X8_bed, xR_X8_deed, xR_X8_set, xR_X8_thunder, xR_X8_back, xR_X8_read, xR_X8_carry, xR_X8_heard, xR_X8_noise, xR_X8_depth, xR_X8_wakes, xR_X8_exiled, xR_X8_loudest, xR_X8_hour, xR_X8_felt, xR_X8_lay, xR_X8_way, xR_X8_listened, xR_X8_forget, xR_X8_never, xR_X8_whence, xR_X8_what, xR_X8_ask, xR_X8_sleeps, xR_X8_day, xR_X8_sheet, xR_X8_lose, xR_X8_put]
def xM_2 : List (MethodName × ByteArray × Nat × Option FieldType × Nat × Bool × Nat × Nat × Nat × List (Nat × xEnt)) := [xR_X8_get, xR_X8_copy, xR_X8_write, xR_X8_count, xR_X8_digest, xR_X8_mixDeed, xR_X8_mix, xR_X8_isOutside, xR_X8_isNoDeed, xR_X8_isNoThunder, xR_X8_textOf, xR_X8_readAnew, xR_X8_sleepAnew, xR_X8_asHour, xR_X8_bestHourOf, xR_X8_latenessAt, xR_X8_bestBed, xR_X8_latenessWithBed, xR_X8_planFelt, xR_X8_isStillWithOne, xR_X8_isStillWithTwo, xR_X8_isStillWith, xR_X8_findPlaces, xR_X8_mostAlike, xR_X8_weightOfSleep, xR_X8_weightOf, xR_X8_drawDeeds, xR_X8_nextLot, xR_X8_refusalOfItem, xR_X8_find, xR_X9_in, xR_X9_isIn, xR_X9_no, xR_X9_lowest, xR_X9_isText, xR_X9_isHour]
def xM_3 : List (MethodName × ByteArray × Nat × Option FieldType × Nat × Bool × Nat × Nat × Nat × List (Nat × xEnt)) := [xR_X9_type, xR_X9_wipe, xR_X9_undo, xR_X9_byteAt, xR_X9_kindOf, xR_X9_readsTown, xR_X9_figureAt, xR_X9_readsDeed, xR_X9_readsDeeds, xR_X9_faultOf, xR_X9_reads, xR_X9_fault, xR_X9_isCell, xR_X9_isDeed, xR_X9_cell, xR_X9_bedNow, xR_X9_bed, xR_X9_deedOf, xR_X9_deed, xR_X9_set, xR_X9_thunder, xR_X9_back, xR_X9_read, xR_X9_beside, xR_X9_into, xR_X9_doesEase, xR_X9_carriesTo, xR_X9_carryOf, xR_X9_carry, xR_X9_loudOf, xR_X9_lays, xR_X9_hears, xR_X9_noiseIn, xR_X9_sleepsOn, xR_X9_runs, xR_X9_asTold]
def xM_4 : List (MethodName × ByteArray × Nat × Option FieldType × Nat × Bool × Nat × Nat × Nat × List (Nat × xEnt)) := [xR_X9_runsTold, xR_X9_heardBy, xR_X9_heard, xR_X9_noiseOf, xR_X9_noise, xR_X9_depthOf, xR_X9_depth, xR_X9_wakesOf, xR_X9_wakes, xR_X9_exiledOf, xR_X9_exiled, xR_X9_loudestNow, xR_X9_loudest, xR_X9_hourOf, xR_X9_hour, xR_X9_isStill, xR_X9_feltBy, xR_X9_ofRow, xR_X9_felt, xR_X9_layOf, xR_X9_lay, xR_X9_doesShorten, xR_X9_wayOf, xR_X9_way, xR_X9_listened, xR_X9_forget, xR_X9_isListened, xR_X9_neverNow, xR_X9_never, xR_X9_whences, xR_X9_whenceOf, xR_X9_whence, xR_X9_whatOf, xR_X9_what, xR_X9_askOf, xR_X9_ask]
def xM_5 : List (MethodName × ByteArray × Nat × Option FieldType × Nat × Bool × Nat × Nat × Nat × List (Nat × xEnt)) := [xR_X9_sleepsBy, xR_X9_sleeps, xR_X9_exiledMany, xR_X9_dayOf, xR_X9_day, xR_X9_meets, xR_X9_isSheet, xR_X9_sheet, xR_X9_lose, xR_X9_lacks, xR_X9_keep, xR_X9_put, xR_X9_get, xR_X9_copy, xR_X9_write, xR_X9_doneMany, xR_X9_sumOf, xR_X9_count, xR_X9_deedDigest, xR_X9_digest, xR_J13_bitCount_95d88, xR_J0_length_8abf5, xR_J0_indexOf_0f7a4, xR_J0_indexOf_7cf53, xR_J0_coder_7d493, xR_J0_isLatin1_aae02, xR_J1_canEncode_9a6ad, xR_J1_indexOf_4cfef, xR_J1_indexOfChar_4cfef, xR_J7_fill_53178]
def xMs : List (MethodName × ByteArray × Nat × Option FieldType × Nat × Bool × Nat × Nat × Nat × List (Nat × xEnt)) := xM_0 ++ (xM_1 ++ (xM_2 ++ (xM_3 ++ (xM_4 ++ (xM_5)))))
end
section
/-! ===== the abstract machine: values with places for addresses, one world of a fixed layout ===== -/
abbrev xS : Type := (Nat → Nat → Int32) × (Nat → Nat → Int64)
abbrev xSh : Type := (Bool × Nat) ⊕ (Nat × List (Nat ⊕ Nat))
abbrev xLy : Type := List xSh
abbrev xLv : Type := List (Nat × Value)
abbrev xF : Type := Nat × xLv × List Value × xS
abbrev xO : Type := xF ⊕ ((Nat × List Value × List Value) ⊕ Option Value)
/-- one number of a place changes -/
def xu (s : xS) (p k : Nat) (v : Int32) : xS := (va_up s.1 p (upd (s.1 p) k v), s.2)
def xul (s : xS) (p k : Nat) (v : Int64) : xS := (s.1, va_up s.2 p (vp_updL (s.2 p) k v))
/-- a copy of n elements from place p at i to place q at j -/
def xcp (s : xS) (p i q j n : Nat) : xS := (va_up s.1 q (va_cpy (s.1 p) (s.1 q) i j n), s.2)
/-- a field's value, with places -/
def xfa (s : xS) (p k : Nat) (f : Nat ⊕ Nat) : Value := match f with
  | .inl q => .ref q
  | .inr t => match t with
    | 1 => .long (s.2 p k)
    | _ => .int (s.1 p k)
/-- the arrays that are never written: length, contents -/
def xRA (p : Nat) : Option (Bool × Nat × (Nat → Int32)) := match p with
  | 1000 => some (false, 4, fun j => ([1, 4, 3, 1] : List Int32).getD j 0)
  | 1001 => some (false, 4, fun j => ([3, 6, 9, 14] : List Int32).getD j 0)
  | 1004 => some (true, 4, fun j => ([46, 104, 102, 98] : List Int32).getD j 0)
  | 1005 => some (true, 4, fun j => ([119, 99, 107, 110] : List Int32).getD j 0)
  | _ => none
/-- statics -/
def xSt (a : Nat) : Option Value := match a with
  | 0 => some (.ref 1000)
  | 1 => some (.ref 1001)
  | 2 => some (.int 1)
  | _ => none
def xlk : List (Nat × xEnt) → Nat → Option xEnt
  | [], _ => none
  | q :: r, pc => cond (Nat.beq q.1 pc) (some q.2) (xlk r pc)
def xl : xLv → Nat → Option Value
  | [], _ => none
  | (j, v) :: r, k => cond (Nat.beq j k) (some v) (xl r k)
def xins (k : Nat) (v : Value) : xLv → xLv
  | [] => [(k, v)]
  | (j, w) :: r => cond (Nat.ble k j) ((k, v) :: (j, w) :: r) ((j, w) :: xins k v r)
def xd1 (i : Nat) : xLv → xLv
  | [] => []
  | (j, w) :: r => cond (Nat.beq j i) (xd1 i r) (cond (Nat.beq (j + 1) i) (cond (Nat.beq w.category 2) (xd1 i r) ((j, w) :: xd1 i r)) ((j, w) :: xd1 i r))
def xd2 (i : Nat) : xLv → xLv
  | [] => []
  | (j, w) :: r => cond (Nat.beq j i) (xd2 i r) (cond (Nat.beq j (i + 1)) (xd2 i r) (cond (Nat.beq (j + 1) i) (cond (Nat.beq w.category 2) (xd2 i r) ((j, w) :: xd2 i r)) ((j, w) :: xd2 i r)))
def xput1 (lv : xLv) (i : Nat) (v : Value) : xLv := xins i v (xd1 i lv)
def xput2 (lv : xLv) (i : Nat) (v : Value) : xLv := xins i v (xd2 i lv)
/-- the locals that live at a place: all, or those of a mask -/
def xmf (m : Nat) : xLv → xLv
  | [] => []
  | (j, w) :: r => cond (Nat.beq (m / 2 ^ j % 2) 1) ((j, w) :: xmf m r) (xmf m r)
def xmask (m : Nat) (lv : xLv) : xLv := cond (Nat.beq m 0) lv (xmf m lv)
def xnx (pc : Nat) (lv : xLv) (st : List Value) (s : xS) : Option xO := some (.inl (pc, lv, st, s))
def xi1 (st : List Value) (k : Int32 → List Value → Option xO) : Option xO := match st with
  | .int x :: r => k x r
  | _ => none
def xi2 (st : List Value) (k : Int32 → Int32 → List Value → Option xO) : Option xO := match st with
  | .int y :: .int x :: r => k x y r
  | _ => none
def xi3 (st : List Value) (k : Int64 → Int64 → List Value → Option xO) : Option xO := match st with
  | .long y :: .long x :: r => k x y r
  | _ => none
def xi4 (st : List Value) (k : Int64 → Int32 → List Value → Option xO) : Option xO := match st with
  | .int y :: .long x :: r => k x y r
  | _ => none
def xi5 (st : List Value) (k : Int64 → List Value → Option xO) : Option xO := match st with
  | .long x :: r => k x r
  | _ => none
def xi6 (st : List Value) (k : Int32 → Nat → List Value → Option xO) : Option xO := match st with
  | .int x :: .ref p :: r => k x p r
  | _ => none
def xi7 (st : List Value) (k : Int32 → Int32 → Nat → List Value → Option xO) : Option xO := match st with
  | .int x :: .int i :: .ref p :: r => k x i p r
  | _ => none
def xi8 (st : List Value) (k : Nat → List Value → Option xO) : Option xO := match st with
  | .ref p :: r => k p r
  | _ => none
def xi9 (st : List Value) (k : Int64 → Nat → List Value → Option xO) : Option xO := match st with
  | .long x :: .ref p :: r => k x p r
  | _ => none
def xil (v : Option Value) (k : Int32 → Option xO) : Option xO := match v with
  | some (.int x) => k x
  | _ => none
def xll (v : Option Value) (k : Int64 → Option xO) : Option xO := match v with
  | some (.long x) => k x
  | _ => none
def xrl (v : Option Value) (k : Nat → Option xO) : Option xO := match v with
  | some (.ref x) => k x
  | _ => none
/-- an array, of the world or never written: its length and contents -/
def xar (Ly : xLy) (s : xS) (z : Bool) (p : Nat) (k : Nat → (Nat → Int32) → Option xO) : Option xO := match Ly[p]? with
  | some (.inl b) => cond (b.1 == z) (k b.2 (s.1 p)) none
  | some (.inr _) => none
  | none => match xRA p with
    | some b => cond (b.1 == z) (k b.2.1 b.2.2) none
    | none => none
/-- an array of the world, to be written -/
def xaw (Ly : xLy) (z : Bool) (p : Nat) (k : Nat → Option xO) : Option xO := match Ly[p]? with
  | some (.inl b) => cond (b.1 == z) (k b.2) none
  | _ => none
def xob (Ly : xLy) (p ci b : Nat) (k : Nat ⊕ Nat → Option xO) : Option xO := match Ly[p]? with
  | some (.inr o) => cond (Nat.beq o.1 ci) (match o.2[b]? with | some f => k f | none => none) none
  | _ => none
def xck (c : Prop) [Decidable c] (k : Option xO) : Option xO := if c then none else k
def xsw (pc : Nat) (x : Int32) : Int → List Int → Nat → Nat
  | _, [], d => d
  | k, o :: os, d => if x = Int32.ofInt k then ((pc : Int) + o).toNat else xsw pc x (k + 1) os d
def xsl (pc : Nat) (x : Int32) : List (Int × Int) → Nat → Nat
  | [], d => d
  | o :: os, d => if x = Int32.ofInt o.1 then ((pc : Int) + o.2).toNat else xsl pc x os d
def xcat (st : List Value) : Nat := (st.map fun v => v.category).sum
/-- one instruction; z: the method answers a boolean -/
def xstep (Ly : xLy) (z : Bool) (pc : Nat) (e : xEnt) (lv : xLv) (st : List Value) (s : xS) : Option xO := match e.1 with
  | .iconst n => xnx (pc + 1) lv (.int (Int32.ofInt n) :: st) s
  | .bipush n => xnx (pc + 2) lv (.int (Int8.ofInt n).toInt32 :: st) s
  | .sipush n => xnx (pc + 3) lv (.int (Int16.ofInt n).toInt32 :: st) s
  | .lconst n => xnx (pc + 1) lv (.long (Int64.ofNat (n : Nat)) :: st) s
  | .iload_n k => xil (xl lv (k : Nat)) fun x => xnx (pc + 1) lv (.int x :: st) s
  | .iload k => xil (xl lv k) fun x => xnx (pc + 2) lv (.int x :: st) s
  | .lload_n k => xll (xl lv (k : Nat)) fun x => xnx (pc + 1) lv (.long x :: st) s
  | .lload k => xll (xl lv k) fun x => xnx (pc + 2) lv (.long x :: st) s
  | .aload_n k => xrl (xl lv (k : Nat)) fun x => xnx (pc + 1) lv (.ref x :: st) s
  | .aload k => xrl (xl lv k) fun x => xnx (pc + 2) lv (.ref x :: st) s
  | .istore_n k => xi1 st fun x r => xnx (pc + 1) (xput1 lv (k : Nat) (.int x)) r s
  | .istore k => xi1 st fun x r => xnx (pc + 2) (xput1 lv k (.int x)) r s
  | .lstore_n k => xi5 st fun x r => xnx (pc + 1) (xput2 lv (k : Nat) (.long x)) r s
  | .lstore k => xi5 st fun x r => xnx (pc + 2) (xput2 lv k (.long x)) r s
  | .astore_n k => xi8 st fun x r => xnx (pc + 1) (xput1 lv (k : Nat) (.ref x)) r s
  | .iinc k n => xil (xl lv k) fun x => xnx (pc + 3) (xput1 lv k (.int (x + Int32.ofInt n))) st s
  | .iadd => xi2 st fun x y r => xnx (pc + 1) lv (.int (x + y) :: r) s
  | .isub => xi2 st fun x y r => xnx (pc + 1) lv (.int (x - y) :: r) s
  | .imul => xi2 st fun x y r => xnx (pc + 1) lv (.int (x * y) :: r) s
  | .iand => xi2 st fun x y r => xnx (pc + 1) lv (.int (x &&& y) :: r) s
  | .ior => xi2 st fun x y r => xnx (pc + 1) lv (.int (x ||| y) :: r) s
  | .ixor => xi2 st fun x y r => xnx (pc + 1) lv (.int (x ^^^ y) :: r) s
  | .idiv => xi2 st fun x y r => xck (y = 0) (xnx (pc + 1) lv (.int (x / y) :: r) s)
  | .irem => xi2 st fun x y r => xck (y = 0) (xnx (pc + 1) lv (.int (x - x / y * y) :: r) s)
  | .ishl => xi2 st fun x y r => xnx (pc + 1) lv (.int (x <<< (y &&& 31)) :: r) s
  | .ishr => xi2 st fun x y r => xnx (pc + 1) lv (.int (x >>> (y &&& 31)) :: r) s
  | .iushr => xi2 st fun x y r => xnx (pc + 1) lv (.int (x.toUInt32 >>> (y.toUInt32 &&& Int32.toUInt32 31)).toInt32 :: r) s
  | .ladd => xi3 st fun x y r => xnx (pc + 1) lv (.long (x + y) :: r) s
  | .lsub => xi3 st fun x y r => xnx (pc + 1) lv (.long (x - y) :: r) s
  | .lmul => xi3 st fun x y r => xnx (pc + 1) lv (.long (x * y) :: r) s
  | .land => xi3 st fun x y r => xnx (pc + 1) lv (.long (x &&& y) :: r) s
  | .lor => xi3 st fun x y r => xnx (pc + 1) lv (.long (x ||| y) :: r) s
  | .ldiv => xi3 st fun x y r => xck (y = 0) (xnx (pc + 1) lv (.long (x / y) :: r) s)
  | .lrem => xi3 st fun x y r => xck (y = 0) (xnx (pc + 1) lv (.long (x - x / y * y) :: r) s)
  | .lcmp => xi3 st fun x y r => xnx (pc + 1) lv (.int (lg_cmp x y) :: r) s
  | .lshl => xi4 st fun x y r => xnx (pc + 1) lv (.long (x <<< (y.toInt64 &&& 63)) :: r) s
  | .lshr => xi4 st fun x y r => xnx (pc + 1) lv (.long (x >>> (y.toInt64 &&& 63)) :: r) s
  | .lushr => xi4 st fun x y r => xnx (pc + 1) lv (.long (x.toUInt64 >>> (y.toInt64.toUInt64 &&& Int64.toUInt64 63)).toInt64 :: r) s
  | .i2l => xi1 st fun x r => xnx (pc + 1) lv (.long x.toInt64 :: r) s
  | .i2b => xi1 st fun x r => xnx (pc + 1) lv (.int x.toInt8.toInt32 :: r) s
  | .i2s => xi1 st fun x r => xnx (pc + 1) lv (.int x.toInt16.toInt32 :: r) s
  | .i2c => xi1 st fun x r => xnx (pc + 1) lv (.int (x.toUInt32 % 65536).toInt32 :: r) s
  | .l2i => xi5 st fun x r => xnx (pc + 1) lv (.int x.toInt32 :: r) s
  | .dup => match st with
    | v :: r => cond (Nat.beq v.category 1) (xnx (pc + 1) lv (v :: v :: r) s) none
    | _ => none
  | .dup2 => match st with
    | v :: w :: r => cond (Nat.beq v.category 1 && Nat.beq w.category 1) (xnx (pc + 1) lv (v :: w :: v :: w :: r) s) none
    | _ => none
  | .goto _ => xnx e.2.2.1 lv st s
  | .ifCond c _ => xi1 st fun x r => match c with
    | .eq => if x = 0 then xnx e.2.2.1 lv r s else xnx (pc + 3) lv r s
    | .ne => if x = 0 then xnx (pc + 3) lv r s else xnx e.2.2.1 lv r s
    | .lt => if x < 0 then xnx e.2.2.1 lv r s else xnx (pc + 3) lv r s
    | .ge => if 0 ≤ x then xnx e.2.2.1 lv r s else xnx (pc + 3) lv r s
    | .gt => if 0 < x then xnx e.2.2.1 lv r s else xnx (pc + 3) lv r s
    | .le => if x ≤ 0 then xnx e.2.2.1 lv r s else xnx (pc + 3) lv r s
  | .if_icmp c _ => xi2 st fun x y r => match c with
    | .eq => if x = y then xnx e.2.2.1 lv r s else xnx (pc + 3) lv r s
    | .ne => if x = y then xnx (pc + 3) lv r s else xnx e.2.2.1 lv r s
    | .lt => if x < y then xnx e.2.2.1 lv r s else xnx (pc + 3) lv r s
    | .ge => if y ≤ x then xnx e.2.2.1 lv r s else xnx (pc + 3) lv r s
    | .gt => if y < x then xnx e.2.2.1 lv r s else xnx (pc + 3) lv r s
    | .le => if x ≤ y then xnx e.2.2.1 lv r s else xnx (pc + 3) lv r s
  | .tableswitch d lo _ os => xi1 st fun x r => xnx (xsw pc x lo os.toList ((pc : Int) + d).toNat) lv r s
  | .lookupswitch d ps => xi1 st fun x r => xnx (xsl pc x ps.toList ((pc : Int) + d).toNat) lv r s
  | .ldc _ => cond (Nat.beq e.2.2.2.1 1) (xnx (pc + 2) lv (.ref e.2.2.1 :: st) s) (match xK[e.2.2.1]? with | some v => xnx (pc + 2) lv (.int v :: st) s | none => none)
  | .ldc_w _ => match xK[e.2.2.1]? with | some v => xnx (pc + 3) lv (.int v :: st) s | none => none
  | .ldc2_w _ => match xKL[e.2.2.1]? with | some v => xnx (pc + 3) lv (.long v :: st) s | none => none
  | .getstatic _ => match xSt e.2.2.1 with | some v => xnx (pc + 3) lv (v :: st) s | none => none
  | .getfield _ => cond (Nat.beq e.2.2.1 99)
      (xi8 st fun p r => cond (Nat.beq p 1002 || Nat.beq p 1003) (cond (Nat.beq e.2.2.2.1 0) (xnx (pc + 3) lv (.ref (p + 2) :: r) s) (xnx (pc + 3) lv (.int 0 :: r) s)) none)
      (xi8 st fun p r => xob Ly p e.2.2.1 e.2.2.2.1 fun f => xnx (pc + 3) lv (xfa s p e.2.2.2.1 f :: r) s)
  | .putfield _ => match st with
    | .int x :: .ref p :: r => xob Ly p e.2.2.1 e.2.2.2.1 fun f => match f with
      | .inr 0 => xnx (pc + 3) lv r (xu s p e.2.2.2.1 x)
      | .inr 2 => if x = 0 ∨ x = 1 then xnx (pc + 3) lv r (xu s p e.2.2.2.1 x) else none
      | _ => none
    | .long x :: .ref p :: r => xob Ly p e.2.2.1 e.2.2.2.1 fun f => match f with
      | .inr 1 => xnx (pc + 3) lv r (xul s p e.2.2.2.1 x)
      | _ => none
    | _ => none
  | .iaload => xi6 st fun i p r => xar Ly s false p fun n f => xck (i < 0 ∨ n ≤ i.toNatClampNeg) (xnx (pc + 1) lv (.int (f i.toNatClampNeg) :: r) s)
  | .baload => xi6 st fun i p r => xar Ly s true p fun n f => xck (i < 0 ∨ n ≤ i.toNatClampNeg) (xnx (pc + 1) lv (.int (f i.toNatClampNeg) :: r) s)
  | .iastore => xi7 st fun x i p r => xaw Ly false p fun n => xck (i < 0 ∨ n ≤ i.toNatClampNeg) (xnx (pc + 1) lv r (xu s p i.toNatClampNeg x))
  | .bastore => xi7 st fun x i p r => xaw Ly true p fun n => xck (i < 0 ∨ n ≤ i.toNatClampNeg) (xnx (pc + 1) lv r (xu s p i.toNatClampNeg (vp_nar .boolean x)))
  | .arraylength => xi8 st fun p r => match Ly[p]? with
    | some (.inl b) => xnx (pc + 1) lv (.int (Int32.ofNat b.2) :: r) s
    | some (.inr _) => none
    | none => match xRA p with
      | some b => xnx (pc + 1) lv (.int (Int32.ofNat b.2.1) :: r) s
      | none => none
  | .invokestatic _ => cond (Nat.beq e.2.2.1 902)
      (match st with
        | .int n :: .int j :: .ref q :: .int i :: .ref p :: r => xaw Ly false p fun np => xaw Ly false q fun nq =>
            xck (i < 0 ∨ j < 0 ∨ n < 0 ∨ np < i.toNatClampNeg + n.toNatClampNeg ∨ nq < j.toNatClampNeg + n.toNatClampNeg ∨ 8 < xcat r) (xnx (pc + 3) lv r (xcp s p i.toNatClampNeg q j.toNatClampNeg n.toNatClampNeg))
        | _ => none)
      (cond (Nat.beq e.2.2.1 900)
        (xi2 st fun x y r => cond (Nat.ble (xcat r) 8) (xnx (pc + 3) lv (.int (if y < x then y else x) :: r) s) none)
        (cond (Nat.beq e.2.2.1 901)
          (xi2 st fun x y r => cond (Nat.ble (xcat r) 8) (xnx (pc + 3) lv (.int (if x < y then y else x) :: r) s) none)
          (cond (Nat.ble e.2.2.2.1 st.length && Nat.ble (xcat (st.drop e.2.2.2.1)) 8) (some (.inr (.inl (e.2.2.1, (st.take e.2.2.2.1).reverse, st.drop e.2.2.2.1)))) none)))
  | .invokevirtual _ => match st.drop e.2.2.2.1 with
    | .ref p :: r => cond (Nat.ble (xcat r) 8) (some (.inr (.inl (e.2.2.1, .ref p :: (st.take e.2.2.2.1).reverse, r)))) none
    | _ => none
  | .return_ => match st with
    | [] => some (.inr (.inr none))
    | _ => none
  | .ireturn => match st with
    | [.int v] => if z = true ∧ ¬ v = 0 ∧ ¬ v = 1 then none else some (.inr (.inr (some (.int v))))
    | _ => none
  | .lreturn => match st with
    | [.long v] => some (.inr (.inr (some (.long v))))
    | _ => none
  | .areturn => match st with
    | [.ref v] => some (.inr (.inr (some (.ref v))))
    | _ => none
  | _ => none
end
section
abbrev xRec : Type := MethodName × ByteArray × Nat × Option FieldType × Nat × Bool × Nat × Nat × Nat × List (Nat × xEnt)
def xry (R : xRec) : MethodName := R.1
def xrc (R : xRec) : ByteArray := R.2.1
def xrL (R : xRec) : Nat := R.2.2.1
def xrt (R : xRec) : Option FieldType := R.2.2.2.1
def xro (R : xRec) : Nat := R.2.2.2.2.1
def xrv (R : xRec) : Bool := R.2.2.2.2.2.1
def xrn (R : xRec) : Nat := R.2.2.2.2.2.2.1
def xrf (R : xRec) : Nat := R.2.2.2.2.2.2.2.1
def xrk (R : xRec) : Nat := R.2.2.2.2.2.2.2.2.1
def xri (R : xRec) : List (Nat × xEnt) := R.2.2.2.2.2.2.2.2.2
def xrz (R : xRec) : Bool := match xrt R with
  | some .int => false
  | _ => true
def xrecv (Ly : xLy) (R : xRec) (as : List Value) : Bool := cond (xrv R) (match as with
  | .ref p :: _ => cond (Nat.beq (xro R) 12) (Nat.beq p 1002 || Nat.beq p 1003) (match Ly[p]? with
    | some (.inr o) => Nat.beq o.1 (xro R)
    | _ => false)
  | _ => false) true
def xisr (i : Instr) : Bool := match i with
  | .return_ => true
  | .ireturn => true
  | .lreturn => true
  | .areturn => true
  | _ => false
def xisc (i : Instr) : Bool := match i with
  | .invokestatic _ => true
  | .invokevirtual _ => true
  | _ => false
/-- n steps, calls counted in -/
def xexec (Ms : List xRec) (Ly : xLy) : Nat → xRec → xF → Option (Option Value × xS)
  | 0, _, _ => none
  | n + 1, R, f => match xlk (xri R) f.1 with
    | none => none
    | some e => match xstep Ly (xrz R) f.1 e (xmask e.2.2.2.2 f.2.1) f.2.2.1 f.2.2.2 with
      | none => none
      | some (.inl g) => xexec Ms Ly n R g
      | some (.inr (.inr r)) => cond (xisr e.1) (some (r, f.2.2.2)) none
      | some (.inr (.inl c)) => match Ms[c.1]? with
        | none => none
        | some R' => cond (xisc e.1 && xrecv Ly R' c.2.1 && Nat.ble (lg_sl c.2.1).length (xrL R')) (match xexec Ms Ly n R' (0, lv_args 0 c.2.1, [], f.2.2.2) with
          | none => none
          | some q => xexec Ms Ly n R (f.1 + 3, xmask e.2.2.2.2 f.2.1, q.1.toList ++ c.2.2, q.2)) none
/-! ===== the machine's side ===== -/
def xcv (ad : Nat → Nat) (v : Value) : Value := match v with
  | .ref p => .ref (ad p)
  | v => v
def xcl (ad : Nat → Nat) (lv : xLv) : xLv := lv.map fun q => (q.1, xcv ad q.2)
def xfc (ad : Nat → Nat) (s : xS) (p k : Nat) (f : Nat ⊕ Nat) : Value := xcv ad (xfa s p k f)
def xce (cI cZ : ClassId) (ad : Nat → Nat) (s : xS) (p : Nat) (sh : xSh) : va_E := match sh with
  | .inl b => .inl (cond b.1 cZ cI, b.2, .inl (s.1 p))
  | .inr o => .inr (o.1, o.2.mapIdx (fun k f => xfc ad s p k f))
def xw (cI cZ : ClassId) (ad : Nat → Nat) (Ly : xLy) (s : xS) : va_W := Ly.mapIdx fun p sh => (ad p, xce cI cZ ad s p sh)
def xty (cI cZ : ClassId) : List (ClassId × FieldType) := [(cI, .int), (cZ, .boolean)]
theorem xcv_cat (ad : Nat → Nat) (v : Value) : (xcv ad v).category = v.category := by cases v <;> rfl
theorem xcat_map (ad : Nat → Nat) (st : List Value) : ((st.map (xcv ad)).map fun v => v.category).sum = xcat st := by
  unfold xcat
  rw [List.map_map]
  congr 1
  exact List.map_congr_left fun v _ => xcv_cat ad v
theorem xw_at {cI cZ : ClassId} {ad : Nat → Nat} {Ly : xLy} {s : xS} {p : Nat} {sh : xSh} (h : Ly[p]? = some sh) : (xw cI cZ ad Ly s)[p]? = some (ad p, xce cI cZ ad s p sh) := by
  unfold xw
  rw [List.getElem?_mapIdx, h]
  rfl
theorem xce_ne {cI cZ : ClassId} {ad : Nat → Nat} {s : xS} {p i : Nat} {sh : xSh} {g : Nat → Int32} {g2 : Nat → Int64} (h : i ≠ p) : xce cI cZ ad (va_up s.1 p g, va_up s.2 p g2) i sh = xce cI cZ ad s i sh := by
  cases sh with
  | inl b => simp only [xce, va_up_ne _ _ h]
  | inr o =>
    simp only [xce, xfc]
    congr 2
    congr 1
    funext k f
    rcases f with q | t
    · rfl
    · simp only [xfa, va_up_ne _ _ h]
theorem xup_self {α : Type} (f : Nat → α) (p : Nat) : va_up f p (f p) = f := by
  funext j
  by_cases h : j = p
  · subst h; rw [va_up_self]
  · rw [va_up_ne _ _ h]
theorem xw_set {cI cZ : ClassId} {ad : Nat → Nat} {Ly : xLy} {s : xS} {p : Nat} {sh : xSh} {g : Nat → Int32} {g2 : Nat → Int64} {e : va_E} (h : Ly[p]? = some sh) (he : e = xce cI cZ ad (va_up s.1 p g, va_up s.2 p g2) p sh) : (xw cI cZ ad Ly s).set p (ad p, e) = xw cI cZ ad Ly (va_up s.1 p g, va_up s.2 p g2) := by
  apply List.ext_getElem?
  intro i
  rw [List.getElem?_set]
  by_cases hi : p = i
  · subst hi
    have hlt : p < (xw cI cZ ad Ly s).length := by
      have := (List.getElem?_eq_some_iff.mp h).1
      simpa [xw] using this
    rw [if_pos rfl, if_pos hlt, xw_at h, he]
  · rw [if_neg hi]
    unfold xw
    rw [List.getElem?_mapIdx, List.getElem?_mapIdx]
    cases hL : Ly[i]? with
    | none => rfl
    | some sh2 =>
      simp only [Option.map_some]
      rw [xce_ne (Ne.symm hi)]
theorem xw_setA {cI cZ : ClassId} {ad : Nat → Nat} {Ly : xLy} {s : xS} {p : Nat} {b : Bool × Nat} {g : Nat → Int32} (h : Ly[p]? = some (.inl b)) : (xw cI cZ ad Ly s).set p (ad p, .inl (cond b.1 cZ cI, b.2, .inl g)) = xw cI cZ ad Ly (va_up s.1 p g, s.2) := by
  have := xw_set (cI := cI) (cZ := cZ) (ad := ad) (s := s) (g := g) (g2 := s.2 p) (e := .inl (cond b.1 cZ cI, b.2, .inl g)) h (by simp only [xce, va_up_self])
  rw [this, xup_self]
theorem xw_setI {cI cZ : ClassId} {ad : Nat → Nat} {Ly : xLy} {s : xS} {p k : Nat} {o : Nat × List (Nat ⊕ Nat)} {x : Int32} (h : Ly[p]? = some (.inr o)) {t : Nat} (hk : o.2[k]? = some (.inr t)) (ht : t ≠ 1) : (xw cI cZ ad Ly s).set p (ad p, .inr (o.1, (o.2.mapIdx (fun k f => xfc ad s p k f)).set k (.int x))) = xw cI cZ ad Ly (xu s p k x) := by
  have := xw_set (cI := cI) (cZ := cZ) (ad := ad) (s := s) (g := upd (s.1 p) k x) (g2 := s.2 p) (e := .inr (o.1, (o.2.mapIdx (fun k f => xfc ad s p k f)).set k (.int x))) h (by
    simp only [xce]
    congr 2
    apply List.ext_getElem?
    intro i
    rw [List.getElem?_set]
    by_cases hi : k = i
    · subst hi
      have hlt : k < (o.2.mapIdx (fun k f => xfc ad s p k f)).length := by
        have := (List.getElem?_eq_some_iff.mp hk).1
        simpa using this
      rw [if_pos rfl, if_pos hlt, List.getElem?_mapIdx, hk]
      simp only [Option.map_some, xfc, xfa, va_up_self]
      match t, ht with
      | 0, _ => simp [xcv, upd]
      | t + 2, _ => simp [xcv, upd]
    · rw [if_neg hi, List.getElem?_mapIdx, List.getElem?_mapIdx]
      cases ho : o.2[i]? with
      | none => rfl
      | some f =>
        simp only [Option.map_some, xfc]
        rcases f with q | t
        · rfl
        · simp only [xfa, va_up_self]
          have hn : i ≠ k := Ne.symm hi
          simp [upd, hn])
  rw [this, xup_self]
  rfl
theorem xw_setL {cI cZ : ClassId} {ad : Nat → Nat} {Ly : xLy} {s : xS} {p k : Nat} {o : Nat × List (Nat ⊕ Nat)} {x : Int64} (h : Ly[p]? = some (.inr o)) (hk : o.2[k]? = some (.inr 1)) : (xw cI cZ ad Ly s).set p (ad p, .inr (o.1, (o.2.mapIdx (fun k f => xfc ad s p k f)).set k (.long x))) = xw cI cZ ad Ly (xul s p k x) := by
  have := xw_set (cI := cI) (cZ := cZ) (ad := ad) (s := s) (g := s.1 p) (g2 := vp_updL (s.2 p) k x) (e := .inr (o.1, (o.2.mapIdx (fun k f => xfc ad s p k f)).set k (.long x))) h (by
    simp only [xce]
    congr 2
    apply List.ext_getElem?
    intro i
    rw [List.getElem?_set]
    by_cases hi : k = i
    · subst hi
      have hlt : k < (o.2.mapIdx (fun k f => xfc ad s p k f)).length := by
        have := (List.getElem?_eq_some_iff.mp hk).1
        simpa using this
      rw [if_pos rfl, if_pos hlt, List.getElem?_mapIdx, hk]
      simp [xfc, xfa, va_up_self, xcv, vp_updL]
    · rw [if_neg hi, List.getElem?_mapIdx, List.getElem?_mapIdx]
      cases ho : o.2[i]? with
      | none => rfl
      | some f =>
        simp only [Option.map_some, xfc]
        rcases f with q | t
        · rfl
        · simp only [xfa, va_up_self]
          have hn : i ≠ k := Ne.symm hi
          simp [vp_updL, hn])
  rw [this, xup_self]
  rfl
/-- the addresses stay -/
theorem xw_ad {cI cZ : ClassId} {ad : Nat → Nat} {Ly : xLy} {s s' : xS} {A : Nat → Prop} (h : va_D A (xw cI cZ ad Ly s)) : va_D A (xw cI cZ ad Ly s') := by
  have key : ∀ (i : Nat) (q : Nat × va_E), (xw cI cZ ad Ly s')[i]? = some q → ∃ q', (xw cI cZ ad Ly s)[i]? = some q' ∧ q'.1 = q.1 := by
    intro i q hq
    unfold xw at hq ⊢
    rw [List.getElem?_mapIdx] at hq ⊢
    cases hL : Ly[i]? with
    | none => rw [hL] at hq; cases hq
    | some sh =>
      rw [hL] at hq
      cases hq
      exact ⟨_, rfl, rfl⟩
  refine ⟨fun i j p q hi hj e => ?_, fun k q hk => ?_⟩
  · obtain ⟨p', hp, ep⟩ := key i p hi
    obtain ⟨q', hq, eq⟩ := key j q hj
    exact h.1 i j p' q' hp hq (by rw [ep, eq]; exact e)
  · obtain ⟨q', hq, eq⟩ := key k q hk
    rw [← eq]
    exact h.2 k q' hq
theorem xw_A {cI cZ : ClassId} {ad : Nat → Nat} {Ly : xLy} {s s' : xS} {sz q : Nat} (h : va_A (xw cI cZ ad Ly s) sz q) : va_A (xw cI cZ ad Ly s') sz q := by
  rcases h with ⟨k, e, hk⟩ | h
  · refine Or.inl ⟨k, ?_⟩
    unfold xw at hk ⊢
    rw [List.getElem?_mapIdx] at hk
    cases hL : Ly[k]? with
    | none => rw [hL] at hk; cases hk
    | some sh =>
      rw [hL] at hk
      have e1 : ad k = q := by simp at hk; exact hk.1
      refine ⟨xce cI cZ ad s' k sh, ?_⟩
      rw [List.getElem?_mapIdx, hL, ← e1]
      rfl
  · exact Or.inr h
/-! locals -/
theorem xl_mem : ∀ {lv : xLv} {k : Nat} {v : Value}, xl lv k = some v → (k, v) ∈ lv
  | [], _, _, h => by cases h
  | (j, w) :: r, k, v, h => by
    unfold xl at h
    cases hb : Nat.beq j k with
    | true =>
      rw [hb] at h
      have e := Nat.eq_of_beq_eq_true hb
      cases h
      subst e
      exact List.mem_cons_self
    | false =>
      rw [hb] at h
      exact List.mem_cons_of_mem _ (xl_mem h)
theorem xl_at {ad : Nat → Nat} {ls : Array Slot} {nL : Nat} {lv : xLv} (hl : lv_has ls nL (xcl ad lv)) {k : Nat} {v : Value} (h : xl lv k = some v) : ls[k]? = some (.val (xcv ad v)) :=
  hl.2.2 (k, xcv ad v) (List.mem_map.mpr ⟨(k, v), xl_mem h, rfl⟩)
theorem lv_mono {ls : Array Slot} {nL : Nat} {l l' : xLv} (h : lv_has ls nL l) (hs : ∀ q ∈ l', q ∈ l) : lv_has ls nL l' := ⟨h.1, h.2.1, fun q hq => h.2.2 q (hs q hq)⟩
theorem xins_mem {k : Nat} {v : Value} : ∀ {lv : xLv} {q : Nat × Value}, q ∈ xins k v lv → q = (k, v) ∨ q ∈ lv
  | [], q, h => by
    rcases List.mem_cons.mp h with h | h
    · exact Or.inl h
    · cases h
  | (j, w) :: r, q, h => by
    unfold xins at h
    cases hb : Nat.ble k j with
    | true =>
      rw [hb] at h
      rcases List.mem_cons.mp h with h | h
      · exact Or.inl h
      · exact Or.inr h
    | false =>
      rw [hb] at h
      rcases List.mem_cons.mp h with h | h
      · exact Or.inr (by rw [h]; exact List.mem_cons_self)
      · rcases xins_mem h with h | h
        · exact Or.inl h
        · exact Or.inr (List.mem_cons_of_mem _ h)
theorem xd1_mem {i : Nat} : ∀ {lv : xLv} {q : Nat × Value}, q ∈ xd1 i lv → q ∈ lv ∧ (!(q.1 == i) && !(q.1 + 1 == i && q.2.category == 2)) = true
  | [], q, h => by cases h
  | (j, w) :: r, q, h => by
    unfold xd1 at h
    have tail : q ∈ xd1 i r → q ∈ (j, w) :: r ∧ (!(q.1 == i) && !(q.1 + 1 == i && q.2.category == 2)) = true := fun h => ⟨List.mem_cons_of_mem _ (xd1_mem h).1, (xd1_mem h).2⟩
    cases hb : Nat.beq j i with
    | true => rw [hb] at h; exact tail h
    | false =>
      rw [hb] at h
      have n1 : j ≠ i := Nat.ne_of_beq_eq_false hb
      cases hc : Nat.beq (j + 1) i with
      | false =>
        rw [hc] at h
        have n2 : j + 1 ≠ i := Nat.ne_of_beq_eq_false hc
        rcases List.mem_cons.mp h with h | h
        · rw [h]; exact ⟨List.mem_cons_self, by simp [n1, n2]⟩
        · exact tail h
      | true =>
        rw [hc] at h
        cases hd : Nat.beq w.category 2 with
        | true => rw [hd] at h; exact tail h
        | false =>
          rw [hd] at h
          have n3 : w.category ≠ 2 := Nat.ne_of_beq_eq_false hd
          rcases List.mem_cons.mp h with h | h
          · rw [h]; exact ⟨List.mem_cons_self, by simp [n1, n3]⟩
          · exact tail h
theorem xd2_mem {i : Nat} : ∀ {lv : xLv} {q : Nat × Value}, q ∈ xd2 i lv → q ∈ lv ∧ (!(q.1 == i) && (!(q.1 == i + 1) && !(q.1 + 1 == i && q.2.category == 2))) = true
  | [], q, h => by cases h
  | (j, w) :: r, q, h => by
    unfold xd2 at h
    have tail : q ∈ xd2 i r → q ∈ (j, w) :: r ∧ (!(q.1 == i) && (!(q.1 == i + 1) && !(q.1 + 1 == i && q.2.category == 2))) = true := fun h => ⟨List.mem_cons_of_mem _ (xd2_mem h).1, (xd2_mem h).2⟩
    cases hb : Nat.beq j i with
    | true => rw [hb] at h; exact tail h
    | false =>
      rw [hb] at h
      have n1 : j ≠ i := Nat.ne_of_beq_eq_false hb
      cases he : Nat.beq j (i + 1) with
      | true => rw [he] at h; exact tail h
      | false =>
        rw [he] at h
        have n4 : j ≠ i + 1 := Nat.ne_of_beq_eq_false he
        cases hc : Nat.beq (j + 1) i with
        | false =>
          rw [hc] at h
          have n2 : j + 1 ≠ i := Nat.ne_of_beq_eq_false hc
          rcases List.mem_cons.mp h with h | h
          · rw [h]; exact ⟨List.mem_cons_self, by simp [n1, n2, n4]⟩
          · exact tail h
        | true =>
          rw [hc] at h
          cases hd : Nat.beq w.category 2 with
          | true => rw [hd] at h; exact tail h
          | false =>
            rw [hd] at h
            have n3 : w.category ≠ 2 := Nat.ne_of_beq_eq_false hd
            rcases List.mem_cons.mp h with h | h
            · rw [h]; exact ⟨List.mem_cons_self, by simp [n1, n3, n4]⟩
            · exact tail h
theorem xput1_has {ad : Nat → Nat} {ls : Array Slot} {nL : Nat} {lv : xLv} {i : Nat} {v : Value} (h : lv_has ls nL ((i, xcv ad v) :: (xcl ad lv).filter (fun q => !(q.1 == i) && !(q.1 + 1 == i && q.2.category == 2)))) : lv_has ls nL (xcl ad (xput1 lv i v)) := by
  refine lv_mono h fun q hq => ?_
  obtain ⟨x, hx, rfl⟩ := List.mem_map.mp hq
  rcases xins_mem hx with e | e
  · rw [e]; exact List.mem_cons_self
  · refine List.mem_cons_of_mem _ ?_
    obtain ⟨h1, h2⟩ := xd1_mem e
    refine List.mem_filter.mpr ⟨List.mem_map.mpr ⟨x, h1, rfl⟩, ?_⟩
    rw [xcv_cat]
    exact h2
theorem xput2_has {ad : Nat → Nat} {ls : Array Slot} {nL : Nat} {lv : xLv} {i : Nat} {v : Value} (h : lv_has ls nL ((i, xcv ad v) :: (xcl ad lv).filter (fun q => !(q.1 == i) && (!(q.1 == i + 1) && !(q.1 + 1 == i && q.2.category == 2))))) : lv_has ls nL (xcl ad (xput2 lv i v)) := by
  refine lv_mono h fun q hq => ?_
  obtain ⟨x, hx, rfl⟩ := List.mem_map.mp hq
  rcases xins_mem hx with e | e
  · rw [e]; exact List.mem_cons_self
  · refine List.mem_cons_of_mem _ ?_
    obtain ⟨h1, h2⟩ := xd2_mem e
    refine List.mem_filter.mpr ⟨List.mem_map.mpr ⟨x, h1, rfl⟩, ?_⟩
    rw [xcv_cat]
    exact h2
theorem xmf_mem {m : Nat} : ∀ {lv : xLv} {q : Nat × Value}, q ∈ xmf m lv → q ∈ lv
  | [], q, h => by cases h
  | (j, w) :: r, q, h => by
    unfold xmf at h
    cases hb : Nat.beq (m / 2 ^ j % 2) 1 with
    | true =>
      rw [hb] at h
      rcases List.mem_cons.mp h with h | h
      · rw [h]; exact List.mem_cons_self
      · exact List.mem_cons_of_mem _ (xmf_mem h)
    | false => rw [hb] at h; exact List.mem_cons_of_mem _ (xmf_mem h)
theorem xmask_has {ad : Nat → Nat} {ls : Array Slot} {nL : Nat} {lv : xLv} {m : Nat} (h : lv_has ls nL (xcl ad lv)) : lv_has ls nL (xcl ad (xmask m lv)) := by
  refine lv_mono h fun q hq => ?_
  obtain ⟨x, hx, rfl⟩ := List.mem_map.mp hq
  refine List.mem_map.mpr ⟨x, ?_, rfl⟩
  unfold xmask at hx
  cases hb : Nat.beq m 0 with
  | true => rw [hb] at hx; exact hx
  | false => rw [hb] at hx; exact xmf_mem hx
end
section
/-! ===== what stands outside the world, and is never written ===== -/
def xEn (ad : Nat → Nat) (A : Nat → Prop) (U : State) (H : Heap) : Prop :=
  va_Z "FounderSleeps" "TOLLS" "[I" (.ref (ad 1000)) A U H ∧ va_T .int (ad 1000) 4 (fun j => .int (([1, 4, 3, 1] : List Int32).getD j 0)) A U H ∧
  va_Z "FounderSleeps" "LOUDNESS" "[I" (.ref (ad 1001)) A U H ∧ va_T .int (ad 1001) 4 (fun j => .int (([3, 6, 9, 14] : List Int32).getD j 0)) A U H ∧
  va_Z "java/lang/String" "COMPACT_STRINGS" "Z" (.int 1) A U H ∧
  vk_S 2 [4, 4] [[46, 104, 102, 98], [119, 99, 107, 110]] (fun i => ad (1002 + i)) (fun i => ad (1004 + i)) A U H ∧
  vk_R "FounderSleeps$Town" xsTown ".hfb" (ad 1002) U ∧ vk_R "FounderSleeps$Deeds" xsDeeds "wckn" (ad 1003) U ∧
  va_Nw (.fieldLinkNest "FounderSleeps$Reach" xiTolls "FounderSleeps" "TOLLS" "[I" "FounderSleeps") U ∧ va_Nw (.fieldLinkNest "FounderSleeps$Night" xiLoud "FounderSleeps" "LOUDNESS" "[I" "FounderSleeps") U
theorem xEn.kept {ad : Nat → Nat} {A : Nat → Prop} {U : State} {H H1 : Heap} (h : xEn ad A U H) (hq : ∀ a : Nat, a < H.size → ¬ A a → H1[a]? = H[a]?) : xEn ad A U H1 :=
  ⟨h.1.kept hq, h.2.1.kept hq, h.2.2.1.kept hq, h.2.2.2.1.kept hq, h.2.2.2.2.1.kept hq, h.2.2.2.2.2.1.kept hq, h.2.2.2.2.2.2⟩
theorem xEn.narrow {ad : Nat → Nat} {A B : Nat → Prop} {U : State} {H : Heap} (h : xEn ad A U H) (hAB : ∀ q, B q → A q) : xEn ad B U H :=
  ⟨h.1.narrow hAB, h.2.1.narrow hAB, h.2.2.1.narrow hAB, h.2.2.2.1.narrow hAB, h.2.2.2.2.1.narrow hAB, h.2.2.2.2.2.1.narrow hAB, h.2.2.2.2.2.2⟩
theorem xEn.warm {ad : Nat → Nat} {A : Nat → Prop} {s U : State} {H : Heap} (hW : s.WarmedH U.vm) (h : xEn ad A s H) : xEn ad A U H :=
  ⟨va_Z.moved hW.alike h.1, va_T.moved hW.alike h.2.1, va_Z.moved hW.alike h.2.2.1, va_T.moved hW.alike h.2.2.2.1, va_Z.moved hW.alike h.2.2.2.2.1, vk_S.moved hW.alike h.2.2.2.2.2.1, vk_R.warm hW h.2.2.2.2.2.2.1, vk_R.warm hW h.2.2.2.2.2.2.2.1, va_Nw.warmF hW h.2.2.2.2.2.2.2.2.1, va_Nw.warmF hW h.2.2.2.2.2.2.2.2.2⟩
theorem xEn.same {ad : Nat → Nat} {A : Nat → Prop} {u U : State} {H : Heap} (hv : U.vm = u.vm) (ha : u.vm.Alike U.vm) (h : xEn ad A u H) : xEn ad A U H :=
  ⟨va_Z.moved ha h.1, va_T.moved ha h.2.1, va_Z.moved ha h.2.2.1, va_T.moved ha h.2.2.2.1, va_Z.moved ha h.2.2.2.2.1, vk_S.moved ha h.2.2.2.2.2.1, vk_R.same hv h.2.2.2.2.2.2.1, vk_R.same hv h.2.2.2.2.2.2.2.1, va_tabs rfl hv.symm h.2.2.2.2.2.2.2.2.1, va_tabs rfl hv.symm h.2.2.2.2.2.2.2.2.2⟩
/-! ===== what a table's entry must keep ===== -/
def xlen (i : Instr) : Nat := match i with
  | .bipush _ => 2
  | .iload _ => 2
  | .lload _ => 2
  | .aload _ => 2
  | .istore _ => 2
  | .lstore _ => 2
  | .ldc _ => 2
  | .sipush _ => 3
  | .iinc _ _ => 3
  | .goto _ => 3
  | .ifCond _ _ => 3
  | .if_icmp _ _ => 3
  | .ldc_w _ => 3
  | .ldc2_w _ => 3
  | .getstatic _ => 3
  | .getfield _ => 3
  | .putfield _ => 3
  | .invokestatic _ => 3
  | .invokevirtual _ => 3
  | _ => 1
def xcallok (Ms : List xRec) (R : xRec) (v : Bool) (a b : Nat) : Bool := match Ms[a]? with
  | some R' => (xrv R' == v) && Nat.beq (xrn R') b && Nat.ble (xrf R' + 1) (xrf R) && Nat.ble (8 + (xrL R' + 11) + xrk R') (xrk R)
  | none => false
def xlb (Ms : List xRec) (R : xRec) (pc : Nat) (e : xEnt) : Bool := match e.1 with
  | .goto off => decide ((pc : Int) + off = (e.2.2.1 : Int))
  | .ifCond _ off => decide ((pc : Int) + off = (e.2.2.1 : Int))
  | .if_icmp _ off => decide ((pc : Int) + off = (e.2.2.1 : Int))
  | .iload_n _ => true
  | .istore_n k => Nat.blt (k : Nat) (xrL R)
  | .istore k => Nat.blt k (xrL R)
  | .iinc k _ => Nat.blt k (xrL R)
  | .lstore_n k => Nat.blt ((k : Nat) + 1) (xrL R)
  | .lstore k => Nat.blt (k + 1) (xrL R)
  | .astore_n k => Nat.blt (k : Nat) (xrL R)
  | .getfield i => cond (Nat.beq e.2.2.1 99) (decide ((xro R, i, e.2.2.1, e.2.2.2.1) ∈ xLs8)) (decide ((xro R, i, e.2.2.1, e.2.2.2.1) ∈ xLs0))
  | .putfield i => decide ((xro R, i, e.2.2.1, e.2.2.2.1) ∈ xLs1)
  | .invokevirtual i => decide ((xro R, i, e.2.2.1, e.2.2.2.1) ∈ xLs2) && xcallok Ms R true e.2.2.1 e.2.2.2.1
  | .invokestatic i => cond (Nat.beq e.2.2.1 998) true <| decide ((xro R, i, e.2.2.1, e.2.2.2.1) ∈ xLs3) && cond (Nat.beq e.2.2.1 902 || Nat.beq e.2.2.1 900 || Nat.beq e.2.2.1 901) (Nat.ble 1 (xrf R) && Nat.ble 26 (xrk R)) (xcallok Ms R false e.2.2.1 e.2.2.2.1)
  | .ldc i => cond (Nat.beq e.2.2.2.1 1) (decide ((xro R, i, e.2.2.1, e.2.2.2.1) ∈ xLs5)) (decide ((xro R, i, e.2.2.1, e.2.2.2.1) ∈ xLs4))
  | .ldc_w i => decide ((xro R, i, e.2.2.1, e.2.2.2.1) ∈ xLs4)
  | .ldc2_w i => decide ((xro R, i, e.2.2.1, e.2.2.2.1) ∈ xLs6)
  | .getstatic i => decide ((xro R, i, e.2.2.1, e.2.2.2.1) ∈ xLs7)
  | .return_ => decide (xrt R = none)
  | .ireturn => decide (xrt R = some .int) || decide (xrt R = some .boolean) || decide (xrt R = some .byte)
  | .lreturn => decide (xrt R = some .long)
  | .areturn => match xrt R with
    | some (.object _) => true
    | _ => false
  | .tableswitch d lo hi os => decide (hi + 1 = lo + os.toList.length) && decide (0 ≤ lo) && decide (lo + os.toList.length ≤ 1000) && decide (0 ≤ (pc : Int) + d) && os.toList.all (fun o => decide (0 ≤ (pc : Int) + o))
  | .lookupswitch d ps => (ps.toList.zip (ps.toList.drop 1)).all (fun (a, next) => a.1 < next.1) && decide (0 ≤ (pc : Int) + d) && ps.toList.all (fun o => decide (0 ≤ (pc : Int) + o.2) && decide (-1000 ≤ o.1) && decide (o.1 ≤ 1000))
  | _ => true
def xsx (i : Instr) : Bool := match i with
  | .tableswitch .. => true
  | .lookupswitch .. => true
  | _ => false
def xeb (Ms : List xRec) (R : xRec) (q : Nat × xEnt) : Bool := decide (decode (xrc R) q.1 = .ok (q.2.1, q.2.2.1)) && (xsx q.2.1 || Nat.beq q.2.2.1 (xlen q.2.1)) && xlb Ms R q.1 q.2
def xcn (o : Nat) : String := xCN.getD o ""
/-- the links: what a word of the tables says of each -/
def xLG (Ms : List xRec) : Prop :=
  (∀ q ∈ xLs0, ∃ C T N, vwCl[q.2.2.1]? = some (C, T, N) ∧ q.2.2.2 < N ∧ Cond.fieldLink (xcn q.1) q.2.1 (T q.2.2.2).1 (T q.2.2.2).2.1 (T q.2.2.2).2.2.1 ∈ xTg) ∧
  (∀ q ∈ xLs1, ∃ C T N, vwCl[q.2.2.1]? = some (C, T, N) ∧ q.2.2.2 < N ∧ Cond.fieldLink (xcn q.1) q.2.1 (T q.2.2.2).1 (T q.2.2.2).2.1 (T q.2.2.2).2.2.1 ∈ xTg ∧ (T q.2.2.2).2.2.2 = false) ∧
  (∀ q ∈ xLs2, ∀ R', Ms[q.2.2.1]? = some R' → Cond.methodLink (xcn q.1) q.2.1 (xry R') ∈ xTg) ∧
  (∀ q ∈ xLs3, ((q.2.2.1 = 902 → Cond.methodLink (xcn q.1) q.2.1 arraycopyName ∈ xTg) ∧ (q.2.2.1 = 900 → Cond.methodLink (xcn q.1) q.2.1 Lib.Math.min.name ∈ xTg) ∧ (q.2.2.1 = 901 → Cond.methodLink (xcn q.1) q.2.1 Lib.Math.max.name ∈ xTg)) ∧ ∀ R', Ms[q.2.2.1]? = some R' → Cond.methodLink (xcn q.1) q.2.1 (xry R') ∈ xTg) ∧
  (∀ q ∈ xLs4, ∀ v, xK[q.2.2.1]? = some v → Cond.constant (xcn q.1) q.2.1 v ∈ xTg) ∧
  (∀ q ∈ xLs5, q = (7, xsTown, 1002, 1) ∨ q = (0, xsDeeds, 1003, 1)) ∧
  (∀ q ∈ xLs6, ∀ v, xKL[q.2.2.1]? = some v → Cond.constantLong (xcn q.1) q.2.1 v ∈ xTg) ∧
  (∀ q ∈ xLs7, q = (4, xiTolls, 0, 1) ∨ q = (3, xiLoud, 1, 1) ∨ (q.2.2 = (1, 0) ∧ Cond.fieldLink (xcn q.1) q.2.1 "FounderSleeps" "LOUDNESS" "[I" ∈ xTg) ∨ (q.2.2 = (2, 0) ∧ Cond.fieldLink (xcn q.1) q.2.1 "java/lang/String" "COMPACT_STRINGS" "Z" ∈ xTg)) ∧
  (∀ q ∈ xLs8, (q.2.2.2 = 0 → Cond.fieldLink (xcn q.1) q.2.1 "java/lang/String" "value" "[B" ∈ xTg) ∧ (q.2.2.2 ≠ 0 → Cond.fieldLink (xcn q.1) q.2.1 "java/lang/String" "coder" "B" ∈ xTg)) ∧
  Cond.native arraycopyName ∈ xTg ∧ Cond.static arraycopyName ∈ xTg ∧ Cond.initialized "java/lang/System" ∈ xTg ∧
  Cond.static Lib.Math.min.name ∈ xTg ∧ Cond.static Lib.Math.max.name ∈ xTg ∧ Cond.initialized "java/lang/Math" ∈ xTg ∧ Cond.code Lib.Math.min.name Lib.Math.min.code 2 (some .int) ∈ xTg ∧ Cond.code Lib.Math.max.name Lib.Math.max.code 2 (some .int) ∈ xTg
def xCF : Prop := ∀ (ci : Nat) (C : String) (T : u_T) (N : Nat), vwCl[ci]? = some (C, T, N) → (∀ w ∈ u_ws C T N, w ∈ xTg) ∧ ∃ ty0 : Nat → FieldType, (∀ k, k < N → parseFieldDescriptor (T k).2.2.1 = some (ty0 k)) ∧ ∀ a, a < N → ∀ b, b < N → a ≠ b → (T a).2.1 ≠ (T b).2.1
def xtyp (t : Nat) : FieldType := match t with
  | 0 => .int
  | 1 => .long
  | _ => .boolean
/-- the layout's numbers have the types of their fields -/
def xLyk (Ly : xLy) : Prop := ∀ (p : Nat) (o : Nat × List (Nat ⊕ Nat)), Ly[p]? = some (.inr o) → ∀ (C : String) (T : u_T) (N : Nat), vwCl[o.1]? = some (C, T, N) → ∀ (k t : Nat), o.2[k]? = some (.inr t) → parseFieldDescriptor (T k).2.2.1 = some (xtyp t)
/-! ===== taking a step apart ===== -/
theorem xi1_some {st : List Value} {k : Int32 → List Value → Option xO} {o : xO} (h : xi1 st k = some o) : ∃ x r, st = .int x :: r ∧ k x r = some o := by
  unfold xi1 at h; split at h
  · exact ⟨_, _, rfl, h⟩
  · cases h
theorem xi2_some {st : List Value} {k : Int32 → Int32 → List Value → Option xO} {o : xO} (h : xi2 st k = some o) : ∃ x y r, st = .int y :: .int x :: r ∧ k x y r = some o := by
  unfold xi2 at h; split at h
  · exact ⟨_, _, _, rfl, h⟩
  · cases h
theorem xi3_some {st : List Value} {k : Int64 → Int64 → List Value → Option xO} {o : xO} (h : xi3 st k = some o) : ∃ x y r, st = .long y :: .long x :: r ∧ k x y r = some o := by
  unfold xi3 at h; split at h
  · exact ⟨_, _, _, rfl, h⟩
  · cases h
theorem xi4_some {st : List Value} {k : Int64 → Int32 → List Value → Option xO} {o : xO} (h : xi4 st k = some o) : ∃ x y r, st = .int y :: .long x :: r ∧ k x y r = some o := by
  unfold xi4 at h; split at h
  · exact ⟨_, _, _, rfl, h⟩
  · cases h
theorem xi5_some {st : List Value} {k : Int64 → List Value → Option xO} {o : xO} (h : xi5 st k = some o) : ∃ x r, st = .long x :: r ∧ k x r = some o := by
  unfold xi5 at h; split at h
  · exact ⟨_, _, rfl, h⟩
  · cases h
theorem xi6_some {st : List Value} {k : Int32 → Nat → List Value → Option xO} {o : xO} (h : xi6 st k = some o) : ∃ x p r, st = .int x :: .ref p :: r ∧ k x p r = some o := by
  unfold xi6 at h; split at h
  · exact ⟨_, _, _, rfl, h⟩
  · cases h
theorem xi7_some {st : List Value} {k : Int32 → Int32 → Nat → List Value → Option xO} {o : xO} (h : xi7 st k = some o) : ∃ x i p r, st = .int x :: .int i :: .ref p :: r ∧ k x i p r = some o := by
  unfold xi7 at h; split at h
  · exact ⟨_, _, _, _, rfl, h⟩
  · cases h
theorem xi8_some {st : List Value} {k : Nat → List Value → Option xO} {o : xO} (h : xi8 st k = some o) : ∃ p r, st = .ref p :: r ∧ k p r = some o := by
  unfold xi8 at h; split at h
  · exact ⟨_, _, rfl, h⟩
  · cases h
theorem xil_some {v : Option Value} {k : Int32 → Option xO} {o : xO} (h : xil v k = some o) : ∃ x, v = some (.int x) ∧ k x = some o := by
  unfold xil at h; split at h
  · exact ⟨_, rfl, h⟩
  · cases h
theorem xll_some {v : Option Value} {k : Int64 → Option xO} {o : xO} (h : xll v k = some o) : ∃ x, v = some (.long x) ∧ k x = some o := by
  unfold xll at h; split at h
  · exact ⟨_, rfl, h⟩
  · cases h
theorem xrl_some {v : Option Value} {k : Nat → Option xO} {o : xO} (h : xrl v k = some o) : ∃ x, v = some (.ref x) ∧ k x = some o := by
  unfold xrl at h; split at h
  · exact ⟨_, rfl, h⟩
  · cases h
theorem xck_some {c : Prop} {d : Decidable c} {k : Option xO} {o : xO} (h : @xck c d k = some o) : ¬ c ∧ k = some o := by
  unfold xck at h; split at h
  · cases h
  · exact ⟨by assumption, h⟩
theorem cond_some {α : Type} {b : Bool} {k : Option α} {o : α} (h : cond b k none = some o) : b = true ∧ k = some o := by
  cases b with
  | true => exact ⟨rfl, h⟩
  | false => cases h
theorem xar_some {Ly : xLy} {s : xS} {z : Bool} {p : Nat} {k : Nat → (Nat → Int32) → Option xO} {o : xO} (h : xar Ly s z p k = some o) : (∃ n, Ly[p]? = some (.inl (z, n)) ∧ k n (s.1 p) = some o) ∨ ∃ n f, xRA p = some (z, n, f) ∧ k n f = some o := by
  unfold xar at h; split at h
  · rename_i b hb
    obtain ⟨h1, h2⟩ := cond_some h
    have e : b.1 = z := by simpa using h1
    exact Or.inl ⟨b.2, by rw [hb, ← e], h2⟩
  · cases h
  · split at h
    · rename_i b hb
      obtain ⟨h1, h2⟩ := cond_some h
      have e : b.1 = z := by simpa using h1
      exact Or.inr ⟨b.2.1, b.2.2, by rw [hb, ← e], h2⟩
    · cases h
theorem xaw_some {Ly : xLy} {z : Bool} {p : Nat} {k : Nat → Option xO} {o : xO} (h : xaw Ly z p k = some o) : ∃ n, Ly[p]? = some (.inl (z, n)) ∧ k n = some o := by
  unfold xaw at h; split at h
  · rename_i b hb
    obtain ⟨h1, h2⟩ := cond_some h
    have e : b.1 = z := by simpa using h1
    exact ⟨b.2, by rw [hb, ← e], h2⟩
  · cases h
theorem xob_some {Ly : xLy} {p ci b : Nat} {k : Nat ⊕ Nat → Option xO} {o : xO} (h : xob Ly p ci b k = some o) : ∃ fl f, Ly[p]? = some (.inr (ci, fl)) ∧ fl[b]? = some f ∧ k f = some o := by
  unfold xob at h; split at h
  · rename_i q hb
    obtain ⟨h1, h2⟩ := cond_some h
    have e : q.1 = ci := Nat.eq_of_beq_eq_true h1
    split at h2
    · rename_i f hf
      exact ⟨q.2, f, by rw [hb, ← e], hf, h2⟩
    · cases h2
  · cases h
theorem xlk_mem : ∀ {l : List (Nat × xEnt)} {pc : Nat} {e : xEnt}, xlk l pc = some e → (pc, e) ∈ l
  | [], _, _, h => by cases h
  | q :: r, pc, e, h => by
    unfold xlk at h
    cases hb : Nat.beq q.1 pc with
    | true =>
      rw [hb] at h
      have e1 := Nat.eq_of_beq_eq_true hb
      cases h
      subst e1
      exact List.mem_cons_self
    | false =>
      rw [hb] at h
      exact List.mem_cons_of_mem _ (xlk_mem h)
theorem xtoInt {k : Int} (h1 : -1000 ≤ k) (h2 : k ≤ 1000) : (Int32.ofInt k).toInt = k := by
  rw [Int32.toInt_ofInt_of_le] <;> omega
theorem xsw_in {pc : Nat} {x : Int32} {d : Nat} : ∀ (os : List Int) (k : Int), 0 ≤ k → k + os.length ≤ 1000 → ¬ x.toInt < k → x.toInt < k + os.length → ∃ off, os[(x.toInt - k).toNat]? = some off ∧ xsw pc x k os d = ((pc : Int) + off).toNat
  | [], k, _, _, h1, h2 => by simp at h2; omega
  | o :: os, k, hk, hl, h1, h2 => by
    simp only [List.length_cons] at hl h2
    unfold xsw
    by_cases hx : x = Int32.ofInt k
    · have ht : x.toInt = k := by rw [hx]; exact xtoInt (by omega) (by omega)
      rw [if_pos hx]
      exact ⟨o, by rw [ht]; simp, rfl⟩
    · rw [if_neg hx]
      have hne : ¬ x.toInt = k := lv_neT hx (xtoInt (by omega) (by omega))
      obtain ⟨off, h3, h4⟩ := xsw_in (pc := pc) (x := x) (d := d) os (k + 1) (by omega) (by omega) (by omega) (by omega)
      refine ⟨off, ?_, h4⟩
      have e : (x.toInt - k).toNat = (x.toInt - (k + 1)).toNat + 1 := by omega
      rw [e]
      exact h3
theorem xsw_out {pc : Nat} {x : Int32} {d : Nat} : ∀ (os : List Int) (k : Int), 0 ≤ k → k + os.length ≤ 1000 → (x.toInt < k ∨ k + os.length ≤ x.toInt) → xsw pc x k os d = d
  | [], k, _, _, _ => rfl
  | o :: os, k, hk, hl, h => by
    simp only [List.length_cons] at hl h
    unfold xsw
    have hx : ¬ x = Int32.ofInt k := by
      intro e
      have ht : x.toInt = k := by rw [e]; exact xtoInt (by omega) (by omega)
      omega
    rw [if_neg hx]
    exact xsw_out os (k + 1) (by omega) (by omega) (by omega)
theorem xsl_off {pc : Nat} {x : Int32} {dflt : Int} : ∀ (ps : List (Int × Int)), ps.all (fun o => decide (0 ≤ (pc : Int) + o.2) && decide (-1000 ≤ o.1) && decide (o.1 ≤ 1000)) = true → xsl pc x ps ((pc : Int) + dflt).toNat = ((pc : Int) + Op.lookupswitch.offset ps dflt x.toInt).toNat
  | [], _ => rfl
  | (a, o) :: r, h => by
    simp only [List.all_cons, Bool.and_eq_true, decide_eq_true_eq] at h
    obtain ⟨⟨⟨h1, h2⟩, h3⟩, h4⟩ := h
    unfold xsl
    by_cases hx : x = Int32.ofInt a
    · have ht : x.toInt = a := by rw [hx]; exact xtoInt h2 h3
      rw [if_pos hx, Op.lookupswitch.offset_cons, if_pos (by rw [ht])]
    · rw [if_neg hx, lv_osw hx (xtoInt h2 h3)]
      exact xsl_off r h4
theorem xsl_nn {pc : Nat} {k : Int} {dflt : Int} (hd : 0 ≤ (pc : Int) + dflt) : ∀ (ps : List (Int × Int)), ps.all (fun o => decide (0 ≤ (pc : Int) + o.2) && decide (-1000 ≤ o.1) && decide (o.1 ≤ 1000)) = true → 0 ≤ (pc : Int) + Op.lookupswitch.offset ps dflt k
  | [], _ => hd
  | (a, o) :: r, h => by
    simp only [List.all_cons, Bool.and_eq_true, decide_eq_true_eq] at h
    obtain ⟨⟨⟨h1, h2⟩, h3⟩, h4⟩ := h
    rw [Op.lookupswitch.offset_cons]
    split
    · exact h1
    · exact xsl_nn hd r h4
end
section
section XGO
variable {p : Program} {l : Launch} {e : Env} {Rm : Room} {s : State} {m : MethodId} {args : Array Value} {below : List Frame} {meth : Method} {c : Code} {Q : State → Prop} {A : Nat → Prop} {D : va_G} {cI cZ : ClassId} {ad : Nat → Nat} {Ly : xLy} {Ms : List xRec} {R : xRec}
theorem xnx_inj {pc : Nat} {lv : xLv} {st : List Value} {s : xS} {g : xF} (h : xnx pc lv st s = some (.inl g)) : (pc, lv, st, s) = g := by
  unfold xnx at h
  cases h
  rfl
theorem xmem {w : Cond} (h : w ∈ xTg) (hts : ∀ w ∈ xTg, w.before args s = true) : w.before args s = true := hts w h
set_option maxHeartbeats 4000000 in
set_option maxRecDepth 100000 in
/-- a step within the frame -/
theorem xgo (G : xLG Ms) (CF : xCF) (LK : xLyk Ly) {pc : Nat} {en : xEnt} {lv : xLv} {st : List Value} {s0 : xS} {g : xF} {z : Bool} {H : Heap} {locs : List Loc} {ls : Array Slot}
    (hstep : xstep Ly z pc en lv st s0 = some (.inl g)) (hen : xeb Ms R (pc, en) = true) (hRm : Rm = { frames := xrf R, cells := 0, slots := 0, locals := xrk R }) (hcn : (xry R).cls = xcn (xro R))
    (hx : p.tables.exec = Jvm.exec) (hb : c.code = xrc R) (hml : c.maxLocals = xrL R) (hts : ∀ w ∈ xTg, w.before args s = true) (hown : s.vm.findClass (xry R).cls = some m.cls) (hE : xEn ad A s s.heap)
    (hK : va_K D vwCl (xty cI cZ) s) (hP : va_P D vwCl (xw cI cZ ad Ly s0) H) (hD : va_D A (xw cI cZ ad Ly s0)) (hS : va_S A s.heap H locs) (hl : lv_has ls (xrL R) (xcl ad lv))
    (kk : ∀ (H1 : Heap) (locs1 : List Loc) (ls1 : Array Slot), va_P D vwCl (xw cI cZ ad Ly g.2.2.2) H1 → va_D A (xw cI cZ ad Ly g.2.2.2) → va_S A s.heap H1 locs1 → lv_has ls1 (xrL R) (xcl ad g.2.1) → W p l e Rm s m args below meth c H1 locs1 0 0 Q (F0 m g.1 ls1 (g.2.2.1.map (xcv ad)))) :
    W p l e Rm s m args below meth c H locs 0 0 Q (F0 m pc ls (st.map (xcv ad))) := by
  obtain ⟨i, len, a, b, mk⟩ := en
  unfold xeb at hen
  simp only [Bool.and_eq_true, decide_eq_true_eq, Bool.or_eq_true] at hen
  obtain ⟨⟨hdg, hln⟩, hlb⟩ := hen
  rw [hcn] at hown
  have hlen : ∀ {i' : Instr}, i = i' → xsx i' = false → decode (xrc R) pc = .ok (i', xlen i') := by
    intro i' e1 e2
    subst e1
    rw [e2] at hln
    simp only [Bool.false_eq_true, false_or] at hln
    rw [hdg, Nat.eq_of_beq_eq_true hln]
  have k0 := kk H locs ls
  cases i with
  | iconst n =>
    cases xnx_inj hstep
    exact lv_iconst hx hb (hlen rfl rfl) rfl (k0 hP hD hS hl)
  | bipush n =>
    cases xnx_inj hstep
    exact lv_bipush hx hb (hlen rfl rfl) rfl (k0 hP hD hS hl)
  | sipush n =>
    cases xnx_inj hstep
    exact lv_sipush hx hb (hlen rfl rfl) rfl (k0 hP hD hS hl)
  | lconst n =>
    cases xnx_inj hstep
    exact lv_lconst hx hb (hlen rfl rfl) rfl (k0 hP hD hS hl)
  | iload_n k =>
    obtain ⟨x, h1, h2⟩ := xil_some hstep
    cases xnx_inj h2
    exact lv_iload_n hx hb (hlen rfl rfl) rfl (xl_at hl h1) (k0 hP hD hS hl)
  | iload k =>
    obtain ⟨x, h1, h2⟩ := xil_some hstep
    cases xnx_inj h2
    exact lv_iload hx hb (hlen rfl rfl) (xl_at hl h1) (k0 hP hD hS hl)
  | lload_n k =>
    obtain ⟨x, h1, h2⟩ := xll_some hstep
    cases xnx_inj h2
    exact lv_lload_n hx hb (hlen rfl rfl) rfl (xl_at hl h1) (k0 hP hD hS hl)
  | lload k =>
    obtain ⟨x, h1, h2⟩ := xll_some hstep
    cases xnx_inj h2
    exact lv_lload hx hb (hlen rfl rfl) (xl_at hl h1) (k0 hP hD hS hl)
  | aload_n k =>
    obtain ⟨x, h1, h2⟩ := xrl_some hstep
    cases xnx_inj h2
    exact lv_aload_n hx hb (hlen rfl rfl) rfl (xl_at hl h1) (k0 hP hD hS hl)
  | aload k =>
    obtain ⟨x, h1, h2⟩ := xrl_some hstep
    cases xnx_inj h2
    exact lv_aload hx hb (hlen rfl rfl) (xl_at hl h1) (k0 hP hD hS hl)
  | istore_n k =>
    obtain ⟨x, r, rfl, h2⟩ := xi1_some hstep
    cases xnx_inj h2
    exact lv_istore_n hx hb (hlen rfl rfl) rfl hl (Nat.le_of_ble_eq_true hlb) rfl (fun ls1 h => kk H locs ls1 hP hD hS (xput1_has (v := .int x) h))
  | istore k =>
    obtain ⟨x, r, rfl, h2⟩ := xi1_some hstep
    cases xnx_inj h2
    exact lv_istore hx hb (hlen rfl rfl) hl (Nat.le_of_ble_eq_true hlb) rfl (fun ls1 h => kk H locs ls1 hP hD hS (xput1_has (v := .int x) h))
  | lstore_n k =>
    obtain ⟨x, r, rfl, h2⟩ := xi5_some hstep
    cases xnx_inj h2
    exact lv_lstore_n hx hb (hlen rfl rfl) rfl hl (Nat.le_of_ble_eq_true hlb) rfl (fun ls1 h => kk H locs ls1 hP hD hS (xput2_has (v := .long x) h))
  | lstore k =>
    obtain ⟨x, r, rfl, h2⟩ := xi5_some hstep
    cases xnx_inj h2
    exact lv_lstore hx hb (hlen rfl rfl) hl (Nat.le_of_ble_eq_true hlb) rfl (fun ls1 h => kk H locs ls1 hP hD hS (xput2_has (v := .long x) h))
  | astore_n k =>
    obtain ⟨x, r, rfl, h2⟩ := xi8_some hstep
    cases xnx_inj h2
    exact lv_astore_n hx hb (hlen rfl rfl) rfl hl (Nat.le_of_ble_eq_true hlb) rfl (fun ls1 h => kk H locs ls1 hP hD hS (xput1_has (v := .ref x) h))
  | iinc k n =>
    obtain ⟨x, h1, h2⟩ := xil_some hstep
    cases xnx_inj h2
    obtain ⟨j, hj⟩ := List.getElem?_of_mem (List.mem_map.mpr ⟨(k, Value.int x), xl_mem h1, rfl⟩ : (k, Value.int x) ∈ xcl ad lv)
    exact lv_iinc hx hb (hlen rfl rfl) hl hj rfl (Nat.le_of_ble_eq_true hlb) rfl (fun ls1 h => kk H locs ls1 hP hD hS (xput1_has (v := .int (x + Int32.ofInt n)) h))
  | iadd =>
    obtain ⟨x, y, r, rfl, h2⟩ := xi2_some hstep
    cases xnx_inj h2
    exact lv_iadd hx hb (hlen rfl rfl) (k0 hP hD hS hl)
  | isub =>
    obtain ⟨x, y, r, rfl, h2⟩ := xi2_some hstep
    cases xnx_inj h2
    exact lv_isub hx hb (hlen rfl rfl) (k0 hP hD hS hl)
  | imul =>
    obtain ⟨x, y, r, rfl, h2⟩ := xi2_some hstep
    cases xnx_inj h2
    exact lv_imul hx hb (hlen rfl rfl) (k0 hP hD hS hl)
  | iand =>
    obtain ⟨x, y, r, rfl, h2⟩ := xi2_some hstep
    cases xnx_inj h2
    exact lv_iand hx hb (hlen rfl rfl) (k0 hP hD hS hl)
  | ior =>
    obtain ⟨x, y, r, rfl, h2⟩ := xi2_some hstep
    cases xnx_inj h2
    exact lv_ior hx hb (hlen rfl rfl) (k0 hP hD hS hl)
  | ixor =>
    obtain ⟨x, y, r, rfl, h2⟩ := xi2_some hstep
    cases xnx_inj h2
    exact lv_ixor hx hb (hlen rfl rfl) (k0 hP hD hS hl)
  | idiv =>
    obtain ⟨x, y, r, rfl, h2⟩ := xi2_some hstep
    obtain ⟨h3, h4⟩ := xck_some h2
    cases xnx_inj h4
    exact lv_idiv hx hb (hlen rfl rfl) h3 (k0 hP hD hS hl)
  | irem =>
    obtain ⟨x, y, r, rfl, h2⟩ := xi2_some hstep
    obtain ⟨h3, h4⟩ := xck_some h2
    cases xnx_inj h4
    exact lv_irem hx hb (hlen rfl rfl) h3 (k0 hP hD hS hl)
  | ishl =>
    obtain ⟨x, y, r, rfl, h2⟩ := xi2_some hstep
    cases xnx_inj h2
    exact lv_ishl hx hb (hlen rfl rfl) (k0 hP hD hS hl)
  | ishr =>
    obtain ⟨x, y, r, rfl, h2⟩ := xi2_some hstep
    cases xnx_inj h2
    exact lv_ishr hx hb (hlen rfl rfl) (k0 hP hD hS hl)
  | iushr =>
    obtain ⟨x, y, r, rfl, h2⟩ := xi2_some hstep
    cases xnx_inj h2
    exact lv_iushr hx hb (hlen rfl rfl) rfl (k0 hP hD hS hl)
  | ladd =>
    obtain ⟨x, y, r, rfl, h2⟩ := xi3_some hstep
    cases xnx_inj h2
    exact lv_ladd hx hb (hlen rfl rfl) (k0 hP hD hS hl)
  | lsub =>
    obtain ⟨x, y, r, rfl, h2⟩ := xi3_some hstep
    cases xnx_inj h2
    exact lv_lsub hx hb (hlen rfl rfl) (k0 hP hD hS hl)
  | lmul =>
    obtain ⟨x, y, r, rfl, h2⟩ := xi3_some hstep
    cases xnx_inj h2
    exact lv_lmul hx hb (hlen rfl rfl) (k0 hP hD hS hl)
  | land =>
    obtain ⟨x, y, r, rfl, h2⟩ := xi3_some hstep
    cases xnx_inj h2
    exact lv_land hx hb (hlen rfl rfl) (k0 hP hD hS hl)
  | lor =>
    obtain ⟨x, y, r, rfl, h2⟩ := xi3_some hstep
    cases xnx_inj h2
    exact lv_lor hx hb (hlen rfl rfl) (k0 hP hD hS hl)
  | ldiv =>
    obtain ⟨x, y, r, rfl, h2⟩ := xi3_some hstep
    obtain ⟨h3, h4⟩ := xck_some h2
    cases xnx_inj h4
    exact lv_ldiv hx hb (hlen rfl rfl) h3 (k0 hP hD hS hl)
  | lrem =>
    obtain ⟨x, y, r, rfl, h2⟩ := xi3_some hstep
    obtain ⟨h3, h4⟩ := xck_some h2
    cases xnx_inj h4
    exact lv_lrem hx hb (hlen rfl rfl) h3 (k0 hP hD hS hl)
  | lcmp =>
    obtain ⟨x, y, r, rfl, h2⟩ := xi3_some hstep
    cases xnx_inj h2
    exact W.lcmp hx hb (hlen rfl rfl) (k0 hP hD hS hl)
  | lshl =>
    obtain ⟨x, y, r, rfl, h2⟩ := xi4_some hstep
    cases xnx_inj h2
    exact lv_lshl hx hb (hlen rfl rfl) rfl (k0 hP hD hS hl)
  | lshr =>
    obtain ⟨x, y, r, rfl, h2⟩ := xi4_some hstep
    cases xnx_inj h2
    exact lv_lshr hx hb (hlen rfl rfl) rfl (k0 hP hD hS hl)
  | lushr =>
    obtain ⟨x, y, r, rfl, h2⟩ := xi4_some hstep
    cases xnx_inj h2
    exact lv_lushr hx hb (hlen rfl rfl) rfl (k0 hP hD hS hl)
  | i2l =>
    obtain ⟨x, r, rfl, h2⟩ := xi1_some hstep
    cases xnx_inj h2
    exact lv_i2l hx hb (hlen rfl rfl) rfl (k0 hP hD hS hl)
  | i2b =>
    obtain ⟨x, r, rfl, h2⟩ := xi1_some hstep
    cases xnx_inj h2
    exact lv_i2b hx hb (hlen rfl rfl) rfl (k0 hP hD hS hl)
  | i2s =>
    obtain ⟨x, r, rfl, h2⟩ := xi1_some hstep
    cases xnx_inj h2
    exact lv_i2s hx hb (hlen rfl rfl) rfl (k0 hP hD hS hl)
  | i2c =>
    obtain ⟨x, r, rfl, h2⟩ := xi1_some hstep
    cases xnx_inj h2
    exact lv_i2c hx hb (hlen rfl rfl) rfl (k0 hP hD hS hl)
  | l2i =>
    obtain ⟨x, r, rfl, h2⟩ := xi5_some hstep
    cases xnx_inj h2
    exact lv_l2i hx hb (hlen rfl rfl) rfl (k0 hP hD hS hl)
  | dup =>
    simp only [xstep] at hstep
    split at hstep
    · obtain ⟨h1, h2⟩ := cond_some hstep
      cases xnx_inj h2
      exact lv_dup hx hb (hlen rfl rfl) (by rw [xcv_cat]; exact Nat.eq_of_beq_eq_true h1) (k0 hP hD hS hl)
    · cases hstep
  | dup2 =>
    simp only [xstep] at hstep
    split at hstep
    · obtain ⟨h1, h2⟩ := cond_some hstep
      cases xnx_inj h2
      rw [Bool.and_eq_true] at h1
      exact lv_dup2_11 hx hb (hlen rfl rfl) (by rw [xcv_cat]; exact Nat.eq_of_beq_eq_true h1.1) (by rw [xcv_cat]; exact Nat.eq_of_beq_eq_true h1.2) (k0 hP hD hS hl)
    · cases hstep
  | goto off =>
    cases xnx_inj hstep
    exact lv_goto hx hb (hlen rfl rfl) (of_decide_eq_true hlb) (k0 hP hD hS hl)
  | ifCond cd off =>
    obtain ⟨x, r, rfl, h2⟩ := xi1_some hstep
    have ht : (pc : Int) + off = (a : Int) := of_decide_eq_true hlb
    cases cd with
    | eq =>
      refine lv_if_eq hx hb (hlen rfl rfl) ht (fun q => ?_) (fun q => ?_)
      · simp only [q, if_true] at h2; cases xnx_inj h2; exact k0 hP hD hS hl
      · simp only [q, if_false] at h2; cases xnx_inj h2; exact k0 hP hD hS hl
    | ne =>
      refine lv_if_ne hx hb (hlen rfl rfl) ht (fun q => ?_) (fun q => ?_)
      · simp only [q, if_false] at h2; cases xnx_inj h2; exact k0 hP hD hS hl
      · simp only [q, if_true] at h2; cases xnx_inj h2; exact k0 hP hD hS hl
    | lt =>
      refine lv_if_lt hx hb (hlen rfl rfl) ht (fun q => ?_) (fun q => ?_)
      · simp only [q, if_true] at h2; cases xnx_inj h2; exact k0 hP hD hS hl
      · simp only [q, if_false] at h2; cases xnx_inj h2; exact k0 hP hD hS hl
    | ge =>
      refine lv_if_ge hx hb (hlen rfl rfl) ht (fun q => ?_) (fun q => ?_)
      · simp only [q, if_true] at h2; cases xnx_inj h2; exact k0 hP hD hS hl
      · simp only [q, if_false] at h2; cases xnx_inj h2; exact k0 hP hD hS hl
    | gt =>
      refine lv_if_gt hx hb (hlen rfl rfl) ht (fun q => ?_) (fun q => ?_)
      · simp only [q, if_true] at h2; cases xnx_inj h2; exact k0 hP hD hS hl
      · simp only [q, if_false] at h2; cases xnx_inj h2; exact k0 hP hD hS hl
    | le =>
      refine lv_if_le hx hb (hlen rfl rfl) ht (fun q => ?_) (fun q => ?_)
      · simp only [q, if_true] at h2; cases xnx_inj h2; exact k0 hP hD hS hl
      · simp only [q, if_false] at h2; cases xnx_inj h2; exact k0 hP hD hS hl
  | if_icmp cd off =>
    obtain ⟨x, y, r, rfl, h2⟩ := xi2_some hstep
    have ht : (pc : Int) + off = (a : Int) := of_decide_eq_true hlb
    cases cd with
    | eq =>
      refine lv_icmp_eq hx hb (hlen rfl rfl) ht (fun q => ?_) (fun q => ?_)
      · simp only [q, if_true] at h2; cases xnx_inj h2; exact k0 hP hD hS hl
      · simp only [q, if_false] at h2; cases xnx_inj h2; exact k0 hP hD hS hl
    | ne =>
      refine lv_icmp_ne hx hb (hlen rfl rfl) ht (fun q => ?_) (fun q => ?_)
      · simp only [q, if_false] at h2; cases xnx_inj h2; exact k0 hP hD hS hl
      · simp only [q, if_true] at h2; cases xnx_inj h2; exact k0 hP hD hS hl
    | lt =>
      refine lv_icmp_lt hx hb (hlen rfl rfl) ht (fun q => ?_) (fun q => ?_)
      · simp only [q, if_true] at h2; cases xnx_inj h2; exact k0 hP hD hS hl
      · simp only [q, if_false] at h2; cases xnx_inj h2; exact k0 hP hD hS hl
    | ge =>
      refine lv_icmp_ge hx hb (hlen rfl rfl) ht (fun q => ?_) (fun q => ?_)
      · simp only [q, if_true] at h2; cases xnx_inj h2; exact k0 hP hD hS hl
      · simp only [q, if_false] at h2; cases xnx_inj h2; exact k0 hP hD hS hl
    | gt =>
      refine lv_icmp_gt hx hb (hlen rfl rfl) ht (fun q => ?_) (fun q => ?_)
      · simp only [q, if_true] at h2; cases xnx_inj h2; exact k0 hP hD hS hl
      · simp only [q, if_false] at h2; cases xnx_inj h2; exact k0 hP hD hS hl
    | le =>
      refine lv_icmp_le hx hb (hlen rfl rfl) ht (fun q => ?_) (fun q => ?_)
      · simp only [q, if_true] at h2; cases xnx_inj h2; exact k0 hP hD hS hl
      · simp only [q, if_false] at h2; cases xnx_inj h2; exact k0 hP hD hS hl
  | tableswitch d lo hi os =>
    obtain ⟨x, r, rfl, h2⟩ := xi1_some hstep
    cases xnx_inj h2
    simp only [xlb, Bool.and_eq_true, decide_eq_true_eq] at hlb
    obtain ⟨⟨⟨⟨b1, b2⟩, b3⟩, b4⟩, b5⟩ := hlb
    by_cases hin : x.toInt < lo ∨ hi < x.toInt
    · have e1 := xsw_out (pc := pc) (x := x) (d := ((pc : Int) + d).toNat) os.toList lo b2 b3 (by omega)
      refine lv_tableOut (tgt := ((pc : Int) + d).toNat) hx hb hdg hin (by omega) ?_
      have := k0 hP hD hS hl
      rw [e1] at this
      exact this
    · obtain ⟨off, e1, e2⟩ := xsw_in (pc := pc) (x := x) (d := ((pc : Int) + d).toNat) os.toList lo b2 b3 (by omega) (by omega)
      have hnn : 0 ≤ (pc : Int) + off := of_decide_eq_true (List.all_eq_true.mp b5 off (List.mem_of_getElem? e1))
      refine lv_tableIn (tgt := ((pc : Int) + off).toNat) (off := off) hx hb hdg (by omega) (by omega) (by rw [← Array.getElem?_toList]; exact e1) (by omega) ?_
      have := k0 hP hD hS hl
      rw [e2] at this
      exact this
  | lookupswitch d ps =>
    obtain ⟨x, r, rfl, h2⟩ := xi1_some hstep
    cases xnx_inj h2
    simp only [xlb, Bool.and_eq_true] at hlb
    obtain ⟨⟨b1, b2⟩, b3⟩ := hlb
    have e1 := xsl_off (pc := pc) (x := x) (dflt := d) ps.toList b3
    have e2 := xsl_nn (pc := pc) (k := x.toInt) (dflt := d) (of_decide_eq_true b2) ps.toList b3
    refine lv_lookup (tgt := ((pc : Int) + Op.lookupswitch.offset ps.toList d x.toInt).toNat) hx hb hdg b1 rfl (by omega) ?_
    have := k0 hP hD hS hl
    rw [e1] at this
    exact this
  | ldc ix =>
    simp only [xlb] at hlb
    simp only [xstep] at hstep
    cases hc : Nat.beq b 1 with
    | true =>
      rw [hc] at hstep hlb
      cases xnx_inj hstep
      have hm := of_decide_eq_true hlb
      rcases G.2.2.2.2.2.1 _ hm with q | q
      · simp only [Prod.mk.injEq] at q
        obtain ⟨q1, q2, q3, q4⟩ := q
        subst q2 q3
        have ho : xcn (xro R) = "FounderSleeps$Town" := by rw [q1]; rfl
        rw [ho] at hown
        exact va_ldcS hx hb hown hE.2.2.2.2.2.2.1 (hlen rfl rfl) (k0 hP hD hS hl)
      · simp only [Prod.mk.injEq] at q
        obtain ⟨q1, q2, q3, q4⟩ := q
        subst q2 q3
        have ho : xcn (xro R) = "FounderSleeps$Deeds" := by rw [q1]; rfl
        rw [ho] at hown
        exact va_ldcS hx hb hown hE.2.2.2.2.2.2.2.1 (hlen rfl rfl) (k0 hP hD hS hl)
    | false =>
      rw [hc] at hstep hlb
      simp only [cond_false] at hstep hlb
      split at hstep
      · rename_i v hv
        cases xnx_inj hstep
        exact lv_ldc hx hb hown (hts _ (G.2.2.2.2.1 _ (of_decide_eq_true hlb) v hv)) (hlen rfl rfl) (k0 hP hD hS hl)
      · cases hstep
  | ldc_w ix =>
    simp only [xlb] at hlb
    simp only [xstep] at hstep
    split at hstep
    · rename_i v hv
      cases xnx_inj hstep
      exact lv_ldcw hx hb hown (hts _ (G.2.2.2.2.1 _ (of_decide_eq_true hlb) v hv)) (hlen rfl rfl) (k0 hP hD hS hl)
    · cases hstep
  | ldc2_w ix =>
    simp only [xlb] at hlb
    simp only [xstep] at hstep
    split at hstep
    · rename_i v hv
      cases xnx_inj hstep
      exact lv_ldc2 hx hb hown (hts _ (G.2.2.2.2.2.2.1 _ (of_decide_eq_true hlb) v hv)) (hlen rfl rfl) (k0 hP hD hS hl)
    · cases hstep
  | getstatic ix =>
    simp only [xlb] at hlb
    simp only [xstep] at hstep
    rcases G.2.2.2.2.2.2.2.1 _ (of_decide_eq_true hlb) with q | q | ⟨q, hw⟩ | ⟨q, hw⟩
    · simp only [Prod.mk.injEq] at q
      obtain ⟨q1, q2, q3, q4⟩ := q
      subst q2 q3
      have ho : xcn (xro R) = "FounderSleeps$Reach" := by rw [q1]; rfl
      rw [ho] at hown
      cases xnx_inj hstep
      exact va_getsN hx hb hE.1 hS hown (va_Nw.use rfl hE.2.2.2.2.2.2.2.2.1) (fun _ h => h) (hlen rfl rfl) (k0 hP hD hS hl)
    · simp only [Prod.mk.injEq] at q
      obtain ⟨q1, q2, q3, q4⟩ := q
      subst q2 q3
      have ho : xcn (xro R) = "FounderSleeps$Night" := by rw [q1]; rfl
      rw [ho] at hown
      cases xnx_inj hstep
      exact va_getsN hx hb hE.2.2.1 hS hown (va_Nw.use rfl hE.2.2.2.2.2.2.2.2.2) (fun _ h => h) (hlen rfl rfl) (k0 hP hD hS hl)
    · cases q
      cases xnx_inj hstep
      exact va_gets hx hb hE.2.2.1 hS hown (hts _ hw) (fun _ h => h) (hlen rfl rfl) (k0 hP hD hS hl)
    · cases q
      cases xnx_inj hstep
      exact va_gets hx hb hE.2.2.2.2.1 hS hown (hts _ hw) (fun _ h => h) (hlen rfl rfl) (k0 hP hD hS hl)
  | getfield ix =>
    simp only [xlb] at hlb
    simp only [xstep] at hstep
    cases hc : Nat.beq a 99 with
    | true =>
      rw [hc] at hstep hlb
      simp only [cond_true] at hstep hlb
      obtain ⟨q, r, rfl, h2⟩ := xi8_some hstep
      obtain ⟨h3, h4⟩ := cond_some h2
      have hw := G.2.2.2.2.2.2.2.2.1 _ (of_decide_eq_true hlb)
      have hq : ∃ i, i < 2 ∧ q = 1002 + i := by
        rcases Bool.or_eq_true _ _ ▸ h3 with h | h
        · exact ⟨0, by decide, Nat.eq_of_beq_eq_true h⟩
        · exact ⟨1, by decide, Nat.eq_of_beq_eq_true h⟩
      obtain ⟨i, hi, rfl⟩ := hq
      cases hf : Nat.beq b 0 with
      | true =>
        rw [hf] at h4
        have e0 : b = 0 := Nat.eq_of_beq_eq_true hf
        cases xnx_inj h4
        refine vk_getf hx hb (hE.2.2.2.2.2.1.1 i hi).2.2.1 hS hown (hts _ (hw.1 e0)) (fun _ h => h) (hlen rfl rfl) ?_
        have := k0 hP hD hS hl
        rw [Nat.add_right_comm 1002 i 2] at this
        exact this
      | false =>
        rw [hf] at h4
        have e0 : b ≠ 0 := Nat.ne_of_beq_eq_false hf
        cases xnx_inj h4
        exact vk_getf hx hb (hE.2.2.2.2.2.1.1 i hi).2.1 hS hown (hts _ (hw.2 e0)) (fun _ h => h) (hlen rfl rfl) (k0 hP hD hS hl)
    | false =>
      rw [hc] at hstep hlb
      simp only [cond_false] at hstep hlb
      obtain ⟨q, r, rfl, h2⟩ := xi8_some hstep
      obtain ⟨fl, f, h3, h4, h5⟩ := xob_some h2
      cases xnx_inj h5
      obtain ⟨C, T, N, g1, g2, g3⟩ := G.1 _ (of_decide_eq_true hlb)
      exact va_get hx hb hts (CF _ _ _ _ g1).1 hown hK hP q (xw_at h3) g1 b g2 (hts _ g3) (fun _ h => h) (v := xcv ad (xfa s0 q b f)) (by rw [List.getElem?_mapIdx, h4]; rfl) (hlen rfl rfl) (k0 hP hD hS hl)
  | putfield ix =>
    simp only [xlb] at hlb
    simp only [xstep] at hstep
    obtain ⟨C, T, N, g1, g2, g3, g4⟩ := G.2.1 _ (of_decide_eq_true hlb)
    obtain ⟨i1, ty0, i2, i3⟩ := CF _ _ _ _ g1
    split at hstep
    · rename_i x q r
      obtain ⟨fl, f, h3, h4, h5⟩ := xob_some hstep
      split at h5
      · cases xnx_inj h5
        refine va_put (ty := .int) (v := .int x) hx hb hts i1 ty0 i2 i3 hown hK hP hD hS q (xw_at h3) g1 b g2 (hts _ g3) (fun _ h => h) g4 (LK _ _ h3 _ _ _ g1 _ _ h4) rfl rfl (by rw [List.length_mapIdx]; exact (List.getElem?_eq_some_iff.mp h4).1) (hlen rfl rfl) (fun H1 locs1 hP1 hD1 hS1 => ?_)
        rw [xw_setI h3 h4 (by decide)] at hP1 hD1
        exact kk H1 locs1 ls hP1 hD1 hS1 hl
      · split at h5
        · rename_i hx01
          cases xnx_inj h5
          refine va_put (ty := .boolean) (v := .int x) hx hb hts i1 ty0 i2 i3 hown hK hP hD hS q (xw_at h3) g1 b g2 (hts _ g3) (fun _ h => h) g4 (LK _ _ h3 _ _ _ g1 _ _ h4) (by rcases hx01 with rfl | rfl <;> rfl) (by rcases hx01 with rfl | rfl <;> rfl) (by rw [List.length_mapIdx]; exact (List.getElem?_eq_some_iff.mp h4).1) (hlen rfl rfl) (fun H1 locs1 hP1 hD1 hS1 => ?_)
          rw [xw_setI h3 h4 (by decide)] at hP1 hD1
          exact kk H1 locs1 ls hP1 hD1 hS1 hl
        · cases h5
      · cases h5
    · rename_i x q r
      obtain ⟨fl, f, h3, h4, h5⟩ := xob_some hstep
      split at h5
      · cases xnx_inj h5
        refine va_put (ty := .long) (v := .long x) hx hb hts i1 ty0 i2 i3 hown hK hP hD hS q (xw_at h3) g1 b g2 (hts _ g3) (fun _ h => h) g4 (LK _ _ h3 _ _ _ g1 _ _ h4) rfl rfl (by rw [List.length_mapIdx]; exact (List.getElem?_eq_some_iff.mp h4).1) (hlen rfl rfl) (fun H1 locs1 hP1 hD1 hS1 => ?_)
        rw [xw_setL h3 h4] at hP1 hD1
        exact kk H1 locs1 ls hP1 hD1 hS1 hl
      · cases h5
    · cases hstep
  | iaload =>
    obtain ⟨x, q, r, rfl, h2⟩ := xi6_some hstep
    rcases xar_some h2 with ⟨n, h3, h4⟩ | ⟨n, f, h3, h4⟩
    · obtain ⟨h5, h6⟩ := xck_some h4
      cases xnx_inj h6
      exact va_iald hx hb hK hP q 0 (xw_at h3) rfl h5 (hlen rfl rfl) (k0 hP hD hS hl)
    · obtain ⟨h5, h6⟩ := xck_some h4
      cases xnx_inj h6
      unfold xRA at h3
      split at h3
      · cases h3; exact va_ti hx hb hE.2.1 hS h5 rfl (hlen rfl rfl) (k0 hP hD hS hl)
      · cases h3; exact va_ti hx hb hE.2.2.2.1 hS h5 rfl (hlen rfl rfl) (k0 hP hD hS hl)
      · cases h3
      · cases h3
      · cases h3
  | baload =>
    obtain ⟨x, q, r, rfl, h2⟩ := xi6_some hstep
    rcases xar_some h2 with ⟨n, h3, h4⟩ | ⟨n, f, h3, h4⟩
    · obtain ⟨h5, h6⟩ := xck_some h4
      cases xnx_inj h6
      exact va_zald hx hb hK hP q 1 (xw_at h3) rfl h5 (hlen rfl rfl) (k0 hP hD hS hl)
    · obtain ⟨h5, h6⟩ := xck_some h4
      cases xnx_inj h6
      unfold xRA at h3
      split at h3
      · cases h3
      · cases h3
      · cases h3; exact va_tb hx hb (hE.2.2.2.2.2.1.1 0 (by decide)).2.2.2 hS h5 rfl (hlen rfl rfl) (k0 hP hD hS hl)
      · cases h3; exact va_tb hx hb (hE.2.2.2.2.2.1.1 1 (by decide)).2.2.2 hS h5 rfl (hlen rfl rfl) (k0 hP hD hS hl)
      · cases h3
  | iastore =>
    obtain ⟨x, j, q, r, rfl, h2⟩ := xi7_some hstep
    obtain ⟨n, h3, h4⟩ := xaw_some h2
    obtain ⟨h5, h6⟩ := xck_some h4
    cases xnx_inj h6
    refine va_iast hx hb hK hP hD hS q 0 (xw_at h3) rfl h5 (hlen rfl rfl) (fun H1 locs1 hP1 hD1 hS1 => ?_)
    have e1 := xw_setA (cI := cI) (cZ := cZ) (ad := ad) (s := s0) (g := upd (s0.1 q) j.toNatClampNeg x) h3
    rw [e1] at hP1 hD1
    exact kk H1 locs1 ls hP1 hD1 hS1 hl
  | bastore =>
    obtain ⟨x, j, q, r, rfl, h2⟩ := xi7_some hstep
    obtain ⟨n, h3, h4⟩ := xaw_some h2
    obtain ⟨h5, h6⟩ := xck_some h4
    cases xnx_inj h6
    refine va_zast hx hb hK hP hD hS q 1 (xw_at h3) rfl h5 (hlen rfl rfl) (fun H1 locs1 hP1 hD1 hS1 => ?_)
    have e1 := xw_setA (cI := cI) (cZ := cZ) (ad := ad) (s := s0) (g := upd (s0.1 q) j.toNatClampNeg (vp_nar .boolean x)) h3
    rw [e1] at hP1 hD1
    exact kk H1 locs1 ls hP1 hD1 hS1 hl
  | arraylength =>
    obtain ⟨q, r, rfl, h2⟩ := xi8_some hstep
    split at h2
    · rename_i bb h3
      cases xnx_inj h2
      obtain ⟨zz, n⟩ := bb
      cases zz with
      | true => exact va_alen hx hb hK hP q 1 (xw_at h3) (ty := .boolean) rfl rfl (hlen rfl rfl) (k0 hP hD hS hl)
      | false => exact va_alen hx hb hK hP q 0 (xw_at h3) (ty := .int) rfl rfl (hlen rfl rfl) (k0 hP hD hS hl)
    · cases h2
    · split at h2
      · rename_i bb h3
        cases xnx_inj h2
        unfold xRA at h3
        split at h3
        · cases h3; exact va_tlen hx hb hE.2.1 hS rfl (hlen rfl rfl) (k0 hP hD hS hl)
        · cases h3; exact va_tlen hx hb hE.2.2.2.1 hS rfl (hlen rfl rfl) (k0 hP hD hS hl)
        · cases h3; exact va_tlen hx hb (hE.2.2.2.2.2.1.1 0 (by decide)).2.2.2 hS rfl (hlen rfl rfl) (k0 hP hD hS hl)
        · cases h3; exact va_tlen hx hb (hE.2.2.2.2.2.1.1 1 (by decide)).2.2.2 hS rfl (hlen rfl rfl) (k0 hP hD hS hl)
        · cases h3
      · cases h2
  | invokestatic ix =>
    simp only [xlb] at hlb
    simp only [xstep] at hstep
    cases hc : Nat.beq a 902 with
    | false =>
      rw [hc] at hstep
      simp only [cond_false] at hstep
      cases hc0 : Nat.beq a 900 with
      | true =>
        have ea : a = 900 := Nat.eq_of_beq_eq_true hc0
        rw [hc0] at hstep
        subst ea
        simp only [cond_true] at hstep
        obtain ⟨x, y, r, rfl, h2⟩ := xi2_some hstep
        obtain ⟨h3, h4⟩ := cond_some h2
        cases xnx_inj h4
        have g6 : xcat r ≤ 8 := Nat.le_of_ble_eq_true h3
        have hlb' := hlb
        simp only [show Nat.beq 900 998 = false from rfl, show (Nat.beq 900 902 || Nat.beq 900 900 || Nat.beq 900 901) = true from rfl, cond_true, cond_false, Bool.and_eq_true, decide_eq_true_eq] at hlb'
        obtain ⟨hlk, hf1, hf2⟩ := hlb'
        have f1 : 1 ≤ xrf R := Nat.le_of_ble_eq_true hf1
        have f2 : 26 ≤ xrk R := Nat.le_of_ble_eq_true hf2
        have hw := (G.2.2.2.1 _ hlk).1.2.1 rfl
        have gs := G.2.2.2.2.2.2.2.2.2.2.2.2
        exact va_mmin hx hb (hml.trans hl.1.symm) hown (hts _ hw) (hts _ gs.1) (hts _ gs.2.2.1) (hts _ gs.2.2.2.1) (by rw [hRm]; exact f1) (by rw [hRm, xcat_map]; show xcat r + 13 ≤ xrk R; omega) (Nat.zero_le _) (Nat.zero_le _) (hlen rfl rfl) (k0 hP hD hS hl)
      | false =>
        rw [hc0] at hstep
        simp only [cond_false] at hstep
        cases hc1 : Nat.beq a 901 with
        | true =>
          have ea : a = 901 := Nat.eq_of_beq_eq_true hc1
          rw [hc1] at hstep
          subst ea
          simp only [cond_true] at hstep
          obtain ⟨x, y, r, rfl, h2⟩ := xi2_some hstep
          obtain ⟨h3, h4⟩ := cond_some h2
          cases xnx_inj h4
          have g6 : xcat r ≤ 8 := Nat.le_of_ble_eq_true h3
          have hlb' := hlb
          simp only [show Nat.beq 901 998 = false from rfl, show (Nat.beq 901 902 || Nat.beq 901 900 || Nat.beq 901 901) = true from rfl, cond_true, cond_false, Bool.and_eq_true, decide_eq_true_eq] at hlb'
          obtain ⟨hlk, hf1, hf2⟩ := hlb'
          have f1 : 1 ≤ xrf R := Nat.le_of_ble_eq_true hf1
          have f2 : 26 ≤ xrk R := Nat.le_of_ble_eq_true hf2
          have hw := (G.2.2.2.1 _ hlk).1.2.2 rfl
          have gs := G.2.2.2.2.2.2.2.2.2.2.2.2
          exact va_mmax hx hb (hml.trans hl.1.symm) hown (hts _ hw) (hts _ gs.2.1) (hts _ gs.2.2.1) (hts _ gs.2.2.2.2) (by rw [hRm]; exact f1) (by rw [hRm, xcat_map]; show xcat r + 13 ≤ xrk R; omega) (Nat.zero_le _) (Nat.zero_le _) (hlen rfl rfl) (k0 hP hD hS hl)
        | false =>
          rw [hc1] at hstep
          simp only [cond_false] at hstep
          have := (cond_some hstep).2
          cases this
    | true =>
      rw [hc] at hstep hlb
      have ea : a = 902 := Nat.eq_of_beq_eq_true hc
      have h98 : Nat.beq a 998 = false := by rw [ea]; rfl
      rw [h98] at hlb
      simp only [cond_true, cond_false, Bool.true_or, Bool.and_eq_true, decide_eq_true_eq] at hstep hlb
      obtain ⟨hlk, hf1, hf2⟩ := hlb
      split at hstep
      · rename_i n j q i q0 r
        obtain ⟨n0, h3, h4⟩ := xaw_some hstep
        obtain ⟨n1, h5, h6⟩ := xaw_some h4
        obtain ⟨h7, h8⟩ := xck_some h6
        cases xnx_inj h8
        have hw := (G.2.2.2.1 _ hlk).1.1 ea
        have g1 : ¬ i < 0 := fun z => h7 (Or.inl z)
        have g2 : ¬ j < 0 := fun z => h7 (Or.inr (Or.inl z))
        have g3 : ¬ n < 0 := fun z => h7 (Or.inr (Or.inr (Or.inl z)))
        have g4 : i.toNatClampNeg + n.toNatClampNeg ≤ n0 := Nat.not_lt.mp fun z => h7 (Or.inr (Or.inr (Or.inr (Or.inl z))))
        have g5 : j.toNatClampNeg + n.toNatClampNeg ≤ n1 := Nat.not_lt.mp fun z => h7 (Or.inr (Or.inr (Or.inr (Or.inr (Or.inl z)))))
        have g6 : xcat r ≤ 8 := Nat.not_lt.mp fun z => h7 (Or.inr (Or.inr (Or.inr (Or.inr (Or.inr z)))))
        have f1 : 1 ≤ xrf R := Nat.le_of_ble_eq_true hf1
        have f2 : 26 ≤ xrk R := Nat.le_of_ble_eq_true hf2
        refine va_copyi hx hb (hml.trans hl.1.symm) hown (hts _ hw) (hts _ G.2.2.2.2.2.2.2.2.2.1) (hts _ G.2.2.2.2.2.2.2.2.2.2.1) (hts _ G.2.2.2.2.2.2.2.2.2.2.2.1) hK hP hD hS q0 q 0 0 (xw_at h3) (xw_at h5) rfl rfl rfl g1 g2 g3 g4 g5 (fun _ _ => rfl) (by rw [hRm]; exact f1) (by rw [hRm, xcat_map]; show xcat r + (5 + 2 + 11) ≤ xrk R; omega) (hlen rfl rfl) (fun H1 locs1 hP1 hD1 hS1 => ?_)
        have e1 := xw_setA (cI := cI) (cZ := cZ) (ad := ad) (s := s0) (g := va_cpy (s0.1 q0) (s0.1 q) i.toNatClampNeg j.toNatClampNeg n.toNatClampNeg) h5
        rw [e1] at hP1 hD1
        exact kk H1 locs1 ls hP1 hD1 hS1 hl
      · cases hstep
  | invokevirtual ix =>
    simp only [xstep] at hstep
    split at hstep
    · have := (cond_some hstep).2
      cases this
    · cases hstep
  | return_ =>
    simp only [xstep] at hstep
    split at hstep <;> cases hstep
  | ireturn =>
    simp only [xstep] at hstep
    split at hstep
    · split at hstep <;> cases hstep
    · cases hstep
  | lreturn =>
    simp only [xstep] at hstep
    split at hstep <;> cases hstep
  | areturn =>
    simp only [xstep] at hstep
    split at hstep <;> cases hstep
  | _ => cases hstep
end XGO
end
section
def xrm (R : xRec) : Room := { frames := xrf R, cells := 0, slots := 0, locals := xrk R }
def xws (R : xRec) : List Cond := Cond.code (xry R) (xrc R) (xrL R) (xrt R) :: xTg
def xPc (D : va_G) (cI cZ : ClassId) (ad : Nat → Nat) (Ly : xLy) (as : List Value) (s0 : xS) (sz : Nat) : Array Value → State → Prop := va_Pc (as.map (xcv ad)) (fun U => U.heap.size = sz ∧ va_P D vwCl (xw cI cZ ad Ly s0) U.heap ∧ va_K D vwCl (xty cI cZ) U ∧ va_D (fun _ => True) (xw cI cZ ad Ly s0) ∧ xEn ad (va_A (xw cI cZ ad Ly s0) sz) U U.heap)
def xQc (D : va_G) (cI cZ : ClassId) (ad : Nat → Nat) (Ly : xLy) (r : Option Value) (s1 : xS) (A : Nat → Prop) : Array Value → State → Outcome → State → Prop := fun _ st oc t => oc = .returned (r.map (xcv ad)) ∧ va_P D vwCl (xw cI cZ ad Ly s1) t.heap ∧ va_F A st t
/-- what is known of a method of the table -/
def xRg (Ms : List xRec) (R : xRec) : Prop := (∀ q ∈ xri R, xeb Ms R q = true) ∧ (xry R).cls = xcn (xro R) ∧ Cond.code (xry R) (xrc R) (xrL R) (xrt R) ∈ xTg ∧ Cond.initialized (xry R).cls ∈ xTg ∧ plainName (xry R).cls = true ∧
  ((xry R).cls ≠ "java/lang/invoke/MethodHandle" ∧ (xry R).cls ≠ "java/lang/invoke/VarHandle" ∧ (parseMethodDescriptor (xry R).desc).map (fun d => d.parameters.length) = some (xrn R)) ∧
  (xrv R = true → Cond.instanceMethod (xry R) ∈ xTg ∧ Cond.selects (xry R).cls (xry R) (xry R) ∈ xTg ∧ ((xro R = 12 ∧ (xry R).cls = "java/lang/String") ∨ ∃ T N, vwCl[xro R]? = some ((xry R).cls, T, N))) ∧
  (xrv R = false → Cond.static (xry R) ∈ xTg)
theorem xTg_good {ws : List Cond} (h : ∀ w ∈ ws, w ∈ xTg) : GoodIn xTg ws := fun w hw => ⟨h w hw, good_of_word (List.mem_filter.mp (h w hw)).2⟩
theorem lv_args_cv (ad : Nat → Nat) : ∀ (as : List Value) (i : Nat), lv_args i (as.map (xcv ad)) = xcl ad (lv_args i as)
  | [], _ => rfl
  | v :: vs, i => by
    show (i, xcv ad v) :: lv_args (if (xcv ad v).category = 2 then i + 2 else i + 1) (vs.map (xcv ad)) = (i, xcv ad v) :: xcl ad (lv_args (if v.category = 2 then i + 2 else i + 1) vs)
    rw [xcv_cat, lv_args_cv ad vs]
theorem lg_sl_cv (ad : Nat → Nat) : ∀ (as : List Value), (lg_sl (as.map (xcv ad))).length = (lg_sl as).length
  | [] => rfl
  | v :: vs => by
    have h := lg_sl_cv ad vs
    unfold lg_sl at h ⊢
    simp only [List.map_cons, List.flatMap_cons, List.length_append, xcv_cat, h]
    congr 1
    split <;> rfl
section XSIM
variable {p : Program} {l : Launch} {e : Env} {Rm : Room} {s : State} {m : MethodId} {args : Array Value} {below : List Frame} {meth : Method} {c : Code} {Q : State → Prop} {A A1 : Nat → Prop} {D : va_G} {cI cZ : ClassId} {ad : Nat → Nat} {Ly : xLy} {Ms : List xRec} {R : xRec} {H : Heap} {locs : List Loc} {ls : Array Slot}
theorem xcall {pc : Nat} {rest st0 : List Value} {a : Array Value} {free : Addr → Prop} {r : Option Value} {s1 : xS} (hr : va_Run p l e Rm s m args below meth c H locs 0 0 0 0 (F0 m pc ls st0) rest (xQc D cI cZ ad Ly r s1 A1 a) free) (hS : va_S A s.heap H locs) (hA : ∀ q, q < H.size → A1 q → A q) (hf : ∀ q, free q → A q)
    (kk : ∀ (H1 : Heap) (locs1 : List Loc), va_P D vwCl (xw cI cZ ad Ly s1) H1 → va_S A s.heap H1 locs1 → W p l e Rm s m args below meth c H1 locs1 0 0 Q (F0 m (pc + 3) ls ((r.map (xcv ad)).toList ++ rest))) : W p l e Rm s m args below meth c H locs 0 0 Q (F0 m pc ls st0) := by
  intro T hT X
  obtain ⟨v, st₀, t, T', L, h0, X', hL, e1, e2, ⟨hv, hp, hz, hk⟩, st⟩ := hr T hT X
  cases hv
  rw [h0] at hz hk
  obtain ⟨t2, a1, b1⟩ := kk T'.heap (locs ++ L) (by rw [e1]; exact hp)
    ⟨Nat.le_trans hS.1 (by rw [e1]; exact hz), fun q h1 h2 => by rw [e1, hk q (Nat.lt_of_lt_of_le h1 hS.1) (fun z => h2 (hA q (Nat.lt_of_lt_of_le h1 hS.1) z))]; exact hS.2.1 q h1 h2, fun q hq => by
      rcases List.mem_append.mp hq with h | h
      · exact hS.2.2 q h
      · exact hf _ (hL q h)⟩ T' rfl X'
  exact ⟨t2, st t2 a1, b1⟩
theorem xw_free {s0 : xS} (hD : va_D A (xw cI cZ ad Ly s0)) (hS : va_S A s.heap H locs) (hA : ∀ q, s.heap.size ≤ q → A q) : ∀ q, va_A (xw cI cZ ad Ly s0) H.size q → A q := by
  intro q hq
  rcases hq with ⟨k, e, hk⟩ | h
  · exact hD.2 k _ hk
  · exact hA q (Nat.le_trans hS.1 h)
set_option maxHeartbeats 4000000 in
/-- a return -/
theorem xret (RG : xRg Ms R) {pc : Nat} {en : xEnt} {lv : xLv} {st : List Value} {s0 : xS} {r : Option Value} (hstep : xstep Ly (xrz R) pc en lv st s0 = some (.inr (.inr r))) (hisr : xisr en.1 = true) (hen : xeb Ms R (pc, en) = true)
    (hx : p.tables.exec = Jvm.exec) (hb : c.code = xrc R) (hr : meth.sig.returnType = xrt R) (hlocks : meth.locks = false) (hP : va_P D vwCl (xw cI cZ ad Ly s0) H) (hS : va_S A s.heap H locs) :
    W p l e Rm s m args below meth c H locs 0 0 (MQ below (xQc D cI cZ ad Ly r s0 A) args s 0 0 A) (F0 m pc ls (st.map (xcv ad))) := by
  obtain ⟨i, len, a, b, mk⟩ := en
  unfold xeb at hen
  simp only [Bool.and_eq_true, decide_eq_true_eq, Bool.or_eq_true] at hen
  obtain ⟨⟨hdg, hln⟩, hlb⟩ := hen
  have hlen : ∀ {i' : Instr}, i = i' → xsx i' = false → decode (xrc R) pc = .ok (i', xlen i') := by
    intro i' e1 e2
    subst e1
    rw [e2] at hln
    simp only [Bool.false_eq_true, false_or] at hln
    rw [hdg, Nat.eq_of_beq_eq_true hln]
  have hq : ∀ (v : Option Value) (t : State), v = r.map (xcv ad) → t.heap = H → s.WarmedH t.vm → xQc D cI cZ ad Ly r s0 A args s (.returned v) t := fun v t ev ht _ => ⟨by rw [ev], by rw [ht]; exact hP, hS.F ht⟩
  cases i with
  | return_ =>
    simp only [xstep] at hstep
    simp only [xlb] at hlb
    split at hstep
    · cases hstep
      exact W.vret hx hb (hr.trans (of_decide_eq_true hlb)) (hq none · rfl) hS.2.2 (hlen rfl rfl)
    · cases hstep
  | ireturn =>
    simp only [xstep] at hstep
    simp only [xlb] at hlb
    split at hstep
    · rename_i v
      split at hstep
      · cases hstep
      · rename_i hv
        cases hstep
        simp only [Bool.or_eq_true, decide_eq_true_eq] at hlb
        rcases hlb with (h | h) | h
        · exact W.iret hx hb (hr.trans h) (hq (some (.int v)) · rfl) hS.2.2 (hlen rfl rfl)
        · have hz : xrz R = true := by unfold xrz; rw [h]
          have h01 : v = 0 ∨ v = 1 := by
            by_cases h0 : v = 0
            · exact Or.inl h0
            · by_cases h1 : v = 1
              · exact Or.inr h1
              · exact absurd ⟨hz, h0, h1⟩ hv
          exact W.zret hx hb (hr.trans h) (by rcases h01 with rfl | rfl <;> rfl) (hq (some (.int v)) · rfl) hS.2.2 (hlen rfl rfl)
        · have hz : xrz R = true := by unfold xrz; rw [h]
          have h01 : v = 0 ∨ v = 1 := by
            by_cases h0 : v = 0
            · exact Or.inl h0
            · by_cases h1 : v = 1
              · exact Or.inr h1
              · exact absurd ⟨hz, h0, h1⟩ hv
          exact W.zret hx hb (hr.trans h) (by rcases h01 with rfl | rfl <;> rfl) (hq (some (.int v)) · rfl) hS.2.2 (hlen rfl rfl)
    · cases hstep
  | lreturn =>
    simp only [xstep] at hstep
    simp only [xlb] at hlb
    split at hstep
    · rename_i v
      cases hstep
      exact W.lret hx hb (hr.trans (of_decide_eq_true hlb)) (hq (some (.long v)) · rfl) hS.2.2 (hlen rfl rfl)
    · cases hstep
  | areturn =>
    simp only [xstep] at hstep
    simp only [xlb] at hlb
    split at hstep
    · rename_i v
      cases hstep
      split at hlb
      · rename_i nm hn
        exact W.aret hx hb (hr.trans hn) (Or.inl ⟨_, rfl⟩) (Or.inr ⟨ad v, rfl⟩) (hq (some (.ref (ad v))) · rfl) hS.2.2 (hlen rfl rfl)
      · cases hlb
    · cases hstep
  | _ => cases hisr
set_option maxHeartbeats 4000000 in
set_option maxRecDepth 100000 in
/-- the abstract machine's runs are the machine's -/
theorem xsim (l : Launch) (D : va_G) (cI cZ : ClassId) (ad : Nat → Nat) (G : xLG Ms) (CF : xCF) (LK : xLyk Ly) (RG : ∀ R ∈ Ms, xRg Ms R) (ML : Ms.length ≤ 900) : ∀ (n : Nat) (R : xRec) (f : xF) (r : Option Value) (s1 : xS), R ∈ Ms → xexec Ms Ly n R f = some (r, s1) →
    ∀ (p : Program) (e : Env) (s : State) (m : MethodId) (args : Array Value) (below : List Frame) (meth : Method) (c : Code) (A : Nat → Prop) (H : Heap) (locs : List Loc) (ls : Array Slot),
    p.tables.exec = Jvm.exec → c.code = xrc R → c.maxLocals = xrL R → meth.sig.returnType = xrt R → meth.locks = false → (∀ w ∈ xTg, w.before args s = true) → s.vm.findClass (xry R).cls = some m.cls → (∀ q, s.heap.size ≤ q → A q) → xEn ad A s s.heap →
    va_K D vwCl (xty cI cZ) s → va_P D vwCl (xw cI cZ ad Ly f.2.2.2) H → va_D A (xw cI cZ ad Ly f.2.2.2) → va_S A s.heap H locs → lv_has ls (xrL R) (xcl ad f.2.1) →
    W p l e (xrm R) s m args below meth c H locs 0 0 (MQ below (xQc D cI cZ ad Ly r s1 A) args s 0 0 A) (F0 m f.1 ls (f.2.2.1.map (xcv ad))) := by
  intro n
  induction n with
  | zero => intro R f r s1 hR h; cases h
  | succ n ih =>
    intro R f r s1 hR h p e s m args below meth c A H locs ls hx hb hml hr hlocks hts hown hA hE hK hP hD hS hl
    obtain ⟨pc, lv, st, s0⟩ := f
    simp only [xexec] at h
    cases hlk : xlk (xri R) pc with
    | none => rw [hlk] at h; cases h
    | some en =>
      rw [hlk] at h
      simp only at h
      have hg := RG R hR
      have hen := hg.1 _ (xlk_mem hlk)
      have hl' := xmask_has (m := en.2.2.2.2) hl
      cases hst : xstep Ly (xrz R) pc en (xmask en.2.2.2.2 lv) st s0 with
      | none => rw [hst] at h; cases h
      | some o =>
        rw [hst] at h
        rcases o with g | cc | rr
        · exact xgo G CF LK hst hen rfl hg.2.1 hx hb hml hts hown hE hK hP hD hS hl' (fun H1 locs1 ls1 hP1 hD1 hS1 hl1 => ih R g r s1 hR h p e s m args below meth c A H1 locs1 ls1 hx hb hml hr hlocks hts hown hA hE hK hP1 hD1 hS1 hl1)
        · simp only at h
          cases hms : Ms[cc.1]? with
          | none => rw [hms] at h; cases h
          | some R' =>
            rw [hms] at h
            obtain ⟨hcd, h⟩ := cond_some h
            rw [Bool.and_eq_true, Bool.and_eq_true] at hcd
            obtain ⟨⟨hisc, hrecv⟩, hfit⟩ := hcd
            cases hxe : xexec Ms Ly n R' (0, lv_args 0 cc.2.1, [], s0) with
            | none => rw [hxe] at h; cases h
            | some q =>
              rw [hxe] at h
              simp only at h
              obtain ⟨r2, s2⟩ := q
              have hR' : R' ∈ Ms := List.mem_of_getElem? hms
              have hg' := RG R' hR'
              have hfit' : (lg_sl (cc.2.1.map (xcv ad))).length ≤ xrL R' := by rw [lg_sl_cv]; exact Nat.le_of_ble_eq_true hfit
              -- the callee's contract
              have hM : Met l (xry R') (xws R') (xrm R') (xPc D cI cZ ad Ly cc.2.1 s0 H.size) (xQc D cI cZ ad Ly r2 s2 (va_A (xw cI cZ ad Ly s0) H.size)) 0 0 (va_A (xw cI cZ ad Ly s0) H.size) := by
                refine Met.ofW (cc := xrc R') (maxL := xrL R') (ret := xrt R') hg'.2.2.2.2.1 rfl ?_
                intro p' e' s' m' args' below' meth' c' s₁' B hml' hv
                obtain ⟨rfl, hsz, hP', hK', hD', hE'⟩ := hv
                have hts' := atoms_spec (ws := xws R') B.pre
                have hown' : s'.vm.findClass (xry R').cls = some m'.cls := findClass_of_methodNamed B.named
                rw [lg_entry_eq]
                have hl0 := lv_entry (cc.2.1.map (xcv ad)) (n := xrL R') hfit'
                rw [lv_args_cv] at hl0
                rw [← hsz] at hE' ⊢
                exact ih R' (0, lv_args 0 cc.2.1, [], s0) r2 s2 hR' hxe p' e' s' m' _ below' meth' c' _ s'.heap [] _ B.exec B.bytes hml' B.returns B.notSynchronized (fun w hw => hts' w (List.mem_cons_of_mem _ hw)) hown' (fun q hq => Or.inr hq) hE' hK' hP' hD'.self va_S.rf hl0
              have hFc := xw_free hD hS hA
              have hEH : xEn ad A s H := hE.kept hS.2.1
              have hblind : FrameBlind (xPc D cI cZ ad Ly cc.2.1 s0 H.size) := fun a U g mk q => by
                obtain ⟨q0, q1, qP, qK, qD, qE⟩ := q
                exact ⟨q0, q1, qP, va_K.moved (u := U) (U := U.calling g mk a) (Vm.Alike.refl U.vm) qK, qD, xEn.same (u := U) (U := U.calling g mk a) rfl (Vm.Alike.refl U.vm) qE⟩
              have hpre : ∀ U : State, U.heap = H → s.WarmedH U.vm → xPc D cI cZ ad Ly cc.2.1 s0 H.size (cc.2.1.map (xcv ad)).toArray U := fun U hU hW =>
                ⟨rfl, by rw [hU], by rw [hU]; exact hP, va_K.moved hW.alike hK, hD.weaken (fun _ _ _ _ => trivial), by rw [hU]; exact (hEH.narrow hFc).warm hW⟩
              have hkk : ∀ (H1 : Heap) (locs1 : List Loc), va_P D vwCl (xw cI cZ ad Ly s2) H1 → va_S A s.heap H1 locs1 → W p l e (xrm R) s m args below meth c H1 locs1 0 0 (MQ below (xQc D cI cZ ad Ly r s1 A) args s 0 0 A) (F0 m (pc + 3) ls ((r2.map (xcv ad)).toList ++ cc.2.2.map (xcv ad))) := fun H1 locs1 hP1 hS1 => by
                have hz := ih R (pc + 3, xmask en.2.2.2.2 lv, r2.toList ++ cc.2.2, s2) r s1 hR h p e s m args below meth c A H1 locs1 ls hx hb hml hr hlocks hts hown hA hE hK hP1 (xw_ad hD) hS1 hl'
                rw [List.map_append] at hz
                have he : (r2.map (xcv ad)).toList = r2.toList.map (xcv ad) := by cases r2 <;> rfl
                rw [he]
                exact hz
              obtain ⟨i, len, a, b, mk⟩ := en
              have hen0 := hen
              unfold xeb at hen
              simp only [Bool.and_eq_true, decide_eq_true_eq, Bool.or_eq_true] at hen
              obtain ⟨⟨hdg, hln⟩, hlb⟩ := hen
              have hlen : ∀ {i' : Instr}, i = i' → xsx i' = false → decode (xrc R) pc = .ok (i', xlen i') := by
                intro i' e1 e2
                subst e1
                rw [e2] at hln
                simp only [Bool.false_eq_true, false_or] at hln
                rw [hdg, Nat.eq_of_beq_eq_true hln]
              have hown2 := hown
              rw [hg.2.1] at hown2
              cases i with
              | invokestatic ix =>
                simp only [xstep] at hst
                simp only [xlb] at hlb
                cases hc2 : Nat.beq a 902 with
                | true =>
                  rw [hc2] at hst
                  simp only [cond_true] at hst
                  split at hst
                  · obtain ⟨n0, -, h4⟩ := xaw_some hst
                    obtain ⟨n1, -, h6⟩ := xaw_some h4
                    obtain ⟨-, h8⟩ := xck_some h6
                    cases h8
                  · cases hst
                | false =>
                  rw [hc2] at hst hlb
                  simp only [cond_false] at hst hlb
                  cases hc0 : Nat.beq a 900 with
                  | true =>
                    rw [hc0] at hst
                    simp only [cond_true] at hst
                    obtain ⟨_, _, _, -, h2⟩ := xi2_some hst
                    have := (cond_some h2).2
                    cases this
                  | false =>
                  cases hc1 : Nat.beq a 901 with
                  | true =>
                    rw [hc0, hc1] at hst
                    simp only [cond_true, cond_false] at hst
                    obtain ⟨_, _, _, -, h2⟩ := xi2_some hst
                    have := (cond_some h2).2
                    cases this
                  | false =>
                  rw [hc0, hc1] at hst hlb
                  simp only [cond_false, Bool.false_or] at hst hlb
                  obtain ⟨hst1, hst2⟩ := cond_some hst
                  rw [Bool.and_eq_true] at hst1
                  have hble : b ≤ st.length := Nat.le_of_ble_eq_true hst1.1
                  have hcat : xcat (st.drop b) ≤ 8 := Nat.le_of_ble_eq_true hst1.2
                  have ecc : cc = (a, (st.take b).reverse, st.drop b) := by cases hst2; rfl
                  subst ecc
                  cases h98 : Nat.beq a 998 with
                  | true =>
                    have ea : a = 998 := Nat.eq_of_beq_eq_true h98
                    have := (List.getElem?_eq_some_iff.mp hms).1
                    simp only at this
                    omega
                  | false =>
                    rw [h98] at hlb
                    simp only [cond_false, Bool.and_eq_true, decide_eq_true_eq] at hlb
                    obtain ⟨hlk2, hok⟩ := hlb
                    unfold xcallok at hok
                    have hms2 : Ms[a]? = some R' := hms
                    rw [hms2] at hok
                    simp only [Bool.and_eq_true] at hok
                    obtain ⟨⟨⟨o1, o2⟩, o3⟩, o4⟩ := hok
                    have hsv : xrv R' = false := by simpa using o1
                    have hnb : xrn R' = b := Nat.eq_of_beq_eq_true o2
                    have hw := (G.2.2.2.1 _ hlk2).2 R' hms2
                    have cw := va_cwS (R := xrm R) (s := s) (args := args) (own := xcn (xro R)) (index := ix) (y := xry R') (bytes := xrc R') (maxL := xrL R') (mc := 0) (ms := 0) (ret := xrt R') (Ts := xTg) (ws := xws R') (ws' := xTg) (rm := xrm R') (xrn R') hts (xTg_good (fun w hw2 => by
                      unfold va_wsS at hw2
                      rcases List.mem_append.mp hw2 with h1 | h1
                      · simp only [List.mem_cons, List.not_mem_nil, or_false] at h1
                        rcases h1 with rfl | rfl | rfl
                        · exact hw
                        · exact hg'.2.2.2.2.2.2.2 hsv
                        · exact hg'.2.2.2.1
                      · rcases List.mem_cons.mp h1 with rfl | h1
                        · exact hg'.2.2.1
                        · exact h1)) rfl rfl rfl hg'.2.2.2.2.2.1 ⟨Nat.le_of_ble_eq_true o3, Nat.le_of_ble_eq_true o4⟩
                    refine xcall (va_runS (g := F0 m pc ls (st.map (xcv ad))) (As := (st.take b).reverse.map (xcv ad)) (rest := (st.drop b).map (xcv ad)) (Ts := xTg) ⟨hx, hb, hml, hown2, hts⟩ hM cw ⟨hblind, hpre⟩ rfl (by rw [List.length_map, List.length_reverse, List.length_take, hnb]; omega) hl.1 ?_ (lv_room (by rw [xcat_map]; exact hcat)) (hlen rfl rfl) ⟨Nat.le_refl _, Nat.le_refl _⟩) hS (fun q _ h => hFc q h) hFc hkk
                    show st.map (xcv ad) = _
                    rw [← List.map_reverse, List.reverse_reverse, ← List.map_append, List.take_append_drop]
              | invokevirtual ix =>
                simp only [xstep] at hst
                simp only [xlb, Bool.and_eq_true, decide_eq_true_eq] at hlb
                obtain ⟨hlk2, hok⟩ := hlb
                split at hst
                · rename_i q rr hdr
                  obtain ⟨hst1, hst2⟩ := cond_some hst
                  have hcat : xcat rr ≤ 8 := Nat.le_of_ble_eq_true hst1
                  have ecc : cc = (a, .ref q :: (st.take b).reverse, rr) := by cases hst2; rfl
                  subst ecc
                  have hbl : b < st.length := by
                    rcases Nat.lt_or_ge b st.length with h1 | h1
                    · exact h1
                    · rw [List.drop_eq_nil_of_le h1] at hdr; cases hdr
                  unfold xcallok at hok
                  have hms2 : Ms[a]? = some R' := hms
                  rw [hms2] at hok
                  simp only [Bool.and_eq_true] at hok
                  obtain ⟨⟨⟨o1, o2⟩, o3⟩, o4⟩ := hok
                  have hsv : xrv R' = true := by simpa using o1
                  have hnb : xrn R' = b := Nat.eq_of_beq_eq_true o2
                  have hw := G.2.2.1 _ hlk2 R' hms2
                  have hvi := hg'.2.2.2.2.2.2.1 hsv
                  have cw := cwV (R := xrm R) (s := s) (args := args) (own := xcn (xro R)) (C := (xry R').cls) (index := ix) (y := xry R') (bytes := xrc R') (maxL := xrL R') (mc := 0) (ms := 0) (ret := xrt R') (Ts := xTg) (ws := xws R') (ws' := xTg) (rm := xrm R') (xrn R') hts (xTg_good (fun w hw2 => by
                    unfold wsV at hw2
                    rcases List.mem_append.mp hw2 with h1 | h1
                    · simp only [List.mem_cons, List.not_mem_nil, or_false] at h1
                      rcases h1 with rfl | rfl | rfl | rfl
                      · exact hw
                      · exact hvi.1
                      · exact hvi.2.1
                      · exact hg'.2.2.2.1
                    · rcases List.mem_cons.mp h1 with rfl | h1
                      · exact hg'.2.2.1
                      · exact h1)) rfl rfl rfl ⟨rfl, hg'.2.2.2.2.2.1⟩ ⟨Nat.le_of_ble_eq_true o3, Nat.le_of_ble_eq_true o4⟩
                  have hrc : ∃ cell : Cell, H[ad q]? = some cell ∧ cell.vm.isStatics = false ∧ s.vm.findClass (xry R').cls = some cell.cls := by
                    unfold xrecv at hrecv
                    rw [hsv] at hrecv
                    simp only [cond_true] at hrecv
                    rcases hvi.2.2 with ⟨g1, g2⟩ | ⟨T, N, g1⟩
                    · rw [g1] at hrecv
                      rw [g2]
                      have hq : ∃ i, i < 2 ∧ q = 1002 + i := by
                        have h3 : (Nat.beq q 1002 || Nat.beq q 1003) = true := hrecv
                        rcases Bool.or_eq_true _ _ ▸ h3 with h | h
                        · exact ⟨0, by decide, Nat.eq_of_beq_eq_true h⟩
                        · exact ⟨1, by decide, Nat.eq_of_beq_eq_true h⟩
                      obtain ⟨i, hi, rfl⟩ := hq
                      exact vk_recv (i := i) (adK := fun i => ad (1002 + i)) hE.2.2.2.2.2.1 hi hS
                    · cases h12 : Nat.beq (xro R') 12 with
                      | true =>
                        have := Nat.eq_of_beq_eq_true h12
                        rw [this] at g1
                        cases g1
                      | false =>
                        rw [h12] at hrecv
                        simp only [cond_false] at hrecv
                        split at hrecv
                        · rename_i oo ho
                          have eo : oo.1 = xro R' := Nat.eq_of_beq_eq_true hrecv
                          obtain ⟨o1', o2'⟩ := oo
                          simp only at eo
                          subst eo
                          exact va_recv hK hP g1 (xw_at ho)
                        · cases hrecv
                  refine xcall (va_runV (g := F0 m pc ls (st.map (xcv ad))) (b := ad q) (As := (st.take b).reverse.map (xcv ad)) (rest := rr.map (xcv ad)) (Ts := xTg) ⟨hx, hb, hml, hown2, hts⟩ hM cw ⟨hblind, hrc, hpre⟩ rfl (by rw [List.length_map, List.length_reverse, List.length_take, hnb]; omega) hl.1 ?_ (lv_room (by rw [xcat_map]; exact hcat)) (hlen rfl rfl) ⟨Nat.le_refl _, Nat.le_refl _⟩) hS (fun q _ h => hFc q h) hFc hkk
                  show st.map (xcv ad) = _
                  rw [← List.map_reverse, List.reverse_reverse]
                  conv => lhs; rw [← List.take_append_drop b st, List.map_append, hdr]
                  rfl
                · cases hst
              | _ => cases hisc
        · obtain ⟨hi, h⟩ := cond_some h
          cases h
          exact xret hg hst hi hen hx hb hr hlocks hP hS
end XSIM
end
section
def xFL : xLy := [.inr (8, [.inl 1, .inl 3, .inl 5, .inl 8, .inl 12, .inl 16, .inl 19, .inl 22, .inl 27, .inl 31, .inl 34, .inl 39, .inl 40, .inl 41, .inr 0, .inr 2, .inl 42, .inr 0]), .inr (6, [.inl 2, .inr 0, .inr 0]), .inl (false, 41), .inr (6, [.inl 4, .inr 0, .inr 0]), .inl (false, 41), .inr (7, [.inl 6, .inl 7, .inr 0, .inr 0, .inr 0, .inr 0]), .inl (false, 36), .inl (false, 144), .inr (0, [.inl 9, .inl 10, .inl 11, .inr 0, .inr 0]), .inl (false, 8), .inl (false, 8), .inl (false, 8), .inr (1, [.inl 13, .inr 0, .inr 0]), .inr (2, [.inl 14, .inl 15, .inr 0, .inr 0]), .inl (false, 8), .inl (false, 8), .inr (2, [.inl 17, .inl 18, .inr 0, .inr 0]), .inl (false, 8), .inl (false, 8), .inr (4, [.inl 20, .inl 21]), .inl (false, 36), .inl (false, 36), .inr (3, [.inl 12, .inl 23, .inl 24, .inl 25, .inl 26, .inr 0, .inr 1]), .inl (false, 10), .inl (false, 10), .inl (false, 8), .inl (false, 8), .inr (0, [.inl 28, .inl 29, .inl 30, .inr 0, .inr 0]), .inl (false, 8), .inl (false, 8), .inl (false, 8), .inr (4, [.inl 32, .inl 33]), .inl (false, 36), .inl (false, 36), .inr (3, [.inl 12, .inl 35, .inl 36, .inl 37, .inl 38, .inr 0, .inr 1]), .inl (false, 10), .inl (false, 10), .inl (false, 8), .inl (false, 8), .inl (false, 36), .inl (false, 360), .inl (false, 2), .inr (5, [.inl 43, .inl 44, .inl 45]), .inl (false, 4), .inl (false, 4), .inl (false, 240)]
def xML : xLy := [.inr (9, [.inl 1, .inl 2, .inr 0, .inr 0, .inl 3, .inr 0, .inl 4, .inl 5, .inl 6, .inr 0, .inr 0, .inr 0, .inl 7, .inl 8, .inl 9, .inr 0, .inl 10, .inl 11, .inl 12, .inl 13, .inr 0, .inl 14, .inl 15, .inl 16, .inl 17, .inr 0, .inl 18, .inl 19, .inl 20, .inl 21, .inl 22, .inl 23, .inl 24, .inl 25, .inl 26, .inr 0]), .inl (false, 2), .inl (false, 82), .inl (false, 37), .inl (false, 9), .inl (false, 9), .inl (false, 9), .inl (false, 6), .inl (false, 6), .inl (false, 36), .inl (false, 8), .inl (false, 8), .inl (false, 10), .inl (false, 10), .inl (true, 40), .inl (false, 2), .inl (false, 36), .inl (false, 36), .inl (false, 8), .inl (false, 8), .inl (true, 36), .inl (false, 360), .inl (true, 4), .inl (false, 4), .inl (false, 4), .inl (false, 240), .inl (false, 60)]
end
section
/-! ===== runs of the abstract machine against trees of pure computation ===== -/
abbrev xQ : Type := Option Value × xS
abbrev xT : Type := xF ⊕ xQ
def xone (Ly : xLy) (R : xRec) (f : xF) : Option xO := match xlk (xri R) f.1 with
  | none => none
  | some e => xstep Ly (xrz R) f.1 e (xmask e.2.2.2.2 f.2.1) f.2.2.1 f.2.2.2
def xms (Ly : xLy) (R : xRec) : Nat → xF → Option xF
  | 0, f => some f
  | k + 1, f => match xone Ly R f with
    | some (.inl g) => xms Ly R k g
    | _ => none
def xrun (Ms : List xRec) (Ly : xLy) (R : xRec) (n : Nat) (t : xT) : Option xQ := match t with
  | .inl f => xexec Ms Ly n R f
  | .inr q => some q
def xGo (Ms : List xRec) (Ly : xLy) (R : xRec) (a b : xT) : Prop := ∀ q, (∃ n, xrun Ms Ly R n b = some q) → ∃ n, xrun Ms Ly R n a = some q
/-- the tree t says where the run from a comes to -/
def xTr (Ms : List xRec) (Ly : xLy) (R : xRec) {τ : Type} (a : xT) (t : Option τ) (K : τ → xT) : Prop := ∀ y, t = some y → xGo Ms Ly R a (K y)
section XTR
variable {Ms : List xRec} {Ly : xLy} {R : xRec} {τ : Type} {a b : xT} {t t1 t2 : Option τ} {K : τ → xT}
theorem xGo.rf : xGo Ms Ly R a a := fun _ h => h
theorem xGo.tr {c : xT} (h1 : xGo Ms Ly R a b) (h2 : xGo Ms Ly R b c) : xGo Ms Ly R a c := fun q h => h1 q (h2 q h)
/-- more steps do no harm -/
theorem xexec_mono : ∀ (n : Nat) (R : xRec) (f : xF) (q : xQ), xexec Ms Ly n R f = some q → xexec Ms Ly (n + 1) R f = some q := by
  intro n
  induction n with
  | zero => intro R f q h; cases h
  | succ n ih =>
    intro R f q h
    unfold xexec at h ⊢
    cases hlk : xlk (xri R) f.1 with
    | none => rw [hlk] at h; cases h
    | some e =>
      rw [hlk] at h
      simp only at h ⊢
      cases hst : xstep Ly (xrz R) f.1 e (xmask e.2.2.2.2 f.2.1) f.2.2.1 f.2.2.2 with
      | none => rw [hst] at h; cases h
      | some o =>
        rw [hst] at h
        rcases o with g | c | r
        · exact ih R g q h
        · simp only at h ⊢
          cases hm : Ms[c.1]? with
          | none => rw [hm] at h; cases h
          | some R' =>
            rw [hm] at h
            simp only at h ⊢
            obtain ⟨h1, h2⟩ := cond_some h
            rw [h1]
            simp only [cond_true]
            cases hx : xexec Ms Ly n R' (0, lv_args 0 c.2.1, [], f.2.2.2) with
            | none => rw [hx] at h2; cases h2
            | some q2 =>
              rw [hx] at h2
              rw [ih _ _ _ hx]
              exact ih _ _ _ h2
        · exact h
theorem xexec_le {n k : Nat} {f : xF} {q : xQ} (hk : n ≤ k) (h : xexec Ms Ly n R f = some q) : xexec Ms Ly k R f = some q := by
  induction hk with
  | refl => exact h
  | step _ ih => exact xexec_mono _ _ _ _ ih
theorem xone_go {f g : xF} (h : xone Ly R f = some (.inl g)) : xGo Ms Ly R (.inl f) (.inl g) := by
  intro q ⟨n, hn⟩
  refine ⟨n + 1, ?_⟩
  have hn' : xexec Ms Ly n R g = some q := hn
  show xexec Ms Ly (n + 1) R f = some q
  unfold xexec
  unfold xone at h
  cases hlk : xlk (xri R) f.1 with
  | none => rw [hlk] at h; cases h
  | some e =>
    rw [hlk] at h
    simp only at h ⊢
    rw [h]
    exact hn'
theorem xms_go : ∀ {k : Nat} {f g : xF}, xms Ly R k f = some g → xGo Ms Ly R (.inl f) (.inl g)
  | 0, f, g, h => by cases h; exact xGo.rf
  | k + 1, f, g, h => by
    unfold xms at h
    split at h
    · rename_i g1 h1
      exact (xone_go h1).tr (xms_go h)
    · cases h
theorem xTr.go (h : xGo Ms Ly R a b) (ht : xTr Ms Ly R b t K) : xTr Ms Ly R a t K := fun y e => h.tr (ht y e)
theorem xTr.ms (k : Nat) {f g : xF} (h : xms Ly R k f = some g) (ht : xTr Ms Ly R (.inl g) t K) : xTr Ms Ly R (.inl f) t K := xTr.go (xms_go h) ht
theorem xTr.none : xTr Ms Ly R a (none : Option τ) K := fun _ h => by cases h
theorem xTr.br {f g1 g2 : xF} {c : Prop} {d : Decidable c} (h : xone Ly R f = @ite _ c d (some (.inl g1)) (some (.inl g2))) (h1 : c → xTr Ms Ly R (.inl g1) t1 K) (h2 : ¬ c → xTr Ms Ly R (.inl g2) t2 K) : xTr Ms Ly R (.inl f) (@ite _ c d t1 t2) K := by
  by_cases hc : c
  · rw [if_pos hc] at h ⊢
    exact xTr.go (xone_go h) (h1 hc)
  · rw [if_neg hc] at h ⊢
    exact xTr.go (xone_go h) (h2 hc)
/-- the branch whose tree stands the other way round -/
theorem xTr.rb {f g1 g2 : xF} {c : Prop} {d : Decidable c} (h : xone Ly R f = @ite _ c d (some (.inl g1)) (some (.inl g2))) (k1 : xTr Ms Ly R (.inl g1) t K) (k2 : xTr Ms Ly R (.inl g2) t K) : xTr Ms Ly R (.inl f) t K := by
  by_cases hc : c
  · rw [if_pos hc] at h
    exact xTr.go (xone_go h) k1
  · rw [if_neg hc] at h
    exact xTr.go (xone_go h) k2
theorem xTr.ck {f g : xF} {c : Prop} {d : Decidable c} (h : xone Ly R f = @ite _ c d Option.none (some (.inl g))) (h1 : ¬ c → xTr Ms Ly R (.inl g) t K) : xTr Ms Ly R (.inl f) (@ite _ c d Option.none t) K := by
  by_cases hc : c
  · rw [if_pos hc]
    exact xTr.none
  · rw [if_neg hc] at h ⊢
    exact xTr.go (xone_go h) (h1 hc)
theorem xTr.leaf {y : τ} (h : a = K y) : xTr Ms Ly R a (some y) K := fun z e => by
  cases e
  rw [h]
  exact xGo.rf
theorem xTr.ret {f : xF} {r : Option Value} {y : τ} (h : (match xlk (xri R) f.1 with | Option.none => false | some e => xisr e.1) = true) (h1 : xone Ly R f = some (.inr (.inr r))) (hy : K y = .inr (r, f.2.2.2)) : xTr Ms Ly R (.inl f) (some y) K := fun z e => by
  cases e
  rw [hy]
  intro q ⟨n, hn⟩
  have e1 : (r, f.2.2.2) = q := Option.some.inj hn
  refine ⟨1, ?_⟩
  show xexec Ms Ly 1 R f = some q
  unfold xexec
  unfold xone at h1
  cases hlk : xlk (xri R) f.1 with
  | none => rw [hlk] at h1; cases h1
  | some en =>
    rw [hlk] at h1 h
    simp only at h1 h ⊢
    rw [h1]
    simp only
    rw [h, e1]
    rfl
/-- a piece that ends at one place, and what follows -/
theorem xTr.bind {σ : Type} {u : Option σ} {J : σ → xT} {k : σ → Option τ} (h : xTr Ms Ly R a u J) (hk : ∀ y, xTr Ms Ly R (J y) (k y) K) : xTr Ms Ly R a (u.bind k) K := fun z e => by
  cases hu : u with
  | none => rw [hu] at e; cases e
  | some y =>
    rw [hu] at e
    exact (h y hu).tr (hk y z e)
/-- a loop: body by body -/
def xlp {α β : Type} (f : α → Option (α ⊕ β)) : Nat → α → Option β
  | 0, _ => none
  | n + 1, a => match f a with
    | none => none
    | some (.inl a') => xlp f n a'
    | some (.inr b) => some b
def xhx {α β : Type} (hd : α → xT) (ex : β → xT) (y : α ⊕ β) : xT := match y with
  | .inl a => hd a
  | .inr b => ex b
theorem xTr.loop {α β : Type} {hd : α → xT} {ex : β → xT} {f : α → Option (α ⊕ β)} (h : ∀ a, xTr Ms Ly R (hd a) (f a) (xhx hd ex)) : ∀ (n : Nat) (a : α), xTr Ms Ly R (hd a) (xlp f n a) ex := by
  intro n
  induction n with
  | zero => intro a y e; cases e
  | succ n ih =>
    intro a y e
    unfold xlp at e
    split at e
    · cases e
    · rename_i a' ha
      exact (h a _ ha).tr (ih a' y e)
    · rename_i b hb
      cases e
      exact h a _ hb
/-- a call: the callee's run, then on -/
theorem xcall_go {f : xF} {ci : Nat} {as rest : List Value} {R' : xRec} {q : xQ} (hc : (match xlk (xri R) f.1 with | Option.none => false | some e => xisc e.1) = true) (h1 : xone Ly R f = some (.inr (.inl (ci, as, rest)))) (hm : Ms[ci]? = some R') (hr : (xrecv Ly R' as && Nat.ble (lg_sl as).length (xrL R')) = true) {lv : xLv} (hlv : (match xlk (xri R) f.1 with | Option.none => f.2.1 | some e => xmask e.2.2.2.2 f.2.1) = lv)
    (hq : ∃ n, xexec Ms Ly n R' (0, lv_args 0 as, [], f.2.2.2) = some q) : xGo Ms Ly R (.inl f) (.inl (f.1 + 3, lv, q.1.toList ++ rest, q.2)) := by
  intro z ⟨n, hn⟩
  obtain ⟨n2, hn2⟩ := hq
  have hn' : xexec Ms Ly n R (f.1 + 3, lv, q.1.toList ++ rest, q.2) = some z := hn
  refine ⟨n + n2 + 1, ?_⟩
  show xexec Ms Ly (n + n2 + 1) R f = some z
  unfold xexec
  unfold xone at h1
  cases hlk : xlk (xri R) f.1 with
  | none => rw [hlk] at h1; cases h1
  | some en =>
    rw [hlk] at h1 hc hlv
    simp only at h1 hc hlv ⊢
    rw [h1]
    simp only
    rw [hm]
    simp only
    rw [hc, Bool.true_and, hr]
    simp only [cond_true]
    rw [xexec_le (Nat.le_add_left n2 n) hn2]
    simp only
    rw [hlv]
    exact xexec_le (Nat.le_add_right n n2) hn'
theorem xTr.end {f : xF} {y : τ} {q : xQ} (h : xTr Ms Ly R (.inl f) t K) (ht : t = some y) (hy : K y = .inr q) : ∃ n, xexec Ms Ly n R f = some q := by
  have := h y ht
  rw [hy] at this
  exact this q ⟨0, rfl⟩
section CALLS
variable {f : xF} {ci : Nat} {as rest : List Value} {R' : xRec} {lv : xLv}
theorem xTr.calli {Y : Option (Int32 × xS)} {k : Int32 × xS → Option τ} (hY : xTr Ms Ly R' (.inl (0, lv_args 0 as, [], f.2.2.2)) Y (fun y => .inr (some (.int y.1), y.2))) (hc : (match xlk (xri R) f.1 with | Option.none => false | some e => xisc e.1) = true) (h1 : xone Ly R f = some (.inr (.inl (ci, as, rest)))) (hm : Ms[ci]? = some R') (hr : (xrecv Ly R' as && Nat.ble (lg_sl as).length (xrL R')) = true) (hlv : (match xlk (xri R) f.1 with | Option.none => f.2.1 | some e => xmask e.2.2.2.2 f.2.1) = lv)
    (hk : ∀ (v : Int32) (s : xS), xTr Ms Ly R (.inl (f.1 + 3, lv, .int v :: rest, s)) (k (v, s)) K) : xTr Ms Ly R (.inl f) (Y.bind k) K := fun z e => by
  cases hu : Y with
  | none => rw [hu] at e; cases e
  | some y =>
    rw [hu] at e
    exact (xcall_go hc h1 hm hr hlv (hY.end hu rfl)).tr (hk y.1 y.2 z e)
theorem xTr.calll {Y : Option (Int64 × xS)} {k : Int64 × xS → Option τ} (hY : xTr Ms Ly R' (.inl (0, lv_args 0 as, [], f.2.2.2)) Y (fun y => .inr (some (.long y.1), y.2))) (hc : (match xlk (xri R) f.1 with | Option.none => false | some e => xisc e.1) = true) (h1 : xone Ly R f = some (.inr (.inl (ci, as, rest)))) (hm : Ms[ci]? = some R') (hr : (xrecv Ly R' as && Nat.ble (lg_sl as).length (xrL R')) = true) (hlv : (match xlk (xri R) f.1 with | Option.none => f.2.1 | some e => xmask e.2.2.2.2 f.2.1) = lv)
    (hk : ∀ (v : Int64) (s : xS), xTr Ms Ly R (.inl (f.1 + 3, lv, .long v :: rest, s)) (k (v, s)) K) : xTr Ms Ly R (.inl f) (Y.bind k) K := fun z e => by
  cases hu : Y with
  | none => rw [hu] at e; cases e
  | some y =>
    rw [hu] at e
    exact (xcall_go hc h1 hm hr hlv (hY.end hu rfl)).tr (hk y.1 y.2 z e)
theorem xTr.callv {Y : Option xS} {k : xS → Option τ} (hY : xTr Ms Ly R' (.inl (0, lv_args 0 as, [], f.2.2.2)) Y (fun y => .inr (Option.none, y))) (hc : (match xlk (xri R) f.1 with | Option.none => false | some e => xisc e.1) = true) (h1 : xone Ly R f = some (.inr (.inl (ci, as, rest)))) (hm : Ms[ci]? = some R') (hr : (xrecv Ly R' as && Nat.ble (lg_sl as).length (xrL R')) = true) (hlv : (match xlk (xri R) f.1 with | Option.none => f.2.1 | some e => xmask e.2.2.2.2 f.2.1) = lv)
    (hk : ∀ (s : xS), xTr Ms Ly R (.inl (f.1 + 3, lv, rest, s)) (k s) K) : xTr Ms Ly R (.inl f) (Y.bind k) K := fun z e => by
  cases hu : Y with
  | none => rw [hu] at e; cases e
  | some y =>
    rw [hu] at e
    exact (xcall_go hc h1 hm hr hlv (hY.end hu rfl)).tr (hk y z e)
end CALLS
end XTR
def xal (q : Nat) : Nat := match xFL[q]? with
  | some (.inl b) => b.2
  | _ => 0
def xra (p i : Nat) : Int32 := match xRA p with
  | some b => b.2.2 i
  | none => 0
end
section
def xshl (x y : Int32) : Int32 := x <<< (y &&& 31)
def xshr (x y : Int32) : Int32 := x >>> (y &&& 31)
def xushr (x y : Int32) : Int32 := (x.toUInt32 >>> (y.toUInt32 &&& Int32.toUInt32 31)).toInt32
def xlshl (x : Int64) (y : Int32) : Int64 := x <<< (y.toInt64 &&& 63)
def xlshr (x : Int64) (y : Int32) : Int64 := x >>> (y.toInt64 &&& 63)
def xlushr (x : Int64) (y : Int32) : Int64 := (x.toUInt64 >>> (y.toInt64.toUInt64 &&& Int64.toUInt64 63)).toInt64
def xrem (x y : Int32) : Int32 := x - x / y * y
def xlrem (x y : Int64) : Int64 := x - x / y * y
def xmk (R : xRec) (pc : Nat) (lv : xLv) : xLv := match xlk (xri R) pc with
  | none => lv
  | some e => xmask e.2.2.2.2 lv
section XTR
variable {Ms : List xRec} {Ly : xLy} {R : xRec} {τ : Type} {a b : xT} {t t1 t2 : Option τ} {K : τ → xT}
theorem xTr.mk {pc : Nat} {lv lv1 : xLv} {st : List Value} {s : xS} (h : xmk R pc lv = lv1) (h1 : xmk R pc lv1 = lv1) (ht : xTr Ms Ly R (.inl (pc, lv1, st, s)) t K) : xTr Ms Ly R (.inl (pc, lv, st, s)) t K := by
  refine xTr.go ?_ ht
  intro q ⟨n, hn⟩
  refine ⟨n, ?_⟩
  have hn' : xexec Ms Ly n R (pc, lv1, st, s) = some q := hn
  show xexec Ms Ly n R (pc, lv, st, s) = some q
  cases n with
  | zero => cases hn'
  | succ n =>
    unfold xexec at hn' ⊢
    unfold xmk at h h1
    cases hlk : xlk (xri R) pc with
    | none => rw [hlk] at hn'; cases hn'
    | some e =>
      rw [hlk] at hn' h h1
      simp only at hn' h h1 ⊢
      rw [h1] at hn'
      rw [h]
      exact hn'
theorem xTr.cs {c : Prop} {d : Decidable c} (h1 : c → xTr Ms Ly R a t1 K) (h2 : ¬ c → xTr Ms Ly R a t2 K) : xTr Ms Ly R a (@ite _ c d t1 t2) K := by
  by_cases hc : c
  · rw [if_pos hc]
    exact h1 hc
  · rw [if_neg hc]
    exact h2 hc
theorem xTr.on {f g : xF} (h : xone Ly R f = some (.inl g)) (ht : xTr Ms Ly R (.inl g) t K) : xTr Ms Ly R (.inl f) t K := xTr.go (xone_go h) ht
theorem xTr.rtz {f : xF} {v : Int32} {y : τ} {d : Decidable (v = 0 ∨ v = 1)} {d2 : Decidable (xrz R = true ∧ ¬ v = 0 ∧ ¬ v = 1)} (h : (match xlk (xri R) f.1 with | Option.none => false | some e => xisr e.1) = true) (h1 : xone Ly R f = @ite _ (xrz R = true ∧ ¬ v = 0 ∧ ¬ v = 1) d2 Option.none (some (.inr (.inr (some (.int v)))))) (hy : K y = .inr (some (.int v), f.2.2.2)) : xTr Ms Ly R (.inl f) (@ite _ (v = 0 ∨ v = 1) d (some y) Option.none) K := by
  by_cases hv : v = 0 ∨ v = 1
  · rw [if_pos hv]
    have hn : ¬ (xrz R = true ∧ ¬ v = 0 ∧ ¬ v = 1) := fun z => hv.elim z.2.1 z.2.2
    rw [if_neg hn] at h1
    exact xTr.ret h h1 hy
  · rw [if_neg hv]
    exact xTr.none
section CALLS
variable {f : xF} {ci : Nat} {as rest : List Value} {R' : xRec} {lv : xLv}
theorem xTr.callr {y : Nat} (hY : xTr Ms Ly R' (.inl (0, lv_args 0 as, [], f.2.2.2)) (some y) (fun y => .inr (some (.ref y), f.2.2.2))) (hc : (match xlk (xri R) f.1 with | Option.none => false | some e => xisc e.1) = true) (h1 : xone Ly R f = some (.inr (.inl (ci, as, rest)))) (hm : Ms[ci]? = some R') (hr : (xrecv Ly R' as && Nat.ble (lg_sl as).length (xrL R')) = true) (hlv : (match xlk (xri R) f.1 with | Option.none => f.2.1 | some e => xmask e.2.2.2.2 f.2.1) = lv)
    (hk : xTr Ms Ly R (.inl (f.1 + 3, lv, .ref y :: rest, f.2.2.2)) t K) : xTr Ms Ly R (.inl f) t K :=
  xTr.go (xcall_go hc h1 hm hr hlv (hY.end rfl rfl)) hk
theorem xTr.callip {Y : Option Int32} {k : Int32 → Option τ} (hY : xTr Ms Ly R' (.inl (0, lv_args 0 as, [], f.2.2.2)) Y (fun y => .inr (some (.int y), f.2.2.2))) (hc : (match xlk (xri R) f.1 with | Option.none => false | some e => xisc e.1) = true) (h1 : xone Ly R f = some (.inr (.inl (ci, as, rest)))) (hm : Ms[ci]? = some R') (hr : (xrecv Ly R' as && Nat.ble (lg_sl as).length (xrL R')) = true) (hlv : (match xlk (xri R) f.1 with | Option.none => f.2.1 | some e => xmask e.2.2.2.2 f.2.1) = lv)
    (hk : ∀ v : Int32, xTr Ms Ly R (.inl (f.1 + 3, lv, .int v :: rest, f.2.2.2)) (k v) K) : xTr Ms Ly R (.inl f) (Y.bind k) K := fun z e => by
  cases hu : Y with
  | none => rw [hu] at e; cases e
  | some y =>
    rw [hu] at e
    exact (xcall_go hc h1 hm hr hlv (hY.end hu rfl)).tr (hk y z e)
theorem xTr.calllp {Y : Option Int64} {k : Int64 → Option τ} (hY : xTr Ms Ly R' (.inl (0, lv_args 0 as, [], f.2.2.2)) Y (fun y => .inr (some (.long y), f.2.2.2))) (hc : (match xlk (xri R) f.1 with | Option.none => false | some e => xisc e.1) = true) (h1 : xone Ly R f = some (.inr (.inl (ci, as, rest)))) (hm : Ms[ci]? = some R') (hr : (xrecv Ly R' as && Nat.ble (lg_sl as).length (xrL R')) = true) (hlv : (match xlk (xri R) f.1 with | Option.none => f.2.1 | some e => xmask e.2.2.2.2 f.2.1) = lv)
    (hk : ∀ v : Int64, xTr Ms Ly R (.inl (f.1 + 3, lv, .long v :: rest, f.2.2.2)) (k v) K) : xTr Ms Ly R (.inl f) (Y.bind k) K := fun z e => by
  cases hu : Y with
  | none => rw [hu] at e; cases e
  | some y =>
    rw [hu] at e
    exact (xcall_go hc h1 hm hr hlv (hY.end hu rfl)).tr (hk y z e)
end CALLS
end XTR
end
section
-- X8_isOutside
def F_X8_isOutside (l0 : Int32) (l1 : Int32) (s : xS) : Option (Int32) := if l0 < 0 then (some (1 : Int32)) else (if l0 < l1 then (some (0 : Int32)) else (some (1 : Int32)))
set_option maxRecDepth 100000 in
theorem ok_X8_isOutside (l0 : Int32) (l1 : Int32) (s : xS) : xTr xMs xFL xR_X8_isOutside (Sum.inl (0, [(0, .int l0), (1, .int l1)], [], s)) (F_X8_isOutside l0 l1 s) (fun (y : Int32) => Sum.inr (some (.int y), s)) := by
  unfold F_X8_isOutside
  refine xTr.ms 1 (g := (1, [(0, .int l0), (1, .int l1)], [.int l0], s)) rfl ?_
  refine xTr.br (g1 := (9, [(0, .int l0), (1, .int l1)], [], s)) (g2 := (4, [(0, .int l0), (1, .int l1)], [], s)) rfl (fun h1 => ?_) (fun h1 => ?_)
  · refine xTr.ms 2 (g := (14, [], [.int (1 : Int32)], s)) rfl ?_
    exact xTr.ret rfl rfl rfl
  · refine xTr.ms 2 (g := (6, [(0, .int l0), (1, .int l1)], [.int l1, .int l0], s)) rfl ?_
    refine xTr.br (g1 := (13, [(0, .int l0), (1, .int l1)], [], s)) (g2 := (9, [(0, .int l0), (1, .int l1)], [], s)) rfl (fun h2 => ?_) (fun h2 => ?_)
    · refine xTr.ms 1 (g := (14, [], [.int (0 : Int32)], s)) rfl ?_
      exact xTr.ret rfl rfl rfl
    · refine xTr.ms 2 (g := (14, [], [.int (1 : Int32)], s)) rfl ?_
      exact xTr.ret rfl rfl rfl
-- X8_textOf
def F_X8_textOf (l1 : Int32) (s : xS) : Option (Nat) := if l1 = 0 then (some 1) else (some 3)
set_option maxRecDepth 100000 in
theorem ok_X8_textOf (l1 : Int32) (s : xS) : xTr xMs xFL xR_X8_textOf (Sum.inl (0, [(0, .ref 0), (1, .int l1)], [], s)) (F_X8_textOf l1 s) (fun (y : Nat) => Sum.inr (some (.ref y), s)) := by
  unfold F_X8_textOf
  refine xTr.ms 1 (g := (1, [(0, .ref 0), (1, .int l1)], [.int l1], s)) rfl ?_
  refine xTr.br (g1 := (4, [(0, .ref 0), (1, .int l1)], [], s)) (g2 := (11, [(0, .ref 0), (1, .int l1)], [], s)) rfl (fun h1 => ?_) (fun h1 => ?_)
  · refine xTr.ms 3 (g := (15, [(0, .ref 0)], [.ref 1], s)) rfl ?_
    exact xTr.ret rfl rfl rfl
  · refine xTr.ms 2 (g := (15, [(0, .ref 0)], [.ref 3], s)) rfl ?_
    exact xTr.ret rfl rfl rfl
theorem F_X8_textOf_1 (l1 : Int32) (s : xS) (h : l1 = 0) : xTr xMs xFL xR_X8_textOf (Sum.inl (0, [(0, .ref 0), (1, .int l1)], [], s)) (some 1) (fun (y : Nat) => Sum.inr (some (.ref y), s)) := by
  have H := ok_X8_textOf l1 s
  unfold F_X8_textOf at H
  rw [if_pos h] at H
  exact H
theorem F_X8_textOf_3 (l1 : Int32) (s : xS) (h : ¬ l1 = 0) : xTr xMs xFL xR_X8_textOf (Sum.inl (0, [(0, .ref 0), (1, .int l1)], [], s)) (some 3) (fun (y : Nat) => Sum.inr (some (.ref y), s)) := by
  have H := ok_X8_textOf l1 s
  unfold F_X8_textOf at H
  rw [if_neg h] at H
  exact H
-- X6_isFull
def F_X6_isFull (p0 : Nat) (s : xS) : Option (Int32) := if (s.1 p0 2) < (s.1 p0 1) then (some (0 : Int32)) else (some (1 : Int32))
set_option maxRecDepth 100000 in
theorem ok_X6_isFull_1 (s : xS) : xTr xMs xFL xR_X6_isFull (Sum.inl (0, [(0, .ref 1)], [], s)) (F_X6_isFull 1 s) (fun (y : Int32) => Sum.inr (some (.int y), s)) := by
  unfold F_X6_isFull
  refine xTr.ms 4 (g := (8, [(0, .ref 1)], [.int (s.1 1 1), .int (s.1 1 2)], s)) rfl ?_
  refine xTr.br (g1 := (15, [(0, .ref 1)], [], s)) (g2 := (11, [(0, .ref 1)], [], s)) rfl (fun h1 => ?_) (fun h1 => ?_)
  · refine xTr.ms 1 (g := (16, [], [.int (0 : Int32)], s)) rfl ?_
    exact xTr.ret rfl rfl rfl
  · refine xTr.ms 2 (g := (16, [], [.int (1 : Int32)], s)) rfl ?_
    exact xTr.ret rfl rfl rfl
set_option maxRecDepth 100000 in
theorem ok_X6_isFull_3 (s : xS) : xTr xMs xFL xR_X6_isFull (Sum.inl (0, [(0, .ref 3)], [], s)) (F_X6_isFull 3 s) (fun (y : Int32) => Sum.inr (some (.int y), s)) := by
  unfold F_X6_isFull
  refine xTr.ms 4 (g := (8, [(0, .ref 3)], [.int (s.1 3 1), .int (s.1 3 2)], s)) rfl ?_
  refine xTr.br (g1 := (15, [(0, .ref 3)], [], s)) (g2 := (11, [(0, .ref 3)], [], s)) rfl (fun h1 => ?_) (fun h1 => ?_)
  · refine xTr.ms 1 (g := (16, [], [.int (0 : Int32)], s)) rfl ?_
    exact xTr.ret rfl rfl rfl
  · refine xTr.ms 2 (g := (16, [], [.int (1 : Int32)], s)) rfl ?_
    exact xTr.ret rfl rfl rfl
-- X6_append
def F_X6_append (p0 : Nat) (l1 : Int32) (s : xS) : Option (xS) := if (s.1 p0 2) < 0 then (some s) else (if (41 : Int32) ≤ (s.1 p0 2) then (some s) else (if (s.1 p0 2) < 0 ∨ 41 ≤ ((s.1 p0 2)).toNatClampNeg then none else (some (xu (xu s (p0 + 1) ((s.1 p0 2)).toNatClampNeg l1) p0 2 ((s.1 p0 2) + (1 : Int32))))))
set_option maxRecDepth 100000 in
theorem ok_X6_append_1 (l1 : Int32) (s : xS) : xTr xMs xFL xR_X6_append (Sum.inl (0, [(0, .ref 1), (1, .int l1)], [], s)) (F_X6_append 1 l1 s) (fun (y : xS) => Sum.inr (none, y)) := by
  unfold F_X6_append
  refine xTr.ms 2 (g := (4, [(0, .ref 1), (1, .int l1)], [.int (s.1 1 2)], s)) rfl ?_
  refine xTr.br (g1 := (39, [(0, .ref 1), (1, .int l1)], [], s)) (g2 := (7, [(0, .ref 1), (1, .int l1)], [], s)) rfl (fun h1 => ?_) (fun h1 => ?_)
  · exact xTr.ret rfl rfl rfl
  · refine xTr.ms 5 (g := (16, [(0, .ref 1), (1, .int l1)], [.int (41 : Int32), .int (s.1 1 2)], s)) rfl ?_
    refine xTr.br (g1 := (39, [(0, .ref 1), (1, .int l1)], [], s)) (g2 := (19, [(0, .ref 1), (1, .int l1)], [], s)) rfl (fun h2 => ?_) (fun h2 => ?_)
    · exact xTr.ret rfl rfl rfl
    · refine xTr.ms 5 (g := (28, [(0, .ref 1), (1, .int l1)], [.int l1, .int (s.1 1 2), .ref 2], s)) rfl ?_
      refine xTr.ck (g := (29, [(0, .ref 1), (1, .int l1)], [], (xu s 2 ((s.1 1 2)).toNatClampNeg l1))) rfl (fun h3 => ?_)
      refine xTr.ms 6 (g := (39, [(0, .ref 1), (1, .int l1)], [], (xu (xu s 2 ((s.1 1 2)).toNatClampNeg l1) 1 2 ((s.1 1 2) + (1 : Int32))))) rfl ?_
      exact xTr.ret rfl rfl rfl
set_option maxRecDepth 100000 in
theorem ok_X6_append_3 (l1 : Int32) (s : xS) : xTr xMs xFL xR_X6_append (Sum.inl (0, [(0, .ref 3), (1, .int l1)], [], s)) (F_X6_append 3 l1 s) (fun (y : xS) => Sum.inr (none, y)) := by
  unfold F_X6_append
  refine xTr.ms 2 (g := (4, [(0, .ref 3), (1, .int l1)], [.int (s.1 3 2)], s)) rfl ?_
  refine xTr.br (g1 := (39, [(0, .ref 3), (1, .int l1)], [], s)) (g2 := (7, [(0, .ref 3), (1, .int l1)], [], s)) rfl (fun h1 => ?_) (fun h1 => ?_)
  · exact xTr.ret rfl rfl rfl
  · refine xTr.ms 5 (g := (16, [(0, .ref 3), (1, .int l1)], [.int (41 : Int32), .int (s.1 3 2)], s)) rfl ?_
    refine xTr.br (g1 := (39, [(0, .ref 3), (1, .int l1)], [], s)) (g2 := (19, [(0, .ref 3), (1, .int l1)], [], s)) rfl (fun h2 => ?_) (fun h2 => ?_)
    · exact xTr.ret rfl rfl rfl
    · refine xTr.ms 5 (g := (28, [(0, .ref 3), (1, .int l1)], [.int l1, .int (s.1 3 2), .ref 4], s)) rfl ?_
      refine xTr.ck (g := (29, [(0, .ref 3), (1, .int l1)], [], (xu s 4 ((s.1 3 2)).toNatClampNeg l1))) rfl (fun h3 => ?_)
      refine xTr.ms 6 (g := (39, [(0, .ref 3), (1, .int l1)], [], (xu (xu s 4 ((s.1 3 2)).toNatClampNeg l1) 3 2 ((s.1 3 2) + (1 : Int32))))) rfl ?_
      exact xTr.ret rfl rfl rfl
-- X7_empty
def F_X7_empty (s : xS) : Option (xS) := some (xu (xu (xu s 5 2 (0 : Int32)) 5 3 (0 : Int32)) 5 4 (-1 : Int32))
set_option maxRecDepth 100000 in
theorem ok_X7_empty (s : xS) : xTr xMs xFL xR_X7_empty (Sum.inl (0, [(0, .ref 5)], [], s)) (F_X7_empty s) (fun (y : xS) => Sum.inr (none, y)) := by
  unfold F_X7_empty
  refine xTr.ms 9 (g := (15, [(0, .ref 5)], [], (xu (xu (xu s 5 2 (0 : Int32)) 5 3 (0 : Int32)) 5 4 (-1 : Int32)))) rfl ?_
  exact xTr.ret rfl rfl rfl
-- X7_isTooShort
def F_X7_isTooShort (l1 : Int32) (s : xS) : Option (Int32) := if l1 = 0 then (some (1 : Int32)) else (if (s.1 5 3) ≤ l1 then (some (0 : Int32)) else (some (1 : Int32)))
set_option maxRecDepth 100000 in
theorem ok_X7_isTooShort (l1 : Int32) (s : xS) : xTr xMs xFL xR_X7_isTooShort (Sum.inl (0, [(0, .ref 5), (1, .int l1)], [], s)) (F_X7_isTooShort l1 s) (fun (y : Int32) => Sum.inr (some (.int y), s)) := by
  unfold F_X7_isTooShort
  refine xTr.ms 1 (g := (1, [(0, .ref 5), (1, .int l1)], [.int l1], s)) rfl ?_
  refine xTr.br (g1 := (12, [(0, .ref 5), (1, .int l1)], [], s)) (g2 := (4, [(0, .ref 5), (1, .int l1)], [], s)) rfl (fun h1 => ?_) (fun h1 => ?_)
  · refine xTr.ms 2 (g := (17, [], [.int (1 : Int32)], s)) rfl ?_
    exact xTr.ret rfl rfl rfl
  · refine xTr.ms 3 (g := (9, [(0, .ref 5), (1, .int l1)], [.int (s.1 5 3), .int l1], s)) rfl ?_
    refine xTr.br (g1 := (16, [(0, .ref 5), (1, .int l1)], [], s)) (g2 := (12, [(0, .ref 5), (1, .int l1)], [], s)) rfl (fun h2 => ?_) (fun h2 => ?_)
    · refine xTr.ms 1 (g := (17, [], [.int (0 : Int32)], s)) rfl ?_
      exact xTr.ret rfl rfl rfl
    · refine xTr.ms 2 (g := (17, [], [.int (1 : Int32)], s)) rfl ?_
      exact xTr.ret rfl rfl rfl
-- J0_isLatin1_aae02
def F_J0_isLatin1_aae02 (p0 : Nat) (s : xS) : Option (Int32) := some (1 : Int32)
set_option maxRecDepth 100000 in
theorem ok_J0_isLatin1_aae02_1002 (s : xS) : xTr xMs xFL xR_J0_isLatin1_aae02 (Sum.inl (0, [(0, .ref 1002)], [], s)) (F_J0_isLatin1_aae02 1002 s) (fun (y : Int32) => Sum.inr (some (.int y), s)) := by
  unfold F_J0_isLatin1_aae02
  refine xTr.ms 7 (g := (18, [], [.int (1 : Int32)], s)) rfl ?_
  exact xTr.ret rfl rfl rfl
set_option maxRecDepth 100000 in
theorem ok_J0_isLatin1_aae02_1003 (s : xS) : xTr xMs xFL xR_J0_isLatin1_aae02 (Sum.inl (0, [(0, .ref 1003)], [], s)) (F_J0_isLatin1_aae02 1003 s) (fun (y : Int32) => Sum.inr (some (.int y), s)) := by
  unfold F_J0_isLatin1_aae02
  refine xTr.ms 7 (g := (18, [], [.int (1 : Int32)], s)) rfl ?_
  exact xTr.ret rfl rfl rfl
-- J0_coder_7d493
def F_J0_coder_7d493 (p0 : Nat) (s : xS) : Option (Int32) := some (0 : Int32)
set_option maxRecDepth 100000 in
theorem ok_J0_coder_7d493_1002 (s : xS) : xTr xMs xFL xR_J0_coder_7d493 (Sum.inl (0, [(0, .ref 1002)], [], s)) (F_J0_coder_7d493 1002 s) (fun (y : Int32) => Sum.inr (some (.int y), s)) := by
  unfold F_J0_coder_7d493
  refine xTr.ms 5 (g := (14, [(0, .ref 1002)], [.int (0 : Int32)], s)) rfl ?_
  exact xTr.ret rfl rfl rfl
set_option maxRecDepth 100000 in
theorem ok_J0_coder_7d493_1003 (s : xS) : xTr xMs xFL xR_J0_coder_7d493 (Sum.inl (0, [(0, .ref 1003)], [], s)) (F_J0_coder_7d493 1003 s) (fun (y : Int32) => Sum.inr (some (.int y), s)) := by
  unfold F_J0_coder_7d493
  refine xTr.ms 5 (g := (14, [(0, .ref 1003)], [.int (0 : Int32)], s)) rfl ?_
  exact xTr.ret rfl rfl rfl
-- J0_length_8abf5
def F_J0_length_8abf5 (p0 : Nat) (s : xS) : Option (Int32) := (F_J0_coder_7d493 p0 s).bind fun v1 => (some (xshr (4 : Int32) v1))
set_option maxRecDepth 100000 in
theorem ok_J0_length_8abf5_1002 (s : xS) : xTr xMs xFL xR_J0_length_8abf5 (Sum.inl (0, [(0, .ref 1002)], [], s)) (F_J0_length_8abf5 1002 s) (fun (y : Int32) => Sum.inr (some (.int y), s)) := by
  unfold F_J0_length_8abf5
  refine xTr.ms 4 (g := (6, [(0, .ref 1002)], [.ref 1002, .int (4 : Int32)], s)) rfl ?_
  refine xTr.callip (R' := xR_J0_coder_7d493) (as := [.ref 1002]) (lv := [(0, .ref 1002)]) (rest := [.int (4 : Int32)]) (ok_J0_coder_7d493_1002 s) rfl rfl rfl rfl rfl (fun v1 => ?_)
  refine xTr.ms 1 (g := (10, [(0, .ref 1002)], [.int (xshr (4 : Int32) v1)], s)) rfl ?_
  exact xTr.ret rfl rfl rfl
set_option maxRecDepth 100000 in
theorem ok_J0_length_8abf5_1003 (s : xS) : xTr xMs xFL xR_J0_length_8abf5 (Sum.inl (0, [(0, .ref 1003)], [], s)) (F_J0_length_8abf5 1003 s) (fun (y : Int32) => Sum.inr (some (.int y), s)) := by
  unfold F_J0_length_8abf5
  refine xTr.ms 4 (g := (6, [(0, .ref 1003)], [.ref 1003, .int (4 : Int32)], s)) rfl ?_
  refine xTr.callip (R' := xR_J0_coder_7d493) (as := [.ref 1003]) (lv := [(0, .ref 1003)]) (rest := [.int (4 : Int32)]) (ok_J0_coder_7d493_1003 s) rfl rfl rfl rfl rfl (fun v1 => ?_)
  refine xTr.ms 1 (g := (10, [(0, .ref 1003)], [.int (xshr (4 : Int32) v1)], s)) rfl ?_
  exact xTr.ret rfl rfl rfl
-- J1_canEncode_9a6ad
def F_J1_canEncode_9a6ad (l0 : Int32) (s : xS) : Option (Int32) := if l0 < 0 then (some (0 : Int32)) else (if (255 : Int32) < l0 then (some (0 : Int32)) else (some (1 : Int32)))
set_option maxRecDepth 100000 in
theorem ok_J1_canEncode_9a6ad (l0 : Int32) (s : xS) : xTr xMs xFL xR_J1_canEncode_9a6ad (Sum.inl (0, [(0, .int l0)], [], s)) (F_J1_canEncode_9a6ad l0 s) (fun (y : Int32) => Sum.inr (some (.int y), s)) := by
  unfold F_J1_canEncode_9a6ad
  refine xTr.ms 1 (g := (1, [(0, .int l0)], [.int l0], s)) rfl ?_
  refine xTr.br (g1 := (15, [(0, .int l0)], [], s)) (g2 := (4, [(0, .int l0)], [], s)) rfl (fun h1 => ?_) (fun h1 => ?_)
  · refine xTr.ms 1 (g := (16, [], [.int (0 : Int32)], s)) rfl ?_
    exact xTr.ret rfl rfl rfl
  · refine xTr.ms 2 (g := (8, [(0, .int l0)], [.int (255 : Int32), .int l0], s)) rfl ?_
    refine xTr.br (g1 := (15, [(0, .int l0)], [], s)) (g2 := (11, [(0, .int l0)], [], s)) rfl (fun h2 => ?_) (fun h2 => ?_)
    · refine xTr.ms 1 (g := (16, [], [.int (0 : Int32)], s)) rfl ?_
      exact xTr.ret rfl rfl rfl
    · refine xTr.ms 2 (g := (16, [], [.int (1 : Int32)], s)) rfl ?_
      exact xTr.ret rfl rfl rfl
-- J1_indexOfChar_4cfef
def F_J1_indexOfChar_4cfef_L7 (p0 : Nat) (l3 : Int32) (l4 : Int32) (s : xS) (a : Int32) : Option ((Int32) ⊕ ((Int32) ⊕ (Unit))) := if l3 ≤ a then (some (Sum.inr (Sum.inr ()))) else (if a < 0 ∨ 4 ≤ a.toNatClampNeg then none else (if (xra p0 a.toNatClampNeg) = l4 then (some (Sum.inr (Sum.inl a))) else (some (Sum.inl (a + (1 : Int32))))))
def F_J1_indexOfChar_4cfef (p0 : Nat) (l1 : Int32) (l2 : Int32) (l3 : Int32) (s : xS) : Option (Int32) := (xlp (F_J1_indexOfChar_4cfef_L7 p0 l3 (l1).toInt8.toInt32 s) 100000 l2).bind (Sum.elim (fun b4_0 => (some b4_0)) (fun b4_1 => (some (-1 : Int32))))
def F_J1_indexOfChar_4cfef_L7_hd_1004 (l3 : Int32) (l4 : Int32) (s : xS) (a : Int32) : xT := Sum.inl (7, [(0, .ref 1004), (3, .int l3), (4, .int l4), (5, .int a)], [], s)
def F_J1_indexOfChar_4cfef_L7_ex_1004 (l3 : Int32) (l4 : Int32) (s : xS) : ((Int32) ⊕ (Unit)) → xT := (Sum.elim (fun (z : Int32) => Sum.inl (22, [(5, .int z)], [], s)) (fun (z : Unit) => Sum.inl (31, [], [], s)))
set_option maxRecDepth 100000 in
theorem F_J1_indexOfChar_4cfef_L7_ok_1004 (l3 : Int32) (l4 : Int32) (s : xS) (a : Int32) : xTr xMs xFL xR_J1_indexOfChar_4cfef (F_J1_indexOfChar_4cfef_L7_hd_1004 l3 l4 s a) (F_J1_indexOfChar_4cfef_L7 1004 l3 l4 s a) (xhx (F_J1_indexOfChar_4cfef_L7_hd_1004 l3 l4 s) (F_J1_indexOfChar_4cfef_L7_ex_1004 l3 l4 s)) := by
  unfold F_J1_indexOfChar_4cfef_L7
  refine xTr.ms 2 (g := (10, [(0, .ref 1004), (3, .int l3), (4, .int l4), (5, .int a)], [.int l3, .int a], s)) rfl ?_
  refine xTr.br (g1 := (31, [(0, .ref 1004), (3, .int l3), (4, .int l4), (5, .int a)], [], s)) (g2 := (13, [(0, .ref 1004), (3, .int l3), (4, .int l4), (5, .int a)], [], s)) rfl (fun h1 => ?_) (fun h1 => ?_)
  · refine xTr.mk (lv1 := []) rfl rfl ?_
    exact xTr.leaf rfl
  · refine xTr.ms 2 (g := (16, [(0, .ref 1004), (3, .int l3), (4, .int l4), (5, .int a)], [.int a, .ref 1004], s)) rfl ?_
    refine xTr.ck (g := (17, [(0, .ref 1004), (3, .int l3), (4, .int l4), (5, .int a)], [.int (xra 1004 a.toNatClampNeg)], s)) rfl (fun h2 => ?_)
    refine xTr.ms 1 (g := (19, [(0, .ref 1004), (3, .int l3), (4, .int l4), (5, .int a)], [.int l4, .int (xra 1004 a.toNatClampNeg)], s)) rfl ?_
    refine xTr.br (g1 := (22, [(0, .ref 1004), (3, .int l3), (4, .int l4), (5, .int a)], [], s)) (g2 := (25, [(0, .ref 1004), (3, .int l3), (4, .int l4), (5, .int a)], [], s)) rfl (fun h3 => ?_) (fun h3 => ?_)
    · refine xTr.mk (lv1 := [(5, .int a)]) rfl rfl ?_
      exact xTr.leaf rfl
    · refine xTr.ms 2 (g := (7, [(0, .ref 1004), (3, .int l3), (4, .int l4), (5, .int (a + (1 : Int32)))], [], s)) rfl ?_
      exact xTr.leaf rfl
set_option maxRecDepth 100000 in
theorem ok_J1_indexOfChar_4cfef_1004 (l1 : Int32) (l2 : Int32) (l3 : Int32) (s : xS) : xTr xMs xFL xR_J1_indexOfChar_4cfef (Sum.inl (0, [(0, .ref 1004), (1, .int l1), (2, .int l2), (3, .int l3)], [], s)) (F_J1_indexOfChar_4cfef 1004 l1 l2 l3 s) (fun (y : Int32) => Sum.inr (some (.int y), s)) := by
  unfold F_J1_indexOfChar_4cfef
  refine xTr.ms 5 (g := (7, [(0, .ref 1004), (1, .int l1), (2, .int l2), (3, .int l3), (4, .int (l1).toInt8.toInt32), (5, .int l2)], [], s)) rfl ?_
  refine xTr.mk (lv1 := [(0, .ref 1004), (3, .int l3), (4, .int (l1).toInt8.toInt32), (5, .int l2)]) rfl rfl ?_
  refine xTr.bind (J := F_J1_indexOfChar_4cfef_L7_ex_1004 l3 (l1).toInt8.toInt32 s) (xTr.loop (fun a => F_J1_indexOfChar_4cfef_L7_ok_1004 l3 (l1).toInt8.toInt32 s a) 100000 l2) (fun b4 => ?_)
  rcases b4 with b4_0 | b4_1
  · refine xTr.ms 1 (g := (24, [(5, .int b4_0)], [.int b4_0], s)) rfl ?_
    exact xTr.ret rfl rfl rfl
  · refine xTr.ms 1 (g := (32, [], [.int (-1 : Int32)], s)) rfl ?_
    exact xTr.ret rfl rfl rfl
def F_J1_indexOfChar_4cfef_L7_hd_1005 (l3 : Int32) (l4 : Int32) (s : xS) (a : Int32) : xT := Sum.inl (7, [(0, .ref 1005), (3, .int l3), (4, .int l4), (5, .int a)], [], s)
def F_J1_indexOfChar_4cfef_L7_ex_1005 (l3 : Int32) (l4 : Int32) (s : xS) : ((Int32) ⊕ (Unit)) → xT := (Sum.elim (fun (z : Int32) => Sum.inl (22, [(5, .int z)], [], s)) (fun (z : Unit) => Sum.inl (31, [], [], s)))
set_option maxRecDepth 100000 in
theorem F_J1_indexOfChar_4cfef_L7_ok_1005 (l3 : Int32) (l4 : Int32) (s : xS) (a : Int32) : xTr xMs xFL xR_J1_indexOfChar_4cfef (F_J1_indexOfChar_4cfef_L7_hd_1005 l3 l4 s a) (F_J1_indexOfChar_4cfef_L7 1005 l3 l4 s a) (xhx (F_J1_indexOfChar_4cfef_L7_hd_1005 l3 l4 s) (F_J1_indexOfChar_4cfef_L7_ex_1005 l3 l4 s)) := by
  unfold F_J1_indexOfChar_4cfef_L7
  refine xTr.ms 2 (g := (10, [(0, .ref 1005), (3, .int l3), (4, .int l4), (5, .int a)], [.int l3, .int a], s)) rfl ?_
  refine xTr.br (g1 := (31, [(0, .ref 1005), (3, .int l3), (4, .int l4), (5, .int a)], [], s)) (g2 := (13, [(0, .ref 1005), (3, .int l3), (4, .int l4), (5, .int a)], [], s)) rfl (fun h1 => ?_) (fun h1 => ?_)
  · refine xTr.mk (lv1 := []) rfl rfl ?_
    exact xTr.leaf rfl
  · refine xTr.ms 2 (g := (16, [(0, .ref 1005), (3, .int l3), (4, .int l4), (5, .int a)], [.int a, .ref 1005], s)) rfl ?_
    refine xTr.ck (g := (17, [(0, .ref 1005), (3, .int l3), (4, .int l4), (5, .int a)], [.int (xra 1005 a.toNatClampNeg)], s)) rfl (fun h2 => ?_)
    refine xTr.ms 1 (g := (19, [(0, .ref 1005), (3, .int l3), (4, .int l4), (5, .int a)], [.int l4, .int (xra 1005 a.toNatClampNeg)], s)) rfl ?_
    refine xTr.br (g1 := (22, [(0, .ref 1005), (3, .int l3), (4, .int l4), (5, .int a)], [], s)) (g2 := (25, [(0, .ref 1005), (3, .int l3), (4, .int l4), (5, .int a)], [], s)) rfl (fun h3 => ?_) (fun h3 => ?_)
    · refine xTr.mk (lv1 := [(5, .int a)]) rfl rfl ?_
      exact xTr.leaf rfl
    · refine xTr.ms 2 (g := (7, [(0, .ref 1005), (3, .int l3), (4, .int l4), (5, .int (a + (1 : Int32)))], [], s)) rfl ?_
      exact xTr.leaf rfl
set_option maxRecDepth 100000 in
theorem ok_J1_indexOfChar_4cfef_1005 (l1 : Int32) (l2 : Int32) (l3 : Int32) (s : xS) : xTr xMs xFL xR_J1_indexOfChar_4cfef (Sum.inl (0, [(0, .ref 1005), (1, .int l1), (2, .int l2), (3, .int l3)], [], s)) (F_J1_indexOfChar_4cfef 1005 l1 l2 l3 s) (fun (y : Int32) => Sum.inr (some (.int y), s)) := by
  unfold F_J1_indexOfChar_4cfef
  refine xTr.ms 5 (g := (7, [(0, .ref 1005), (1, .int l1), (2, .int l2), (3, .int l3), (4, .int (l1).toInt8.toInt32), (5, .int l2)], [], s)) rfl ?_
  refine xTr.mk (lv1 := [(0, .ref 1005), (3, .int l3), (4, .int (l1).toInt8.toInt32), (5, .int l2)]) rfl rfl ?_
  refine xTr.bind (J := F_J1_indexOfChar_4cfef_L7_ex_1005 l3 (l1).toInt8.toInt32 s) (xTr.loop (fun a => F_J1_indexOfChar_4cfef_L7_ok_1005 l3 (l1).toInt8.toInt32 s a) 100000 l2) (fun b4 => ?_)
  rcases b4 with b4_0 | b4_1
  · refine xTr.ms 1 (g := (24, [(5, .int b4_0)], [.int b4_0], s)) rfl ?_
    exact xTr.ret rfl rfl rfl
  · refine xTr.ms 1 (g := (32, [], [.int (-1 : Int32)], s)) rfl ?_
    exact xTr.ret rfl rfl rfl
-- J1_indexOf_4cfef
def F_J1_indexOf_4cfef (p0 : Nat) (l1 : Int32) (l2 : Int32) (l3 : Int32) (s : xS) : Option (Int32) := (F_J1_canEncode_9a6ad l1 s).bind fun v1 => (if v1 = 0 then (some (-1 : Int32)) else (if (if l2 < (0 : Int32) then (0 : Int32) else l2) < (if (4 : Int32) < l3 then (4 : Int32) else l3) then ((F_J1_indexOfChar_4cfef p0 l1 (if l2 < (0 : Int32) then (0 : Int32) else l2) (if (4 : Int32) < l3 then (4 : Int32) else l3) s).bind fun v4 => (some v4)) else (some (-1 : Int32))))
set_option maxRecDepth 100000 in
theorem ok_J1_indexOf_4cfef_1004 (l1 : Int32) (l2 : Int32) (l3 : Int32) (s : xS) : xTr xMs xFL xR_J1_indexOf_4cfef (Sum.inl (0, [(0, .ref 1004), (1, .int l1), (2, .int l2), (3, .int l3)], [], s)) (F_J1_indexOf_4cfef 1004 l1 l2 l3 s) (fun (y : Int32) => Sum.inr (some (.int y), s)) := by
  unfold F_J1_indexOf_4cfef
  refine xTr.ms 1 (g := (1, [(0, .ref 1004), (1, .int l1), (2, .int l2), (3, .int l3)], [.int l1], s)) rfl ?_
  refine xTr.callip (R' := xR_J1_canEncode_9a6ad) (as := [.int l1]) (lv := [(0, .ref 1004), (1, .int l1), (2, .int l2), (3, .int l3)]) (rest := []) (ok_J1_canEncode_9a6ad l1 s) rfl rfl rfl rfl rfl (fun v1 => ?_)
  refine xTr.br (g1 := (7, [(0, .ref 1004), (1, .int l1), (2, .int l2), (3, .int l3)], [], s)) (g2 := (9, [(0, .ref 1004), (1, .int l1), (2, .int l2), (3, .int l3)], [], s)) rfl (fun h2 => ?_) (fun h2 => ?_)
  · refine xTr.ms 1 (g := (8, [], [.int (-1 : Int32)], s)) rfl ?_
    exact xTr.ret rfl rfl rfl
  · refine xTr.ms 11 (g := (24, [(0, .ref 1004), (1, .int l1), (2, .int (if l2 < (0 : Int32) then (0 : Int32) else l2)), (3, .int (if (4 : Int32) < l3 then (4 : Int32) else l3))], [.int (if (4 : Int32) < l3 then (4 : Int32) else l3), .int (if l2 < (0 : Int32) then (0 : Int32) else l2)], s)) rfl ?_
    refine xTr.br (g1 := (29, [(0, .ref 1004), (1, .int l1), (2, .int (if l2 < (0 : Int32) then (0 : Int32) else l2)), (3, .int (if (4 : Int32) < l3 then (4 : Int32) else l3))], [], s)) (g2 := (27, [(0, .ref 1004), (1, .int l1), (2, .int (if l2 < (0 : Int32) then (0 : Int32) else l2)), (3, .int (if (4 : Int32) < l3 then (4 : Int32) else l3))], [], s)) rfl (fun h3 => ?_) (fun h3 => ?_)
    · refine xTr.ms 4 (g := (33, [(0, .ref 1004), (1, .int l1), (2, .int (if l2 < (0 : Int32) then (0 : Int32) else l2)), (3, .int (if (4 : Int32) < l3 then (4 : Int32) else l3))], [.int (if (4 : Int32) < l3 then (4 : Int32) else l3), .int (if l2 < (0 : Int32) then (0 : Int32) else l2), .int l1, .ref 1004], s)) rfl ?_
      refine xTr.callip (R' := xR_J1_indexOfChar_4cfef) (as := [.ref 1004, .int l1, .int (if l2 < (0 : Int32) then (0 : Int32) else l2), .int (if (4 : Int32) < l3 then (4 : Int32) else l3)]) (lv := [(0, .ref 1004), (1, .int l1), (2, .int (if l2 < (0 : Int32) then (0 : Int32) else l2)), (3, .int (if (4 : Int32) < l3 then (4 : Int32) else l3))]) (rest := []) (ok_J1_indexOfChar_4cfef_1004 l1 (if l2 < (0 : Int32) then (0 : Int32) else l2) (if (4 : Int32) < l3 then (4 : Int32) else l3) s) rfl rfl rfl rfl rfl (fun v4 => ?_)
      exact xTr.ret rfl rfl rfl
    · refine xTr.ms 1 (g := (28, [], [.int (-1 : Int32)], s)) rfl ?_
      exact xTr.ret rfl rfl rfl
set_option maxRecDepth 100000 in
theorem ok_J1_indexOf_4cfef_1005 (l1 : Int32) (l2 : Int32) (l3 : Int32) (s : xS) : xTr xMs xFL xR_J1_indexOf_4cfef (Sum.inl (0, [(0, .ref 1005), (1, .int l1), (2, .int l2), (3, .int l3)], [], s)) (F_J1_indexOf_4cfef 1005 l1 l2 l3 s) (fun (y : Int32) => Sum.inr (some (.int y), s)) := by
  unfold F_J1_indexOf_4cfef
  refine xTr.ms 1 (g := (1, [(0, .ref 1005), (1, .int l1), (2, .int l2), (3, .int l3)], [.int l1], s)) rfl ?_
  refine xTr.callip (R' := xR_J1_canEncode_9a6ad) (as := [.int l1]) (lv := [(0, .ref 1005), (1, .int l1), (2, .int l2), (3, .int l3)]) (rest := []) (ok_J1_canEncode_9a6ad l1 s) rfl rfl rfl rfl rfl (fun v1 => ?_)
  refine xTr.br (g1 := (7, [(0, .ref 1005), (1, .int l1), (2, .int l2), (3, .int l3)], [], s)) (g2 := (9, [(0, .ref 1005), (1, .int l1), (2, .int l2), (3, .int l3)], [], s)) rfl (fun h2 => ?_) (fun h2 => ?_)
  · refine xTr.ms 1 (g := (8, [], [.int (-1 : Int32)], s)) rfl ?_
    exact xTr.ret rfl rfl rfl
  · refine xTr.ms 11 (g := (24, [(0, .ref 1005), (1, .int l1), (2, .int (if l2 < (0 : Int32) then (0 : Int32) else l2)), (3, .int (if (4 : Int32) < l3 then (4 : Int32) else l3))], [.int (if (4 : Int32) < l3 then (4 : Int32) else l3), .int (if l2 < (0 : Int32) then (0 : Int32) else l2)], s)) rfl ?_
    refine xTr.br (g1 := (29, [(0, .ref 1005), (1, .int l1), (2, .int (if l2 < (0 : Int32) then (0 : Int32) else l2)), (3, .int (if (4 : Int32) < l3 then (4 : Int32) else l3))], [], s)) (g2 := (27, [(0, .ref 1005), (1, .int l1), (2, .int (if l2 < (0 : Int32) then (0 : Int32) else l2)), (3, .int (if (4 : Int32) < l3 then (4 : Int32) else l3))], [], s)) rfl (fun h3 => ?_) (fun h3 => ?_)
    · refine xTr.ms 4 (g := (33, [(0, .ref 1005), (1, .int l1), (2, .int (if l2 < (0 : Int32) then (0 : Int32) else l2)), (3, .int (if (4 : Int32) < l3 then (4 : Int32) else l3))], [.int (if (4 : Int32) < l3 then (4 : Int32) else l3), .int (if l2 < (0 : Int32) then (0 : Int32) else l2), .int l1, .ref 1005], s)) rfl ?_
      refine xTr.callip (R' := xR_J1_indexOfChar_4cfef) (as := [.ref 1005, .int l1, .int (if l2 < (0 : Int32) then (0 : Int32) else l2), .int (if (4 : Int32) < l3 then (4 : Int32) else l3)]) (lv := [(0, .ref 1005), (1, .int l1), (2, .int (if l2 < (0 : Int32) then (0 : Int32) else l2)), (3, .int (if (4 : Int32) < l3 then (4 : Int32) else l3))]) (rest := []) (ok_J1_indexOfChar_4cfef_1005 l1 (if l2 < (0 : Int32) then (0 : Int32) else l2) (if (4 : Int32) < l3 then (4 : Int32) else l3) s) rfl rfl rfl rfl rfl (fun v4 => ?_)
      exact xTr.ret rfl rfl rfl
    · refine xTr.ms 1 (g := (28, [], [.int (-1 : Int32)], s)) rfl ?_
      exact xTr.ret rfl rfl rfl
-- J0_indexOf_7cf53
def F_J0_indexOf_7cf53 (p0 : Nat) (l1 : Int32) (l2 : Int32) (s : xS) : Option (Int32) := (F_J0_isLatin1_aae02 p0 s).bind fun v1 => (if v1 = 0 then ((F_J0_length_8abf5 p0 s).bind fun v3 => (none)) else ((F_J0_length_8abf5 p0 s).bind fun v4 => ((F_J1_indexOf_4cfef (p0 + 2) l1 l2 v4 s).bind fun v5 => (some v5))))
set_option maxRecDepth 100000 in
theorem ok_J0_indexOf_7cf53_1002 (l1 : Int32) (l2 : Int32) (s : xS) : xTr xMs xFL xR_J0_indexOf_7cf53 (Sum.inl (0, [(0, .ref 1002), (1, .int l1), (2, .int l2)], [], s)) (F_J0_indexOf_7cf53 1002 l1 l2 s) (fun (y : Int32) => Sum.inr (some (.int y), s)) := by
  unfold F_J0_indexOf_7cf53
  refine xTr.ms 1 (g := (1, [(0, .ref 1002), (1, .int l1), (2, .int l2)], [.ref 1002], s)) rfl ?_
  refine xTr.callip (R' := xR_J0_isLatin1_aae02) (as := [.ref 1002]) (lv := [(0, .ref 1002), (1, .int l1), (2, .int l2)]) (rest := []) (ok_J0_isLatin1_aae02_1002 s) rfl rfl rfl rfl rfl (fun v1 => ?_)
  refine xTr.br (g1 := (23, [(0, .ref 1002), (1, .int l1), (2, .int l2)], [], s)) (g2 := (7, [(0, .ref 1002), (1, .int l1), (2, .int l2)], [], s)) rfl (fun h2 => ?_) (fun h2 => ?_)
  · refine xTr.ms 5 (g := (30, [(0, .ref 1002), (1, .int l1), (2, .int l2)], [.ref 1002, .int l2, .int l1, .ref 1004], s)) rfl ?_
    refine xTr.callip (R' := xR_J0_length_8abf5) (as := [.ref 1002]) (lv := [(0, .ref 1002), (1, .int l1), (2, .int l2)]) (rest := [.int l2, .int l1, .ref 1004]) (ok_J0_length_8abf5_1002 s) rfl rfl rfl rfl rfl (fun v3 => ?_)
    exact xTr.none
  · refine xTr.ms 5 (g := (14, [(0, .ref 1002), (1, .int l1), (2, .int l2)], [.ref 1002, .int l2, .int l1, .ref 1004], s)) rfl ?_
    refine xTr.callip (R' := xR_J0_length_8abf5) (as := [.ref 1002]) (lv := [(0, .ref 1002), (1, .int l1), (2, .int l2)]) (rest := [.int l2, .int l1, .ref 1004]) (ok_J0_length_8abf5_1002 s) rfl rfl rfl rfl rfl (fun v4 => ?_)
    refine xTr.callip (R' := xR_J1_indexOf_4cfef) (as := [.ref 1004, .int l1, .int l2, .int v4]) (lv := [(0, .ref 1002), (1, .int l1), (2, .int l2)]) (rest := []) (ok_J1_indexOf_4cfef_1004 l1 l2 v4 s) rfl rfl rfl rfl rfl (fun v5 => ?_)
    refine xTr.ms 1 (g := (36, [(0, .ref 1002), (1, .int l1), (2, .int l2)], [.int v5], s)) rfl ?_
    exact xTr.ret rfl rfl rfl
set_option maxRecDepth 100000 in
theorem ok_J0_indexOf_7cf53_1003 (l1 : Int32) (l2 : Int32) (s : xS) : xTr xMs xFL xR_J0_indexOf_7cf53 (Sum.inl (0, [(0, .ref 1003), (1, .int l1), (2, .int l2)], [], s)) (F_J0_indexOf_7cf53 1003 l1 l2 s) (fun (y : Int32) => Sum.inr (some (.int y), s)) := by
  unfold F_J0_indexOf_7cf53
  refine xTr.ms 1 (g := (1, [(0, .ref 1003), (1, .int l1), (2, .int l2)], [.ref 1003], s)) rfl ?_
  refine xTr.callip (R' := xR_J0_isLatin1_aae02) (as := [.ref 1003]) (lv := [(0, .ref 1003), (1, .int l1), (2, .int l2)]) (rest := []) (ok_J0_isLatin1_aae02_1003 s) rfl rfl rfl rfl rfl (fun v1 => ?_)
  refine xTr.br (g1 := (23, [(0, .ref 1003), (1, .int l1), (2, .int l2)], [], s)) (g2 := (7, [(0, .ref 1003), (1, .int l1), (2, .int l2)], [], s)) rfl (fun h2 => ?_) (fun h2 => ?_)
  · refine xTr.ms 5 (g := (30, [(0, .ref 1003), (1, .int l1), (2, .int l2)], [.ref 1003, .int l2, .int l1, .ref 1005], s)) rfl ?_
    refine xTr.callip (R' := xR_J0_length_8abf5) (as := [.ref 1003]) (lv := [(0, .ref 1003), (1, .int l1), (2, .int l2)]) (rest := [.int l2, .int l1, .ref 1005]) (ok_J0_length_8abf5_1003 s) rfl rfl rfl rfl rfl (fun v3 => ?_)
    exact xTr.none
  · refine xTr.ms 5 (g := (14, [(0, .ref 1003), (1, .int l1), (2, .int l2)], [.ref 1003, .int l2, .int l1, .ref 1005], s)) rfl ?_
    refine xTr.callip (R' := xR_J0_length_8abf5) (as := [.ref 1003]) (lv := [(0, .ref 1003), (1, .int l1), (2, .int l2)]) (rest := [.int l2, .int l1, .ref 1005]) (ok_J0_length_8abf5_1003 s) rfl rfl rfl rfl rfl (fun v4 => ?_)
    refine xTr.callip (R' := xR_J1_indexOf_4cfef) (as := [.ref 1005, .int l1, .int l2, .int v4]) (lv := [(0, .ref 1003), (1, .int l1), (2, .int l2)]) (rest := []) (ok_J1_indexOf_4cfef_1005 l1 l2 v4 s) rfl rfl rfl rfl rfl (fun v5 => ?_)
    refine xTr.ms 1 (g := (36, [(0, .ref 1003), (1, .int l1), (2, .int l2)], [.int v5], s)) rfl ?_
    exact xTr.ret rfl rfl rfl
-- J0_indexOf_0f7a4
def F_J0_indexOf_0f7a4 (p0 : Nat) (l1 : Int32) (s : xS) : Option (Int32) := (F_J0_indexOf_7cf53 p0 l1 (0 : Int32) s).bind fun v1 => (some v1)
set_option maxRecDepth 100000 in
theorem ok_J0_indexOf_0f7a4_1002 (l1 : Int32) (s : xS) : xTr xMs xFL xR_J0_indexOf_0f7a4 (Sum.inl (0, [(0, .ref 1002), (1, .int l1)], [], s)) (F_J0_indexOf_0f7a4 1002 l1 s) (fun (y : Int32) => Sum.inr (some (.int y), s)) := by
  unfold F_J0_indexOf_0f7a4
  refine xTr.ms 3 (g := (3, [(0, .ref 1002), (1, .int l1)], [.int (0 : Int32), .int l1, .ref 1002], s)) rfl ?_
  refine xTr.callip (R' := xR_J0_indexOf_7cf53) (as := [.ref 1002, .int l1, .int (0 : Int32)]) (lv := [(0, .ref 1002), (1, .int l1)]) (rest := []) (ok_J0_indexOf_7cf53_1002 l1 (0 : Int32) s) rfl rfl rfl rfl rfl (fun v1 => ?_)
  exact xTr.ret rfl rfl rfl
set_option maxRecDepth 100000 in
theorem ok_J0_indexOf_0f7a4_1003 (l1 : Int32) (s : xS) : xTr xMs xFL xR_J0_indexOf_0f7a4 (Sum.inl (0, [(0, .ref 1003), (1, .int l1)], [], s)) (F_J0_indexOf_0f7a4 1003 l1 s) (fun (y : Int32) => Sum.inr (some (.int y), s)) := by
  unfold F_J0_indexOf_0f7a4
  refine xTr.ms 3 (g := (3, [(0, .ref 1003), (1, .int l1)], [.int (0 : Int32), .int l1, .ref 1003], s)) rfl ?_
  refine xTr.callip (R' := xR_J0_indexOf_7cf53) (as := [.ref 1003, .int l1, .int (0 : Int32)]) (lv := [(0, .ref 1003), (1, .int l1)]) (rest := []) (ok_J0_indexOf_7cf53_1003 l1 (0 : Int32) s) rfl rfl rfl rfl rfl (fun v1 => ?_)
  exact xTr.ret rfl rfl rfl
-- X7_mayStand
def F_X7_mayStand_J13 (l1 : Int32) (l2 : Int32) (l3 : Int32) (s : xS) (t0 : Int32) : Option (Int32) := if l1 < 0 then (some (0 : Int32)) else (if (6 : Int32) ≤ l2 then (some (0 : Int32)) else (if t0 ≤ l3 then (some (0 : Int32)) else (if (s.1 5 2) < (36 : Int32) then (if l1 = (3 : Int32) then (if (s.1 5 4) = (-1 : Int32) then (some (1 : Int32)) else (some (0 : Int32))) else (some (1 : Int32))) else (some (0 : Int32)))))
def F_X7_mayStand (l1 : Int32) (l2 : Int32) (l3 : Int32) (s : xS) : Option (Int32) := if l2 = 0 then (F_X7_mayStand_J13 l1 l2 l3 s (6 : Int32)) else (F_X7_mayStand_J13 l1 l2 l3 s (s.1 5 3))
set_option maxRecDepth 100000 in
theorem F_X7_mayStand_J13_ok (l1 : Int32) (l2 : Int32) (l3 : Int32) (s : xS) (t0 : Int32) : xTr xMs xFL xR_X7_mayStand (Sum.inl (13, [(0, .ref 5), (1, .int l1), (2, .int l2), (3, .int l3)], [.int t0], s)) (F_X7_mayStand_J13 l1 l2 l3 s t0) (fun (y : Int32) => Sum.inr (some (.int y), s)) := by
  unfold F_X7_mayStand_J13
  refine xTr.ms 2 (g := (16, [(0, .ref 5), (1, .int l1), (2, .int l2), (3, .int l3), (4, .int t0)], [.int l1], s)) rfl ?_
  refine xTr.br (g1 := (40, [(0, .ref 5), (1, .int l1), (2, .int l2), (3, .int l3), (4, .int t0)], [], s)) (g2 := (19, [(0, .ref 5), (1, .int l1), (2, .int l2), (3, .int l3), (4, .int t0)], [], s)) rfl (fun h2 => ?_) (fun h2 => ?_)
  · refine xTr.ms 1 (g := (41, [], [.int (0 : Int32)], s)) rfl ?_
    exact xTr.ret rfl rfl rfl
  · refine xTr.ms 2 (g := (22, [(0, .ref 5), (1, .int l1), (2, .int l2), (3, .int l3), (4, .int t0)], [.int (6 : Int32), .int l2], s)) rfl ?_
    refine xTr.br (g1 := (40, [(0, .ref 5), (1, .int l1), (2, .int l2), (3, .int l3), (4, .int t0)], [], s)) (g2 := (25, [(0, .ref 5), (1, .int l1), (2, .int l2), (3, .int l3), (4, .int t0)], [], s)) rfl (fun h3 => ?_) (fun h3 => ?_)
    · refine xTr.ms 1 (g := (41, [], [.int (0 : Int32)], s)) rfl ?_
      exact xTr.ret rfl rfl rfl
    · refine xTr.ms 2 (g := (28, [(0, .ref 5), (1, .int l1), (3, .int l3), (4, .int t0)], [.int t0, .int l3], s)) rfl ?_
      refine xTr.br (g1 := (40, [(0, .ref 5), (1, .int l1), (3, .int l3), (4, .int t0)], [], s)) (g2 := (31, [(0, .ref 5), (1, .int l1), (3, .int l3), (4, .int t0)], [], s)) rfl (fun h4 => ?_) (fun h4 => ?_)
      · refine xTr.ms 1 (g := (41, [], [.int (0 : Int32)], s)) rfl ?_
        exact xTr.ret rfl rfl rfl
      · refine xTr.ms 3 (g := (37, [(0, .ref 5), (1, .int l1)], [.int (36 : Int32), .int (s.1 5 2)], s)) rfl ?_
        refine xTr.br (g1 := (42, [(0, .ref 5), (1, .int l1)], [], s)) (g2 := (40, [(0, .ref 5), (1, .int l1)], [], s)) rfl (fun h5 => ?_) (fun h5 => ?_)
        · refine xTr.ms 2 (g := (44, [(0, .ref 5), (1, .int l1)], [.int (3 : Int32), .int l1], s)) rfl ?_
          refine xTr.br (g1 := (47, [(0, .ref 5), (1, .int l1)], [], s)) (g2 := (55, [(0, .ref 5), (1, .int l1)], [], s)) rfl (fun h6 => ?_) (fun h6 => ?_)
          · refine xTr.ms 3 (g := (52, [(0, .ref 5)], [.int (-1 : Int32), .int (s.1 5 4)], s)) rfl ?_
            refine xTr.br (g1 := (55, [(0, .ref 5)], [], s)) (g2 := (59, [(0, .ref 5)], [], s)) rfl (fun h7 => ?_) (fun h7 => ?_)
            · refine xTr.ms 2 (g := (60, [], [.int (1 : Int32)], s)) rfl ?_
              exact xTr.ret rfl rfl rfl
            · refine xTr.ms 1 (g := (60, [], [.int (0 : Int32)], s)) rfl ?_
              exact xTr.ret rfl rfl rfl
          · refine xTr.ms 2 (g := (60, [], [.int (1 : Int32)], s)) rfl ?_
            exact xTr.ret rfl rfl rfl
        · refine xTr.ms 1 (g := (41, [], [.int (0 : Int32)], s)) rfl ?_
          exact xTr.ret rfl rfl rfl
set_option maxRecDepth 100000 in
theorem ok_X7_mayStand (l1 : Int32) (l2 : Int32) (l3 : Int32) (s : xS) : xTr xMs xFL xR_X7_mayStand (Sum.inl (0, [(0, .ref 5), (1, .int l1), (2, .int l2), (3, .int l3)], [], s)) (F_X7_mayStand l1 l2 l3 s) (fun (y : Int32) => Sum.inr (some (.int y), s)) := by
  unfold F_X7_mayStand
  refine xTr.ms 1 (g := (1, [(0, .ref 5), (1, .int l1), (2, .int l2), (3, .int l3)], [.int l2], s)) rfl ?_
  refine xTr.br (g1 := (4, [(0, .ref 5), (1, .int l1), (2, .int l2), (3, .int l3)], [], s)) (g2 := (9, [(0, .ref 5), (1, .int l1), (2, .int l2), (3, .int l3)], [], s)) rfl (fun h1 => ?_) (fun h1 => ?_)
  · refine xTr.ms 2 (g := (13, [(0, .ref 5), (1, .int l1), (2, .int l2), (3, .int l3)], [.int (6 : Int32)], s)) rfl ?_
    exact F_X7_mayStand_J13_ok l1 l2 l3 s (6 : Int32)
  · refine xTr.ms 2 (g := (13, [(0, .ref 5), (1, .int l1), (2, .int l2), (3, .int l3)], [.int (s.1 5 3)], s)) rfl ?_
    exact F_X7_mayStand_J13_ok l1 l2 l3 s (s.1 5 3)
-- X7_add
def F_X7_add (l1 : Int32) (s : xS) : Option (xS) := if l1 = (3 : Int32) then (if (s.1 5 2) < 0 ∨ 36 ≤ ((s.1 5 2)).toNatClampNeg then none else (some (xu (xu (xu s 5 4 (s.1 5 2)) 6 ((s.1 5 2)).toNatClampNeg l1) 5 2 ((s.1 5 2) + (1 : Int32))))) else (if (s.1 5 2) < 0 ∨ 36 ≤ ((s.1 5 2)).toNatClampNeg then none else (some (xu (xu s 6 ((s.1 5 2)).toNatClampNeg l1) 5 2 ((s.1 5 2) + (1 : Int32)))))
set_option maxRecDepth 100000 in
theorem ok_X7_add (l1 : Int32) (s : xS) : xTr xMs xFL xR_X7_add (Sum.inl (0, [(0, .ref 5), (1, .int l1)], [], s)) (F_X7_add l1 s) (fun (y : xS) => Sum.inr (none, y)) := by
  unfold F_X7_add
  refine xTr.ms 2 (g := (2, [(0, .ref 5), (1, .int l1)], [.int (3 : Int32), .int l1], s)) rfl ?_
  refine xTr.br (g1 := (5, [(0, .ref 5), (1, .int l1)], [], s)) (g2 := (13, [(0, .ref 5), (1, .int l1)], [], s)) rfl (fun h1 => ?_) (fun h1 => ?_)
  · refine xTr.ms 9 (g := (22, [(0, .ref 5), (1, .int l1)], [.int l1, .int (s.1 5 2), .ref 6], (xu s 5 4 (s.1 5 2)))) rfl ?_
    refine xTr.ck (g := (23, [(0, .ref 5), (1, .int l1)], [], (xu (xu s 5 4 (s.1 5 2)) 6 ((s.1 5 2)).toNatClampNeg l1))) rfl (fun h2 => ?_)
    refine xTr.ms 6 (g := (33, [(0, .ref 5), (1, .int l1)], [], (xu (xu (xu s 5 4 (s.1 5 2)) 6 ((s.1 5 2)).toNatClampNeg l1) 5 2 ((s.1 5 2) + (1 : Int32))))) rfl ?_
    exact xTr.ret rfl rfl rfl
  · refine xTr.ms 5 (g := (22, [(0, .ref 5), (1, .int l1)], [.int l1, .int (s.1 5 2), .ref 6], s)) rfl ?_
    refine xTr.ck (g := (23, [(0, .ref 5), (1, .int l1)], [], (xu s 6 ((s.1 5 2)).toNatClampNeg l1))) rfl (fun h3 => ?_)
    refine xTr.ms 6 (g := (33, [(0, .ref 5), (1, .int l1)], [], (xu (xu s 6 ((s.1 5 2)).toNatClampNeg l1) 5 2 ((s.1 5 2) + (1 : Int32))))) rfl ?_
    exact xTr.ret rfl rfl rfl
-- X7_place
def F_X7_place_L7 (a : Int32 × Int32 × Int32 × xS) : Option ((Int32 × Int32 × Int32 × xS) ⊕ ((Int32 × xS) ⊕ ((Int32 × xS) ⊕ (Int32 × xS)))) := if (a.2.2.2.1 1 2) ≤ a.2.2.1 then (some (Sum.inr (Sum.inr (Sum.inr (a.2.1, a.2.2.2))))) else (if a.2.2.1 < 0 ∨ 41 ≤ a.2.2.1.toNatClampNeg then none else (if (a.2.2.2.1 2 a.2.2.1.toNatClampNeg) = (59 : Int32) then ((F_X7_isTooShort a.2.1 a.2.2.2).bind fun v4 => (if v4 = 0 then (some (Sum.inl ((a.1 + (1 : Int32)), (0 : Int32), (a.2.2.1 + (1 : Int32)), a.2.2.2))) else (some (Sum.inr (Sum.inl (a.2.2.1, a.2.2.2)))))) else ((F_J0_indexOf_0f7a4 1002 (((a.2.2.2.1 2 a.2.2.1.toNatClampNeg)).toUInt32 % 65536).toInt32 a.2.2.2).bind fun v6 => ((F_X7_mayStand v6 a.1 a.2.1 a.2.2.2).bind fun v7 => (if v7 = 0 then (some (Sum.inr (Sum.inr (Sum.inl (a.2.2.1, a.2.2.2))))) else ((F_X7_add v6 a.2.2.2).bind fun s10 => (if a.1 = 0 then (some (Sum.inl (a.1, (a.2.1 + (1 : Int32)), (a.2.2.1 + (1 : Int32)), (xu s10 5 3 (a.2.1 + (1 : Int32)))))) else (some (Sum.inl (a.1, (a.2.1 + (1 : Int32)), (a.2.2.1 + (1 : Int32)), s10))))))))))
def F_X7_place (s : xS) : Option (Int32 × xS) := (xlp (F_X7_place_L7) 100000 ((0 : Int32), (0 : Int32), (0 : Int32), s)).bind (Sum.elim (fun b12_0 => (some (b12_0.1, b12_0.2))) (Sum.elim (fun b12_1 => (some (b12_1.1, b12_1.2))) (fun b12_2 => (if (b12_2.2.1 1 2) ≤ 0 then (some ((-1 : Int32), b12_2.2)) else ((F_X7_isTooShort b12_2.1 b12_2.2).bind fun v14 => (if v14 = 0 then (some ((-1 : Int32), b12_2.2)) else (some ((b12_2.2.1 1 2), b12_2.2))))))))
def F_X7_place_L7_hd (a : Int32 × Int32 × Int32 × xS) : xT := Sum.inl (7, [(0, .ref 5), (1, .ref 1), (2, .int a.1), (3, .int a.2.1), (4, .int a.2.2.1)], [], a.2.2.2)
def F_X7_place_L7_ex : ((Int32 × xS) ⊕ ((Int32 × xS) ⊕ (Int32 × xS))) → xT := (Sum.elim (fun (z : Int32 × xS) => Sum.inl (40, [(4, .int z.1)], [], z.2)) (Sum.elim (fun (z : Int32 × xS) => Sum.inl (72, [(4, .int z.1)], [], z.2)) (fun (z : Int32 × xS) => Sum.inl (99, [(0, .ref 5), (1, .ref 1), (3, .int z.1)], [], z.2))))
set_option maxRecDepth 100000 in
theorem F_X7_place_L7_ok (a : Int32 × Int32 × Int32 × xS) : xTr xMs xFL xR_X7_place (F_X7_place_L7_hd a) (F_X7_place_L7 a) (xhx (F_X7_place_L7_hd) (F_X7_place_L7_ex)) := by
  unfold F_X7_place_L7
  refine xTr.ms 3 (g := (13, [(0, .ref 5), (1, .ref 1), (2, .int a.1), (3, .int a.2.1), (4, .int a.2.2.1)], [.int (a.2.2.2.1 1 2), .int a.2.2.1], a.2.2.2)) rfl ?_
  refine xTr.br (g1 := (99, [(0, .ref 5), (1, .ref 1), (2, .int a.1), (3, .int a.2.1), (4, .int a.2.2.1)], [], a.2.2.2)) (g2 := (16, [(0, .ref 5), (1, .ref 1), (2, .int a.1), (3, .int a.2.1), (4, .int a.2.2.1)], [], a.2.2.2)) rfl (fun h1 => ?_) (fun h1 => ?_)
  · refine xTr.mk (lv1 := [(0, .ref 5), (1, .ref 1), (3, .int a.2.1)]) rfl rfl ?_
    exact xTr.leaf rfl
  · refine xTr.ms 3 (g := (22, [(0, .ref 5), (1, .ref 1), (2, .int a.1), (3, .int a.2.1), (4, .int a.2.2.1)], [.int a.2.2.1, .ref 2], a.2.2.2)) rfl ?_
    refine xTr.ck (g := (23, [(0, .ref 5), (1, .ref 1), (2, .int a.1), (3, .int a.2.1), (4, .int a.2.2.1)], [.int (a.2.2.2.1 2 a.2.2.1.toNatClampNeg)], a.2.2.2)) rfl (fun h2 => ?_)
    refine xTr.ms 3 (g := (29, [(0, .ref 5), (1, .ref 1), (2, .int a.1), (3, .int a.2.1), (4, .int a.2.2.1), (5, .int (a.2.2.2.1 2 a.2.2.1.toNatClampNeg))], [.int (59 : Int32), .int (a.2.2.2.1 2 a.2.2.1.toNatClampNeg)], a.2.2.2)) rfl ?_
    refine xTr.br (g1 := (32, [(0, .ref 5), (1, .ref 1), (2, .int a.1), (3, .int a.2.1), (4, .int a.2.2.1), (5, .int (a.2.2.2.1 2 a.2.2.1.toNatClampNeg))], [], a.2.2.2)) (g2 := (51, [(0, .ref 5), (1, .ref 1), (2, .int a.1), (3, .int a.2.1), (4, .int a.2.2.1), (5, .int (a.2.2.2.1 2 a.2.2.1.toNatClampNeg))], [], a.2.2.2)) rfl (fun h3 => ?_) (fun h3 => ?_)
    · refine xTr.ms 2 (g := (34, [(0, .ref 5), (1, .ref 1), (2, .int a.1), (3, .int a.2.1), (4, .int a.2.2.1)], [.int a.2.1, .ref 5], a.2.2.2)) rfl ?_
      refine xTr.callip (R' := xR_X7_isTooShort) (as := [.ref 5, .int a.2.1]) (lv := [(0, .ref 5), (1, .ref 1), (2, .int a.1), (3, .int a.2.1), (4, .int a.2.2.1)]) (rest := []) (ok_X7_isTooShort a.2.1 a.2.2.2) rfl rfl rfl rfl rfl (fun v4 => ?_)
      refine xTr.br (g1 := (43, [(0, .ref 5), (1, .ref 1), (2, .int a.1), (3, .int a.2.1), (4, .int a.2.2.1)], [], a.2.2.2)) (g2 := (40, [(0, .ref 5), (1, .ref 1), (2, .int a.1), (3, .int a.2.1), (4, .int a.2.2.1)], [], a.2.2.2)) rfl (fun h5 => ?_) (fun h5 => ?_)
      · refine xTr.ms 6 (g := (7, [(0, .ref 5), (1, .ref 1), (2, .int (a.1 + (1 : Int32))), (3, .int (0 : Int32)), (4, .int (a.2.2.1 + (1 : Int32)))], [], a.2.2.2)) rfl ?_
        exact xTr.leaf rfl
      · refine xTr.mk (lv1 := [(4, .int a.2.2.1)]) rfl rfl ?_
        exact xTr.leaf rfl
    · refine xTr.ms 3 (g := (56, [(0, .ref 5), (1, .ref 1), (2, .int a.1), (3, .int a.2.1), (4, .int a.2.2.1), (5, .int (a.2.2.2.1 2 a.2.2.1.toNatClampNeg))], [.int (((a.2.2.2.1 2 a.2.2.1.toNatClampNeg)).toUInt32 % 65536).toInt32, .ref 1002], a.2.2.2)) rfl ?_
      refine xTr.callip (R' := xR_J0_indexOf_0f7a4) (as := [.ref 1002, .int (((a.2.2.2.1 2 a.2.2.1.toNatClampNeg)).toUInt32 % 65536).toInt32]) (lv := [(0, .ref 5), (1, .ref 1), (2, .int a.1), (3, .int a.2.1), (4, .int a.2.2.1), (5, .int (a.2.2.2.1 2 a.2.2.1.toNatClampNeg))]) (rest := []) (ok_J0_indexOf_0f7a4_1002 (((a.2.2.2.1 2 a.2.2.1.toNatClampNeg)).toUInt32 % 65536).toInt32 a.2.2.2) rfl rfl rfl rfl rfl (fun v6 => ?_)
      refine xTr.ms 5 (g := (66, [(0, .ref 5), (1, .ref 1), (2, .int a.1), (3, .int a.2.1), (4, .int a.2.2.1), (5, .int (a.2.2.2.1 2 a.2.2.1.toNatClampNeg)), (6, .int v6)], [.int a.2.1, .int a.1, .int v6, .ref 5], a.2.2.2)) rfl ?_
      refine xTr.callip (R' := xR_X7_mayStand) (as := [.ref 5, .int v6, .int a.1, .int a.2.1]) (lv := [(0, .ref 5), (1, .ref 1), (2, .int a.1), (3, .int a.2.1), (4, .int a.2.2.1), (5, .int (a.2.2.2.1 2 a.2.2.1.toNatClampNeg)), (6, .int v6)]) (rest := []) (ok_X7_mayStand v6 a.1 a.2.1 a.2.2.2) rfl rfl rfl rfl rfl (fun v7 => ?_)
      refine xTr.br (g1 := (72, [(0, .ref 5), (1, .ref 1), (2, .int a.1), (3, .int a.2.1), (4, .int a.2.2.1), (5, .int (a.2.2.2.1 2 a.2.2.1.toNatClampNeg)), (6, .int v6)], [], a.2.2.2)) (g2 := (75, [(0, .ref 5), (1, .ref 1), (2, .int a.1), (3, .int a.2.1), (4, .int a.2.2.1), (5, .int (a.2.2.2.1 2 a.2.2.1.toNatClampNeg)), (6, .int v6)], [], a.2.2.2)) rfl (fun h8 => ?_) (fun h8 => ?_)
      · refine xTr.mk (lv1 := [(4, .int a.2.2.1)]) rfl rfl ?_
        exact xTr.leaf rfl
      · refine xTr.ms 2 (g := (78, [(0, .ref 5), (1, .ref 1), (2, .int a.1), (3, .int a.2.1), (4, .int a.2.2.1), (6, .int v6)], [.int v6, .ref 5], a.2.2.2)) rfl ?_
        refine xTr.callv (R' := xR_X7_add) (as := [.ref 5, .int v6]) (lv := [(0, .ref 5), (1, .ref 1), (2, .int a.1), (3, .int a.2.1), (4, .int a.2.2.1), (6, .int v6)]) (rest := []) (ok_X7_add v6 a.2.2.2) rfl rfl rfl rfl rfl (fun s10 => ?_)
        refine xTr.ms 2 (g := (85, [(0, .ref 5), (1, .ref 1), (2, .int a.1), (3, .int (a.2.1 + (1 : Int32))), (4, .int a.2.2.1), (6, .int v6)], [.int a.1], s10)) rfl ?_
        refine xTr.br (g1 := (88, [(0, .ref 5), (1, .ref 1), (2, .int a.1), (3, .int (a.2.1 + (1 : Int32))), (4, .int a.2.2.1), (6, .int v6)], [], s10)) (g2 := (93, [(0, .ref 5), (1, .ref 1), (2, .int a.1), (3, .int (a.2.1 + (1 : Int32))), (4, .int a.2.2.1), (6, .int v6)], [], s10)) rfl (fun h11 => ?_) (fun h11 => ?_)
        · refine xTr.ms 5 (g := (7, [(0, .ref 5), (1, .ref 1), (2, .int a.1), (3, .int (a.2.1 + (1 : Int32))), (4, .int (a.2.2.1 + (1 : Int32)))], [], (xu s10 5 3 (a.2.1 + (1 : Int32))))) rfl ?_
          exact xTr.leaf rfl
        · refine xTr.ms 2 (g := (7, [(0, .ref 5), (1, .ref 1), (2, .int a.1), (3, .int (a.2.1 + (1 : Int32))), (4, .int (a.2.2.1 + (1 : Int32)))], [], s10)) rfl ?_
          exact xTr.leaf rfl
set_option maxRecDepth 100000 in
theorem ok_X7_place (s : xS) : xTr xMs xFL xR_X7_place (Sum.inl (0, [(0, .ref 5), (1, .ref 1)], [], s)) (F_X7_place s) (fun (y : Int32 × xS) => Sum.inr (some (.int y.1), y.2)) := by
  unfold F_X7_place
  refine xTr.ms 6 (g := (7, [(0, .ref 5), (1, .ref 1), (2, .int (0 : Int32)), (3, .int (0 : Int32)), (4, .int (0 : Int32))], [], s)) rfl ?_
  refine xTr.bind (J := F_X7_place_L7_ex) (xTr.loop (fun a => F_X7_place_L7_ok a) 100000 ((0 : Int32), (0 : Int32), (0 : Int32), s)) (fun b12 => ?_)
  rcases b12 with b12_0 | b12_1 | b12_2
  · refine xTr.ms 1 (g := (42, [(4, .int b12_0.1)], [.int b12_0.1], b12_0.2)) rfl ?_
    exact xTr.ret rfl rfl rfl
  · refine xTr.ms 1 (g := (74, [(4, .int b12_1.1)], [.int b12_1.1], b12_1.2)) rfl ?_
    exact xTr.ret rfl rfl rfl
  · refine xTr.ms 2 (g := (103, [(0, .ref 5), (1, .ref 1), (3, .int b12_2.1)], [.int (b12_2.2.1 1 2)], b12_2.2)) rfl ?_
    refine xTr.br (g1 := (121, [(0, .ref 5), (1, .ref 1), (3, .int b12_2.1)], [], b12_2.2)) (g2 := (106, [(0, .ref 5), (1, .ref 1), (3, .int b12_2.1)], [], b12_2.2)) rfl (fun h13 => ?_) (fun h13 => ?_)
    · refine xTr.ms 1 (g := (122, [], [.int (-1 : Int32)], b12_2.2)) rfl ?_
      exact xTr.ret rfl rfl rfl
    · refine xTr.ms 2 (g := (108, [(0, .ref 5), (1, .ref 1), (3, .int b12_2.1)], [.int b12_2.1, .ref 5], b12_2.2)) rfl ?_
      refine xTr.callip (R' := xR_X7_isTooShort) (as := [.ref 5, .int b12_2.1]) (lv := [(0, .ref 5), (1, .ref 1), (3, .int b12_2.1)]) (rest := []) (ok_X7_isTooShort b12_2.1 b12_2.2) rfl rfl rfl rfl rfl (fun v14 => ?_)
      refine xTr.br (g1 := (121, [(0, .ref 5), (1, .ref 1), (3, .int b12_2.1)], [], b12_2.2)) (g2 := (114, [(0, .ref 5), (1, .ref 1), (3, .int b12_2.1)], [], b12_2.2)) rfl (fun h15 => ?_) (fun h15 => ?_)
      · refine xTr.ms 1 (g := (122, [], [.int (-1 : Int32)], b12_2.2)) rfl ?_
        exact xTr.ret rfl rfl rfl
      · refine xTr.ms 3 (g := (122, [(1, .ref 1)], [.int (b12_2.2.1 1 2)], b12_2.2)) rfl ?_
        exact xTr.ret rfl rfl rfl
end
