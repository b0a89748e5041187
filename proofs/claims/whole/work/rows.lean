section
-- ===== PART A: goes FIRST, ahead of the names: the tables' words, and 'selects' of the private methods out of them =====
/-- a private method of a class that the tables say can be made, by its rows of tables_1 -/
def lw_okq (q : MethodName × Nat) : Prop := (q.1.cls ≠ "java/lang/invoke/MethodHandle" ∧ q.1.cls ≠ "java/lang/invoke/VarHandle") ∧ Cond.instantiable q.1.cls q.2 ∈ tables_1 ∧ Cond.privateMethod q.1 ∈ tables_1 ∧ Cond.instanceMethod q.1 ∈ tables_1
theorem lw_p0 : lw_okq (⟨"FounderSleeps", "sleepAnew", "()V"⟩, 18) := ⟨⟨by decide +kernel, by decide +kernel⟩, List.mem_of_getElem? (i := 21) (by decide +kernel), List.mem_of_getElem? (i := 233) (by decide +kernel), List.mem_of_getElem? (i := 234) (by decide +kernel)⟩
theorem lw_p1 : lw_okq (⟨"FounderSleeps$Reach", "leastBeside", "(LFounderSleeps$Town;I)I"⟩, 2) := ⟨⟨by decide +kernel, by decide +kernel⟩, List.mem_of_getElem? (i := 162) (by decide +kernel), List.mem_of_getElem? (i := 253) (by decide +kernel), List.mem_of_getElem? (i := 254) (by decide +kernel)⟩
theorem lw_p2 : lw_okq (⟨"FounderSleeps$Night", "doDeeds", "(LFounderSleeps$Deeds;II)I"⟩, 7) := ⟨⟨by decide +kernel, by decide +kernel⟩, List.mem_of_getElem? (i := 177) (by decide +kernel), List.mem_of_getElem? (i := 268) (by decide +kernel), List.mem_of_getElem? (i := 269) (by decide +kernel)⟩
theorem lw_p3 : lw_okq (⟨"FounderSleeps$Night", "exileBy", "(LFounderSleeps$Deeds;II)V"⟩, 7) := ⟨⟨by decide +kernel, by decide +kernel⟩, List.mem_of_getElem? (i := 177) (by decide +kernel), List.mem_of_getElem? (i := 276) (by decide +kernel), List.mem_of_getElem? (i := 277) (by decide +kernel)⟩
theorem lw_p4 : lw_okq (⟨"FounderSleeps", "textOf", "(I)LFounderSleeps$Text;"⟩, 18) := ⟨⟨by decide +kernel, by decide +kernel⟩, List.mem_of_getElem? (i := 21) (by decide +kernel), List.mem_of_getElem? (i := 343) (by decide +kernel), List.mem_of_getElem? (i := 344) (by decide +kernel)⟩
theorem lw_p5 : lw_okq (⟨"FounderSleeps", "readAnew", "(I)V"⟩, 18) := ⟨⟨by decide +kernel, by decide +kernel⟩, List.mem_of_getElem? (i := 21) (by decide +kernel), List.mem_of_getElem? (i := 355) (by decide +kernel), List.mem_of_getElem? (i := 356) (by decide +kernel)⟩
theorem lw_p6 : lw_okq (⟨"FounderSleeps$Town", "empty", "()V"⟩, 6) := ⟨⟨by decide +kernel, by decide +kernel⟩, List.mem_of_getElem? (i := 54) (by decide +kernel), List.mem_of_getElem? (i := 363) (by decide +kernel), List.mem_of_getElem? (i := 364) (by decide +kernel)⟩
theorem lw_p7 : lw_okq (⟨"FounderSleeps$Town", "place", "(LFounderSleeps$Text;)I"⟩, 6) := ⟨⟨by decide +kernel, by decide +kernel⟩, List.mem_of_getElem? (i := 54) (by decide +kernel), List.mem_of_getElem? (i := 367) (by decide +kernel), List.mem_of_getElem? (i := 368) (by decide +kernel)⟩
theorem lw_p8 : lw_okq (⟨"FounderSleeps$Town", "isTooShort", "(I)Z"⟩, 6) := ⟨⟨by decide +kernel, by decide +kernel⟩, List.mem_of_getElem? (i := 54) (by decide +kernel), List.mem_of_getElem? (i := 371) (by decide +kernel), List.mem_of_getElem? (i := 372) (by decide +kernel)⟩
theorem lw_p9 : lw_okq (⟨"FounderSleeps$Town", "mayStand", "(III)Z"⟩, 6) := ⟨⟨by decide +kernel, by decide +kernel⟩, List.mem_of_getElem? (i := 54) (by decide +kernel), List.mem_of_getElem? (i := 460) (by decide +kernel), List.mem_of_getElem? (i := 461) (by decide +kernel)⟩
theorem lw_p10 : lw_okq (⟨"FounderSleeps$Town", "add", "(I)V"⟩, 6) := ⟨⟨by decide +kernel, by decide +kernel⟩, List.mem_of_getElem? (i := 54) (by decide +kernel), List.mem_of_getElem? (i := 464) (by decide +kernel), List.mem_of_getElem? (i := 465) (by decide +kernel)⟩
theorem lw_p11 : lw_okq (⟨"FounderSleeps$Town", "link", "()V"⟩, 6) := ⟨⟨by decide +kernel, by decide +kernel⟩, List.mem_of_getElem? (i := 54) (by decide +kernel), List.mem_of_getElem? (i := 468) (by decide +kernel), List.mem_of_getElem? (i := 469) (by decide +kernel)⟩
theorem lw_p12 : lw_okq (⟨"FounderSleeps", "isNoDeed", "(I)Z"⟩, 18) := ⟨⟨by decide +kernel, by decide +kernel⟩, List.mem_of_getElem? (i := 21) (by decide +kernel), List.mem_of_getElem? (i := 517) (by decide +kernel), List.mem_of_getElem? (i := 518) (by decide +kernel)⟩
theorem lw_p13 : lw_okq (⟨"FounderSleeps", "find", "(I)I"⟩, 18) := ⟨⟨by decide +kernel, by decide +kernel⟩, List.mem_of_getElem? (i := 21) (by decide +kernel), List.mem_of_getElem? (i := 553) (by decide +kernel), List.mem_of_getElem? (i := 554) (by decide +kernel)⟩
theorem lw_p14 : lw_okq (⟨"FounderSleeps", "bestHourOf", "(I)I"⟩, 18) := ⟨⟨by decide +kernel, by decide +kernel⟩, List.mem_of_getElem? (i := 21) (by decide +kernel), List.mem_of_getElem? (i := 599) (by decide +kernel), List.mem_of_getElem? (i := 600) (by decide +kernel)⟩
theorem lw_p15 : lw_okq (⟨"FounderSleeps", "latenessAt", "(II)I"⟩, 18) := ⟨⟨by decide +kernel, by decide +kernel⟩, List.mem_of_getElem? (i := 21) (by decide +kernel), List.mem_of_getElem? (i := 603) (by decide +kernel), List.mem_of_getElem? (i := 604) (by decide +kernel)⟩
def lw_privs_1 : List (MethodName × Nat) := [(⟨"FounderSleeps", "sleepAnew", "()V"⟩, 18), (⟨"FounderSleeps$Reach", "leastBeside", "(LFounderSleeps$Town;I)I"⟩, 2), (⟨"FounderSleeps$Night", "doDeeds", "(LFounderSleeps$Deeds;II)I"⟩, 7), (⟨"FounderSleeps$Night", "exileBy", "(LFounderSleeps$Deeds;II)V"⟩, 7), (⟨"FounderSleeps", "textOf", "(I)LFounderSleeps$Text;"⟩, 18), (⟨"FounderSleeps", "readAnew", "(I)V"⟩, 18), (⟨"FounderSleeps$Town", "empty", "()V"⟩, 6), (⟨"FounderSleeps$Town", "place", "(LFounderSleeps$Text;)I"⟩, 6), (⟨"FounderSleeps$Town", "isTooShort", "(I)Z"⟩, 6), (⟨"FounderSleeps$Town", "mayStand", "(III)Z"⟩, 6), (⟨"FounderSleeps$Town", "add", "(I)V"⟩, 6), (⟨"FounderSleeps$Town", "link", "()V"⟩, 6), (⟨"FounderSleeps", "isNoDeed", "(I)Z"⟩, 18), (⟨"FounderSleeps", "find", "(I)I"⟩, 18), (⟨"FounderSleeps", "bestHourOf", "(I)I"⟩, 18), (⟨"FounderSleeps", "latenessAt", "(II)I"⟩, 18)]
theorem lw_r1 : ∀ q ∈ lw_privs_1, lw_okq q := List.forall_mem_cons.mpr ⟨lw_p0, List.forall_mem_cons.mpr ⟨lw_p1, List.forall_mem_cons.mpr ⟨lw_p2, List.forall_mem_cons.mpr ⟨lw_p3, List.forall_mem_cons.mpr ⟨lw_p4, List.forall_mem_cons.mpr ⟨lw_p5, List.forall_mem_cons.mpr ⟨lw_p6, List.forall_mem_cons.mpr ⟨lw_p7, List.forall_mem_cons.mpr ⟨lw_p8, List.forall_mem_cons.mpr ⟨lw_p9, List.forall_mem_cons.mpr ⟨lw_p10, List.forall_mem_cons.mpr ⟨lw_p11, List.forall_mem_cons.mpr ⟨lw_p12, List.forall_mem_cons.mpr ⟨lw_p13, List.forall_mem_cons.mpr ⟨lw_p14, List.forall_mem_cons.mpr ⟨lw_p15, fun _ h => absurd h List.not_mem_nil⟩⟩⟩⟩⟩⟩⟩⟩⟩⟩⟩⟩⟩⟩⟩⟩
theorem lw_p16 : lw_okq (⟨"FounderSleeps", "planFelt", "()V"⟩, 18) := ⟨⟨by decide +kernel, by decide +kernel⟩, List.mem_of_getElem? (i := 21) (by decide +kernel), List.mem_of_getElem? (i := 622) (by decide +kernel), List.mem_of_getElem? (i := 623) (by decide +kernel)⟩
theorem lw_p17 : lw_okq (⟨"FounderSleeps", "isStillWithOne", "()Z"⟩, 18) := ⟨⟨by decide +kernel, by decide +kernel⟩, List.mem_of_getElem? (i := 21) (by decide +kernel), List.mem_of_getElem? (i := 626) (by decide +kernel), List.mem_of_getElem? (i := 627) (by decide +kernel)⟩
theorem lw_p18 : lw_okq (⟨"FounderSleeps", "isStillWith", "(II)Z"⟩, 18) := ⟨⟨by decide +kernel, by decide +kernel⟩, List.mem_of_getElem? (i := 21) (by decide +kernel), List.mem_of_getElem? (i := 635) (by decide +kernel), List.mem_of_getElem? (i := 636) (by decide +kernel)⟩
theorem lw_p19 : lw_okq (⟨"FounderSleeps", "isStillWithTwo", "()Z"⟩, 18) := ⟨⟨by decide +kernel, by decide +kernel⟩, List.mem_of_getElem? (i := 21) (by decide +kernel), List.mem_of_getElem? (i := 643) (by decide +kernel), List.mem_of_getElem? (i := 644) (by decide +kernel)⟩
theorem lw_p20 : lw_okq (⟨"FounderSleeps", "bestBed", "()I"⟩, 18) := ⟨⟨by decide +kernel, by decide +kernel⟩, List.mem_of_getElem? (i := 21) (by decide +kernel), List.mem_of_getElem? (i := 651) (by decide +kernel), List.mem_of_getElem? (i := 652) (by decide +kernel)⟩
theorem lw_p21 : lw_okq (⟨"FounderSleeps", "latenessWithBed", "(I)I"⟩, 18) := ⟨⟨by decide +kernel, by decide +kernel⟩, List.mem_of_getElem? (i := 21) (by decide +kernel), List.mem_of_getElem? (i := 655) (by decide +kernel), List.mem_of_getElem? (i := 656) (by decide +kernel)⟩
theorem lw_p22 : lw_okq (⟨"FounderSleeps", "findPlaces", "(I)I"⟩, 18) := ⟨⟨by decide +kernel, by decide +kernel⟩, List.mem_of_getElem? (i := 21) (by decide +kernel), List.mem_of_getElem? (i := 685) (by decide +kernel), List.mem_of_getElem? (i := 686) (by decide +kernel)⟩
theorem lw_p23 : lw_okq (⟨"FounderSleeps", "mostAlike", "(II)I"⟩, 18) := ⟨⟨by decide +kernel, by decide +kernel⟩, List.mem_of_getElem? (i := 21) (by decide +kernel), List.mem_of_getElem? (i := 700) (by decide +kernel), List.mem_of_getElem? (i := 701) (by decide +kernel)⟩
theorem lw_p24 : lw_okq (⟨"FounderSleeps", "weightOfSleep", "(I)J"⟩, 18) := ⟨⟨by decide +kernel, by decide +kernel⟩, List.mem_of_getElem? (i := 21) (by decide +kernel), List.mem_of_getElem? (i := 710) (by decide +kernel), List.mem_of_getElem? (i := 711) (by decide +kernel)⟩
theorem lw_p25 : lw_okq (⟨"FounderSleeps", "weightOf", "(II)J"⟩, 18) := ⟨⟨by decide +kernel, by decide +kernel⟩, List.mem_of_getElem? (i := 21) (by decide +kernel), List.mem_of_getElem? (i := 714) (by decide +kernel), List.mem_of_getElem? (i := 715) (by decide +kernel)⟩
theorem lw_p26 : lw_okq (⟨"FounderSleeps", "drawDeeds", "(II)V"⟩, 18) := ⟨⟨by decide +kernel, by decide +kernel⟩, List.mem_of_getElem? (i := 21) (by decide +kernel), List.mem_of_getElem? (i := 724) (by decide +kernel), List.mem_of_getElem? (i := 725) (by decide +kernel)⟩
theorem lw_p27 : lw_okq (⟨"FounderSleeps", "refusalOfItem", "(III)I"⟩, 18) := ⟨⟨by decide +kernel, by decide +kernel⟩, List.mem_of_getElem? (i := 21) (by decide +kernel), List.mem_of_getElem? (i := 755) (by decide +kernel), List.mem_of_getElem? (i := 756) (by decide +kernel)⟩
theorem lw_p28 : lw_okq (⟨"FounderSleeps", "mixDeed", "(JI)J"⟩, 18) := ⟨⟨by decide +kernel, by decide +kernel⟩, List.mem_of_getElem? (i := 21) (by decide +kernel), List.mem_of_getElem? (i := 814) (by decide +kernel), List.mem_of_getElem? (i := 815) (by decide +kernel)⟩
theorem lw_p29 : lw_okq (⟨"FounderSleepsModel", "faultOf", "(I)I"⟩, 36) := ⟨⟨by decide +kernel, by decide +kernel⟩, List.mem_of_getElem? (i := 834) (by decide +kernel), List.mem_of_getElem? (i := 972) (by decide +kernel), List.mem_of_getElem? (i := 973) (by decide +kernel)⟩
theorem lw_p30 : lw_okq (⟨"FounderSleepsModel", "readsTown", "()I"⟩, 36) := ⟨⟨by decide +kernel, by decide +kernel⟩, List.mem_of_getElem? (i := 834) (by decide +kernel), List.mem_of_getElem? (i := 976) (by decide +kernel), List.mem_of_getElem? (i := 977) (by decide +kernel)⟩
theorem lw_p31 : lw_okq (⟨"FounderSleepsModel", "byteAt", "(II)I"⟩, 36) := ⟨⟨by decide +kernel, by decide +kernel⟩, List.mem_of_getElem? (i := 834) (by decide +kernel), List.mem_of_getElem? (i := 980) (by decide +kernel), List.mem_of_getElem? (i := 981) (by decide +kernel)⟩
def lw_privs_2 : List (MethodName × Nat) := [(⟨"FounderSleeps", "planFelt", "()V"⟩, 18), (⟨"FounderSleeps", "isStillWithOne", "()Z"⟩, 18), (⟨"FounderSleeps", "isStillWith", "(II)Z"⟩, 18), (⟨"FounderSleeps", "isStillWithTwo", "()Z"⟩, 18), (⟨"FounderSleeps", "bestBed", "()I"⟩, 18), (⟨"FounderSleeps", "latenessWithBed", "(I)I"⟩, 18), (⟨"FounderSleeps", "findPlaces", "(I)I"⟩, 18), (⟨"FounderSleeps", "mostAlike", "(II)I"⟩, 18), (⟨"FounderSleeps", "weightOfSleep", "(I)J"⟩, 18), (⟨"FounderSleeps", "weightOf", "(II)J"⟩, 18), (⟨"FounderSleeps", "drawDeeds", "(II)V"⟩, 18), (⟨"FounderSleeps", "refusalOfItem", "(III)I"⟩, 18), (⟨"FounderSleeps", "mixDeed", "(JI)J"⟩, 18), (⟨"FounderSleepsModel", "faultOf", "(I)I"⟩, 36), (⟨"FounderSleepsModel", "readsTown", "()I"⟩, 36), (⟨"FounderSleepsModel", "byteAt", "(II)I"⟩, 36)]
theorem lw_r2 : ∀ q ∈ lw_privs_2, lw_okq q := List.forall_mem_cons.mpr ⟨lw_p16, List.forall_mem_cons.mpr ⟨lw_p17, List.forall_mem_cons.mpr ⟨lw_p18, List.forall_mem_cons.mpr ⟨lw_p19, List.forall_mem_cons.mpr ⟨lw_p20, List.forall_mem_cons.mpr ⟨lw_p21, List.forall_mem_cons.mpr ⟨lw_p22, List.forall_mem_cons.mpr ⟨lw_p23, List.forall_mem_cons.mpr ⟨lw_p24, List.forall_mem_cons.mpr ⟨lw_p25, List.forall_mem_cons.mpr ⟨lw_p26, List.forall_mem_cons.mpr ⟨lw_p27, List.forall_mem_cons.mpr ⟨lw_p28, List.forall_mem_cons.mpr ⟨lw_p29, List.forall_mem_cons.mpr ⟨lw_p30, List.forall_mem_cons.mpr ⟨lw_p31, fun _ h => absurd h List.not_mem_nil⟩⟩⟩⟩⟩⟩⟩⟩⟩⟩⟩⟩⟩⟩⟩⟩
theorem lw_p32 : lw_okq (⟨"FounderSleepsModel", "readsDeeds", "()I"⟩, 36) := ⟨⟨by decide +kernel, by decide +kernel⟩, List.mem_of_getElem? (i := 834) (by decide +kernel), List.mem_of_getElem? (i := 987) (by decide +kernel), List.mem_of_getElem? (i := 988) (by decide +kernel)⟩
theorem lw_p33 : lw_okq (⟨"FounderSleepsModel", "readsDeed", "(II)I"⟩, 36) := ⟨⟨by decide +kernel, by decide +kernel⟩, List.mem_of_getElem? (i := 834) (by decide +kernel), List.mem_of_getElem? (i := 991) (by decide +kernel), List.mem_of_getElem? (i := 992) (by decide +kernel)⟩
theorem lw_p34 : lw_okq (⟨"FounderSleepsModel", "figureAt", "(II)I"⟩, 36) := ⟨⟨by decide +kernel, by decide +kernel⟩, List.mem_of_getElem? (i := 834) (by decide +kernel), List.mem_of_getElem? (i := 995) (by decide +kernel), List.mem_of_getElem? (i := 996) (by decide +kernel)⟩
theorem lw_p35 : lw_okq (⟨"FounderSleepsModel", "isCell", "(I)Z"⟩, 36) := ⟨⟨by decide +kernel, by decide +kernel⟩, List.mem_of_getElem? (i := 834) (by decide +kernel), List.mem_of_getElem? (i := 1003) (by decide +kernel), List.mem_of_getElem? (i := 1004) (by decide +kernel)⟩
theorem lw_p36 : lw_okq (⟨"FounderSleepsModel", "reads", "()V"⟩, 36) := ⟨⟨by decide +kernel, by decide +kernel⟩, List.mem_of_getElem? (i := 834) (by decide +kernel), List.mem_of_getElem? (i := 1007) (by decide +kernel), List.mem_of_getElem? (i := 1008) (by decide +kernel)⟩
theorem lw_p37 : lw_okq (⟨"FounderSleepsModel", "bedNow", "()I"⟩, 36) := ⟨⟨by decide +kernel, by decide +kernel⟩, List.mem_of_getElem? (i := 834) (by decide +kernel), List.mem_of_getElem? (i := 1015) (by decide +kernel), List.mem_of_getElem? (i := 1016) (by decide +kernel)⟩
theorem lw_p38 : lw_okq (⟨"FounderSleepsModel", "isDeed", "(I)Z"⟩, 36) := ⟨⟨by decide +kernel, by decide +kernel⟩, List.mem_of_getElem? (i := 834) (by decide +kernel), List.mem_of_getElem? (i := 1023) (by decide +kernel), List.mem_of_getElem? (i := 1024) (by decide +kernel)⟩
theorem lw_p39 : lw_okq (⟨"FounderSleepsModel", "deedOf", "(II)I"⟩, 36) := ⟨⟨by decide +kernel, by decide +kernel⟩, List.mem_of_getElem? (i := 834) (by decide +kernel), List.mem_of_getElem? (i := 1027) (by decide +kernel), List.mem_of_getElem? (i := 1028) (by decide +kernel)⟩
theorem lw_p40 : lw_okq (⟨"FounderSleepsModel", "meets", "(I)I"⟩, 36) := ⟨⟨by decide +kernel, by decide +kernel⟩, List.mem_of_getElem? (i := 834) (by decide +kernel), List.mem_of_getElem? (i := 1053) (by decide +kernel), List.mem_of_getElem? (i := 1054) (by decide +kernel)⟩
theorem lw_p41 : lw_okq (⟨"FounderSleepsModel", "carryOf", "(III)I"⟩, 36) := ⟨⟨by decide +kernel, by decide +kernel⟩, List.mem_of_getElem? (i := 834) (by decide +kernel), List.mem_of_getElem? (i := 1062) (by decide +kernel), List.mem_of_getElem? (i := 1063) (by decide +kernel)⟩
theorem lw_p42 : lw_okq (⟨"FounderSleepsModel", "carriesTo", "(I)V"⟩, 36) := ⟨⟨by decide +kernel, by decide +kernel⟩, List.mem_of_getElem? (i := 834) (by decide +kernel), List.mem_of_getElem? (i := 1066) (by decide +kernel), List.mem_of_getElem? (i := 1067) (by decide +kernel)⟩
theorem lw_p43 : lw_okq (⟨"FounderSleepsModel", "doesEase", "()Z"⟩, 36) := ⟨⟨by decide +kernel, by decide +kernel⟩, List.mem_of_getElem? (i := 834) (by decide +kernel), List.mem_of_getElem? (i := 1070) (by decide +kernel), List.mem_of_getElem? (i := 1071) (by decide +kernel)⟩
theorem lw_p44 : lw_okq (⟨"FounderSleepsModel", "beside", "(II)I"⟩, 36) := ⟨⟨by decide +kernel, by decide +kernel⟩, List.mem_of_getElem? (i := 834) (by decide +kernel), List.mem_of_getElem? (i := 1074) (by decide +kernel), List.mem_of_getElem? (i := 1075) (by decide +kernel)⟩
theorem lw_p45 : lw_okq (⟨"FounderSleepsModel", "into", "(I)I"⟩, 36) := ⟨⟨by decide +kernel, by decide +kernel⟩, List.mem_of_getElem? (i := 834) (by decide +kernel), List.mem_of_getElem? (i := 1078) (by decide +kernel), List.mem_of_getElem? (i := 1079) (by decide +kernel)⟩
theorem lw_p46 : lw_okq (⟨"FounderSleepsModel", "heardBy", "(II)I"⟩, 36) := ⟨⟨by decide +kernel, by decide +kernel⟩, List.mem_of_getElem? (i := 834) (by decide +kernel), List.mem_of_getElem? (i := 1086) (by decide +kernel), List.mem_of_getElem? (i := 1087) (by decide +kernel)⟩
theorem lw_p47 : lw_okq (⟨"FounderSleepsModel", "runsTold", "()V"⟩, 36) := ⟨⟨by decide +kernel, by decide +kernel⟩, List.mem_of_getElem? (i := 834) (by decide +kernel), List.mem_of_getElem? (i := 1090) (by decide +kernel), List.mem_of_getElem? (i := 1091) (by decide +kernel)⟩
def lw_privs_3 : List (MethodName × Nat) := [(⟨"FounderSleepsModel", "readsDeeds", "()I"⟩, 36), (⟨"FounderSleepsModel", "readsDeed", "(II)I"⟩, 36), (⟨"FounderSleepsModel", "figureAt", "(II)I"⟩, 36), (⟨"FounderSleepsModel", "isCell", "(I)Z"⟩, 36), (⟨"FounderSleepsModel", "reads", "()V"⟩, 36), (⟨"FounderSleepsModel", "bedNow", "()I"⟩, 36), (⟨"FounderSleepsModel", "isDeed", "(I)Z"⟩, 36), (⟨"FounderSleepsModel", "deedOf", "(II)I"⟩, 36), (⟨"FounderSleepsModel", "meets", "(I)I"⟩, 36), (⟨"FounderSleepsModel", "carryOf", "(III)I"⟩, 36), (⟨"FounderSleepsModel", "carriesTo", "(I)V"⟩, 36), (⟨"FounderSleepsModel", "doesEase", "()Z"⟩, 36), (⟨"FounderSleepsModel", "beside", "(II)I"⟩, 36), (⟨"FounderSleepsModel", "into", "(I)I"⟩, 36), (⟨"FounderSleepsModel", "heardBy", "(II)I"⟩, 36), (⟨"FounderSleepsModel", "runsTold", "()V"⟩, 36)]
theorem lw_r3 : ∀ q ∈ lw_privs_3, lw_okq q := List.forall_mem_cons.mpr ⟨lw_p32, List.forall_mem_cons.mpr ⟨lw_p33, List.forall_mem_cons.mpr ⟨lw_p34, List.forall_mem_cons.mpr ⟨lw_p35, List.forall_mem_cons.mpr ⟨lw_p36, List.forall_mem_cons.mpr ⟨lw_p37, List.forall_mem_cons.mpr ⟨lw_p38, List.forall_mem_cons.mpr ⟨lw_p39, List.forall_mem_cons.mpr ⟨lw_p40, List.forall_mem_cons.mpr ⟨lw_p41, List.forall_mem_cons.mpr ⟨lw_p42, List.forall_mem_cons.mpr ⟨lw_p43, List.forall_mem_cons.mpr ⟨lw_p44, List.forall_mem_cons.mpr ⟨lw_p45, List.forall_mem_cons.mpr ⟨lw_p46, List.forall_mem_cons.mpr ⟨lw_p47, fun _ h => absurd h List.not_mem_nil⟩⟩⟩⟩⟩⟩⟩⟩⟩⟩⟩⟩⟩⟩⟩⟩
theorem lw_p48 : lw_okq (⟨"FounderSleepsModel", "asTold", "()V"⟩, 36) := ⟨⟨by decide +kernel, by decide +kernel⟩, List.mem_of_getElem? (i := 834) (by decide +kernel), List.mem_of_getElem? (i := 1094) (by decide +kernel), List.mem_of_getElem? (i := 1095) (by decide +kernel)⟩
theorem lw_p49 : lw_okq (⟨"FounderSleepsModel", "runs", "()V"⟩, 36) := ⟨⟨by decide +kernel, by decide +kernel⟩, List.mem_of_getElem? (i := 834) (by decide +kernel), List.mem_of_getElem? (i := 1098) (by decide +kernel), List.mem_of_getElem? (i := 1099) (by decide +kernel)⟩
theorem lw_p50 : lw_okq (⟨"FounderSleepsModel", "lays", "()V"⟩, 36) := ⟨⟨by decide +kernel, by decide +kernel⟩, List.mem_of_getElem? (i := 834) (by decide +kernel), List.mem_of_getElem? (i := 1102) (by decide +kernel), List.mem_of_getElem? (i := 1103) (by decide +kernel)⟩
theorem lw_p51 : lw_okq (⟨"FounderSleepsModel", "sleepsOn", "()V"⟩, 36) := ⟨⟨by decide +kernel, by decide +kernel⟩, List.mem_of_getElem? (i := 834) (by decide +kernel), List.mem_of_getElem? (i := 1106) (by decide +kernel), List.mem_of_getElem? (i := 1107) (by decide +kernel)⟩
theorem lw_p52 : lw_okq (⟨"FounderSleepsModel", "hears", "()V"⟩, 36) := ⟨⟨by decide +kernel, by decide +kernel⟩, List.mem_of_getElem? (i := 834) (by decide +kernel), List.mem_of_getElem? (i := 1110) (by decide +kernel), List.mem_of_getElem? (i := 1111) (by decide +kernel)⟩
theorem lw_p53 : lw_okq (⟨"FounderSleepsModel", "noiseIn", "(I)I"⟩, 36) := ⟨⟨by decide +kernel, by decide +kernel⟩, List.mem_of_getElem? (i := 834) (by decide +kernel), List.mem_of_getElem? (i := 1117) (by decide +kernel), List.mem_of_getElem? (i := 1118) (by decide +kernel)⟩
theorem lw_p54 : lw_okq (⟨"FounderSleepsModel", "noiseOf", "(I)I"⟩, 36) := ⟨⟨by decide +kernel, by decide +kernel⟩, List.mem_of_getElem? (i := 834) (by decide +kernel), List.mem_of_getElem? (i := 1128) (by decide +kernel), List.mem_of_getElem? (i := 1129) (by decide +kernel)⟩
theorem lw_p55 : lw_okq (⟨"FounderSleepsModel", "depthOf", "(I)I"⟩, 36) := ⟨⟨by decide +kernel, by decide +kernel⟩, List.mem_of_getElem? (i := 834) (by decide +kernel), List.mem_of_getElem? (i := 1136) (by decide +kernel), List.mem_of_getElem? (i := 1137) (by decide +kernel)⟩
theorem lw_p56 : lw_okq (⟨"FounderSleepsModel", "wakesOf", "()I"⟩, 36) := ⟨⟨by decide +kernel, by decide +kernel⟩, List.mem_of_getElem? (i := 834) (by decide +kernel), List.mem_of_getElem? (i := 1144) (by decide +kernel), List.mem_of_getElem? (i := 1145) (by decide +kernel)⟩
theorem lw_p57 : lw_okq (⟨"FounderSleepsModel", "exiledOf", "(I)I"⟩, 36) := ⟨⟨by decide +kernel, by decide +kernel⟩, List.mem_of_getElem? (i := 834) (by decide +kernel), List.mem_of_getElem? (i := 1152) (by decide +kernel), List.mem_of_getElem? (i := 1153) (by decide +kernel)⟩
theorem lw_p58 : lw_okq (⟨"FounderSleepsModel", "loudestNow", "()I"⟩, 36) := ⟨⟨by decide +kernel, by decide +kernel⟩, List.mem_of_getElem? (i := 834) (by decide +kernel), List.mem_of_getElem? (i := 1160) (by decide +kernel), List.mem_of_getElem? (i := 1161) (by decide +kernel)⟩
theorem lw_p59 : lw_okq (⟨"FounderSleepsModel", "hourOf", "(II)I"⟩, 36) := ⟨⟨by decide +kernel, by decide +kernel⟩, List.mem_of_getElem? (i := 834) (by decide +kernel), List.mem_of_getElem? (i := 1168) (by decide +kernel), List.mem_of_getElem? (i := 1169) (by decide +kernel)⟩
theorem lw_p60 : lw_okq (⟨"FounderSleepsModel", "feltBy", "()I"⟩, 36) := ⟨⟨by decide +kernel, by decide +kernel⟩, List.mem_of_getElem? (i := 834) (by decide +kernel), List.mem_of_getElem? (i := 1176) (by decide +kernel), List.mem_of_getElem? (i := 1177) (by decide +kernel)⟩
theorem lw_p61 : lw_okq (⟨"FounderSleepsModel", "isStill", "(II)Z"⟩, 36) := ⟨⟨by decide +kernel, by decide +kernel⟩, List.mem_of_getElem? (i := 834) (by decide +kernel), List.mem_of_getElem? (i := 1180) (by decide +kernel), List.mem_of_getElem? (i := 1181) (by decide +kernel)⟩
theorem lw_p62 : lw_okq (⟨"FounderSleepsModel", "ofRow", "(II)I"⟩, 36) := ⟨⟨by decide +kernel, by decide +kernel⟩, List.mem_of_getElem? (i := 834) (by decide +kernel), List.mem_of_getElem? (i := 1184) (by decide +kernel), List.mem_of_getElem? (i := 1185) (by decide +kernel)⟩
theorem lw_p63 : lw_okq (⟨"FounderSleepsModel", "layOf", "(I)I"⟩, 36) := ⟨⟨by decide +kernel, by decide +kernel⟩, List.mem_of_getElem? (i := 834) (by decide +kernel), List.mem_of_getElem? (i := 1192) (by decide +kernel), List.mem_of_getElem? (i := 1193) (by decide +kernel)⟩
def lw_privs_4 : List (MethodName × Nat) := [(⟨"FounderSleepsModel", "asTold", "()V"⟩, 36), (⟨"FounderSleepsModel", "runs", "()V"⟩, 36), (⟨"FounderSleepsModel", "lays", "()V"⟩, 36), (⟨"FounderSleepsModel", "sleepsOn", "()V"⟩, 36), (⟨"FounderSleepsModel", "hears", "()V"⟩, 36), (⟨"FounderSleepsModel", "noiseIn", "(I)I"⟩, 36), (⟨"FounderSleepsModel", "noiseOf", "(I)I"⟩, 36), (⟨"FounderSleepsModel", "depthOf", "(I)I"⟩, 36), (⟨"FounderSleepsModel", "wakesOf", "()I"⟩, 36), (⟨"FounderSleepsModel", "exiledOf", "(I)I"⟩, 36), (⟨"FounderSleepsModel", "loudestNow", "()I"⟩, 36), (⟨"FounderSleepsModel", "hourOf", "(II)I"⟩, 36), (⟨"FounderSleepsModel", "feltBy", "()I"⟩, 36), (⟨"FounderSleepsModel", "isStill", "(II)Z"⟩, 36), (⟨"FounderSleepsModel", "ofRow", "(II)I"⟩, 36), (⟨"FounderSleepsModel", "layOf", "(I)I"⟩, 36)]
theorem lw_r4 : ∀ q ∈ lw_privs_4, lw_okq q := List.forall_mem_cons.mpr ⟨lw_p48, List.forall_mem_cons.mpr ⟨lw_p49, List.forall_mem_cons.mpr ⟨lw_p50, List.forall_mem_cons.mpr ⟨lw_p51, List.forall_mem_cons.mpr ⟨lw_p52, List.forall_mem_cons.mpr ⟨lw_p53, List.forall_mem_cons.mpr ⟨lw_p54, List.forall_mem_cons.mpr ⟨lw_p55, List.forall_mem_cons.mpr ⟨lw_p56, List.forall_mem_cons.mpr ⟨lw_p57, List.forall_mem_cons.mpr ⟨lw_p58, List.forall_mem_cons.mpr ⟨lw_p59, List.forall_mem_cons.mpr ⟨lw_p60, List.forall_mem_cons.mpr ⟨lw_p61, List.forall_mem_cons.mpr ⟨lw_p62, List.forall_mem_cons.mpr ⟨lw_p63, fun _ h => absurd h List.not_mem_nil⟩⟩⟩⟩⟩⟩⟩⟩⟩⟩⟩⟩⟩⟩⟩⟩
theorem lw_p64 : lw_okq (⟨"FounderSleepsModel", "wayOf", "(II)I"⟩, 36) := ⟨⟨by decide +kernel, by decide +kernel⟩, List.mem_of_getElem? (i := 834) (by decide +kernel), List.mem_of_getElem? (i := 1200) (by decide +kernel), List.mem_of_getElem? (i := 1201) (by decide +kernel)⟩
theorem lw_p65 : lw_okq (⟨"FounderSleepsModel", "doesShorten", "()Z"⟩, 36) := ⟨⟨by decide +kernel, by decide +kernel⟩, List.mem_of_getElem? (i := 834) (by decide +kernel), List.mem_of_getElem? (i := 1204) (by decide +kernel), List.mem_of_getElem? (i := 1205) (by decide +kernel)⟩
theorem lw_p66 : lw_okq (⟨"FounderSleepsModel", "neverNow", "()I"⟩, 36) := ⟨⟨by decide +kernel, by decide +kernel⟩, List.mem_of_getElem? (i := 834) (by decide +kernel), List.mem_of_getElem? (i := 1220) (by decide +kernel), List.mem_of_getElem? (i := 1221) (by decide +kernel)⟩
theorem lw_p67 : lw_okq (⟨"FounderSleepsModel", "isListened", "()Z"⟩, 36) := ⟨⟨by decide +kernel, by decide +kernel⟩, List.mem_of_getElem? (i := 834) (by decide +kernel), List.mem_of_getElem? (i := 1224) (by decide +kernel), List.mem_of_getElem? (i := 1225) (by decide +kernel)⟩
theorem lw_p68 : lw_okq (⟨"FounderSleepsModel", "whenceOf", "(II)I"⟩, 36) := ⟨⟨by decide +kernel, by decide +kernel⟩, List.mem_of_getElem? (i := 834) (by decide +kernel), List.mem_of_getElem? (i := 1232) (by decide +kernel), List.mem_of_getElem? (i := 1233) (by decide +kernel)⟩
theorem lw_p69 : lw_okq (⟨"FounderSleepsModel", "whences", "(I)I"⟩, 36) := ⟨⟨by decide +kernel, by decide +kernel⟩, List.mem_of_getElem? (i := 834) (by decide +kernel), List.mem_of_getElem? (i := 1236) (by decide +kernel), List.mem_of_getElem? (i := 1237) (by decide +kernel)⟩
theorem lw_p70 : lw_okq (⟨"FounderSleepsModel", "whatOf", "(I)I"⟩, 36) := ⟨⟨by decide +kernel, by decide +kernel⟩, List.mem_of_getElem? (i := 834) (by decide +kernel), List.mem_of_getElem? (i := 1244) (by decide +kernel), List.mem_of_getElem? (i := 1245) (by decide +kernel)⟩
theorem lw_p71 : lw_okq (⟨"FounderSleepsModel", "askOf", "(I)I"⟩, 36) := ⟨⟨by decide +kernel, by decide +kernel⟩, List.mem_of_getElem? (i := 834) (by decide +kernel), List.mem_of_getElem? (i := 1252) (by decide +kernel), List.mem_of_getElem? (i := 1253) (by decide +kernel)⟩
theorem lw_p72 : lw_okq (⟨"FounderSleepsModel", "sleepsBy", "(II)J"⟩, 36) := ⟨⟨by decide +kernel, by decide +kernel⟩, List.mem_of_getElem? (i := 834) (by decide +kernel), List.mem_of_getElem? (i := 1260) (by decide +kernel), List.mem_of_getElem? (i := 1261) (by decide +kernel)⟩
theorem lw_p73 : lw_okq (⟨"FounderSleepsModel", "dayOf", "(III)I"⟩, 36) := ⟨⟨by decide +kernel, by decide +kernel⟩, List.mem_of_getElem? (i := 834) (by decide +kernel), List.mem_of_getElem? (i := 1275) (by decide +kernel), List.mem_of_getElem? (i := 1276) (by decide +kernel)⟩
theorem lw_p74 : lw_okq (⟨"FounderSleepsModel", "exiledMany", "()I"⟩, 36) := ⟨⟨by decide +kernel, by decide +kernel⟩, List.mem_of_getElem? (i := 834) (by decide +kernel), List.mem_of_getElem? (i := 1280) (by decide +kernel), List.mem_of_getElem? (i := 1281) (by decide +kernel)⟩
theorem lw_p75 : lw_okq (⟨"FounderSleepsModel", "lacks", "(III)I"⟩, 36) := ⟨⟨by decide +kernel, by decide +kernel⟩, List.mem_of_getElem? (i := 834) (by decide +kernel), List.mem_of_getElem? (i := 1296) (by decide +kernel), List.mem_of_getElem? (i := 1297) (by decide +kernel)⟩
theorem lw_p76 : lw_okq (⟨"FounderSleepsModel", "keep", "(III)V"⟩, 36) := ⟨⟨by decide +kernel, by decide +kernel⟩, List.mem_of_getElem? (i := 834) (by decide +kernel), List.mem_of_getElem? (i := 1300) (by decide +kernel), List.mem_of_getElem? (i := 1301) (by decide +kernel)⟩
theorem lw_p77 : lw_okq (⟨"FounderSleepsModel", "sumOf", "(I)I"⟩, 36) := ⟨⟨by decide +kernel, by decide +kernel⟩, List.mem_of_getElem? (i := 834) (by decide +kernel), List.mem_of_getElem? (i := 1321) (by decide +kernel), List.mem_of_getElem? (i := 1322) (by decide +kernel)⟩
theorem lw_p78 : lw_okq (⟨"FounderSleepsModel", "doneMany", "()I"⟩, 36) := ⟨⟨by decide +kernel, by decide +kernel⟩, List.mem_of_getElem? (i := 834) (by decide +kernel), List.mem_of_getElem? (i := 1325) (by decide +kernel), List.mem_of_getElem? (i := 1326) (by decide +kernel)⟩
theorem lw_p79 : lw_okq (⟨"FounderSleepsModel", "deedDigest", "(JI)J"⟩, 36) := ⟨⟨by decide +kernel, by decide +kernel⟩, List.mem_of_getElem? (i := 834) (by decide +kernel), List.mem_of_getElem? (i := 1336) (by decide +kernel), List.mem_of_getElem? (i := 1337) (by decide +kernel)⟩
def lw_privs_5 : List (MethodName × Nat) := [(⟨"FounderSleepsModel", "wayOf", "(II)I"⟩, 36), (⟨"FounderSleepsModel", "doesShorten", "()Z"⟩, 36), (⟨"FounderSleepsModel", "neverNow", "()I"⟩, 36), (⟨"FounderSleepsModel", "isListened", "()Z"⟩, 36), (⟨"FounderSleepsModel", "whenceOf", "(II)I"⟩, 36), (⟨"FounderSleepsModel", "whences", "(I)I"⟩, 36), (⟨"FounderSleepsModel", "whatOf", "(I)I"⟩, 36), (⟨"FounderSleepsModel", "askOf", "(I)I"⟩, 36), (⟨"FounderSleepsModel", "sleepsBy", "(II)J"⟩, 36), (⟨"FounderSleepsModel", "dayOf", "(III)I"⟩, 36), (⟨"FounderSleepsModel", "exiledMany", "()I"⟩, 36), (⟨"FounderSleepsModel", "lacks", "(III)I"⟩, 36), (⟨"FounderSleepsModel", "keep", "(III)V"⟩, 36), (⟨"FounderSleepsModel", "sumOf", "(I)I"⟩, 36), (⟨"FounderSleepsModel", "doneMany", "()I"⟩, 36), (⟨"FounderSleepsModel", "deedDigest", "(JI)J"⟩, 36)]
theorem lw_r5 : ∀ q ∈ lw_privs_5, lw_okq q := List.forall_mem_cons.mpr ⟨lw_p64, List.forall_mem_cons.mpr ⟨lw_p65, List.forall_mem_cons.mpr ⟨lw_p66, List.forall_mem_cons.mpr ⟨lw_p67, List.forall_mem_cons.mpr ⟨lw_p68, List.forall_mem_cons.mpr ⟨lw_p69, List.forall_mem_cons.mpr ⟨lw_p70, List.forall_mem_cons.mpr ⟨lw_p71, List.forall_mem_cons.mpr ⟨lw_p72, List.forall_mem_cons.mpr ⟨lw_p73, List.forall_mem_cons.mpr ⟨lw_p74, List.forall_mem_cons.mpr ⟨lw_p75, List.forall_mem_cons.mpr ⟨lw_p76, List.forall_mem_cons.mpr ⟨lw_p77, List.forall_mem_cons.mpr ⟨lw_p78, List.forall_mem_cons.mpr ⟨lw_p79, fun _ h => absurd h List.not_mem_nil⟩⟩⟩⟩⟩⟩⟩⟩⟩⟩⟩⟩⟩⟩⟩⟩
def lw_privs : List (MethodName × Nat) := lw_privs_1 ++ (lw_privs_2 ++ (lw_privs_3 ++ (lw_privs_4 ++ (lw_privs_5))))
def lw_tbl : List Cond := k2_sels lw_privs ++ tables_1
theorem lw_privs_ok : ∀ q ∈ lw_privs, lw_okq q := by
  show ∀ q ∈ lw_privs_1 ++ (lw_privs_2 ++ (lw_privs_3 ++ (lw_privs_4 ++ (lw_privs_5)))), lw_okq q
  exact List.forall_mem_append.mpr ⟨lw_r1, List.forall_mem_append.mpr ⟨lw_r2, List.forall_mem_append.mpr ⟨lw_r3, List.forall_mem_append.mpr ⟨lw_r4, lw_r5⟩⟩⟩⟩
end
section
def RX0 : String := "FounderSleeps$Deeds"
def TX0 : u_T := fun k => match k with
  | 0 => ("FounderSleeps$Deeds", "places", "[I", true)
  | 1 => ("FounderSleeps$Deeds", "kinds", "[I", true)
  | 2 => ("FounderSleeps$Deeds", "hours", "[I", true)
  | 3 => ("FounderSleeps$Deeds", "size", "I", false)
  | _ => ("FounderSleeps$Deeds", "faultAt", "I", false)
def tyX0 : Nat → FieldType := fun k => match k with
  | 0 => .array .int
  | 1 => .array .int
  | 2 => .array .int
  | 3 => .int
  | _ => .int
theorem nmX0 : ∀ a, a < 5 → ∀ b, b < 5 → a ≠ b → (TX0 a).2.1 ≠ (TX0 b).2.1 := by decide +kernel
theorem tyX0_ok : ∀ k, k < 5 → parseFieldDescriptor (TX0 k).2.2.1 = some (tyX0 k) := by decide +kernel
def RX1 : String := "FounderSleeps$Law"
def TX1 : u_T := fun k => match k with
  | 0 => ("FounderSleeps$Law", "thunders", "LFounderSleeps$Log;", true)
  | 1 => ("FounderSleeps$Law", "depth", "I", false)
  | _ => ("FounderSleeps$Law", "charter", "I", false)
def tyX1 : Nat → FieldType := fun k => match k with
  | 0 => .object "FounderSleeps$Log"
  | 1 => .int
  | _ => .int
theorem nmX1 : ∀ a, a < 3 → ∀ b, b < 3 → a ≠ b → (TX1 a).2.1 ≠ (TX1 b).2.1 := by decide +kernel
theorem tyX1_ok : ∀ k, k < 3 → parseFieldDescriptor (TX1 k).2.2.1 = some (tyX1 k) := by decide +kernel
def RX2 : String := "FounderSleeps$Log"
def TX2 : u_T := fun k => match k with
  | 0 => ("FounderSleeps$Log", "hours", "[I", true)
  | 1 => ("FounderSleeps$Log", "much", "[I", true)
  | 2 => ("FounderSleeps$Log", "most", "I", true)
  | _ => ("FounderSleeps$Log", "size", "I", false)
def tyX2 : Nat → FieldType := fun k => match k with
  | 0 => .array .int
  | 1 => .array .int
  | 2 => .int
  | _ => .int
theorem nmX2 : ∀ a, a < 4 → ∀ b, b < 4 → a ≠ b → (TX2 a).2.1 ≠ (TX2 b).2.1 := by decide +kernel
theorem tyX2_ok : ∀ k, k < 4 → parseFieldDescriptor (TX2 k).2.2.1 = some (tyX2 k) := by decide +kernel
def RX3 : String := "FounderSleeps$Night"
def TX3 : u_T := fun k => match k with
  | 0 => ("FounderSleeps$Night", "law", "LFounderSleeps$Law;", true)
  | 1 => ("FounderSleeps$Night", "noises", "[I", true)
  | 2 => ("FounderSleeps$Night", "depths", "[I", true)
  | 3 => ("FounderSleeps$Night", "shares", "[I", true)
  | 4 => ("FounderSleeps$Night", "fates", "[I", true)
  | 5 => ("FounderSleeps$Night", "wakeHour", "I", false)
  | _ => ("FounderSleeps$Night", "exiles", "J", false)
def tyX3 : Nat → FieldType := fun k => match k with
  | 0 => .object "FounderSleeps$Law"
  | 1 => .array .int
  | 2 => .array .int
  | 3 => .array .int
  | 4 => .array .int
  | 5 => .int
  | _ => .long
theorem nmX3 : ∀ a, a < 7 → ∀ b, b < 7 → a ≠ b → (TX3 a).2.1 ≠ (TX3 b).2.1 := by decide +kernel
theorem tyX3_ok : ∀ k, k < 7 → parseFieldDescriptor (TX3 k).2.2.1 = some (tyX3 k) := by decide +kernel
def RX4 : String := "FounderSleeps$Reach"
def TX4 : u_T := fun k => match k with
  | 0 => ("FounderSleeps$Reach", "tolls", "[I", true)
  | _ => ("FounderSleeps$Reach", "lost", "[I", true)
def tyX4 : Nat → FieldType := fun k => match k with
  | 0 => .array .int
  | _ => .array .int
theorem nmX4 : ∀ a, a < 2 → ∀ b, b < 2 → a ≠ b → (TX4 a).2.1 ≠ (TX4 b).2.1 := by decide +kernel
theorem tyX4_ok : ∀ k, k < 2 → parseFieldDescriptor (TX4 k).2.2.1 = some (tyX4 k) := by decide +kernel
def RX5 : String := "FounderSleeps$Sheets"
def TX5 : u_T := fun k => match k with
  | 0 => ("FounderSleeps$Sheets", "forms", "[I", true)
  | 1 => ("FounderSleeps$Sheets", "sizes", "[I", true)
  | _ => ("FounderSleeps$Sheets", "items", "[I", true)
def tyX5 : Nat → FieldType := fun k => match k with
  | 0 => .array .int
  | 1 => .array .int
  | _ => .array .int
theorem nmX5 : ∀ a, a < 3 → ∀ b, b < 3 → a ≠ b → (TX5 a).2.1 ≠ (TX5 b).2.1 := by decide +kernel
theorem tyX5_ok : ∀ k, k < 3 → parseFieldDescriptor (TX5 k).2.2.1 = some (tyX5 k) := by decide +kernel
def RX6 : String := "FounderSleeps$Text"
def TX6 : u_T := fun k => match k with
  | 0 => ("FounderSleeps$Text", "bytes", "[I", true)
  | 1 => ("FounderSleeps$Text", "most", "I", true)
  | _ => ("FounderSleeps$Text", "size", "I", false)
def tyX6 : Nat → FieldType := fun k => match k with
  | 0 => .array .int
  | 1 => .int
  | _ => .int
theorem nmX6 : ∀ a, a < 3 → ∀ b, b < 3 → a ≠ b → (TX6 a).2.1 ≠ (TX6 b).2.1 := by decide +kernel
theorem tyX6_ok : ∀ k, k < 3 → parseFieldDescriptor (TX6 k).2.2.1 = some (tyX6 k) := by decide +kernel
def RX7 : String := "FounderSleeps$Town"
def TX7 : u_T := fun k => match k with
  | 0 => ("FounderSleeps$Town", "kinds", "[I", true)
  | 1 => ("FounderSleeps$Town", "beside", "[I", true)
  | 2 => ("FounderSleeps$Town", "cells", "I", false)
  | 3 => ("FounderSleeps$Town", "width", "I", false)
  | 4 => ("FounderSleeps$Town", "bedCell", "I", false)
  | _ => ("FounderSleeps$Town", "faultAt", "I", false)
def tyX7 : Nat → FieldType := fun k => match k with
  | 0 => .array .int
  | 1 => .array .int
  | 2 => .int
  | 3 => .int
  | 4 => .int
  | _ => .int
theorem nmX7 : ∀ a, a < 6 → ∀ b, b < 6 → a ≠ b → (TX7 a).2.1 ≠ (TX7 b).2.1 := by decide +kernel
theorem tyX7_ok : ∀ k, k < 6 → parseFieldDescriptor (TX7 k).2.2.1 = some (tyX7 k) := by decide +kernel
def RX8 : String := "FounderSleeps"
def TX8 : u_T := fun k => match k with
  | 0 => ("FounderSleeps", "townText", "LFounderSleeps$Text;", true)
  | 1 => ("FounderSleeps", "deedText", "LFounderSleeps$Text;", true)
  | 2 => ("FounderSleeps", "town", "LFounderSleeps$Town;", true)
  | 3 => ("FounderSleeps", "told", "LFounderSleeps$Deeds;", true)
  | 4 => ("FounderSleeps", "law", "LFounderSleeps$Law;", true)
  | 5 => ("FounderSleeps", "ears", "LFounderSleeps$Log;", true)
  | 6 => ("FounderSleeps", "toBed", "LFounderSleeps$Reach;", true)
  | 7 => ("FounderSleeps", "night", "LFounderSleeps$Night;", true)
  | 8 => ("FounderSleeps", "tried", "LFounderSleeps$Deeds;", true)
  | 9 => ("FounderSleeps", "triedReach", "LFounderSleeps$Reach;", true)
  | 10 => ("FounderSleeps", "triedNight", "LFounderSleeps$Night;", true)
  | 11 => ("FounderSleeps", "places", "[I", true)
  | 12 => ("FounderSleeps", "placeNoises", "[I", true)
  | 13 => ("FounderSleeps", "laid", "[I", true)
  | 14 => ("FounderSleeps", "feltNeeded", "I", false)
  | 15 => ("FounderSleeps", "feltIsPlanned", "Z", false)
  | 16 => ("FounderSleeps", "sheets", "LFounderSleeps$Sheets;", true)
  | _ => ("FounderSleeps", "latestFinding", "I", false)
def tyX8 : Nat → FieldType := fun k => match k with
  | 0 => .object "FounderSleeps$Text"
  | 1 => .object "FounderSleeps$Text"
  | 2 => .object "FounderSleeps$Town"
  | 3 => .object "FounderSleeps$Deeds"
  | 4 => .object "FounderSleeps$Law"
  | 5 => .object "FounderSleeps$Log"
  | 6 => .object "FounderSleeps$Reach"
  | 7 => .object "FounderSleeps$Night"
  | 8 => .object "FounderSleeps$Deeds"
  | 9 => .object "FounderSleeps$Reach"
  | 10 => .object "FounderSleeps$Night"
  | 11 => .array .int
  | 12 => .array .int
  | 13 => .array .int
  | 14 => .int
  | 15 => .boolean
  | 16 => .object "FounderSleeps$Sheets"
  | _ => .int
theorem nmX8 : ∀ a, a < 18 → ∀ b, b < 18 → a ≠ b → (TX8 a).2.1 ≠ (TX8 b).2.1 := by decide +kernel
theorem tyX8_ok : ∀ k, k < 18 → parseFieldDescriptor (TX8 k).2.2.1 = some (tyX8 k) := by decide +kernel
def RX9 : String := "FounderSleepsModel"
def TX9 : u_T := fun k => match k with
  | 0 => ("FounderSleepsModel", "typed", "[I", true)
  | 1 => ("FounderSleepsModel", "texts", "[I", true)
  | 2 => ("FounderSleepsModel", "wide", "I", false)
  | 3 => ("FounderSleepsModel", "cells", "I", false)
  | 4 => ("FounderSleepsModel", "kinds", "[I", true)
  | 5 => ("FounderSleepsModel", "deeds", "I", false)
  | 6 => ("FounderSleepsModel", "places", "[I", true)
  | 7 => ("FounderSleepsModel", "acts", "[I", true)
  | 8 => ("FounderSleepsModel", "hours", "[I", true)
  | 9 => ("FounderSleepsModel", "depthTold", "I", false)
  | 10 => ("FounderSleepsModel", "charterTold", "I", false)
  | 11 => ("FounderSleepsModel", "thunders", "I", false)
  | 12 => ("FounderSleepsModel", "thunderHour", "[I", true)
  | 13 => ("FounderSleepsModel", "thunderLoud", "[I", true)
  | 14 => ("FounderSleepsModel", "takes", "[I", true)
  | 15 => ("FounderSleepsModel", "notDeeds", "I", false)
  | 16 => ("FounderSleepsModel", "heardOf", "[I", true)
  | 17 => ("FounderSleepsModel", "comes", "[I", true)
  | 18 => ("FounderSleepsModel", "noises", "[I", true)
  | 19 => ("FounderSleepsModel", "depths", "[I", true)
  | 20 => ("FounderSleepsModel", "wakesAt", "I", false)
  | 21 => ("FounderSleepsModel", "isExiled", "[Z", true)
  | 22 => ("FounderSleepsModel", "planRow", "[I", true)
  | 23 => ("FounderSleepsModel", "cartAt", "[I", true)
  | 24 => ("FounderSleepsModel", "wayTo", "[I", true)
  | 25 => ("FounderSleepsModel", "tales", "I", false)
  | 26 => ("FounderSleepsModel", "taleHour", "[I", true)
  | 27 => ("FounderSleepsModel", "taleMuch", "[I", true)
  | 28 => ("FounderSleepsModel", "mayBe", "[Z", true)
  | 29 => ("FounderSleepsModel", "noiseBy", "[I", true)
  | 30 => ("FounderSleepsModel", "isThere", "[Z", true)
  | 31 => ("FounderSleepsModel", "forms", "[I", true)
  | 32 => ("FounderSleepsModel", "sizes", "[I", true)
  | 33 => ("FounderSleepsModel", "items", "[I", true)
  | 34 => ("FounderSleepsModel", "moved", "[I", true)
  | _ => ("FounderSleepsModel", "finding", "I", false)
def tyX9 : Nat → FieldType := fun k => match k with
  | 0 => .array .int
  | 1 => .array .int
  | 2 => .int
  | 3 => .int
  | 4 => .array .int
  | 5 => .int
  | 6 => .array .int
  | 7 => .array .int
  | 8 => .array .int
  | 9 => .int
  | 10 => .int
  | 11 => .int
  | 12 => .array .int
  | 13 => .array .int
  | 14 => .array .int
  | 15 => .int
  | 16 => .array .int
  | 17 => .array .int
  | 18 => .array .int
  | 19 => .array .int
  | 20 => .int
  | 21 => .array .boolean
  | 22 => .array .int
  | 23 => .array .int
  | 24 => .array .int
  | 25 => .int
  | 26 => .array .int
  | 27 => .array .int
  | 28 => .array .boolean
  | 29 => .array .int
  | 30 => .array .boolean
  | 31 => .array .int
  | 32 => .array .int
  | 33 => .array .int
  | 34 => .array .int
  | _ => .int
theorem nmX9 : ∀ a, a < 36 → ∀ b, b < 36 → a ≠ b → (TX9 a).2.1 ≠ (TX9 b).2.1 := by decide +kernel
theorem tyX9_ok : ∀ k, k < 36 → parseFieldDescriptor (TX9 k).2.2.1 = some (tyX9 k) := by decide +kernel
def RJ7 : String := "java/util/Arrays"
def RJ13 : String := "java/lang/Long"
def RJ0 : String := "java/lang/String"
def RJ1 : String := "java/lang/StringLatin1"
def RJ9 : String := "java/lang/Math"
abbrev vwCl : List vw_C := [(RX0, TX0, 5), (RX1, TX1, 3), (RX2, TX2, 4), (RX3, TX3, 7), (RX4, TX4, 2), (RX5, TX5, 3), (RX6, TX6, 3), (RX7, TX7, 6), (RX8, TX8, 18), (RX9, TX9, 36)]
set_option maxRecDepth 100000 in
theorem inX0 : ∀ w ∈ u_ws RX0 TX0 5, w ∈ lw_tbl := by
  intro w hw
  have h : u_ws RX0 TX0 5 = [185, 187, 189, 191, 193].filterMap (fun i => lw_tbl[i]?) := rfl
  rw [h] at hw
  obtain ⟨i, -, hi⟩ := List.mem_filterMap.mp hw
  exact List.mem_of_getElem? hi
set_option maxRecDepth 100000 in
theorem inX1 : ∀ w ∈ u_ws RX1 TX1 3, w ∈ lw_tbl := by
  intro w hw
  have h : u_ws RX1 TX1 3 = [232, 234, 236].filterMap (fun i => lw_tbl[i]?) := rfl
  rw [h] at hw
  obtain ⟨i, -, hi⟩ := List.mem_filterMap.mp hw
  exact List.mem_of_getElem? hi
set_option maxRecDepth 100000 in
theorem inX2 : ∀ w ∈ u_ws RX2 TX2 4, w ∈ lw_tbl := by
  intro w hw
  have h : u_ws RX2 TX2 4 = [214, 216, 218, 220].filterMap (fun i => lw_tbl[i]?) := rfl
  rw [h] at hw
  obtain ⟨i, -, hi⟩ := List.mem_filterMap.mp hw
  exact List.mem_of_getElem? hi
set_option maxRecDepth 100000 in
theorem inX3 : ∀ w ∈ u_ws RX3 TX3 7, w ∈ lw_tbl := by
  intro w hw
  have h : u_ws RX3 TX3 7 = [276, 278, 280, 282, 284, 286, 288].filterMap (fun i => lw_tbl[i]?) := rfl
  rw [h] at hw
  obtain ⟨i, -, hi⟩ := List.mem_filterMap.mp hw
  exact List.mem_of_getElem? hi
set_option maxRecDepth 100000 in
theorem inX4 : ∀ w ∈ u_ws RX4 TX4 2, w ∈ lw_tbl := by
  intro w hw
  have h : u_ws RX4 TX4 2 = [251, 253].filterMap (fun i => lw_tbl[i]?) := rfl
  rw [h] at hw
  obtain ⟨i, -, hi⟩ := List.mem_filterMap.mp hw
  exact List.mem_of_getElem? hi
set_option maxRecDepth 100000 in
theorem inX5 : ∀ w ∈ u_ws RX5 TX5 3, w ∈ lw_tbl := by
  intro w hw
  have h : u_ws RX5 TX5 3 = [305, 307, 309].filterMap (fun i => lw_tbl[i]?) := rfl
  rw [h] at hw
  obtain ⟨i, -, hi⟩ := List.mem_filterMap.mp hw
  exact List.mem_of_getElem? hi
set_option maxRecDepth 100000 in
theorem inX6 : ∀ w ∈ u_ws RX6 TX6 3, w ∈ lw_tbl := by
  intro w hw
  have h : u_ws RX6 TX6 3 = [125, 127, 129].filterMap (fun i => lw_tbl[i]?) := rfl
  rw [h] at hw
  obtain ⟨i, -, hi⟩ := List.mem_filterMap.mp hw
  exact List.mem_of_getElem? hi
set_option maxRecDepth 100000 in
theorem inX7 : ∀ w ∈ u_ws RX7 TX7 6, w ∈ lw_tbl := by
  intro w hw
  have h : u_ws RX7 TX7 6 = [152, 154, 156, 158, 160, 162].filterMap (fun i => lw_tbl[i]?) := rfl
  rw [h] at hw
  obtain ⟨i, -, hi⟩ := List.mem_filterMap.mp hw
  exact List.mem_of_getElem? hi
set_option maxRecDepth 100000 in
theorem inX8 : ∀ w ∈ u_ws RX8 TX8 18, w ∈ lw_tbl := by
  intro w hw
  have h : u_ws RX8 TX8 18 = [378, 380, 382, 384, 386, 388, 390, 392, 394, 396, 398, 400, 402, 404, 406, 408, 410, 412].filterMap (fun i => lw_tbl[i]?) := rfl
  rw [h] at hw
  obtain ⟨i, -, hi⟩ := List.mem_filterMap.mp hw
  exact List.mem_of_getElem? hi
set_option maxRecDepth 100000 in
theorem inX9 : ∀ w ∈ u_ws RX9 TX9 36, w ∈ lw_tbl := by
  intro w hw
  have h : u_ws RX9 TX9 36 = [955, 957, 959, 961, 963, 965, 967, 969, 971, 973, 975, 977, 979, 981, 983, 985, 987, 989, 991, 993, 995, 997, 999, 1001, 1003, 1005, 1007, 1009, 1011, 1013, 1015, 1017, 1019, 1021, 1023, 1025].filterMap (fun i => lw_tbl[i]?) := rfl
  rw [h] at hw
  obtain ⟨i, -, hi⟩ := List.mem_filterMap.mp hw
  exact List.mem_of_getElem? hi
abbrev cX0_readFrom : ByteArray := prog_2_method_2_code
def yX0_readFrom : MethodName := ⟨RX0, "readFrom", "(LFounderSleeps$Text;)V"⟩
abbrev cX0_figure : ByteArray := prog_2_method_3_code
def yX0_figure : MethodName := ⟨RX0, "figure", "(LFounderSleeps$Text;I)I"⟩
abbrev cX0_faultOf : ByteArray := prog_2_method_4_code
def yX0_faultOf : MethodName := ⟨RX0, "faultOf", "(LFounderSleeps$Text;)I"⟩
abbrev cX0_mayStand : ByteArray := prog_2_method_5_code
def yX0_mayStand : MethodName := ⟨RX0, "mayStand", "(II)Z"⟩
abbrev cX0_add : ByteArray := prog_2_method_6_code
def yX0_add : MethodName := ⟨RX0, "add", "(III)V"⟩
abbrev cX0_takeFrom : ByteArray := prog_2_method_7_code
def yX0_takeFrom : MethodName := ⟨RX0, "takeFrom", "(LFounderSleeps$Deeds;)V"⟩
abbrev cX2_isFull : ByteArray := prog_4_method_2_code
def yX2_isFull : MethodName := ⟨RX2, "isFull", "()Z"⟩
abbrev cX2_add : ByteArray := prog_4_method_3_code
def yX2_add : MethodName := ⟨RX2, "add", "(II)V"⟩
abbrev cX2_sumIn : ByteArray := prog_4_method_4_code
def yX2_sumIn : MethodName := ⟨RX2, "sumIn", "(I)I"⟩
abbrev cX2_agreesWith : ByteArray := prog_4_method_5_code
def yX2_agreesWith : MethodName := ⟨RX2, "agreesWith", "(LFounderSleeps$Night;)Z"⟩
abbrev cX3_pass : ByteArray := prog_5_method_2_code
def yX3_pass : MethodName := ⟨RX3, "pass", "(LFounderSleeps$Deeds;ILFounderSleeps$Reach;)V"⟩
abbrev cX3_doDeeds : ByteArray := prog_5_method_3_code
def yX3_doDeeds : MethodName := ⟨RX3, "doDeeds", "(LFounderSleeps$Deeds;II)I"⟩
abbrev cX3_exileBy : ByteArray := prog_5_method_4_code
def yX3_exileBy : MethodName := ⟨RX3, "exileBy", "(LFounderSleeps$Deeds;II)V"⟩
abbrev cX3_lateness : ByteArray := prog_5_method_5_code
def yX3_lateness : MethodName := ⟨RX3, "lateness", "()I"⟩
abbrev cX3_doneOf : ByteArray := prog_5_method_6_code
def yX3_doneOf : MethodName := ⟨RX3, "doneOf", "(LFounderSleeps$Deeds;)I"⟩
abbrev cX4_takeTolls : ByteArray := prog_6_method_2_code
def yX4_takeTolls : MethodName := ⟨RX4, "takeTolls", "(LFounderSleeps$Town;)V"⟩
abbrev cX4_layFelt : ByteArray := prog_6_method_3_code
def yX4_layFelt : MethodName := ⟨RX4, "layFelt", "(I)V"⟩
abbrev cX4_spread : ByteArray := prog_6_method_4_code
def yX4_spread : MethodName := ⟨RX4, "spread", "(LFounderSleeps$Town;I)V"⟩
abbrev cX4_leastBeside : ByteArray := prog_6_method_5_code
def yX4_leastBeside : MethodName := ⟨RX4, "leastBeside", "(LFounderSleeps$Town;I)I"⟩
abbrev cX4_left : ByteArray := prog_6_method_6_code
def yX4_left : MethodName := ⟨RX4, "left", "(II)I"⟩
abbrev cX5_isLost : ByteArray := prog_7_method_2_code
def yX5_isLost : MethodName := ⟨RX5, "isLost", "(I)Z"⟩
abbrev cX5_renew : ByteArray := prog_7_method_3_code
def yX5_renew : MethodName := ⟨RX5, "renew", "(III)V"⟩
abbrev cX5_hasItem : ByteArray := prog_7_method_4_code
def yX5_hasItem : MethodName := ⟨RX5, "hasItem", "(II)Z"⟩
abbrev cX5_item : ByteArray := prog_7_method_5_code
def yX5_item : MethodName := ⟨RX5, "item", "(II)I"⟩
abbrev cX5_store : ByteArray := prog_7_method_6_code
def yX5_store : MethodName := ⟨RX5, "store", "(III)V"⟩
abbrev cX5_cut : ByteArray := prog_7_method_7_code
def yX5_cut : MethodName := ⟨RX5, "cut", "(II)I"⟩
abbrev cX5_hasItems : ByteArray := prog_7_method_8_code
def yX5_hasItems : MethodName := ⟨RX5, "hasItems", "(III)Z"⟩
abbrev cX5_move : ByteArray := prog_7_method_9_code
def yX5_move : MethodName := ⟨RX5, "move", "(IIIII)V"⟩
abbrev cX6_isFull : ByteArray := prog_8_method_2_code
def yX6_isFull : MethodName := ⟨RX6, "isFull", "()Z"⟩
abbrev cX6_append : ByteArray := prog_8_method_3_code
def yX6_append : MethodName := ⟨RX6, "append", "(I)V"⟩
abbrev cX7_readFrom : ByteArray := prog_9_method_2_code
def yX7_readFrom : MethodName := ⟨RX7, "readFrom", "(LFounderSleeps$Text;)V"⟩
abbrev cX7_empty : ByteArray := prog_9_method_3_code
def yX7_empty : MethodName := ⟨RX7, "empty", "()V"⟩
abbrev cX7_place : ByteArray := prog_9_method_4_code
def yX7_place : MethodName := ⟨RX7, "place", "(LFounderSleeps$Text;)I"⟩
abbrev cX7_isTooShort : ByteArray := prog_9_method_5_code
def yX7_isTooShort : MethodName := ⟨RX7, "isTooShort", "(I)Z"⟩
abbrev cX7_mayStand : ByteArray := prog_9_method_6_code
def yX7_mayStand : MethodName := ⟨RX7, "mayStand", "(III)Z"⟩
abbrev cX7_add : ByteArray := prog_9_method_7_code
def yX7_add : MethodName := ⟨RX7, "add", "(I)V"⟩
abbrev cX7_link : ByteArray := prog_9_method_8_code
def yX7_link : MethodName := ⟨RX7, "link", "()V"⟩
abbrev cX7_has : ByteArray := prog_9_method_9_code
def yX7_has : MethodName := ⟨RX7, "has", "(I)Z"⟩
abbrev cX7_isOpen : ByteArray := prog_9_method_10_code
def yX7_isOpen : MethodName := ⟨RX7, "isOpen", "(I)Z"⟩
abbrev cX8_type : ByteArray := prog_1_method_2_code
def yX8_type : MethodName := ⟨RX8, "type", "(II)I"⟩
abbrev cX8_wipe : ByteArray := prog_1_method_3_code
def yX8_wipe : MethodName := ⟨RX8, "wipe", "(I)I"⟩
abbrev cX8_undo : ByteArray := prog_1_method_4_code
def yX8_undo : MethodName := ⟨RX8, "undo", "(I)I"⟩
abbrev cX8_fault : ByteArray := prog_1_method_5_code
def yX8_fault : MethodName := ⟨RX8, "fault", "(I)I"⟩
abbrev cX8_cell : ByteArray := prog_1_method_6_code
def yX8_cell : MethodName := ⟨RX8, "cell", "(I)I"⟩
abbrev cX8_bed : ByteArray := prog_1_method_7_code
def yX8_bed : MethodName := ⟨RX8, "bed", "()I"⟩
abbrev cX8_deed : ByteArray := prog_1_method_8_code
def yX8_deed : MethodName := ⟨RX8, "deed", "(II)I"⟩
abbrev cX8_set : ByteArray := prog_1_method_9_code
def yX8_set : MethodName := ⟨RX8, "set", "(II)I"⟩
abbrev cX8_thunder : ByteArray := prog_1_method_10_code
def yX8_thunder : MethodName := ⟨RX8, "thunder", "(II)I"⟩
abbrev cX8_back : ByteArray := prog_1_method_11_code
def yX8_back : MethodName := ⟨RX8, "back", "()I"⟩
abbrev cX8_read : ByteArray := prog_1_method_12_code
def yX8_read : MethodName := ⟨RX8, "read", "(I)I"⟩
abbrev cX8_carry : ByteArray := prog_1_method_13_code
def yX8_carry : MethodName := ⟨RX8, "carry", "(III)I"⟩
abbrev cX8_heard : ByteArray := prog_1_method_14_code
def yX8_heard : MethodName := ⟨RX8, "heard", "(II)I"⟩
abbrev cX8_noise : ByteArray := prog_1_method_15_code
def yX8_noise : MethodName := ⟨RX8, "noise", "(I)I"⟩
abbrev cX8_depth : ByteArray := prog_1_method_16_code
def yX8_depth : MethodName := ⟨RX8, "depth", "(I)I"⟩
abbrev cX8_wakes : ByteArray := prog_1_method_17_code
def yX8_wakes : MethodName := ⟨RX8, "wakes", "()I"⟩
abbrev cX8_exiled : ByteArray := prog_1_method_18_code
def yX8_exiled : MethodName := ⟨RX8, "exiled", "(I)I"⟩
abbrev cX8_loudest : ByteArray := prog_1_method_19_code
def yX8_loudest : MethodName := ⟨RX8, "loudest", "()I"⟩
abbrev cX8_hour : ByteArray := prog_1_method_20_code
def yX8_hour : MethodName := ⟨RX8, "hour", "(II)I"⟩
abbrev cX8_felt : ByteArray := prog_1_method_21_code
def yX8_felt : MethodName := ⟨RX8, "felt", "(I)I"⟩
abbrev cX8_lay : ByteArray := prog_1_method_22_code
def yX8_lay : MethodName := ⟨RX8, "lay", "(I)I"⟩
abbrev cX8_way : ByteArray := prog_1_method_23_code
def yX8_way : MethodName := ⟨RX8, "way", "(II)I"⟩
abbrev cX8_listened : ByteArray := prog_1_method_24_code
def yX8_listened : MethodName := ⟨RX8, "listened", "(II)I"⟩
abbrev cX8_forget : ByteArray := prog_1_method_25_code
def yX8_forget : MethodName := ⟨RX8, "forget", "()I"⟩
abbrev cX8_never : ByteArray := prog_1_method_26_code
def yX8_never : MethodName := ⟨RX8, "never", "()I"⟩
abbrev cX8_whence : ByteArray := prog_1_method_27_code
def yX8_whence : MethodName := ⟨RX8, "whence", "(II)I"⟩
abbrev cX8_what : ByteArray := prog_1_method_28_code
def yX8_what : MethodName := ⟨RX8, "what", "(I)I"⟩
abbrev cX8_ask : ByteArray := prog_1_method_29_code
def yX8_ask : MethodName := ⟨RX8, "ask", "(I)I"⟩
abbrev cX8_sleeps : ByteArray := prog_1_method_30_code
def yX8_sleeps : MethodName := ⟨RX8, "sleeps", "(II)J"⟩
abbrev cX8_day : ByteArray := prog_1_method_31_code
def yX8_day : MethodName := ⟨RX8, "day", "(III)I"⟩
abbrev cX8_sheet : ByteArray := prog_1_method_32_code
def yX8_sheet : MethodName := ⟨RX8, "sheet", "(III)I"⟩
abbrev cX8_lose : ByteArray := prog_1_method_33_code
def yX8_lose : MethodName := ⟨RX8, "lose", "(I)I"⟩
abbrev cX8_put : ByteArray := prog_1_method_34_code
def yX8_put : MethodName := ⟨RX8, "put", "(IIII)I"⟩
abbrev cX8_get : ByteArray := prog_1_method_35_code
def yX8_get : MethodName := ⟨RX8, "get", "(III)I"⟩
abbrev cX8_copy : ByteArray := prog_1_method_36_code
def yX8_copy : MethodName := ⟨RX8, "copy", "(IIIII)I"⟩
abbrev cX8_write : ByteArray := prog_1_method_37_code
def yX8_write : MethodName := ⟨RX8, "write", "(I)I"⟩
abbrev cX8_count : ByteArray := prog_1_method_38_code
def yX8_count : MethodName := ⟨RX8, "count", "(I)I"⟩
abbrev cX8_digest : ByteArray := prog_1_method_39_code
def yX8_digest : MethodName := ⟨RX8, "digest", "()J"⟩
abbrev cX8_mixDeed : ByteArray := prog_1_method_40_code
def yX8_mixDeed : MethodName := ⟨RX8, "mixDeed", "(JI)J"⟩
abbrev cX8_mix : ByteArray := prog_1_method_41_code
def yX8_mix : MethodName := ⟨RX8, "mix", "(JJ)J"⟩
abbrev cX8_isOutside : ByteArray := prog_1_method_42_code
def yX8_isOutside : MethodName := ⟨RX8, "isOutside", "(II)Z"⟩
abbrev cX8_isNoDeed : ByteArray := prog_1_method_43_code
def yX8_isNoDeed : MethodName := ⟨RX8, "isNoDeed", "(I)Z"⟩
abbrev cX8_isNoThunder : ByteArray := prog_1_method_44_code
def yX8_isNoThunder : MethodName := ⟨RX8, "isNoThunder", "(II)Z"⟩
abbrev cX8_textOf : ByteArray := prog_1_method_45_code
def yX8_textOf : MethodName := ⟨RX8, "textOf", "(I)LFounderSleeps$Text;"⟩
abbrev cX8_readAnew : ByteArray := prog_1_method_46_code
def yX8_readAnew : MethodName := ⟨RX8, "readAnew", "(I)V"⟩
abbrev cX8_sleepAnew : ByteArray := prog_1_method_47_code
def yX8_sleepAnew : MethodName := ⟨RX8, "sleepAnew", "()V"⟩
abbrev cX8_asHour : ByteArray := prog_1_method_48_code
def yX8_asHour : MethodName := ⟨RX8, "asHour", "(I)I"⟩
abbrev cX8_bestHourOf : ByteArray := prog_1_method_49_code
def yX8_bestHourOf : MethodName := ⟨RX8, "bestHourOf", "(I)I"⟩
abbrev cX8_latenessAt : ByteArray := prog_1_method_50_code
def yX8_latenessAt : MethodName := ⟨RX8, "latenessAt", "(II)I"⟩
abbrev cX8_bestBed : ByteArray := prog_1_method_51_code
def yX8_bestBed : MethodName := ⟨RX8, "bestBed", "()I"⟩
abbrev cX8_latenessWithBed : ByteArray := prog_1_method_52_code
def yX8_latenessWithBed : MethodName := ⟨RX8, "latenessWithBed", "(I)I"⟩
abbrev cX8_planFelt : ByteArray := prog_1_method_53_code
def yX8_planFelt : MethodName := ⟨RX8, "planFelt", "()V"⟩
abbrev cX8_isStillWithOne : ByteArray := prog_1_method_54_code
def yX8_isStillWithOne : MethodName := ⟨RX8, "isStillWithOne", "()Z"⟩
abbrev cX8_isStillWithTwo : ByteArray := prog_1_method_55_code
def yX8_isStillWithTwo : MethodName := ⟨RX8, "isStillWithTwo", "()Z"⟩
abbrev cX8_isStillWith : ByteArray := prog_1_method_56_code
def yX8_isStillWith : MethodName := ⟨RX8, "isStillWith", "(II)Z"⟩
abbrev cX8_findPlaces : ByteArray := prog_1_method_57_code
def yX8_findPlaces : MethodName := ⟨RX8, "findPlaces", "(I)I"⟩
abbrev cX8_mostAlike : ByteArray := prog_1_method_58_code
def yX8_mostAlike : MethodName := ⟨RX8, "mostAlike", "(II)I"⟩
abbrev cX8_weightOfSleep : ByteArray := prog_1_method_59_code
def yX8_weightOfSleep : MethodName := ⟨RX8, "weightOfSleep", "(I)J"⟩
abbrev cX8_weightOf : ByteArray := prog_1_method_60_code
def yX8_weightOf : MethodName := ⟨RX8, "weightOf", "(II)J"⟩
abbrev cX8_drawDeeds : ByteArray := prog_1_method_61_code
def yX8_drawDeeds : MethodName := ⟨RX8, "drawDeeds", "(II)V"⟩
abbrev cX8_nextLot : ByteArray := prog_1_method_62_code
def yX8_nextLot : MethodName := ⟨RX8, "nextLot", "(I)I"⟩
abbrev cX8_refusalOfItem : ByteArray := prog_1_method_63_code
def yX8_refusalOfItem : MethodName := ⟨RX8, "refusalOfItem", "(III)I"⟩
abbrev cX8_find : ByteArray := prog_1_method_64_code
def yX8_find : MethodName := ⟨RX8, "find", "(I)I"⟩
abbrev cX9_in : ByteArray := prog_11_method_3_code
def yX9_in : MethodName := ⟨RX9, "in", "(III)Z"⟩
abbrev cX9_isIn : ByteArray := prog_11_method_4_code
def yX9_isIn : MethodName := ⟨RX9, "isIn", "(II)Z"⟩
abbrev cX9_no : ByteArray := prog_11_method_5_code
def yX9_no : MethodName := ⟨RX9, "no", "(I)J"⟩
abbrev cX9_lowest : ByteArray := prog_11_method_6_code
def yX9_lowest : MethodName := ⟨RX9, "lowest", "(JJI)J"⟩
abbrev cX9_isText : ByteArray := prog_11_method_7_code
def yX9_isText : MethodName := ⟨RX9, "isText", "(I)Z"⟩
abbrev cX9_isHour : ByteArray := prog_11_method_8_code
def yX9_isHour : MethodName := ⟨RX9, "isHour", "(I)Z"⟩
abbrev cX9_type : ByteArray := prog_11_method_9_code
def yX9_type : MethodName := ⟨RX9, "type", "(II)I"⟩
abbrev cX9_wipe : ByteArray := prog_11_method_10_code
def yX9_wipe : MethodName := ⟨RX9, "wipe", "(I)I"⟩
abbrev cX9_undo : ByteArray := prog_11_method_11_code
def yX9_undo : MethodName := ⟨RX9, "undo", "(I)I"⟩
abbrev cX9_byteAt : ByteArray := prog_11_method_12_code
def yX9_byteAt : MethodName := ⟨RX9, "byteAt", "(II)I"⟩
abbrev cX9_kindOf : ByteArray := prog_11_method_13_code
def yX9_kindOf : MethodName := ⟨RX9, "kindOf", "(I)I"⟩
abbrev cX9_readsTown : ByteArray := prog_11_method_14_code
def yX9_readsTown : MethodName := ⟨RX9, "readsTown", "()I"⟩
abbrev cX9_figureAt : ByteArray := prog_11_method_15_code
def yX9_figureAt : MethodName := ⟨RX9, "figureAt", "(II)I"⟩
abbrev cX9_readsDeed : ByteArray := prog_11_method_16_code
def yX9_readsDeed : MethodName := ⟨RX9, "readsDeed", "(II)I"⟩
abbrev cX9_readsDeeds : ByteArray := prog_11_method_17_code
def yX9_readsDeeds : MethodName := ⟨RX9, "readsDeeds", "()I"⟩
abbrev cX9_faultOf : ByteArray := prog_11_method_18_code
def yX9_faultOf : MethodName := ⟨RX9, "faultOf", "(I)I"⟩
abbrev cX9_reads : ByteArray := prog_11_method_19_code
def yX9_reads : MethodName := ⟨RX9, "reads", "()V"⟩
abbrev cX9_fault : ByteArray := prog_11_method_20_code
def yX9_fault : MethodName := ⟨RX9, "fault", "(I)I"⟩
abbrev cX9_isCell : ByteArray := prog_11_method_21_code
def yX9_isCell : MethodName := ⟨RX9, "isCell", "(I)Z"⟩
abbrev cX9_isDeed : ByteArray := prog_11_method_22_code
def yX9_isDeed : MethodName := ⟨RX9, "isDeed", "(I)Z"⟩
abbrev cX9_cell : ByteArray := prog_11_method_23_code
def yX9_cell : MethodName := ⟨RX9, "cell", "(I)I"⟩
abbrev cX9_bedNow : ByteArray := prog_11_method_24_code
def yX9_bedNow : MethodName := ⟨RX9, "bedNow", "()I"⟩
abbrev cX9_bed : ByteArray := prog_11_method_25_code
def yX9_bed : MethodName := ⟨RX9, "bed", "()I"⟩
abbrev cX9_deedOf : ByteArray := prog_11_method_26_code
def yX9_deedOf : MethodName := ⟨RX9, "deedOf", "(II)I"⟩
abbrev cX9_deed : ByteArray := prog_11_method_27_code
def yX9_deed : MethodName := ⟨RX9, "deed", "(II)I"⟩
abbrev cX9_set : ByteArray := prog_11_method_28_code
def yX9_set : MethodName := ⟨RX9, "set", "(II)I"⟩
abbrev cX9_thunder : ByteArray := prog_11_method_29_code
def yX9_thunder : MethodName := ⟨RX9, "thunder", "(II)I"⟩
abbrev cX9_back : ByteArray := prog_11_method_30_code
def yX9_back : MethodName := ⟨RX9, "back", "()I"⟩
abbrev cX9_read : ByteArray := prog_11_method_31_code
def yX9_read : MethodName := ⟨RX9, "read", "(I)I"⟩
abbrev cX9_beside : ByteArray := prog_11_method_32_code
def yX9_beside : MethodName := ⟨RX9, "beside", "(II)I"⟩
abbrev cX9_into : ByteArray := prog_11_method_33_code
def yX9_into : MethodName := ⟨RX9, "into", "(I)I"⟩
abbrev cX9_doesEase : ByteArray := prog_11_method_34_code
def yX9_doesEase : MethodName := ⟨RX9, "doesEase", "()Z"⟩
abbrev cX9_carriesTo : ByteArray := prog_11_method_35_code
def yX9_carriesTo : MethodName := ⟨RX9, "carriesTo", "(I)V"⟩
abbrev cX9_carryOf : ByteArray := prog_11_method_36_code
def yX9_carryOf : MethodName := ⟨RX9, "carryOf", "(III)I"⟩
abbrev cX9_carry : ByteArray := prog_11_method_37_code
def yX9_carry : MethodName := ⟨RX9, "carry", "(III)I"⟩
abbrev cX9_loudOf : ByteArray := prog_11_method_38_code
def yX9_loudOf : MethodName := ⟨RX9, "loudOf", "(I)I"⟩
abbrev cX9_lays : ByteArray := prog_11_method_39_code
def yX9_lays : MethodName := ⟨RX9, "lays", "()V"⟩
abbrev cX9_hears : ByteArray := prog_11_method_40_code
def yX9_hears : MethodName := ⟨RX9, "hears", "()V"⟩
abbrev cX9_noiseIn : ByteArray := prog_11_method_41_code
def yX9_noiseIn : MethodName := ⟨RX9, "noiseIn", "(I)I"⟩
abbrev cX9_sleepsOn : ByteArray := prog_11_method_42_code
def yX9_sleepsOn : MethodName := ⟨RX9, "sleepsOn", "()V"⟩
abbrev cX9_runs : ByteArray := prog_11_method_43_code
def yX9_runs : MethodName := ⟨RX9, "runs", "()V"⟩
abbrev cX9_asTold : ByteArray := prog_11_method_44_code
def yX9_asTold : MethodName := ⟨RX9, "asTold", "()V"⟩
abbrev cX9_runsTold : ByteArray := prog_11_method_45_code
def yX9_runsTold : MethodName := ⟨RX9, "runsTold", "()V"⟩
abbrev cX9_heardBy : ByteArray := prog_11_method_46_code
def yX9_heardBy : MethodName := ⟨RX9, "heardBy", "(II)I"⟩
abbrev cX9_heard : ByteArray := prog_11_method_47_code
def yX9_heard : MethodName := ⟨RX9, "heard", "(II)I"⟩
abbrev cX9_noiseOf : ByteArray := prog_11_method_48_code
def yX9_noiseOf : MethodName := ⟨RX9, "noiseOf", "(I)I"⟩
abbrev cX9_noise : ByteArray := prog_11_method_49_code
def yX9_noise : MethodName := ⟨RX9, "noise", "(I)I"⟩
abbrev cX9_depthOf : ByteArray := prog_11_method_50_code
def yX9_depthOf : MethodName := ⟨RX9, "depthOf", "(I)I"⟩
abbrev cX9_depth : ByteArray := prog_11_method_51_code
def yX9_depth : MethodName := ⟨RX9, "depth", "(I)I"⟩
abbrev cX9_wakesOf : ByteArray := prog_11_method_52_code
def yX9_wakesOf : MethodName := ⟨RX9, "wakesOf", "()I"⟩
abbrev cX9_wakes : ByteArray := prog_11_method_53_code
def yX9_wakes : MethodName := ⟨RX9, "wakes", "()I"⟩
abbrev cX9_exiledOf : ByteArray := prog_11_method_54_code
def yX9_exiledOf : MethodName := ⟨RX9, "exiledOf", "(I)I"⟩
abbrev cX9_exiled : ByteArray := prog_11_method_55_code
def yX9_exiled : MethodName := ⟨RX9, "exiled", "(I)I"⟩
abbrev cX9_loudestNow : ByteArray := prog_11_method_56_code
def yX9_loudestNow : MethodName := ⟨RX9, "loudestNow", "()I"⟩
abbrev cX9_loudest : ByteArray := prog_11_method_57_code
def yX9_loudest : MethodName := ⟨RX9, "loudest", "()I"⟩
abbrev cX9_hourOf : ByteArray := prog_11_method_58_code
def yX9_hourOf : MethodName := ⟨RX9, "hourOf", "(II)I"⟩
abbrev cX9_hour : ByteArray := prog_11_method_59_code
def yX9_hour : MethodName := ⟨RX9, "hour", "(II)I"⟩
abbrev cX9_isStill : ByteArray := prog_11_method_60_code
def yX9_isStill : MethodName := ⟨RX9, "isStill", "(II)Z"⟩
abbrev cX9_feltBy : ByteArray := prog_11_method_61_code
def yX9_feltBy : MethodName := ⟨RX9, "feltBy", "()I"⟩
abbrev cX9_ofRow : ByteArray := prog_11_method_62_code
def yX9_ofRow : MethodName := ⟨RX9, "ofRow", "(II)I"⟩
abbrev cX9_felt : ByteArray := prog_11_method_63_code
def yX9_felt : MethodName := ⟨RX9, "felt", "(I)I"⟩
abbrev cX9_layOf : ByteArray := prog_11_method_64_code
def yX9_layOf : MethodName := ⟨RX9, "layOf", "(I)I"⟩
abbrev cX9_lay : ByteArray := prog_11_method_65_code
def yX9_lay : MethodName := ⟨RX9, "lay", "(I)I"⟩
abbrev cX9_doesShorten : ByteArray := prog_11_method_66_code
def yX9_doesShorten : MethodName := ⟨RX9, "doesShorten", "()Z"⟩
abbrev cX9_wayOf : ByteArray := prog_11_method_67_code
def yX9_wayOf : MethodName := ⟨RX9, "wayOf", "(II)I"⟩
abbrev cX9_way : ByteArray := prog_11_method_68_code
def yX9_way : MethodName := ⟨RX9, "way", "(II)I"⟩
abbrev cX9_listened : ByteArray := prog_11_method_69_code
def yX9_listened : MethodName := ⟨RX9, "listened", "(II)I"⟩
abbrev cX9_forget : ByteArray := prog_11_method_70_code
def yX9_forget : MethodName := ⟨RX9, "forget", "()I"⟩
abbrev cX9_isListened : ByteArray := prog_11_method_71_code
def yX9_isListened : MethodName := ⟨RX9, "isListened", "()Z"⟩
abbrev cX9_neverNow : ByteArray := prog_11_method_72_code
def yX9_neverNow : MethodName := ⟨RX9, "neverNow", "()I"⟩
abbrev cX9_never : ByteArray := prog_11_method_73_code
def yX9_never : MethodName := ⟨RX9, "never", "()I"⟩
abbrev cX9_whences : ByteArray := prog_11_method_74_code
def yX9_whences : MethodName := ⟨RX9, "whences", "(I)I"⟩
abbrev cX9_whenceOf : ByteArray := prog_11_method_75_code
def yX9_whenceOf : MethodName := ⟨RX9, "whenceOf", "(II)I"⟩
abbrev cX9_whence : ByteArray := prog_11_method_76_code
def yX9_whence : MethodName := ⟨RX9, "whence", "(II)I"⟩
abbrev cX9_whatOf : ByteArray := prog_11_method_77_code
def yX9_whatOf : MethodName := ⟨RX9, "whatOf", "(I)I"⟩
abbrev cX9_what : ByteArray := prog_11_method_78_code
def yX9_what : MethodName := ⟨RX9, "what", "(I)I"⟩
abbrev cX9_askOf : ByteArray := prog_11_method_79_code
def yX9_askOf : MethodName := ⟨RX9, "askOf", "(I)I"⟩
abbrev cX9_ask : ByteArray := prog_11_method_80_code
def yX9_ask : MethodName := ⟨RX9, "ask", "(I)I"⟩
abbrev cX9_sleepsBy : ByteArray := prog_11_method_81_code
def yX9_sleepsBy : MethodName := ⟨RX9, "sleepsBy", "(II)J"⟩
abbrev cX9_sleeps : ByteArray := prog_11_method_82_code
def yX9_sleeps : MethodName := ⟨RX9, "sleeps", "(II)J"⟩
abbrev cX9_exiledMany : ByteArray := prog_11_method_83_code
def yX9_exiledMany : MethodName := ⟨RX9, "exiledMany", "()I"⟩
abbrev cX9_dayOf : ByteArray := prog_11_method_84_code
def yX9_dayOf : MethodName := ⟨RX9, "dayOf", "(III)I"⟩
abbrev cX9_day : ByteArray := prog_11_method_85_code
def yX9_day : MethodName := ⟨RX9, "day", "(III)I"⟩
abbrev cX9_meets : ByteArray := prog_11_method_86_code
def yX9_meets : MethodName := ⟨RX9, "meets", "(I)I"⟩
abbrev cX9_isSheet : ByteArray := prog_11_method_87_code
def yX9_isSheet : MethodName := ⟨RX9, "isSheet", "(I)Z"⟩
abbrev cX9_sheet : ByteArray := prog_11_method_88_code
def yX9_sheet : MethodName := ⟨RX9, "sheet", "(III)I"⟩
abbrev cX9_lose : ByteArray := prog_11_method_89_code
def yX9_lose : MethodName := ⟨RX9, "lose", "(I)I"⟩
abbrev cX9_lacks : ByteArray := prog_11_method_90_code
def yX9_lacks : MethodName := ⟨RX9, "lacks", "(III)I"⟩
abbrev cX9_keep : ByteArray := prog_11_method_91_code
def yX9_keep : MethodName := ⟨RX9, "keep", "(III)V"⟩
abbrev cX9_put : ByteArray := prog_11_method_92_code
def yX9_put : MethodName := ⟨RX9, "put", "(IIII)I"⟩
abbrev cX9_get : ByteArray := prog_11_method_93_code
def yX9_get : MethodName := ⟨RX9, "get", "(III)I"⟩
abbrev cX9_copy : ByteArray := prog_11_method_94_code
def yX9_copy : MethodName := ⟨RX9, "copy", "(IIIII)I"⟩
abbrev cX9_write : ByteArray := prog_11_method_95_code
def yX9_write : MethodName := ⟨RX9, "write", "(I)I"⟩
abbrev cX9_doneMany : ByteArray := prog_11_method_96_code
def yX9_doneMany : MethodName := ⟨RX9, "doneMany", "()I"⟩
abbrev cX9_sumOf : ByteArray := prog_11_method_97_code
def yX9_sumOf : MethodName := ⟨RX9, "sumOf", "(I)I"⟩
abbrev cX9_count : ByteArray := prog_11_method_98_code
def yX9_count : MethodName := ⟨RX9, "count", "(I)I"⟩
abbrev cX9_deedDigest : ByteArray := prog_11_method_99_code
def yX9_deedDigest : MethodName := ⟨RX9, "deedDigest", "(JI)J"⟩
abbrev cX9_digest : ByteArray := prog_11_method_100_code
def yX9_digest : MethodName := ⟨RX9, "digest", "()J"⟩
abbrev cJ13_bitCount_95d88 : ByteArray := prog_13_method_50_code
def yJ13_bitCount_95d88 : MethodName := ⟨RJ13, "bitCount", "(J)I"⟩
abbrev cJ9_max_7cf53 : ByteArray := prog_14_method_65_code
def yJ9_max_7cf53 : MethodName := ⟨RJ9, "max", "(II)I"⟩
abbrev cJ9_min_7cf53 : ByteArray := prog_14_method_69_code
def yJ9_min_7cf53 : MethodName := ⟨RJ9, "min", "(II)I"⟩
abbrev cJ0_length_8abf5 : ByteArray := prog_15_method_54_code
def yJ0_length_8abf5 : MethodName := ⟨RJ0, "length", "()I"⟩
abbrev cJ0_indexOf_0f7a4 : ByteArray := prog_15_method_79_code
def yJ0_indexOf_0f7a4 : MethodName := ⟨RJ0, "indexOf", "(I)I"⟩
abbrev cJ0_indexOf_7cf53 : ByteArray := prog_15_method_80_code
def yJ0_indexOf_7cf53 : MethodName := ⟨RJ0, "indexOf", "(II)I"⟩
abbrev cJ0_coder_7d493 : ByteArray := prog_15_method_152_code
def yJ0_coder_7d493 : MethodName := ⟨RJ0, "coder", "()B"⟩
abbrev cJ0_isLatin1_aae02 : ByteArray := prog_15_method_154_code
def yJ0_isLatin1_aae02 : MethodName := ⟨RJ0, "isLatin1", "()Z"⟩
abbrev cJ1_canEncode_9a6ad : ByteArray := prog_16_method_4_code
def yJ1_canEncode_9a6ad : MethodName := ⟨RJ1, "canEncode", "(I)Z"⟩
abbrev cJ1_indexOf_4cfef : ByteArray := prog_16_method_22_code
def yJ1_indexOf_4cfef : MethodName := ⟨RJ1, "indexOf", "([BIII)I"⟩
abbrev cJ1_indexOfChar_4cfef : ByteArray := prog_16_method_23_code
def yJ1_indexOfChar_4cfef : MethodName := ⟨RJ1, "indexOfChar", "([BIII)I"⟩
abbrev cJ7_fill_53178 : ByteArray := prog_19_method_103_code
def yJ7_fill_53178 : MethodName := ⟨RJ7, "fill", "([II)V"⟩
abbrev cJ9_min : ByteArray := prog_14_method_69_code
def yJ9_min : MethodName := ⟨RJ9, "min", "(II)I"⟩
abbrev cJ9_max : ByteArray := prog_14_method_65_code
def yJ9_max : MethodName := ⟨RJ9, "max", "(II)I"⟩
end
section
abbrev xEnt : Type := Instr × Nat × Nat × Nat × Nat
def xCN : List String := [RX0, RX1, RX2, RX3, RX4, RX5, RX6, RX7, RX8, RX9, RJ7, RJ13, RJ0, RJ1, RJ9]
def xK : List Int32 := [(-2147483648), 55232, 56320, 65536, 1000000, 1103515245]
def xKL : List Int64 := [(-9223372036854775808), (-9223372036854775806), 2, 16, 17, 31, 262143, 1085102592571150095, 3689348814741910323, 6148914691236517205]
def xLs0 : List (Nat × Nat × Nat × Nat) := [(0, 9, 0, 0), (0, 15, 0, 1), (0, 18, 0, 2), (0, 21, 0, 4), (0, 29, 0, 3), (0, 32, 6, 2), (0, 41, 6, 0), (2, 9, 2, 0), (2, 15, 2, 1), (2, 24, 2, 2), (2, 28, 2, 3), (2, 35, 3, 1), (3, 9, 3, 1), (3, 15, 3, 2), (3, 18, 3, 3), (3, 21, 3, 4), (3, 24, 3, 5), (3, 28, 3, 0), (3, 38, 0, 3), (3, 46, 0, 1), (3, 49, 0, 0), (3, 58, 3, 6), (3, 62, 1, 1), (3, 71, 1, 0), (3, 90, 0, 2), (3, 93, 1, 2), (4, 9, 4, 0), (4, 15, 4, 1), (4, 18, 7, 2), (4, 27, 7, 0), (4, 45, 7, 1), (5, 9, 5, 0), (5, 15, 5, 1), (5, 18, 5, 2), (6, 9, 6, 0), (6, 21, 6, 1), (6, 25, 6, 2), (7, 9, 7, 0), (7, 15, 7, 1), (7, 18, 7, 4), (7, 22, 7, 5), (7, 35, 7, 2), (7, 38, 7, 3), (7, 41, 6, 2), (7, 46, 6, 0), (8, 14, 8, 0), (8, 18, 8, 1), (8, 24, 8, 2), (8, 31, 8, 3), (8, 38, 8, 4), (8, 45, 8, 5), (8, 52, 8, 6), (8, 61, 8, 7), (8, 65, 8, 8), (8, 68, 8, 9), (8, 71, 8, 10), (8, 74, 8, 11), (8, 78, 8, 12), (8, 81, 8, 13), (8, 87, 8, 16), (8, 112, 6, 2), (8, 116, 7, 5), (8, 119, 0, 4), (8, 124, 7, 0), (8, 127, 7, 4), (8, 133, 0, 0), (8, 134, 0, 1), (8, 135, 0, 2), (8, 138, 1, 1), (8, 141, 1, 2), (8, 147, 1, 0), (8, 155, 2, 3), (8, 163, 5, 1), (8, 181, 3, 3), (8, 184, 3, 4), (8, 187, 3, 1), (8, 190, 3, 2), (8, 193, 3, 5), (8, 196, 3, 6), (8, 202, 0, 3), (8, 215, 8, 14), (8, 228, 7, 2), (8, 231, 4, 0), (8, 238, 4, 1), (8, 292, 5, 0), (8, 312, 8, 17), (8, 398, 8, 15), (9, 7, 9, 0), (9, 13, 9, 1), (9, 16, 9, 4), (9, 19, 9, 6), (9, 22, 9, 7), (9, 25, 9, 8), (9, 28, 9, 12), (9, 31, 9, 13), (9, 34, 9, 14), (9, 37, 9, 16), (9, 40, 9, 17), (9, 43, 9, 18), (9, 46, 9, 19), (9, 49, 9, 21), (9, 53, 9, 22), (9, 56, 9, 23), (9, 59, 9, 24), (9, 62, 9, 26), (9, 65, 9, 27), (9, 68, 9, 28), (9, 71, 9, 29), (9, 74, 9, 30), (9, 77, 9, 31), (9, 80, 9, 32), (9, 83, 9, 33), (9, 86, 9, 34), (9, 89, 9, 9), (9, 93, 9, 10), (9, 106, 9, 3), (9, 109, 9, 2), (9, 123, 9, 5), (9, 157, 9, 11), (9, 190, 9, 15), (9, 200, 9, 20), (9, 260, 9, 25), (9, 300, 9, 35)]
def xLs1 : List (Nat × Nat × Nat × Nat) := [(0, 21, 0, 4), (0, 29, 0, 3), (2, 28, 2, 3), (3, 24, 3, 5), (3, 58, 3, 6), (6, 25, 6, 2), (7, 18, 7, 4), (7, 22, 7, 5), (7, 35, 7, 2), (7, 38, 7, 3), (8, 112, 6, 2), (8, 138, 1, 1), (8, 141, 1, 2), (8, 155, 2, 3), (8, 202, 0, 3), (8, 215, 8, 14), (8, 312, 8, 17), (8, 398, 8, 15), (9, 89, 9, 9), (9, 93, 9, 10), (9, 106, 9, 3), (9, 109, 9, 2), (9, 123, 9, 5), (9, 157, 9, 11), (9, 190, 9, 15), (9, 200, 9, 20), (9, 260, 9, 25), (9, 300, 9, 35)]
def xLs2 : List (Nat × Nat × Nat × Nat) := [(0, 44, 204, 1), (0, 50, 4, 3), (2, 31, 6, 0), (3, 52, 19, 2), (3, 67, 11, 3), (3, 75, 8, 1), (3, 81, 12, 3), (4, 37, 37, 1), (4, 41, 18, 2), (5, 27, 22, 2), (5, 35, 26, 3), (7, 25, 31, 0), (7, 28, 32, 1), (7, 32, 36, 0), (7, 49, 33, 1), (7, 55, 204, 1), (7, 61, 34, 3), (7, 65, 35, 1), (7, 69, 37, 1), (8, 91, 84, 0), (8, 98, 82, 1), (8, 102, 28, 0), (8, 106, 29, 1), (8, 109, 83, 1), (8, 120, 37, 1), (8, 130, 80, 1), (8, 150, 6, 0), (8, 151, 7, 2), (8, 156, 20, 1), (8, 159, 101, 1), (8, 166, 23, 2), (8, 170, 15, 1), (8, 174, 17, 2), (8, 178, 19, 2), (8, 203, 86, 1), (8, 206, 87, 2), (8, 212, 90, 0), (8, 218, 88, 0), (8, 222, 89, 1), (8, 225, 38, 1), (8, 241, 10, 3), (8, 245, 9, 1), (8, 249, 94, 1), (8, 252, 5, 1), (8, 256, 95, 2), (8, 263, 96, 1), (8, 271, 98, 2), (8, 278, 21, 3), (8, 282, 100, 3), (8, 286, 24, 3), (8, 295, 26, 3), (8, 299, 27, 5), (8, 308, 14, 1), (8, 317, 75, 1), (8, 324, 42, 1), (8, 327, 43, 1), (8, 330, 50, 3), (8, 333, 60, 2), (8, 336, 44, 0), (8, 339, 77, 2), (8, 343, 52, 1), (8, 346, 53, 1), (8, 348, 54, 0), (8, 351, 55, 1), (8, 354, 56, 0), (8, 357, 58, 1), (8, 360, 59, 1), (8, 363, 63, 0), (8, 366, 67, 2), (8, 370, 68, 3), (8, 373, 45, 2), (8, 376, 51, 2), (8, 379, 57, 2), (8, 382, 64, 2), (8, 385, 65, 1), (8, 388, 66, 1), (8, 393, 30, 1), (8, 397, 0, 1), (8, 402, 13, 0), (8, 405, 91, 0), (8, 408, 92, 0), (8, 411, 93, 2), (8, 414, 16, 1), (8, 426, 97, 2), (8, 432, 4, 3), (8, 435, 22, 2), (9, 112, 111, 2), (9, 120, 114, 2), (9, 126, 115, 2), (9, 129, 113, 0), (9, 133, 116, 0), (9, 136, 117, 1), (9, 139, 118, 0), (9, 142, 120, 1), (9, 145, 123, 0), (9, 148, 121, 1), (9, 151, 125, 2), (9, 163, 185, 1), (9, 166, 128, 2), (9, 169, 131, 2), (9, 172, 132, 1), (9, 175, 133, 0), (9, 179, 134, 1), (9, 183, 135, 3), (9, 197, 139, 0), (9, 203, 140, 1), (9, 206, 138, 0), (9, 209, 141, 0), (9, 212, 143, 0), (9, 215, 142, 0), (9, 218, 144, 0), (9, 221, 145, 2), (9, 224, 147, 1), (9, 227, 149, 1), (9, 230, 151, 0), (9, 233, 153, 1), (9, 236, 155, 0), (9, 239, 157, 2), (9, 242, 159, 2), (9, 245, 160, 0), (9, 248, 161, 2), (9, 251, 163, 1), (9, 254, 165, 0), (9, 257, 166, 2), (9, 263, 170, 0), (9, 266, 171, 0), (9, 269, 173, 1), (9, 272, 174, 2), (9, 275, 176, 1), (9, 278, 178, 1), (9, 285, 180, 2), (9, 294, 182, 0), (9, 297, 183, 3), (9, 303, 189, 3), (9, 306, 190, 3), (9, 311, 195, 0), (9, 314, 196, 1), (9, 321, 197, 1), (9, 324, 198, 2), (12, 335, 206, 0), (12, 492, 207, 0), (12, 505, 203, 0), (12, 633, 205, 2)]
def xLs3 : List (Nat × Nat × Nat × Nat) := [(0, 25, 2, 1), (0, 35, 1, 2), (0, 54, 3, 2), (3, 32, 211, 2), (3, 85, 212, 2), (4, 31, 211, 2), (5, 31, 25, 2), (5, 39, 902, 5), (8, 94, 79, 2), (8, 144, 81, 2), (8, 209, 85, 1), (8, 274, 200, 1), (8, 303, 212, 2), (8, 320, 78, 2), (8, 417, 902, 5), (8, 423, 213, 2), (8, 429, 99, 1), (9, 98, 102, 3), (9, 102, 106, 1), (9, 116, 112, 1), (9, 154, 107, 1), (9, 160, 186, 1), (9, 187, 137, 1), (9, 193, 103, 2), (9, 281, 105, 3), (9, 289, 104, 1), (12, 637, 209, 4), (13, 38, 212, 2), (13, 88, 208, 1), (13, 92, 213, 2), (13, 95, 210, 4)]
def xLs4 : List (Nat × Nat × Nat × Nat) := [(4, 30, 4, 0), (8, 237, 4, 0), (8, 291, 0, 0), (8, 434, 5, 0), (9, 293, 5, 0), (9, 310, 0, 0)]
def xLs5 : List (Nat × Nat × Nat × Nat) := [(0, 39, 1003, 1), (7, 53, 1002, 1)]
def xLs6 : List (Nat × Nat × Nat × Nat) := [(8, 200, 6, 0), (8, 261, 1, 0), (8, 267, 3, 0), (8, 269, 2, 0), (8, 315, 4, 0), (8, 391, 5, 0), (9, 96, 0, 0), (9, 317, 5, 0), (9, 319, 4, 0), (11, 314, 9, 0), (11, 316, 8, 0), (11, 318, 7, 0)]
def xLs7 : List (Nat × Nat × Nat × Nat) := [(3, 43, 1, 1), (4, 24, 0, 1), (8, 234, 1, 0), (12, 38, 2, 0)]
def xLs8 : List (Nat × Nat × Nat × Nat) := [(12, 9, 99, 0), (12, 15, 99, 1)]
def xsTown : Nat := 53
def xsDeeds : Nat := 39
def xTg : List Cond := lw_tbl.filter goodWord
end
section
/-! ===== the abstract machine: values with places for addresses, one world of a fixed layout ===== -/
abbrev xS : Type := (Nat → Nat → Int32) × (Nat → Nat → Int64)
abbrev xSh : Type := (Bool × Nat) ⊕ (Nat × List (Nat ⊕ Nat))
abbrev xLy : Type := List xSh
abbrev xLv : Type := List (Nat × Value)
abbrev xF : Type := Nat × xLv × List Value × xS
abbrev xO : Type := xF ⊕ ((Nat × List Value × List Value) ⊕ Option Value)
/-- one number of a place changes -/
def xu (s : xS) (p k : Nat) (v : Int32) : xS := (va_up s.1 p (upd (s.1 p) k v), s.2)
def xul (s : xS) (p k : Nat) (v : Int64) : xS := (s.1, va_up s.2 p (vp_updL (s.2 p) k v))
/-- a copy of n elements from place p at i to place q at j -/
def xcp (s : xS) (p i q j n : Nat) : xS := (va_up s.1 q (va_cpy (s.1 p) (s.1 q) i j n), s.2)
/-- a field's value, with places -/
def xfa (s : xS) (p k : Nat) (f : Nat ⊕ Nat) : Value := match f with
  | .inl q => .ref q
  | .inr t => match t with
    | 1 => .long (s.2 p k)
    | _ => .int (s.1 p k)
/-- the arrays that are never written: length, contents -/
def xRA (p : Nat) : Option (Bool × Nat × (Nat → Int32)) := match p with
  | 1000 => some (false, 4, fun j => ([1, 4, 3, 1] : List Int32).getD j 0)
  | 1001 => some (false, 4, fun j => ([3, 6, 9, 14] : List Int32).getD j 0)
  | 1004 => some (true, 4, fun j => ([46, 104, 102, 98] : List Int32).getD j 0)
  | 1005 => some (true, 4, fun j => ([119, 99, 107, 110] : List Int32).getD j 0)
  | _ => none
/-- statics -/
def xSt (a : Nat) : Option Value := match a with
  | 0 => some (.ref 1000)
  | 1 => some (.ref 1001)
  | 2 => some (.int 1)
  | _ => none
def xlk : List (Nat × xEnt) → Nat → Option xEnt
  | [], _ => none
  | q :: r, pc => cond (Nat.beq q.1 pc) (some q.2) (xlk r pc)
def xl : xLv → Nat → Option Value
  | [], _ => none
  | q :: r, k => cond (Nat.beq q.1 k) (some q.2) (xl r k)
def xins (k : Nat) (v : Value) : xLv → xLv
  | [] => [(k, v)]
  | q :: r => cond (Nat.ble k q.1) ((k, v) :: q :: r) (q :: xins k v r)
def xput1 (lv : xLv) (i : Nat) (v : Value) : xLv := xins i v (lv.filter (fun q => !(q.1 == i) && !(q.1 + 1 == i && q.2.category == 2)))
def xput2 (lv : xLv) (i : Nat) (v : Value) : xLv := xins i v (lv.filter (fun q => !(q.1 == i) && (!(q.1 == i + 1) && !(q.1 + 1 == i && q.2.category == 2))))
/-- the locals that live at a place: all, or those of a mask -/
def xmask (m : Nat) (lv : xLv) : xLv := cond (Nat.beq m 0) lv (lv.filter (fun q => Nat.beq (m / 2 ^ q.1 % 2) 1))
def xnx (pc : Nat) (lv : xLv) (st : List Value) (s : xS) : Option xO := some (.inl (pc, lv, st, s))
def xi1 (st : List Value) (k : Int32 → List Value → Option xO) : Option xO := match st with
  | .int x :: r => k x r
  | _ => none
def xi2 (st : List Value) (k : Int32 → Int32 → List Value → Option xO) : Option xO := match st with
  | .int y :: .int x :: r => k x y r
  | _ => none
def xi3 (st : List Value) (k : Int64 → Int64 → List Value → Option xO) : Option xO := match st with
  | .long y :: .long x :: r => k x y r
  | _ => none
def xi4 (st : List Value) (k : Int64 → Int32 → List Value → Option xO) : Option xO := match st with
  | .int y :: .long x :: r => k x y r
  | _ => none
def xi5 (st : List Value) (k : Int64 → List Value → Option xO) : Option xO := match st with
  | .long x :: r => k x r
  | _ => none
def xi6 (st : List Value) (k : Int32 → Nat → List Value → Option xO) : Option xO := match st with
  | .int x :: .ref p :: r => k x p r
  | _ => none
def xi7 (st : List Value) (k : Int32 → Int32 → Nat → List Value → Option xO) : Option xO := match st with
  | .int x :: .int i :: .ref p :: r => k x i p r
  | _ => none
def xi8 (st : List Value) (k : Nat → List Value → Option xO) : Option xO := match st with
  | .ref p :: r => k p r
  | _ => none
def xi9 (st : List Value) (k : Int64 → Nat → List Value → Option xO) : Option xO := match st with
  | .long x :: .ref p :: r => k x p r
  | _ => none
def xil (v : Option Value) (k : Int32 → Option xO) : Option xO := match v with
  | some (.int x) => k x
  | _ => none
def xll (v : Option Value) (k : Int64 → Option xO) : Option xO := match v with
  | some (.long x) => k x
  | _ => none
def xrl (v : Option Value) (k : Nat → Option xO) : Option xO := match v with
  | some (.ref x) => k x
  | _ => none
/-- an array, of the world or never written: its length and contents -/
def xar (Ly : xLy) (s : xS) (z : Bool) (p : Nat) (k : Nat → (Nat → Int32) → Option xO) : Option xO := match Ly[p]? with
  | some (.inl b) => cond (b.1 == z) (k b.2 (s.1 p)) none
  | some (.inr _) => none
  | none => match xRA p with
    | some b => cond (b.1 == z) (k b.2.1 b.2.2) none
    | none => none
/-- an array of the world, to be written -/
def xaw (Ly : xLy) (z : Bool) (p : Nat) (k : Nat → Option xO) : Option xO := match Ly[p]? with
  | some (.inl b) => cond (b.1 == z) (k b.2) none
  | _ => none
def xob (Ly : xLy) (p ci b : Nat) (k : Nat ⊕ Nat → Option xO) : Option xO := match Ly[p]? with
  | some (.inr o) => cond (Nat.beq o.1 ci) (match o.2[b]? with | some f => k f | none => none) none
  | _ => none
def xck (c : Prop) [Decidable c] (k : Option xO) : Option xO := if c then none else k
def xsw (pc : Nat) (x : Int32) : Int → List Int → Nat → Nat
  | _, [], d => d
  | k, o :: os, d => if x = Int32.ofInt k then ((pc : Int) + o).toNat else xsw pc x (k + 1) os d
def xsl (pc : Nat) (x : Int32) : List (Int × Int) → Nat → Nat
  | [], d => d
  | o :: os, d => if x = Int32.ofInt o.1 then ((pc : Int) + o.2).toNat else xsl pc x os d
def xcat (st : List Value) : Nat := (st.map fun v => v.category).sum
/-- one instruction; z: the method answers a boolean -/
def xstep (Ly : xLy) (z : Bool) (pc : Nat) (e : xEnt) (lv : xLv) (st : List Value) (s : xS) : Option xO := match e.1 with
  | .iconst n => xnx (pc + 1) lv (.int (Int32.ofInt n) :: st) s
  | .bipush n => xnx (pc + 2) lv (.int (Int8.ofInt n).toInt32 :: st) s
  | .sipush n => xnx (pc + 3) lv (.int (Int16.ofInt n).toInt32 :: st) s
  | .lconst n => xnx (pc + 1) lv (.long (Int64.ofNat (n : Nat)) :: st) s
  | .iload_n k => xil (xl lv (k : Nat)) fun x => xnx (pc + 1) lv (.int x :: st) s
  | .iload k => xil (xl lv k) fun x => xnx (pc + 2) lv (.int x :: st) s
  | .lload_n k => xll (xl lv (k : Nat)) fun x => xnx (pc + 1) lv (.long x :: st) s
  | .lload k => xll (xl lv k) fun x => xnx (pc + 2) lv (.long x :: st) s
  | .aload_n k => xrl (xl lv (k : Nat)) fun x => xnx (pc + 1) lv (.ref x :: st) s
  | .aload k => xrl (xl lv k) fun x => xnx (pc + 2) lv (.ref x :: st) s
  | .istore_n k => xi1 st fun x r => xnx (pc + 1) (xput1 lv (k : Nat) (.int x)) r s
  | .istore k => xi1 st fun x r => xnx (pc + 2) (xput1 lv k (.int x)) r s
  | .lstore_n k => xi5 st fun x r => xnx (pc + 1) (xput2 lv (k : Nat) (.long x)) r s
  | .lstore k => xi5 st fun x r => xnx (pc + 2) (xput2 lv k (.long x)) r s
  | .astore_n k => xi8 st fun x r => xnx (pc + 1) (xput1 lv (k : Nat) (.ref x)) r s
  | .iinc k n => xil (xl lv k) fun x => xnx (pc + 3) (xput1 lv k (.int (x + Int32.ofInt n))) st s
  | .iadd => xi2 st fun x y r => xnx (pc + 1) lv (.int (x + y) :: r) s
  | .isub => xi2 st fun x y r => xnx (pc + 1) lv (.int (x - y) :: r) s
  | .imul => xi2 st fun x y r => xnx (pc + 1) lv (.int (x * y) :: r) s
  | .iand => xi2 st fun x y r => xnx (pc + 1) lv (.int (x &&& y) :: r) s
  | .ior => xi2 st fun x y r => xnx (pc + 1) lv (.int (x ||| y) :: r) s
  | .ixor => xi2 st fun x y r => xnx (pc + 1) lv (.int (x ^^^ y) :: r) s
  | .idiv => xi2 st fun x y r => xck (y = 0) (xnx (pc + 1) lv (.int (x / y) :: r) s)
  | .irem => xi2 st fun x y r => xck (y = 0) (xnx (pc + 1) lv (.int (x - x / y * y) :: r) s)
  | .ishl => xi2 st fun x y r => xnx (pc + 1) lv (.int (x <<< (y &&& 31)) :: r) s
  | .ishr => xi2 st fun x y r => xnx (pc + 1) lv (.int (x >>> (y &&& 31)) :: r) s
  | .iushr => xi2 st fun x y r => xnx (pc + 1) lv (.int (x.toUInt32 >>> (y.toUInt32 &&& Int32.toUInt32 31)).toInt32 :: r) s
  | .ladd => xi3 st fun x y r => xnx (pc + 1) lv (.long (x + y) :: r) s
  | .lsub => xi3 st fun x y r => xnx (pc + 1) lv (.long (x - y) :: r) s
  | .lmul => xi3 st fun x y r => xnx (pc + 1) lv (.long (x * y) :: r) s
  | .land => xi3 st fun x y r => xnx (pc + 1) lv (.long (x &&& y) :: r) s
  | .lor => xi3 st fun x y r => xnx (pc + 1) lv (.long (x ||| y) :: r) s
  | .ldiv => xi3 st fun x y r => xck (y = 0) (xnx (pc + 1) lv (.long (x / y) :: r) s)
  | .lrem => xi3 st fun x y r => xck (y = 0) (xnx (pc + 1) lv (.long (x - x / y * y) :: r) s)
  | .lcmp => xi3 st fun x y r => xnx (pc + 1) lv (.int (lg_cmp x y) :: r) s
  | .lshl => xi4 st fun x y r => xnx (pc + 1) lv (.long (x <<< (y.toInt64 &&& 63)) :: r) s
  | .lshr => xi4 st fun x y r => xnx (pc + 1) lv (.long (x >>> (y.toInt64 &&& 63)) :: r) s
  | .lushr => xi4 st fun x y r => xnx (pc + 1) lv (.long (x.toUInt64 >>> (y.toInt64.toUInt64 &&& Int64.toUInt64 63)).toInt64 :: r) s
  | .i2l => xi1 st fun x r => xnx (pc + 1) lv (.long x.toInt64 :: r) s
  | .i2b => xi1 st fun x r => xnx (pc + 1) lv (.int x.toInt8.toInt32 :: r) s
  | .i2s => xi1 st fun x r => xnx (pc + 1) lv (.int x.toInt16.toInt32 :: r) s
  | .i2c => xi1 st fun x r => xnx (pc + 1) lv (.int (x.toUInt32 % 65536).toInt32 :: r) s
  | .l2i => xi5 st fun x r => xnx (pc + 1) lv (.int x.toInt32 :: r) s
  | .dup => match st with
    | v :: r => cond (Nat.beq v.category 1) (xnx (pc + 1) lv (v :: v :: r) s) none
    | _ => none
  | .dup2 => match st with
    | v :: w :: r => cond (Nat.beq v.category 1 && Nat.beq w.category 1) (xnx (pc + 1) lv (v :: w :: v :: w :: r) s) none
    | _ => none
  | .goto _ => xnx e.2.2.1 lv st s
  | .ifCond c _ => xi1 st fun x r => match c with
    | .eq => if x = 0 then xnx e.2.2.1 lv r s else xnx (pc + 3) lv r s
    | .ne => if x = 0 then xnx (pc + 3) lv r s else xnx e.2.2.1 lv r s
    | .lt => if x < 0 then xnx e.2.2.1 lv r s else xnx (pc + 3) lv r s
    | .ge => if 0 ≤ x then xnx e.2.2.1 lv r s else xnx (pc + 3) lv r s
    | .gt => if 0 < x then xnx e.2.2.1 lv r s else xnx (pc + 3) lv r s
    | .le => if x ≤ 0 then xnx e.2.2.1 lv r s else xnx (pc + 3) lv r s
  | .if_icmp c _ => xi2 st fun x y r => match c with
    | .eq => if x = y then xnx e.2.2.1 lv r s else xnx (pc + 3) lv r s
    | .ne => if x = y then xnx (pc + 3) lv r s else xnx e.2.2.1 lv r s
    | .lt => if x < y then xnx e.2.2.1 lv r s else xnx (pc + 3) lv r s
    | .ge => if y ≤ x then xnx e.2.2.1 lv r s else xnx (pc + 3) lv r s
    | .gt => if y < x then xnx e.2.2.1 lv r s else xnx (pc + 3) lv r s
    | .le => if x ≤ y then xnx e.2.2.1 lv r s else xnx (pc + 3) lv r s
  | .tableswitch d lo _ os => xi1 st fun x r => xnx (xsw pc x lo os.toList ((pc : Int) + d).toNat) lv r s
  | .lookupswitch d ps => xi1 st fun x r => xnx (xsl pc x ps.toList ((pc : Int) + d).toNat) lv r s
  | .ldc _ => cond (Nat.beq e.2.2.2.1 1) (xnx (pc + 2) lv (.ref e.2.2.1 :: st) s) (match xK[e.2.2.1]? with | some v => xnx (pc + 2) lv (.int v :: st) s | none => none)
  | .ldc_w _ => match xK[e.2.2.1]? with | some v => xnx (pc + 3) lv (.int v :: st) s | none => none
  | .ldc2_w _ => match xKL[e.2.2.1]? with | some v => xnx (pc + 3) lv (.long v :: st) s | none => none
  | .getstatic _ => match xSt e.2.2.1 with | some v => xnx (pc + 3) lv (v :: st) s | none => none
  | .getfield _ => cond (Nat.beq e.2.2.1 99)
      (xi8 st fun p r => cond (Nat.beq p 1002 || Nat.beq p 1003) (cond (Nat.beq e.2.2.2.1 0) (xnx (pc + 3) lv (.ref (p + 2) :: r) s) (xnx (pc + 3) lv (.int 0 :: r) s)) none)
      (xi8 st fun p r => xob Ly p e.2.2.1 e.2.2.2.1 fun f => xnx (pc + 3) lv (xfa s p e.2.2.2.1 f :: r) s)
  | .putfield _ => match st with
    | .int x :: .ref p :: r => xob Ly p e.2.2.1 e.2.2.2.1 fun f => match f with
      | .inr 0 => xnx (pc + 3) lv r (xu s p e.2.2.2.1 x)
      | .inr 2 => if x = 0 ∨ x = 1 then xnx (pc + 3) lv r (xu s p e.2.2.2.1 x) else none
      | _ => none
    | .long x :: .ref p :: r => xob Ly p e.2.2.1 e.2.2.2.1 fun f => match f with
      | .inr 1 => xnx (pc + 3) lv r (xul s p e.2.2.2.1 x)
      | _ => none
    | _ => none
  | .iaload => xi6 st fun i p r => xar Ly s false p fun n f => xck (i < 0 ∨ n ≤ i.toNatClampNeg) (xnx (pc + 1) lv (.int (f i.toNatClampNeg) :: r) s)
  | .baload => xi6 st fun i p r => xar Ly s true p fun n f => xck (i < 0 ∨ n ≤ i.toNatClampNeg) (xnx (pc + 1) lv (.int (f i.toNatClampNeg) :: r) s)
  | .iastore => xi7 st fun x i p r => xaw Ly false p fun n => xck (i < 0 ∨ n ≤ i.toNatClampNeg) (xnx (pc + 1) lv r (xu s p i.toNatClampNeg x))
  | .bastore => xi7 st fun x i p r => xaw Ly true p fun n => xck (i < 0 ∨ n ≤ i.toNatClampNeg) (xnx (pc + 1) lv r (xu s p i.toNatClampNeg (vp_nar .boolean x)))
  | .arraylength => xi8 st fun p r => match Ly[p]? with
    | some (.inl b) => xnx (pc + 1) lv (.int (Int32.ofNat b.2) :: r) s
    | some (.inr _) => none
    | none => match xRA p with
      | some b => xnx (pc + 1) lv (.int (Int32.ofNat b.2.1) :: r) s
      | none => none
  | .invokestatic _ => cond (Nat.beq e.2.2.1 902)
      (match st with
        | .int n :: .int j :: .ref q :: .int i :: .ref p :: r => xaw Ly false p fun np => xaw Ly false q fun nq =>
            xck (i < 0 ∨ j < 0 ∨ n < 0 ∨ np < i.toNatClampNeg + n.toNatClampNeg ∨ nq < j.toNatClampNeg + n.toNatClampNeg ∨ 8 < xcat r) (xnx (pc + 3) lv r (xcp s p i.toNatClampNeg q j.toNatClampNeg n.toNatClampNeg))
        | _ => none)
      (cond (Nat.ble e.2.2.2.1 st.length && Nat.ble (xcat (st.drop e.2.2.2.1)) 8) (some (.inr (.inl (e.2.2.1, (st.take e.2.2.2.1).reverse, st.drop e.2.2.2.1)))) none)
  | .invokevirtual _ => match st.drop e.2.2.2.1 with
    | .ref p :: r => cond (Nat.ble (xcat r) 8) (some (.inr (.inl (e.2.2.1, .ref p :: (st.take e.2.2.2.1).reverse, r)))) none
    | _ => none
  | .return_ => match st with
    | [] => some (.inr (.inr none))
    | _ => none
  | .ireturn => match st with
    | [.int v] => if z = true ∧ ¬ v = 0 ∧ ¬ v = 1 then none else some (.inr (.inr (some (.int v))))
    | _ => none
  | .lreturn => match st with
    | [.long v] => some (.inr (.inr (some (.long v))))
    | _ => none
  | .areturn => match st with
    | [.ref v] => some (.inr (.inr (some (.ref v))))
    | _ => none
  | _ => none
end
section
abbrev xRec : Type := MethodName × ByteArray × Nat × Option FieldType × Nat × Bool × Nat × Nat × Nat × List (Nat × xEnt)
def xry (R : xRec) : MethodName := R.1
def xrc (R : xRec) : ByteArray := R.2.1
def xrL (R : xRec) : Nat := R.2.2.1
def xrt (R : xRec) : Option FieldType := R.2.2.2.1
def xro (R : xRec) : Nat := R.2.2.2.2.1
def xrv (R : xRec) : Bool := R.2.2.2.2.2.1
def xrn (R : xRec) : Nat := R.2.2.2.2.2.2.1
def xrf (R : xRec) : Nat := R.2.2.2.2.2.2.2.1
def xrk (R : xRec) : Nat := R.2.2.2.2.2.2.2.2.1
def xri (R : xRec) : List (Nat × xEnt) := R.2.2.2.2.2.2.2.2.2
def xrz (R : xRec) : Bool := match xrt R with
  | some .int => false
  | _ => true
def xrecv (Ly : xLy) (R : xRec) (as : List Value) : Bool := cond (xrv R) (match as with
  | .ref p :: _ => cond (Nat.beq (xro R) 12) (Nat.beq p 1002 || Nat.beq p 1003) (match Ly[p]? with
    | some (.inr o) => Nat.beq o.1 (xro R)
    | _ => false)
  | _ => false) true
def xisr (i : Instr) : Bool := match i with
  | .return_ => true
  | .ireturn => true
  | .lreturn => true
  | .areturn => true
  | _ => false
def xisc (i : Instr) : Bool := match i with
  | .invokestatic _ => true
  | .invokevirtual _ => true
  | _ => false
/-- n steps, calls counted in -/
def xexec (Ms : List xRec) (Ly : xLy) : Nat → xRec → xF → Option (Option Value × xS)
  | 0, _, _ => none
  | n + 1, R, f => match xlk (xri R) f.1 with
    | none => none
    | some e => match xstep Ly (xrz R) f.1 e (xmask e.2.2.2.2 f.2.1) f.2.2.1 f.2.2.2 with
      | none => none
      | some (.inl g) => xexec Ms Ly n R g
      | some (.inr (.inr r)) => cond (xisr e.1) (some (r, f.2.2.2)) none
      | some (.inr (.inl c)) => match Ms[c.1]? with
        | none => none
        | some R' => cond (xisc e.1 && xrecv Ly R' c.2.1 && Nat.ble (lg_sl c.2.1).length (xrL R')) (match xexec Ms Ly n R' (0, lv_args 0 c.2.1, [], f.2.2.2) with
          | none => none
          | some q => xexec Ms Ly n R (f.1 + 3, xmask e.2.2.2.2 f.2.1, q.1.toList ++ c.2.2, q.2)) none
/-! ===== the machine's side ===== -/
def xcv (ad : Nat → Nat) (v : Value) : Value := match v with
  | .ref p => .ref (ad p)
  | v => v
def xcl (ad : Nat → Nat) (lv : xLv) : xLv := lv.map fun q => (q.1, xcv ad q.2)
def xfc (ad : Nat → Nat) (s : xS) (p k : Nat) (f : Nat ⊕ Nat) : Value := xcv ad (xfa s p k f)
def xce (cI cZ : ClassId) (ad : Nat → Nat) (s : xS) (p : Nat) (sh : xSh) : va_E := match sh with
  | .inl b => .inl (cond b.1 cZ cI, b.2, .inl (s.1 p))
  | .inr o => .inr (o.1, o.2.mapIdx (fun k f => xfc ad s p k f))
def xw (cI cZ : ClassId) (ad : Nat → Nat) (Ly : xLy) (s : xS) : va_W := Ly.mapIdx fun p sh => (ad p, xce cI cZ ad s p sh)
def xty (cI cZ : ClassId) : List (ClassId × FieldType) := [(cI, .int), (cZ, .boolean)]
theorem xcv_cat (ad : Nat → Nat) (v : Value) : (xcv ad v).category = v.category := by cases v <;> rfl
theorem xcat_map (ad : Nat → Nat) (st : List Value) : ((st.map (xcv ad)).map fun v => v.category).sum = xcat st := by
  unfold xcat
  rw [List.map_map]
  congr 1
  exact List.map_congr_left fun v _ => xcv_cat ad v
theorem xw_at {cI cZ : ClassId} {ad : Nat → Nat} {Ly : xLy} {s : xS} {p : Nat} {sh : xSh} (h : Ly[p]? = some sh) : (xw cI cZ ad Ly s)[p]? = some (ad p, xce cI cZ ad s p sh) := by
  unfold xw
  rw [List.getElem?_mapIdx, h]
  rfl
theorem xce_ne {cI cZ : ClassId} {ad : Nat → Nat} {s : xS} {p i : Nat} {sh : xSh} {g : Nat → Int32} {g2 : Nat → Int64} (h : i ≠ p) : xce cI cZ ad (va_up s.1 p g, va_up s.2 p g2) i sh = xce cI cZ ad s i sh := by
  cases sh with
  | inl b => simp only [xce, va_up_ne _ _ h]
  | inr o =>
    simp only [xce, xfc]
    congr 2
    congr 1
    funext k f
    rcases f with q | t
    · rfl
    · simp only [xfa, va_up_ne _ _ h]
theorem xup_self {α : Type} (f : Nat → α) (p : Nat) : va_up f p (f p) = f := by
  funext j
  by_cases h : j = p
  · subst h; rw [va_up_self]
  · rw [va_up_ne _ _ h]
theorem xw_set {cI cZ : ClassId} {ad : Nat → Nat} {Ly : xLy} {s : xS} {p : Nat} {sh : xSh} {g : Nat → Int32} {g2 : Nat → Int64} {e : va_E} (h : Ly[p]? = some sh) (he : e = xce cI cZ ad (va_up s.1 p g, va_up s.2 p g2) p sh) : (xw cI cZ ad Ly s).set p (ad p, e) = xw cI cZ ad Ly (va_up s.1 p g, va_up s.2 p g2) := by
  apply List.ext_getElem?
  intro i
  rw [List.getElem?_set]
  by_cases hi : p = i
  · subst hi
    have hlt : p < (xw cI cZ ad Ly s).length := by
      have := (List.getElem?_eq_some_iff.mp h).1
      simpa [xw] using this
    rw [if_pos rfl, if_pos hlt, xw_at h, he]
  · rw [if_neg hi]
    unfold xw
    rw [List.getElem?_mapIdx, List.getElem?_mapIdx]
    cases hL : Ly[i]? with
    | none => rfl
    | some sh2 =>
      simp only [Option.map_some]
      rw [xce_ne (Ne.symm hi)]
theorem xw_setA {cI cZ : ClassId} {ad : Nat → Nat} {Ly : xLy} {s : xS} {p : Nat} {b : Bool × Nat} {g : Nat → Int32} (h : Ly[p]? = some (.inl b)) : (xw cI cZ ad Ly s).set p (ad p, .inl (cond b.1 cZ cI, b.2, .inl g)) = xw cI cZ ad Ly (va_up s.1 p g, s.2) := by
  have := xw_set (cI := cI) (cZ := cZ) (ad := ad) (s := s) (g := g) (g2 := s.2 p) (e := .inl (cond b.1 cZ cI, b.2, .inl g)) h (by simp only [xce, va_up_self])
  rw [this, xup_self]
theorem xw_setI {cI cZ : ClassId} {ad : Nat → Nat} {Ly : xLy} {s : xS} {p k : Nat} {o : Nat × List (Nat ⊕ Nat)} {x : Int32} (h : Ly[p]? = some (.inr o)) {t : Nat} (hk : o.2[k]? = some (.inr t)) (ht : t ≠ 1) : (xw cI cZ ad Ly s).set p (ad p, .inr (o.1, (o.2.mapIdx (fun k f => xfc ad s p k f)).set k (.int x))) = xw cI cZ ad Ly (xu s p k x) := by
  have := xw_set (cI := cI) (cZ := cZ) (ad := ad) (s := s) (g := upd (s.1 p) k x) (g2 := s.2 p) (e := .inr (o.1, (o.2.mapIdx (fun k f => xfc ad s p k f)).set k (.int x))) h (by
    simp only [xce]
    congr 2
    apply List.ext_getElem?
    intro i
    rw [List.getElem?_set]
    by_cases hi : k = i
    · subst hi
      have hlt : k < (o.2.mapIdx (fun k f => xfc ad s p k f)).length := by
        have := (List.getElem?_eq_some_iff.mp hk).1
        simpa using this
      rw [if_pos rfl, if_pos hlt, List.getElem?_mapIdx, hk]
      simp only [Option.map_some, xfc, xfa, va_up_self]
      match t, ht with
      | 0, _ => simp [xcv, upd]
      | t + 2, _ => simp [xcv, upd]
    · rw [if_neg hi, List.getElem?_mapIdx, List.getElem?_mapIdx]
      cases ho : o.2[i]? with
      | none => rfl
      | some f =>
        simp only [Option.map_some, xfc]
        rcases f with q | t
        · rfl
        · simp only [xfa, va_up_self]
          have hn : i ≠ k := Ne.symm hi
          simp [upd, hn])
  rw [this, xup_self]
  rfl
theorem xw_setL {cI cZ : ClassId} {ad : Nat → Nat} {Ly : xLy} {s : xS} {p k : Nat} {o : Nat × List (Nat ⊕ Nat)} {x : Int64} (h : Ly[p]? = some (.inr o)) (hk : o.2[k]? = some (.inr 1)) : (xw cI cZ ad Ly s).set p (ad p, .inr (o.1, (o.2.mapIdx (fun k f => xfc ad s p k f)).set k (.long x))) = xw cI cZ ad Ly (xul s p k x) := by
  have := xw_set (cI := cI) (cZ := cZ) (ad := ad) (s := s) (g := s.1 p) (g2 := vp_updL (s.2 p) k x) (e := .inr (o.1, (o.2.mapIdx (fun k f => xfc ad s p k f)).set k (.long x))) h (by
    simp only [xce]
    congr 2
    apply List.ext_getElem?
    intro i
    rw [List.getElem?_set]
    by_cases hi : k = i
    · subst hi
      have hlt : k < (o.2.mapIdx (fun k f => xfc ad s p k f)).length := by
        have := (List.getElem?_eq_some_iff.mp hk).1
        simpa using this
      rw [if_pos rfl, if_pos hlt, List.getElem?_mapIdx, hk]
      simp [xfc, xfa, va_up_self, xcv, vp_updL]
    · rw [if_neg hi, List.getElem?_mapIdx, List.getElem?_mapIdx]
      cases ho : o.2[i]? with
      | none => rfl
      | some f =>
        simp only [Option.map_some, xfc]
        rcases f with q | t
        · rfl
        · simp only [xfa, va_up_self]
          have hn : i ≠ k := Ne.symm hi
          simp [vp_updL, hn])
  rw [this, xup_self]
  rfl
/-- the addresses stay -/
theorem xw_ad {cI cZ : ClassId} {ad : Nat → Nat} {Ly : xLy} {s s' : xS} {A : Nat → Prop} (h : va_D A (xw cI cZ ad Ly s)) : va_D A (xw cI cZ ad Ly s') := by
  have key : ∀ (i : Nat) (q : Nat × va_E), (xw cI cZ ad Ly s')[i]? = some q → ∃ q', (xw cI cZ ad Ly s)[i]? = some q' ∧ q'.1 = q.1 := by
    intro i q hq
    unfold xw at hq ⊢
    rw [List.getElem?_mapIdx] at hq ⊢
    cases hL : Ly[i]? with
    | none => rw [hL] at hq; cases hq
    | some sh =>
      rw [hL] at hq
      cases hq
      exact ⟨_, rfl, rfl⟩
  refine ⟨fun i j p q hi hj e => ?_, fun k q hk => ?_⟩
  · obtain ⟨p', hp, ep⟩ := key i p hi
    obtain ⟨q', hq, eq⟩ := key j q hj
    exact h.1 i j p' q' hp hq (by rw [ep, eq]; exact e)
  · obtain ⟨q', hq, eq⟩ := key k q hk
    rw [← eq]
    exact h.2 k q' hq
theorem xw_A {cI cZ : ClassId} {ad : Nat → Nat} {Ly : xLy} {s s' : xS} {sz q : Nat} (h : va_A (xw cI cZ ad Ly s) sz q) : va_A (xw cI cZ ad Ly s') sz q := by
  rcases h with ⟨k, e, hk⟩ | h
  · refine Or.inl ⟨k, ?_⟩
    unfold xw at hk ⊢
    rw [List.getElem?_mapIdx] at hk
    cases hL : Ly[k]? with
    | none => rw [hL] at hk; cases hk
    | some sh =>
      rw [hL] at hk
      have e1 : ad k = q := by simp at hk; exact hk.1
      refine ⟨xce cI cZ ad s' k sh, ?_⟩
      rw [List.getElem?_mapIdx, hL, ← e1]
      rfl
  · exact Or.inr h
/-! locals -/
theorem xl_mem : ∀ {lv : xLv} {k : Nat} {v : Value}, xl lv k = some v → (k, v) ∈ lv
  | [], _, _, h => by cases h
  | q :: r, k, v, h => by
    unfold xl at h
    cases hb : Nat.beq q.1 k with
    | true =>
      rw [hb] at h
      have e := Nat.eq_of_beq_eq_true hb
      cases h
      subst e
      exact List.mem_cons_self
    | false =>
      rw [hb] at h
      exact List.mem_cons_of_mem _ (xl_mem h)
theorem xl_at {ad : Nat → Nat} {ls : Array Slot} {nL : Nat} {lv : xLv} (hl : lv_has ls nL (xcl ad lv)) {k : Nat} {v : Value} (h : xl lv k = some v) : ls[k]? = some (.val (xcv ad v)) :=
  hl.2.2 (k, xcv ad v) (List.mem_map.mpr ⟨(k, v), xl_mem h, rfl⟩)
theorem lv_mono {ls : Array Slot} {nL : Nat} {l l' : xLv} (h : lv_has ls nL l) (hs : ∀ q ∈ l', q ∈ l) : lv_has ls nL l' := ⟨h.1, h.2.1, fun q hq => h.2.2 q (hs q hq)⟩
theorem xins_mem {k : Nat} {v : Value} : ∀ {lv : xLv} {q : Nat × Value}, q ∈ xins k v lv → q = (k, v) ∨ q ∈ lv
  | [], q, h => by
    rcases List.mem_cons.mp h with h | h
    · exact Or.inl h
    · cases h
  | x :: r, q, h => by
    unfold xins at h
    cases hb : Nat.ble k x.1 with
    | true =>
      rw [hb] at h
      rcases List.mem_cons.mp h with h | h
      · exact Or.inl h
      · exact Or.inr h
    | false =>
      rw [hb] at h
      rcases List.mem_cons.mp h with h | h
      · exact Or.inr (by rw [h]; exact List.mem_cons_self)
      · rcases xins_mem h with h | h
        · exact Or.inl h
        · exact Or.inr (List.mem_cons_of_mem _ h)
theorem xput1_has {ad : Nat → Nat} {ls : Array Slot} {nL : Nat} {lv : xLv} {i : Nat} {v : Value} (h : lv_has ls nL ((i, xcv ad v) :: (xcl ad lv).filter (fun q => !(q.1 == i) && !(q.1 + 1 == i && q.2.category == 2)))) : lv_has ls nL (xcl ad (xput1 lv i v)) := by
  refine lv_mono h fun q hq => ?_
  obtain ⟨x, hx, rfl⟩ := List.mem_map.mp hq
  rcases xins_mem hx with e | e
  · rw [e]; exact List.mem_cons_self
  · refine List.mem_cons_of_mem _ ?_
    obtain ⟨h1, h2⟩ := List.mem_filter.mp e
    refine List.mem_filter.mpr ⟨List.mem_map.mpr ⟨x, h1, rfl⟩, ?_⟩
    rw [xcv_cat]
    exact h2
theorem xput2_has {ad : Nat → Nat} {ls : Array Slot} {nL : Nat} {lv : xLv} {i : Nat} {v : Value} (h : lv_has ls nL ((i, xcv ad v) :: (xcl ad lv).filter (fun q => !(q.1 == i) && (!(q.1 == i + 1) && !(q.1 + 1 == i && q.2.category == 2))))) : lv_has ls nL (xcl ad (xput2 lv i v)) := by
  refine lv_mono h fun q hq => ?_
  obtain ⟨x, hx, rfl⟩ := List.mem_map.mp hq
  rcases xins_mem hx with e | e
  · rw [e]; exact List.mem_cons_self
  · refine List.mem_cons_of_mem _ ?_
    obtain ⟨h1, h2⟩ := List.mem_filter.mp e
    refine List.mem_filter.mpr ⟨List.mem_map.mpr ⟨x, h1, rfl⟩, ?_⟩
    rw [xcv_cat]
    exact h2
theorem xmask_has {ad : Nat → Nat} {ls : Array Slot} {nL : Nat} {lv : xLv} {m : Nat} (h : lv_has ls nL (xcl ad lv)) : lv_has ls nL (xcl ad (xmask m lv)) := by
  refine lv_mono h fun q hq => ?_
  obtain ⟨x, hx, rfl⟩ := List.mem_map.mp hq
  refine List.mem_map.mpr ⟨x, ?_, rfl⟩
  unfold xmask at hx
  cases hb : Nat.beq m 0 with
  | true => rw [hb] at hx; exact hx
  | false => rw [hb] at hx; exact (List.mem_filter.mp hx).1
end
section
/-! ===== what stands outside the world, and is never written ===== -/
def xEn (ad : Nat → Nat) (A : Nat → Prop) (U : State) (H : Heap) : Prop :=
  va_Z "FounderSleeps" "TOLLS" "[I" (.ref (ad 1000)) A U H ∧ va_T .int (ad 1000) 4 (fun j => .int (([1, 4, 3, 1] : List Int32).getD j 0)) A U H ∧
  va_Z "FounderSleeps" "LOUDNESS" "[I" (.ref (ad 1001)) A U H ∧ va_T .int (ad 1001) 4 (fun j => .int (([3, 6, 9, 14] : List Int32).getD j 0)) A U H ∧
  va_Z "java/lang/String" "COMPACT_STRINGS" "Z" (.int 1) A U H ∧
  vk_S 2 [4, 4] [[46, 104, 102, 98], [119, 99, 107, 110]] (fun i => ad (1002 + i)) (fun i => ad (1004 + i)) A U H ∧
  vk_R "FounderSleeps$Town" xsTown ".hfb" (ad 1002) U ∧ vk_R "FounderSleeps$Deeds" xsDeeds "wckn" (ad 1003) U
theorem xEn.kept {ad : Nat → Nat} {A : Nat → Prop} {U : State} {H H1 : Heap} (h : xEn ad A U H) (hq : ∀ a : Nat, a < H.size → ¬ A a → H1[a]? = H[a]?) : xEn ad A U H1 :=
  ⟨h.1.kept hq, h.2.1.kept hq, h.2.2.1.kept hq, h.2.2.2.1.kept hq, h.2.2.2.2.1.kept hq, h.2.2.2.2.2.1.kept hq, h.2.2.2.2.2.2⟩
theorem xEn.narrow {ad : Nat → Nat} {A B : Nat → Prop} {U : State} {H : Heap} (h : xEn ad A U H) (hAB : ∀ q, B q → A q) : xEn ad B U H :=
  ⟨h.1.narrow hAB, h.2.1.narrow hAB, h.2.2.1.narrow hAB, h.2.2.2.1.narrow hAB, h.2.2.2.2.1.narrow hAB, h.2.2.2.2.2.1.narrow hAB, h.2.2.2.2.2.2⟩
theorem xEn.warm {ad : Nat → Nat} {A : Nat → Prop} {s U : State} {H : Heap} (hW : s.WarmedH U.vm) (h : xEn ad A s H) : xEn ad A U H :=
  ⟨va_Z.moved hW.alike h.1, va_T.moved hW.alike h.2.1, va_Z.moved hW.alike h.2.2.1, va_T.moved hW.alike h.2.2.2.1, va_Z.moved hW.alike h.2.2.2.2.1, vk_S.moved hW.alike h.2.2.2.2.2.1, vk_R.warm hW h.2.2.2.2.2.2.1, vk_R.warm hW h.2.2.2.2.2.2.2⟩
theorem xEn.same {ad : Nat → Nat} {A : Nat → Prop} {u U : State} {H : Heap} (hv : U.vm = u.vm) (ha : u.vm.Alike U.vm) (h : xEn ad A u H) : xEn ad A U H :=
  ⟨va_Z.moved ha h.1, va_T.moved ha h.2.1, va_Z.moved ha h.2.2.1, va_T.moved ha h.2.2.2.1, va_Z.moved ha h.2.2.2.2.1, vk_S.moved ha h.2.2.2.2.2.1, vk_R.same hv h.2.2.2.2.2.2.1, vk_R.same hv h.2.2.2.2.2.2.2⟩
/-! ===== what a table's entry must keep ===== -/
def xlen (i : Instr) : Nat := match i with
  | .bipush _ => 2
  | .iload _ => 2
  | .lload _ => 2
  | .aload _ => 2
  | .istore _ => 2
  | .lstore _ => 2
  | .ldc _ => 2
  | .sipush _ => 3
  | .iinc _ _ => 3
  | .goto _ => 3
  | .ifCond _ _ => 3
  | .if_icmp _ _ => 3
  | .ldc_w _ => 3
  | .ldc2_w _ => 3
  | .getstatic _ => 3
  | .getfield _ => 3
  | .putfield _ => 3
  | .invokestatic _ => 3
  | .invokevirtual _ => 3
  | _ => 1
def xcallok (Ms : List xRec) (R : xRec) (v : Bool) (a b : Nat) : Bool := match Ms[a]? with
  | some R' => (xrv R' == v) && Nat.beq (xrn R') b && Nat.ble (xrf R' + 1) (xrf R) && Nat.ble (8 + (xrL R' + 11) + xrk R') (xrk R)
  | none => false
def xlb (Ms : List xRec) (R : xRec) (pc : Nat) (e : xEnt) : Bool := match e.1 with
  | .goto off => decide ((pc : Int) + off = (e.2.2.1 : Int))
  | .ifCond _ off => decide ((pc : Int) + off = (e.2.2.1 : Int))
  | .if_icmp _ off => decide ((pc : Int) + off = (e.2.2.1 : Int))
  | .iload_n _ => true
  | .istore_n k => Nat.blt (k : Nat) (xrL R)
  | .istore k => Nat.blt k (xrL R)
  | .iinc k _ => Nat.blt k (xrL R)
  | .lstore_n k => Nat.blt ((k : Nat) + 1) (xrL R)
  | .lstore k => Nat.blt (k + 1) (xrL R)
  | .astore_n k => Nat.blt (k : Nat) (xrL R)
  | .getfield i => cond (Nat.beq e.2.2.1 99) (decide ((xro R, i, e.2.2.1, e.2.2.2.1) ∈ xLs8)) (decide ((xro R, i, e.2.2.1, e.2.2.2.1) ∈ xLs0))
  | .putfield i => decide ((xro R, i, e.2.2.1, e.2.2.2.1) ∈ xLs1)
  | .invokevirtual i => decide ((xro R, i, e.2.2.1, e.2.2.2.1) ∈ xLs2) && xcallok Ms R true e.2.2.1 e.2.2.2.1
  | .invokestatic i => cond (Nat.beq e.2.2.1 998) true <| decide ((xro R, i, e.2.2.1, e.2.2.2.1) ∈ xLs3) && cond (Nat.beq e.2.2.1 902) (Nat.ble 1 (xrf R) && Nat.ble 26 (xrk R)) (xcallok Ms R false e.2.2.1 e.2.2.2.1)
  | .ldc i => cond (Nat.beq e.2.2.2.1 1) (decide ((xro R, i, e.2.2.1, e.2.2.2.1) ∈ xLs5)) (decide ((xro R, i, e.2.2.1, e.2.2.2.1) ∈ xLs4))
  | .ldc_w i => decide ((xro R, i, e.2.2.1, e.2.2.2.1) ∈ xLs4)
  | .ldc2_w i => decide ((xro R, i, e.2.2.1, e.2.2.2.1) ∈ xLs6)
  | .getstatic i => decide ((xro R, i, e.2.2.1, e.2.2.2.1) ∈ xLs7)
  | .return_ => decide (xrt R = none)
  | .ireturn => decide (xrt R = some .int) || decide (xrt R = some .boolean) || decide (xrt R = some .byte)
  | .lreturn => decide (xrt R = some .long)
  | .areturn => match xrt R with
    | some (.object _) => true
    | _ => false
  | .tableswitch d lo hi os => decide (hi + 1 = lo + os.toList.length) && decide (0 ≤ lo) && decide (lo + os.toList.length ≤ 1000) && decide (0 ≤ (pc : Int) + d) && os.toList.all (fun o => decide (0 ≤ (pc : Int) + o))
  | .lookupswitch d ps => (ps.toList.zip (ps.toList.drop 1)).all (fun (a, next) => a.1 < next.1) && decide (0 ≤ (pc : Int) + d) && ps.toList.all (fun o => decide (0 ≤ (pc : Int) + o.2) && decide (-1000 ≤ o.1) && decide (o.1 ≤ 1000))
  | _ => true
def xsx (i : Instr) : Bool := match i with
  | .tableswitch .. => true
  | .lookupswitch .. => true
  | _ => false
def xeb (Ms : List xRec) (R : xRec) (q : Nat × xEnt) : Bool := decide (decode (xrc R) q.1 = .ok (q.2.1, q.2.2.1)) && (xsx q.2.1 || Nat.beq q.2.2.1 (xlen q.2.1)) && xlb Ms R q.1 q.2
def xcn (o : Nat) : String := xCN.getD o ""
/-- the links: what a word of the tables says of each -/
def xLG (Ms : List xRec) : Prop :=
  (∀ q ∈ xLs0, ∃ C T N, vwCl[q.2.2.1]? = some (C, T, N) ∧ q.2.2.2 < N ∧ Cond.fieldLink (xcn q.1) q.2.1 (T q.2.2.2).1 (T q.2.2.2).2.1 (T q.2.2.2).2.2.1 ∈ xTg) ∧
  (∀ q ∈ xLs1, ∃ C T N, vwCl[q.2.2.1]? = some (C, T, N) ∧ q.2.2.2 < N ∧ Cond.fieldLink (xcn q.1) q.2.1 (T q.2.2.2).1 (T q.2.2.2).2.1 (T q.2.2.2).2.2.1 ∈ xTg ∧ (T q.2.2.2).2.2.2 = false) ∧
  (∀ q ∈ xLs2, ∀ R', Ms[q.2.2.1]? = some R' → Cond.methodLink (xcn q.1) q.2.1 (xry R') ∈ xTg) ∧
  (∀ q ∈ xLs3, (q.2.2.1 = 902 → Cond.methodLink (xcn q.1) q.2.1 arraycopyName ∈ xTg) ∧ ∀ R', Ms[q.2.2.1]? = some R' → Cond.methodLink (xcn q.1) q.2.1 (xry R') ∈ xTg) ∧
  (∀ q ∈ xLs4, ∀ v, xK[q.2.2.1]? = some v → Cond.constant (xcn q.1) q.2.1 v ∈ xTg) ∧
  (∀ q ∈ xLs5, q = (7, xsTown, 1002, 1) ∨ q = (0, xsDeeds, 1003, 1)) ∧
  (∀ q ∈ xLs6, ∀ v, xKL[q.2.2.1]? = some v → Cond.constantLong (xcn q.1) q.2.1 v ∈ xTg) ∧
  (∀ q ∈ xLs7, (q.2.2 = (0, 1) ∧ Cond.fieldLinkNest (xcn q.1) q.2.1 "FounderSleeps" "TOLLS" "[I" "FounderSleeps" ∈ xTg) ∨ (q.2.2 = (1, 1) ∧ Cond.fieldLinkNest (xcn q.1) q.2.1 "FounderSleeps" "LOUDNESS" "[I" "FounderSleeps" ∈ xTg) ∨ (q.2.2 = (1, 0) ∧ Cond.fieldLink (xcn q.1) q.2.1 "FounderSleeps" "LOUDNESS" "[I" ∈ xTg) ∨ (q.2.2 = (2, 0) ∧ Cond.fieldLink (xcn q.1) q.2.1 "java/lang/String" "COMPACT_STRINGS" "Z" ∈ xTg)) ∧
  (∀ q ∈ xLs8, (q.2.2.2 = 0 → Cond.fieldLink (xcn q.1) q.2.1 "java/lang/String" "value" "[B" ∈ xTg) ∧ (q.2.2.2 ≠ 0 → Cond.fieldLink (xcn q.1) q.2.1 "java/lang/String" "coder" "B" ∈ xTg)) ∧
  Cond.native arraycopyName ∈ xTg ∧ Cond.static arraycopyName ∈ xTg ∧ Cond.initialized "java/lang/System" ∈ xTg
def xCF : Prop := ∀ (ci : Nat) (C : String) (T : u_T) (N : Nat), vwCl[ci]? = some (C, T, N) → (∀ w ∈ u_ws C T N, w ∈ xTg) ∧ ∃ ty0 : Nat → FieldType, (∀ k, k < N → parseFieldDescriptor (T k).2.2.1 = some (ty0 k)) ∧ ∀ a, a < N → ∀ b, b < N → a ≠ b → (T a).2.1 ≠ (T b).2.1
def xtyp (t : Nat) : FieldType := match t with
  | 0 => .int
  | 1 => .long
  | _ => .boolean
/-- the layout's numbers have the types of their fields -/
def xLyk (Ly : xLy) : Prop := ∀ (p : Nat) (o : Nat × List (Nat ⊕ Nat)), Ly[p]? = some (.inr o) → ∀ (C : String) (T : u_T) (N : Nat), vwCl[o.1]? = some (C, T, N) → ∀ (k t : Nat), o.2[k]? = some (.inr t) → parseFieldDescriptor (T k).2.2.1 = some (xtyp t)
/-! ===== taking a step apart ===== -/
theorem xi1_some {st : List Value} {k : Int32 → List Value → Option xO} {o : xO} (h : xi1 st k = some o) : ∃ x r, st = .int x :: r ∧ k x r = some o := by
  unfold xi1 at h; split at h
  · exact ⟨_, _, rfl, h⟩
  · cases h
theorem xi2_some {st : List Value} {k : Int32 → Int32 → List Value → Option xO} {o : xO} (h : xi2 st k = some o) : ∃ x y r, st = .int y :: .int x :: r ∧ k x y r = some o := by
  unfold xi2 at h; split at h
  · exact ⟨_, _, _, rfl, h⟩
  · cases h
theorem xi3_some {st : List Value} {k : Int64 → Int64 → List Value → Option xO} {o : xO} (h : xi3 st k = some o) : ∃ x y r, st = .long y :: .long x :: r ∧ k x y r = some o := by
  unfold xi3 at h; split at h
  · exact ⟨_, _, _, rfl, h⟩
  · cases h
theorem xi4_some {st : List Value} {k : Int64 → Int32 → List Value → Option xO} {o : xO} (h : xi4 st k = some o) : ∃ x y r, st = .int y :: .long x :: r ∧ k x y r = some o := by
  unfold xi4 at h; split at h
  · exact ⟨_, _, _, rfl, h⟩
  · cases h
theorem xi5_some {st : List Value} {k : Int64 → List Value → Option xO} {o : xO} (h : xi5 st k = some o) : ∃ x r, st = .long x :: r ∧ k x r = some o := by
  unfold xi5 at h; split at h
  · exact ⟨_, _, rfl, h⟩
  · cases h
theorem xi6_some {st : List Value} {k : Int32 → Nat → List Value → Option xO} {o : xO} (h : xi6 st k = some o) : ∃ x p r, st = .int x :: .ref p :: r ∧ k x p r = some o := by
  unfold xi6 at h; split at h
  · exact ⟨_, _, _, rfl, h⟩
  · cases h
theorem xi7_some {st : List Value} {k : Int32 → Int32 → Nat → List Value → Option xO} {o : xO} (h : xi7 st k = some o) : ∃ x i p r, st = .int x :: .int i :: .ref p :: r ∧ k x i p r = some o := by
  unfold xi7 at h; split at h
  · exact ⟨_, _, _, _, rfl, h⟩
  · cases h
theorem xi8_some {st : List Value} {k : Nat → List Value → Option xO} {o : xO} (h : xi8 st k = some o) : ∃ p r, st = .ref p :: r ∧ k p r = some o := by
  unfold xi8 at h; split at h
  · exact ⟨_, _, rfl, h⟩
  · cases h
theorem xil_some {v : Option Value} {k : Int32 → Option xO} {o : xO} (h : xil v k = some o) : ∃ x, v = some (.int x) ∧ k x = some o := by
  unfold xil at h; split at h
  · exact ⟨_, rfl, h⟩
  · cases h
theorem xll_some {v : Option Value} {k : Int64 → Option xO} {o : xO} (h : xll v k = some o) : ∃ x, v = some (.long x) ∧ k x = some o := by
  unfold xll at h; split at h
  · exact ⟨_, rfl, h⟩
  · cases h
theorem xrl_some {v : Option Value} {k : Nat → Option xO} {o : xO} (h : xrl v k = some o) : ∃ x, v = some (.ref x) ∧ k x = some o := by
  unfold xrl at h; split at h
  · exact ⟨_, rfl, h⟩
  · cases h
theorem xck_some {c : Prop} {d : Decidable c} {k : Option xO} {o : xO} (h : @xck c d k = some o) : ¬ c ∧ k = some o := by
  unfold xck at h; split at h
  · cases h
  · exact ⟨by assumption, h⟩
theorem cond_some {α : Type} {b : Bool} {k : Option α} {o : α} (h : cond b k none = some o) : b = true ∧ k = some o := by
  cases b with
  | true => exact ⟨rfl, h⟩
  | false => cases h
theorem xar_some {Ly : xLy} {s : xS} {z : Bool} {p : Nat} {k : Nat → (Nat → Int32) → Option xO} {o : xO} (h : xar Ly s z p k = some o) : (∃ n, Ly[p]? = some (.inl (z, n)) ∧ k n (s.1 p) = some o) ∨ ∃ n f, xRA p = some (z, n, f) ∧ k n f = some o := by
  unfold xar at h; split at h
  · rename_i b hb
    obtain ⟨h1, h2⟩ := cond_some h
    have e : b.1 = z := by simpa using h1
    exact Or.inl ⟨b.2, by rw [hb, ← e], h2⟩
  · cases h
  · split at h
    · rename_i b hb
      obtain ⟨h1, h2⟩ := cond_some h
      have e : b.1 = z := by simpa using h1
      exact Or.inr ⟨b.2.1, b.2.2, by rw [hb, ← e], h2⟩
    · cases h
theorem xaw_some {Ly : xLy} {z : Bool} {p : Nat} {k : Nat → Option xO} {o : xO} (h : xaw Ly z p k = some o) : ∃ n, Ly[p]? = some (.inl (z, n)) ∧ k n = some o := by
  unfold xaw at h; split at h
  · rename_i b hb
    obtain ⟨h1, h2⟩ := cond_some h
    have e : b.1 = z := by simpa using h1
    exact ⟨b.2, by rw [hb, ← e], h2⟩
  · cases h
theorem xob_some {Ly : xLy} {p ci b : Nat} {k : Nat ⊕ Nat → Option xO} {o : xO} (h : xob Ly p ci b k = some o) : ∃ fl f, Ly[p]? = some (.inr (ci, fl)) ∧ fl[b]? = some f ∧ k f = some o := by
  unfold xob at h; split at h
  · rename_i q hb
    obtain ⟨h1, h2⟩ := cond_some h
    have e : q.1 = ci := Nat.eq_of_beq_eq_true h1
    split at h2
    · rename_i f hf
      exact ⟨q.2, f, by rw [hb, ← e], hf, h2⟩
    · cases h2
  · cases h
theorem xlk_mem : ∀ {l : List (Nat × xEnt)} {pc : Nat} {e : xEnt}, xlk l pc = some e → (pc, e) ∈ l
  | [], _, _, h => by cases h
  | q :: r, pc, e, h => by
    unfold xlk at h
    cases hb : Nat.beq q.1 pc with
    | true =>
      rw [hb] at h
      have e1 := Nat.eq_of_beq_eq_true hb
      cases h
      subst e1
      exact List.mem_cons_self
    | false =>
      rw [hb] at h
      exact List.mem_cons_of_mem _ (xlk_mem h)
theorem xtoInt {k : Int} (h1 : -1000 ≤ k) (h2 : k ≤ 1000) : (Int32.ofInt k).toInt = k := by
  rw [Int32.toInt_ofInt_of_le] <;> omega
theorem xsw_in {pc : Nat} {x : Int32} {d : Nat} : ∀ (os : List Int) (k : Int), 0 ≤ k → k + os.length ≤ 1000 → ¬ x.toInt < k → x.toInt < k + os.length → ∃ off, os[(x.toInt - k).toNat]? = some off ∧ xsw pc x k os d = ((pc : Int) + off).toNat
  | [], k, _, _, h1, h2 => by simp at h2; omega
  | o :: os, k, hk, hl, h1, h2 => by
    simp only [List.length_cons] at hl h2
    unfold xsw
    by_cases hx : x = Int32.ofInt k
    · have ht : x.toInt = k := by rw [hx]; exact xtoInt (by omega) (by omega)
      rw [if_pos hx]
      exact ⟨o, by rw [ht]; simp, rfl⟩
    · rw [if_neg hx]
      have hne : ¬ x.toInt = k := lv_neT hx (xtoInt (by omega) (by omega))
      obtain ⟨off, h3, h4⟩ := xsw_in (pc := pc) (x := x) (d := d) os (k + 1) (by omega) (by omega) (by omega) (by omega)
      refine ⟨off, ?_, h4⟩
      have e : (x.toInt - k).toNat = (x.toInt - (k + 1)).toNat + 1 := by omega
      rw [e]
      exact h3
theorem xsw_out {pc : Nat} {x : Int32} {d : Nat} : ∀ (os : List Int) (k : Int), 0 ≤ k → k + os.length ≤ 1000 → (x.toInt < k ∨ k + os.length ≤ x.toInt) → xsw pc x k os d = d
  | [], k, _, _, _ => rfl
  | o :: os, k, hk, hl, h => by
    simp only [List.length_cons] at hl h
    unfold xsw
    have hx : ¬ x = Int32.ofInt k := by
      intro e
      have ht : x.toInt = k := by rw [e]; exact xtoInt (by omega) (by omega)
      omega
    rw [if_neg hx]
    exact xsw_out os (k + 1) (by omega) (by omega) (by omega)
theorem xsl_off {pc : Nat} {x : Int32} {dflt : Int} : ∀ (ps : List (Int × Int)), ps.all (fun o => decide (0 ≤ (pc : Int) + o.2) && decide (-1000 ≤ o.1) && decide (o.1 ≤ 1000)) = true → xsl pc x ps ((pc : Int) + dflt).toNat = ((pc : Int) + Op.lookupswitch.offset ps dflt x.toInt).toNat
  | [], _ => rfl
  | (a, o) :: r, h => by
    simp only [List.all_cons, Bool.and_eq_true, decide_eq_true_eq] at h
    obtain ⟨⟨⟨h1, h2⟩, h3⟩, h4⟩ := h
    unfold xsl
    by_cases hx : x = Int32.ofInt a
    · have ht : x.toInt = a := by rw [hx]; exact xtoInt h2 h3
      rw [if_pos hx, Op.lookupswitch.offset_cons, if_pos (by rw [ht])]
    · rw [if_neg hx, lv_osw hx (xtoInt h2 h3)]
      exact xsl_off r h4
theorem xsl_nn {pc : Nat} {k : Int} {dflt : Int} (hd : 0 ≤ (pc : Int) + dflt) : ∀ (ps : List (Int × Int)), ps.all (fun o => decide (0 ≤ (pc : Int) + o.2) && decide (-1000 ≤ o.1) && decide (o.1 ≤ 1000)) = true → 0 ≤ (pc : Int) + Op.lookupswitch.offset ps dflt k
  | [], _ => hd
  | (a, o) :: r, h => by
    simp only [List.all_cons, Bool.and_eq_true, decide_eq_true_eq] at h
    obtain ⟨⟨⟨h1, h2⟩, h3⟩, h4⟩ := h
    rw [Op.lookupswitch.offset_cons]
    split
    · exact h1
    · exact xsl_nn hd r h4
end
section
section XGO
variable {p : Program} {l : Launch} {e : Env} {Rm : Room} {s : State} {m : MethodId} {args : Array Value} {below : List Frame} {meth : Method} {c : Code} {Q : State → Prop} {A : Nat → Prop} {D : va_G} {cI cZ : ClassId} {ad : Nat → Nat} {Ly : xLy} {Ms : List xRec} {R : xRec}
theorem xnx_inj {pc : Nat} {lv : xLv} {st : List Value} {s : xS} {g : xF} (h : xnx pc lv st s = some (.inl g)) : (pc, lv, st, s) = g := by
  unfold xnx at h
  cases h
  rfl
theorem xmem {w : Cond} (h : w ∈ xTg) (hts : ∀ w ∈ xTg, w.before args s = true) : w.before args s = true := hts w h
set_option maxHeartbeats 4000000 in
set_option maxRecDepth 100000 in
/-- a step within the frame -/
theorem xgo (G : xLG Ms) (CF : xCF) (LK : xLyk Ly) {pc : Nat} {en : xEnt} {lv : xLv} {st : List Value} {s0 : xS} {g : xF} {z : Bool} {H : Heap} {locs : List Loc} {ls : Array Slot}
    (hstep : xstep Ly z pc en lv st s0 = some (.inl g)) (hen : xeb Ms R (pc, en) = true) (hRm : Rm = { frames := xrf R, cells := 0, slots := 0, locals := xrk R }) (hcn : (xry R).cls = xcn (xro R))
    (hx : p.tables.exec = Jvm.exec) (hb : c.code = xrc R) (hml : c.maxLocals = xrL R) (hts : ∀ w ∈ xTg, w.before args s = true) (hown : s.vm.findClass (xry R).cls = some m.cls) (hE : xEn ad A s s.heap)
    (hK : va_K D vwCl (xty cI cZ) s) (hP : va_P D vwCl (xw cI cZ ad Ly s0) H) (hD : va_D A (xw cI cZ ad Ly s0)) (hS : va_S A s.heap H locs) (hl : lv_has ls (xrL R) (xcl ad lv))
    (kk : ∀ (H1 : Heap) (locs1 : List Loc) (ls1 : Array Slot), va_P D vwCl (xw cI cZ ad Ly g.2.2.2) H1 → va_D A (xw cI cZ ad Ly g.2.2.2) → va_S A s.heap H1 locs1 → lv_has ls1 (xrL R) (xcl ad g.2.1) → W p l e Rm s m args below meth c H1 locs1 0 0 Q (F0 m g.1 ls1 (g.2.2.1.map (xcv ad)))) :
    W p l e Rm s m args below meth c H locs 0 0 Q (F0 m pc ls (st.map (xcv ad))) := by
  obtain ⟨i, len, a, b, mk⟩ := en
  unfold xeb at hen
  simp only [Bool.and_eq_true, decide_eq_true_eq, Bool.or_eq_true] at hen
  obtain ⟨⟨hdg, hln⟩, hlb⟩ := hen
  rw [hcn] at hown
  have hlen : ∀ {i' : Instr}, i = i' → xsx i' = false → decode (xrc R) pc = .ok (i', xlen i') := by
    intro i' e1 e2
    subst e1
    rw [e2] at hln
    simp only [Bool.false_eq_true, false_or] at hln
    rw [hdg, Nat.eq_of_beq_eq_true hln]
  have k0 := kk H locs ls
  cases i with
  | iconst n =>
    cases xnx_inj hstep
    exact lv_iconst hx hb (hlen rfl rfl) rfl (k0 hP hD hS hl)
  | bipush n =>
    cases xnx_inj hstep
    exact lv_bipush hx hb (hlen rfl rfl) rfl (k0 hP hD hS hl)
  | sipush n =>
    cases xnx_inj hstep
    exact lv_sipush hx hb (hlen rfl rfl) rfl (k0 hP hD hS hl)
  | lconst n =>
    cases xnx_inj hstep
    exact lv_lconst hx hb (hlen rfl rfl) rfl (k0 hP hD hS hl)
  | iload_n k =>
    obtain ⟨x, h1, h2⟩ := xil_some hstep
    cases xnx_inj h2
    exact lv_iload_n hx hb (hlen rfl rfl) rfl (xl_at hl h1) (k0 hP hD hS hl)
  | iload k =>
    obtain ⟨x, h1, h2⟩ := xil_some hstep
    cases xnx_inj h2
    exact lv_iload hx hb (hlen rfl rfl) (xl_at hl h1) (k0 hP hD hS hl)
  | lload_n k =>
    obtain ⟨x, h1, h2⟩ := xll_some hstep
    cases xnx_inj h2
    exact lv_lload_n hx hb (hlen rfl rfl) rfl (xl_at hl h1) (k0 hP hD hS hl)
  | lload k =>
    obtain ⟨x, h1, h2⟩ := xll_some hstep
    cases xnx_inj h2
    exact lv_lload hx hb (hlen rfl rfl) (xl_at hl h1) (k0 hP hD hS hl)
  | aload_n k =>
    obtain ⟨x, h1, h2⟩ := xrl_some hstep
    cases xnx_inj h2
    exact lv_aload_n hx hb (hlen rfl rfl) rfl (xl_at hl h1) (k0 hP hD hS hl)
  | aload k =>
    obtain ⟨x, h1, h2⟩ := xrl_some hstep
    cases xnx_inj h2
    exact lv_aload hx hb (hlen rfl rfl) (xl_at hl h1) (k0 hP hD hS hl)
  | istore_n k =>
    obtain ⟨x, r, rfl, h2⟩ := xi1_some hstep
    cases xnx_inj h2
    exact lv_istore_n hx hb (hlen rfl rfl) rfl hl (Nat.le_of_ble_eq_true hlb) rfl (fun ls1 h => kk H locs ls1 hP hD hS (xput1_has (v := .int x) h))
  | istore k =>
    obtain ⟨x, r, rfl, h2⟩ := xi1_some hstep
    cases xnx_inj h2
    exact lv_istore hx hb (hlen rfl rfl) hl (Nat.le_of_ble_eq_true hlb) rfl (fun ls1 h => kk H locs ls1 hP hD hS (xput1_has (v := .int x) h))
  | lstore_n k =>
    obtain ⟨x, r, rfl, h2⟩ := xi5_some hstep
    cases xnx_inj h2
    exact lv_lstore_n hx hb (hlen rfl rfl) rfl hl (Nat.le_of_ble_eq_true hlb) rfl (fun ls1 h => kk H locs ls1 hP hD hS (xput2_has (v := .long x) h))
  | lstore k =>
    obtain ⟨x, r, rfl, h2⟩ := xi5_some hstep
    cases xnx_inj h2
    exact lv_lstore hx hb (hlen rfl rfl) hl (Nat.le_of_ble_eq_true hlb) rfl (fun ls1 h => kk H locs ls1 hP hD hS (xput2_has (v := .long x) h))
  | astore_n k =>
    obtain ⟨x, r, rfl, h2⟩ := xi8_some hstep
    cases xnx_inj h2
    exact lv_astore_n hx hb (hlen rfl rfl) rfl hl (Nat.le_of_ble_eq_true hlb) rfl (fun ls1 h => kk H locs ls1 hP hD hS (xput1_has (v := .ref x) h))
  | iinc k n =>
    obtain ⟨x, h1, h2⟩ := xil_some hstep
    cases xnx_inj h2
    obtain ⟨j, hj⟩ := List.getElem?_of_mem (List.mem_map.mpr ⟨(k, Value.int x), xl_mem h1, rfl⟩ : (k, Value.int x) ∈ xcl ad lv)
    exact lv_iinc hx hb (hlen rfl rfl) hl hj rfl (Nat.le_of_ble_eq_true hlb) rfl (fun ls1 h => kk H locs ls1 hP hD hS (xput1_has (v := .int (x + Int32.ofInt n)) h))
  | iadd =>
    obtain ⟨x, y, r, rfl, h2⟩ := xi2_some hstep
    cases xnx_inj h2
    exact lv_iadd hx hb (hlen rfl rfl) (k0 hP hD hS hl)
  | isub =>
    obtain ⟨x, y, r, rfl, h2⟩ := xi2_some hstep
    cases xnx_inj h2
    exact lv_isub hx hb (hlen rfl rfl) (k0 hP hD hS hl)
  | imul =>
    obtain ⟨x, y, r, rfl, h2⟩ := xi2_some hstep
    cases xnx_inj h2
    exact lv_imul hx hb (hlen rfl rfl) (k0 hP hD hS hl)
  | iand =>
    obtain ⟨x, y, r, rfl, h2⟩ := xi2_some hstep
    cases xnx_inj h2
    exact lv_iand hx hb (hlen rfl rfl) (k0 hP hD hS hl)
  | ior =>
    obtain ⟨x, y, r, rfl, h2⟩ := xi2_some hstep
    cases xnx_inj h2
    exact lv_ior hx hb (hlen rfl rfl) (k0 hP hD hS hl)
  | ixor =>
    obtain ⟨x, y, r, rfl, h2⟩ := xi2_some hstep
    cases xnx_inj h2
    exact lv_ixor hx hb (hlen rfl rfl) (k0 hP hD hS hl)
  | idiv =>
    obtain ⟨x, y, r, rfl, h2⟩ := xi2_some hstep
    obtain ⟨h3, h4⟩ := xck_some h2
    cases xnx_inj h4
    exact lv_idiv hx hb (hlen rfl rfl) h3 (k0 hP hD hS hl)
  | irem =>
    obtain ⟨x, y, r, rfl, h2⟩ := xi2_some hstep
    obtain ⟨h3, h4⟩ := xck_some h2
    cases xnx_inj h4
    exact lv_irem hx hb (hlen rfl rfl) h3 (k0 hP hD hS hl)
  | ishl =>
    obtain ⟨x, y, r, rfl, h2⟩ := xi2_some hstep
    cases xnx_inj h2
    exact lv_ishl hx hb (hlen rfl rfl) (k0 hP hD hS hl)
  | ishr =>
    obtain ⟨x, y, r, rfl, h2⟩ := xi2_some hstep
    cases xnx_inj h2
    exact lv_ishr hx hb (hlen rfl rfl) (k0 hP hD hS hl)
  | iushr =>
    obtain ⟨x, y, r, rfl, h2⟩ := xi2_some hstep
    cases xnx_inj h2
    exact lv_iushr hx hb (hlen rfl rfl) rfl (k0 hP hD hS hl)
  | ladd =>
    obtain ⟨x, y, r, rfl, h2⟩ := xi3_some hstep
    cases xnx_inj h2
    exact lv_ladd hx hb (hlen rfl rfl) (k0 hP hD hS hl)
  | lsub =>
    obtain ⟨x, y, r, rfl, h2⟩ := xi3_some hstep
    cases xnx_inj h2
    exact lv_lsub hx hb (hlen rfl rfl) (k0 hP hD hS hl)
  | lmul =>
    obtain ⟨x, y, r, rfl, h2⟩ := xi3_some hstep
    cases xnx_inj h2
    exact lv_lmul hx hb (hlen rfl rfl) (k0 hP hD hS hl)
  | land =>
    obtain ⟨x, y, r, rfl, h2⟩ := xi3_some hstep
    cases xnx_inj h2
    exact lv_land hx hb (hlen rfl rfl) (k0 hP hD hS hl)
  | lor =>
    obtain ⟨x, y, r, rfl, h2⟩ := xi3_some hstep
    cases xnx_inj h2
    exact lv_lor hx hb (hlen rfl rfl) (k0 hP hD hS hl)
  | ldiv =>
    obtain ⟨x, y, r, rfl, h2⟩ := xi3_some hstep
    obtain ⟨h3, h4⟩ := xck_some h2
    cases xnx_inj h4
    exact lv_ldiv hx hb (hlen rfl rfl) h3 (k0 hP hD hS hl)
  | lrem =>
    obtain ⟨x, y, r, rfl, h2⟩ := xi3_some hstep
    obtain ⟨h3, h4⟩ := xck_some h2
    cases xnx_inj h4
    exact lv_lrem hx hb (hlen rfl rfl) h3 (k0 hP hD hS hl)
  | lcmp =>
    obtain ⟨x, y, r, rfl, h2⟩ := xi3_some hstep
    cases xnx_inj h2
    exact W.lcmp hx hb (hlen rfl rfl) (k0 hP hD hS hl)
  | lshl =>
    obtain ⟨x, y, r, rfl, h2⟩ := xi4_some hstep
    cases xnx_inj h2
    exact lv_lshl hx hb (hlen rfl rfl) rfl (k0 hP hD hS hl)
  | lshr =>
    obtain ⟨x, y, r, rfl, h2⟩ := xi4_some hstep
    cases xnx_inj h2
    exact lv_lshr hx hb (hlen rfl rfl) rfl (k0 hP hD hS hl)
  | lushr =>
    obtain ⟨x, y, r, rfl, h2⟩ := xi4_some hstep
    cases xnx_inj h2
    exact lv_lushr hx hb (hlen rfl rfl) rfl (k0 hP hD hS hl)
  | i2l =>
    obtain ⟨x, r, rfl, h2⟩ := xi1_some hstep
    cases xnx_inj h2
    exact lv_i2l hx hb (hlen rfl rfl) rfl (k0 hP hD hS hl)
  | i2b =>
    obtain ⟨x, r, rfl, h2⟩ := xi1_some hstep
    cases xnx_inj h2
    exact lv_i2b hx hb (hlen rfl rfl) rfl (k0 hP hD hS hl)
  | i2s =>
    obtain ⟨x, r, rfl, h2⟩ := xi1_some hstep
    cases xnx_inj h2
    exact lv_i2s hx hb (hlen rfl rfl) rfl (k0 hP hD hS hl)
  | i2c =>
    obtain ⟨x, r, rfl, h2⟩ := xi1_some hstep
    cases xnx_inj h2
    exact lv_i2c hx hb (hlen rfl rfl) rfl (k0 hP hD hS hl)
  | l2i =>
    obtain ⟨x, r, rfl, h2⟩ := xi5_some hstep
    cases xnx_inj h2
    exact lv_l2i hx hb (hlen rfl rfl) rfl (k0 hP hD hS hl)
  | dup =>
    simp only [xstep] at hstep
    split at hstep
    · obtain ⟨h1, h2⟩ := cond_some hstep
      cases xnx_inj h2
      exact lv_dup hx hb (hlen rfl rfl) (by rw [xcv_cat]; exact Nat.eq_of_beq_eq_true h1) (k0 hP hD hS hl)
    · cases hstep
  | dup2 =>
    simp only [xstep] at hstep
    split at hstep
    · obtain ⟨h1, h2⟩ := cond_some hstep
      cases xnx_inj h2
      rw [Bool.and_eq_true] at h1
      exact lv_dup2_11 hx hb (hlen rfl rfl) (by rw [xcv_cat]; exact Nat.eq_of_beq_eq_true h1.1) (by rw [xcv_cat]; exact Nat.eq_of_beq_eq_true h1.2) (k0 hP hD hS hl)
    · cases hstep
  | goto off =>
    cases xnx_inj hstep
    exact lv_goto hx hb (hlen rfl rfl) (of_decide_eq_true hlb) (k0 hP hD hS hl)
  | ifCond cd off =>
    obtain ⟨x, r, rfl, h2⟩ := xi1_some hstep
    have ht : (pc : Int) + off = (a : Int) := of_decide_eq_true hlb
    cases cd with
    | eq =>
      refine lv_if_eq hx hb (hlen rfl rfl) ht (fun q => ?_) (fun q => ?_)
      · simp only [q, if_true] at h2; cases xnx_inj h2; exact k0 hP hD hS hl
      · simp only [q, if_false] at h2; cases xnx_inj h2; exact k0 hP hD hS hl
    | ne =>
      refine lv_if_ne hx hb (hlen rfl rfl) ht (fun q => ?_) (fun q => ?_)
      · simp only [q, if_false] at h2; cases xnx_inj h2; exact k0 hP hD hS hl
      · simp only [q, if_true] at h2; cases xnx_inj h2; exact k0 hP hD hS hl
    | lt =>
      refine lv_if_lt hx hb (hlen rfl rfl) ht (fun q => ?_) (fun q => ?_)
      · simp only [q, if_true] at h2; cases xnx_inj h2; exact k0 hP hD hS hl
      · simp only [q, if_false] at h2; cases xnx_inj h2; exact k0 hP hD hS hl
    | ge =>
      refine lv_if_ge hx hb (hlen rfl rfl) ht (fun q => ?_) (fun q => ?_)
      · simp only [q, if_true] at h2; cases xnx_inj h2; exact k0 hP hD hS hl
      · simp only [q, if_false] at h2; cases xnx_inj h2; exact k0 hP hD hS hl
    | gt =>
      refine lv_if_gt hx hb (hlen rfl rfl) ht (fun q => ?_) (fun q => ?_)
      · simp only [q, if_true] at h2; cases xnx_inj h2; exact k0 hP hD hS hl
      · simp only [q, if_false] at h2; cases xnx_inj h2; exact k0 hP hD hS hl
    | le =>
      refine lv_if_le hx hb (hlen rfl rfl) ht (fun q => ?_) (fun q => ?_)
      · simp only [q, if_true] at h2; cases xnx_inj h2; exact k0 hP hD hS hl
      · simp only [q, if_false] at h2; cases xnx_inj h2; exact k0 hP hD hS hl
  | if_icmp cd off =>
    obtain ⟨x, y, r, rfl, h2⟩ := xi2_some hstep
    have ht : (pc : Int) + off = (a : Int) := of_decide_eq_true hlb
    cases cd with
    | eq =>
      refine lv_icmp_eq hx hb (hlen rfl rfl) ht (fun q => ?_) (fun q => ?_)
      · simp only [q, if_true] at h2; cases xnx_inj h2; exact k0 hP hD hS hl
      · simp only [q, if_false] at h2; cases xnx_inj h2; exact k0 hP hD hS hl
    | ne =>
      refine lv_icmp_ne hx hb (hlen rfl rfl) ht (fun q => ?_) (fun q => ?_)
      · simp only [q, if_false] at h2; cases xnx_inj h2; exact k0 hP hD hS hl
      · simp only [q, if_true] at h2; cases xnx_inj h2; exact k0 hP hD hS hl
    | lt =>
      refine lv_icmp_lt hx hb (hlen rfl rfl) ht (fun q => ?_) (fun q => ?_)
      · simp only [q, if_true] at h2; cases xnx_inj h2; exact k0 hP hD hS hl
      · simp only [q, if_false] at h2; cases xnx_inj h2; exact k0 hP hD hS hl
    | ge =>
      refine lv_icmp_ge hx hb (hlen rfl rfl) ht (fun q => ?_) (fun q => ?_)
      · simp only [q, if_true] at h2; cases xnx_inj h2; exact k0 hP hD hS hl
      · simp only [q, if_false] at h2; cases xnx_inj h2; exact k0 hP hD hS hl
    | gt =>
      refine lv_icmp_gt hx hb (hlen rfl rfl) ht (fun q => ?_) (fun q => ?_)
      · simp only [q, if_true] at h2; cases xnx_inj h2; exact k0 hP hD hS hl
      · simp only [q, if_false] at h2; cases xnx_inj h2; exact k0 hP hD hS hl
    | le =>
      refine lv_icmp_le hx hb (hlen rfl rfl) ht (fun q => ?_) (fun q => ?_)
      · simp only [q, if_true] at h2; cases xnx_inj h2; exact k0 hP hD hS hl
      · simp only [q, if_false] at h2; cases xnx_inj h2; exact k0 hP hD hS hl
  | tableswitch d lo hi os =>
    obtain ⟨x, r, rfl, h2⟩ := xi1_some hstep
    cases xnx_inj h2
    simp only [xlb, Bool.and_eq_true, decide_eq_true_eq] at hlb
    obtain ⟨⟨⟨⟨b1, b2⟩, b3⟩, b4⟩, b5⟩ := hlb
    by_cases hin : x.toInt < lo ∨ hi < x.toInt
    · have e1 := xsw_out (pc := pc) (x := x) (d := ((pc : Int) + d).toNat) os.toList lo b2 b3 (by omega)
      refine lv_tableOut (tgt := ((pc : Int) + d).toNat) hx hb hdg hin (by omega) ?_
      have := k0 hP hD hS hl
      rw [e1] at this
      exact this
    · obtain ⟨off, e1, e2⟩ := xsw_in (pc := pc) (x := x) (d := ((pc : Int) + d).toNat) os.toList lo b2 b3 (by omega) (by omega)
      have hnn : 0 ≤ (pc : Int) + off := of_decide_eq_true (List.all_eq_true.mp b5 off (List.mem_of_getElem? e1))
      refine lv_tableIn (tgt := ((pc : Int) + off).toNat) (off := off) hx hb hdg (by omega) (by omega) (by rw [← Array.getElem?_toList]; exact e1) (by omega) ?_
      have := k0 hP hD hS hl
      rw [e2] at this
      exact this
  | lookupswitch d ps =>
    obtain ⟨x, r, rfl, h2⟩ := xi1_some hstep
    cases xnx_inj h2
    simp only [xlb, Bool.and_eq_true] at hlb
    obtain ⟨⟨b1, b2⟩, b3⟩ := hlb
    have e1 := xsl_off (pc := pc) (x := x) (dflt := d) ps.toList b3
    have e2 := xsl_nn (pc := pc) (k := x.toInt) (dflt := d) (of_decide_eq_true b2) ps.toList b3
    refine lv_lookup (tgt := ((pc : Int) + Op.lookupswitch.offset ps.toList d x.toInt).toNat) hx hb hdg b1 rfl (by omega) ?_
    have := k0 hP hD hS hl
    rw [e1] at this
    exact this
  | ldc ix =>
    simp only [xlb] at hlb
    simp only [xstep] at hstep
    cases hc : Nat.beq b 1 with
    | true =>
      rw [hc] at hstep hlb
      cases xnx_inj hstep
      have hm := of_decide_eq_true hlb
      rcases G.2.2.2.2.2.1 _ hm with q | q
      · simp only [Prod.mk.injEq] at q
        obtain ⟨q1, q2, q3, q4⟩ := q
        subst q2 q3
        have ho : xcn (xro R) = "FounderSleeps$Town" := by rw [q1]; rfl
        rw [ho] at hown
        exact va_ldcS hx hb hown hE.2.2.2.2.2.2.1 (hlen rfl rfl) (k0 hP hD hS hl)
      · simp only [Prod.mk.injEq] at q
        obtain ⟨q1, q2, q3, q4⟩ := q
        subst q2 q3
        have ho : xcn (xro R) = "FounderSleeps$Deeds" := by rw [q1]; rfl
        rw [ho] at hown
        exact va_ldcS hx hb hown hE.2.2.2.2.2.2.2 (hlen rfl rfl) (k0 hP hD hS hl)
    | false =>
      rw [hc] at hstep hlb
      simp only [cond_false] at hstep hlb
      split at hstep
      · rename_i v hv
        cases xnx_inj hstep
        exact lv_ldc hx hb hown (hts _ (G.2.2.2.2.1 _ (of_decide_eq_true hlb) v hv)) (hlen rfl rfl) (k0 hP hD hS hl)
      · cases hstep
  | ldc_w ix =>
    simp only [xlb] at hlb
    simp only [xstep] at hstep
    split at hstep
    · rename_i v hv
      cases xnx_inj hstep
      exact lv_ldcw hx hb hown (hts _ (G.2.2.2.2.1 _ (of_decide_eq_true hlb) v hv)) (hlen rfl rfl) (k0 hP hD hS hl)
    · cases hstep
  | ldc2_w ix =>
    simp only [xlb] at hlb
    simp only [xstep] at hstep
    split at hstep
    · rename_i v hv
      cases xnx_inj hstep
      exact lv_ldc2 hx hb hown (hts _ (G.2.2.2.2.2.2.1 _ (of_decide_eq_true hlb) v hv)) (hlen rfl rfl) (k0 hP hD hS hl)
    · cases hstep
  | getstatic ix =>
    simp only [xlb] at hlb
    simp only [xstep] at hstep
    rcases G.2.2.2.2.2.2.2.1 _ (of_decide_eq_true hlb) with ⟨q, hw⟩ | ⟨q, hw⟩ | ⟨q, hw⟩ | ⟨q, hw⟩
    · cases q
      cases xnx_inj hstep
      exact va_getsN hx hb hE.1 hS hown (hts _ hw) (fun _ h => h) (hlen rfl rfl) (k0 hP hD hS hl)
    · cases q
      cases xnx_inj hstep
      exact va_getsN hx hb hE.2.2.1 hS hown (hts _ hw) (fun _ h => h) (hlen rfl rfl) (k0 hP hD hS hl)
    · cases q
      cases xnx_inj hstep
      exact va_gets hx hb hE.2.2.1 hS hown (hts _ hw) (fun _ h => h) (hlen rfl rfl) (k0 hP hD hS hl)
    · cases q
      cases xnx_inj hstep
      exact va_gets hx hb hE.2.2.2.2.1 hS hown (hts _ hw) (fun _ h => h) (hlen rfl rfl) (k0 hP hD hS hl)
  | getfield ix =>
    simp only [xlb] at hlb
    simp only [xstep] at hstep
    cases hc : Nat.beq a 99 with
    | true =>
      rw [hc] at hstep hlb
      simp only [cond_true] at hstep hlb
      obtain ⟨q, r, rfl, h2⟩ := xi8_some hstep
      obtain ⟨h3, h4⟩ := cond_some h2
      have hw := G.2.2.2.2.2.2.2.2.1 _ (of_decide_eq_true hlb)
      have hq : ∃ i, i < 2 ∧ q = 1002 + i := by
        rcases Bool.or_eq_true _ _ ▸ h3 with h | h
        · exact ⟨0, by decide, Nat.eq_of_beq_eq_true h⟩
        · exact ⟨1, by decide, Nat.eq_of_beq_eq_true h⟩
      obtain ⟨i, hi, rfl⟩ := hq
      cases hf : Nat.beq b 0 with
      | true =>
        rw [hf] at h4
        have e0 : b = 0 := Nat.eq_of_beq_eq_true hf
        cases xnx_inj h4
        refine vk_getf hx hb (hE.2.2.2.2.2.1.1 i hi).2.2.1 hS hown (hts _ (hw.1 e0)) (fun _ h => h) (hlen rfl rfl) ?_
        have := k0 hP hD hS hl
        rw [Nat.add_right_comm 1002 i 2] at this
        exact this
      | false =>
        rw [hf] at h4
        have e0 : b ≠ 0 := Nat.ne_of_beq_eq_false hf
        cases xnx_inj h4
        exact vk_getf hx hb (hE.2.2.2.2.2.1.1 i hi).2.1 hS hown (hts _ (hw.2 e0)) (fun _ h => h) (hlen rfl rfl) (k0 hP hD hS hl)
    | false =>
      rw [hc] at hstep hlb
      simp only [cond_false] at hstep hlb
      obtain ⟨q, r, rfl, h2⟩ := xi8_some hstep
      obtain ⟨fl, f, h3, h4, h5⟩ := xob_some h2
      cases xnx_inj h5
      obtain ⟨C, T, N, g1, g2, g3⟩ := G.1 _ (of_decide_eq_true hlb)
      exact va_get hx hb hts (CF _ _ _ _ g1).1 hown hK hP q (xw_at h3) g1 b g2 (hts _ g3) (fun _ h => h) (v := xcv ad (xfa s0 q b f)) (by rw [List.getElem?_mapIdx, h4]; rfl) (hlen rfl rfl) (k0 hP hD hS hl)
  | putfield ix =>
    simp only [xlb] at hlb
    simp only [xstep] at hstep
    obtain ⟨C, T, N, g1, g2, g3, g4⟩ := G.2.1 _ (of_decide_eq_true hlb)
    obtain ⟨i1, ty0, i2, i3⟩ := CF _ _ _ _ g1
    split at hstep
    · rename_i x q r
      obtain ⟨fl, f, h3, h4, h5⟩ := xob_some hstep
      split at h5
      · cases xnx_inj h5
        refine va_put (ty := .int) (v := .int x) hx hb hts i1 ty0 i2 i3 hown hK hP hD hS q (xw_at h3) g1 b g2 (hts _ g3) (fun _ h => h) g4 (LK _ _ h3 _ _ _ g1 _ _ h4) rfl rfl (by rw [List.length_mapIdx]; exact (List.getElem?_eq_some_iff.mp h4).1) (hlen rfl rfl) (fun H1 locs1 hP1 hD1 hS1 => ?_)
        rw [xw_setI h3 h4 (by decide)] at hP1 hD1
        exact kk H1 locs1 ls hP1 hD1 hS1 hl
      · split at h5
        · rename_i hx01
          cases xnx_inj h5
          refine va_put (ty := .boolean) (v := .int x) hx hb hts i1 ty0 i2 i3 hown hK hP hD hS q (xw_at h3) g1 b g2 (hts _ g3) (fun _ h => h) g4 (LK _ _ h3 _ _ _ g1 _ _ h4) (by rcases hx01 with rfl | rfl <;> rfl) (by rcases hx01 with rfl | rfl <;> rfl) (by rw [List.length_mapIdx]; exact (List.getElem?_eq_some_iff.mp h4).1) (hlen rfl rfl) (fun H1 locs1 hP1 hD1 hS1 => ?_)
          rw [xw_setI h3 h4 (by decide)] at hP1 hD1
          exact kk H1 locs1 ls hP1 hD1 hS1 hl
        · cases h5
      · cases h5
    · rename_i x q r
      obtain ⟨fl, f, h3, h4, h5⟩ := xob_some hstep
      split at h5
      · cases xnx_inj h5
        refine va_put (ty := .long) (v := .long x) hx hb hts i1 ty0 i2 i3 hown hK hP hD hS q (xw_at h3) g1 b g2 (hts _ g3) (fun _ h => h) g4 (LK _ _ h3 _ _ _ g1 _ _ h4) rfl rfl (by rw [List.length_mapIdx]; exact (List.getElem?_eq_some_iff.mp h4).1) (hlen rfl rfl) (fun H1 locs1 hP1 hD1 hS1 => ?_)
        rw [xw_setL h3 h4] at hP1 hD1
        exact kk H1 locs1 ls hP1 hD1 hS1 hl
      · cases h5
    · cases hstep
  | iaload =>
    obtain ⟨x, q, r, rfl, h2⟩ := xi6_some hstep
    rcases xar_some h2 with ⟨n, h3, h4⟩ | ⟨n, f, h3, h4⟩
    · obtain ⟨h5, h6⟩ := xck_some h4
      cases xnx_inj h6
      exact va_iald hx hb hK hP q 0 (xw_at h3) rfl h5 (hlen rfl rfl) (k0 hP hD hS hl)
    · obtain ⟨h5, h6⟩ := xck_some h4
      cases xnx_inj h6
      unfold xRA at h3
      split at h3
      · cases h3; exact va_ti hx hb hE.2.1 hS h5 rfl (hlen rfl rfl) (k0 hP hD hS hl)
      · cases h3; exact va_ti hx hb hE.2.2.2.1 hS h5 rfl (hlen rfl rfl) (k0 hP hD hS hl)
      · cases h3
      · cases h3
      · cases h3
  | baload =>
    obtain ⟨x, q, r, rfl, h2⟩ := xi6_some hstep
    rcases xar_some h2 with ⟨n, h3, h4⟩ | ⟨n, f, h3, h4⟩
    · obtain ⟨h5, h6⟩ := xck_some h4
      cases xnx_inj h6
      exact va_zald hx hb hK hP q 1 (xw_at h3) rfl h5 (hlen rfl rfl) (k0 hP hD hS hl)
    · obtain ⟨h5, h6⟩ := xck_some h4
      cases xnx_inj h6
      unfold xRA at h3
      split at h3
      · cases h3
      · cases h3
      · cases h3; exact va_tb hx hb (hE.2.2.2.2.2.1.1 0 (by decide)).2.2.2 hS h5 rfl (hlen rfl rfl) (k0 hP hD hS hl)
      · cases h3; exact va_tb hx hb (hE.2.2.2.2.2.1.1 1 (by decide)).2.2.2 hS h5 rfl (hlen rfl rfl) (k0 hP hD hS hl)
      · cases h3
  | iastore =>
    obtain ⟨x, j, q, r, rfl, h2⟩ := xi7_some hstep
    obtain ⟨n, h3, h4⟩ := xaw_some h2
    obtain ⟨h5, h6⟩ := xck_some h4
    cases xnx_inj h6
    refine va_iast hx hb hK hP hD hS q 0 (xw_at h3) rfl h5 (hlen rfl rfl) (fun H1 locs1 hP1 hD1 hS1 => ?_)
    have e1 := xw_setA (cI := cI) (cZ := cZ) (ad := ad) (s := s0) (g := upd (s0.1 q) j.toNatClampNeg x) h3
    rw [e1] at hP1 hD1
    exact kk H1 locs1 ls hP1 hD1 hS1 hl
  | bastore =>
    obtain ⟨x, j, q, r, rfl, h2⟩ := xi7_some hstep
    obtain ⟨n, h3, h4⟩ := xaw_some h2
    obtain ⟨h5, h6⟩ := xck_some h4
    cases xnx_inj h6
    refine va_zast hx hb hK hP hD hS q 1 (xw_at h3) rfl h5 (hlen rfl rfl) (fun H1 locs1 hP1 hD1 hS1 => ?_)
    have e1 := xw_setA (cI := cI) (cZ := cZ) (ad := ad) (s := s0) (g := upd (s0.1 q) j.toNatClampNeg (vp_nar .boolean x)) h3
    rw [e1] at hP1 hD1
    exact kk H1 locs1 ls hP1 hD1 hS1 hl
  | arraylength =>
    obtain ⟨q, r, rfl, h2⟩ := xi8_some hstep
    split at h2
    · rename_i bb h3
      cases xnx_inj h2
      obtain ⟨zz, n⟩ := bb
      cases zz with
      | true => exact va_alen hx hb hK hP q 1 (xw_at h3) (ty := .boolean) rfl rfl (hlen rfl rfl) (k0 hP hD hS hl)
      | false => exact va_alen hx hb hK hP q 0 (xw_at h3) (ty := .int) rfl rfl (hlen rfl rfl) (k0 hP hD hS hl)
    · cases h2
    · split at h2
      · rename_i bb h3
        cases xnx_inj h2
        unfold xRA at h3
        split at h3
        · cases h3; exact va_tlen hx hb hE.2.1 hS rfl (hlen rfl rfl) (k0 hP hD hS hl)
        · cases h3; exact va_tlen hx hb hE.2.2.2.1 hS rfl (hlen rfl rfl) (k0 hP hD hS hl)
        · cases h3; exact va_tlen hx hb (hE.2.2.2.2.2.1.1 0 (by decide)).2.2.2 hS rfl (hlen rfl rfl) (k0 hP hD hS hl)
        · cases h3; exact va_tlen hx hb (hE.2.2.2.2.2.1.1 1 (by decide)).2.2.2 hS rfl (hlen rfl rfl) (k0 hP hD hS hl)
        · cases h3
      · cases h2
  | invokestatic ix =>
    simp only [xlb] at hlb
    simp only [xstep] at hstep
    cases hc : Nat.beq a 902 with
    | false =>
      rw [hc] at hstep
      simp only [cond_false] at hstep
      have := (cond_some hstep).2
      cases this
    | true =>
      rw [hc] at hstep hlb
      have ea : a = 902 := Nat.eq_of_beq_eq_true hc
      have h98 : Nat.beq a 998 = false := by rw [ea]; rfl
      rw [h98] at hlb
      simp only [cond_true, cond_false, Bool.and_eq_true, decide_eq_true_eq] at hstep hlb
      obtain ⟨hlk, hf1, hf2⟩ := hlb
      split at hstep
      · rename_i n j q i q0 r
        obtain ⟨n0, h3, h4⟩ := xaw_some hstep
        obtain ⟨n1, h5, h6⟩ := xaw_some h4
        obtain ⟨h7, h8⟩ := xck_some h6
        cases xnx_inj h8
        have hw := (G.2.2.2.1 _ hlk).1 ea
        have g1 : ¬ i < 0 := fun z => h7 (Or.inl z)
        have g2 : ¬ j < 0 := fun z => h7 (Or.inr (Or.inl z))
        have g3 : ¬ n < 0 := fun z => h7 (Or.inr (Or.inr (Or.inl z)))
        have g4 : i.toNatClampNeg + n.toNatClampNeg ≤ n0 := Nat.not_lt.mp fun z => h7 (Or.inr (Or.inr (Or.inr (Or.inl z))))
        have g5 : j.toNatClampNeg + n.toNatClampNeg ≤ n1 := Nat.not_lt.mp fun z => h7 (Or.inr (Or.inr (Or.inr (Or.inr (Or.inl z)))))
        have g6 : xcat r ≤ 8 := Nat.not_lt.mp fun z => h7 (Or.inr (Or.inr (Or.inr (Or.inr (Or.inr z)))))
        have f1 : 1 ≤ xrf R := Nat.le_of_ble_eq_true hf1
        have f2 : 26 ≤ xrk R := Nat.le_of_ble_eq_true hf2
        refine va_copyi hx hb (hml.trans hl.1.symm) hown (hts _ hw) (hts _ G.2.2.2.2.2.2.2.2.2.1) (hts _ G.2.2.2.2.2.2.2.2.2.2.1) (hts _ G.2.2.2.2.2.2.2.2.2.2.2) hK hP hD hS q0 q 0 0 (xw_at h3) (xw_at h5) rfl rfl rfl g1 g2 g3 g4 g5 (fun _ _ => rfl) (by rw [hRm]; exact f1) (by rw [hRm, xcat_map]; show xcat r + (5 + 2 + 11) ≤ xrk R; omega) (hlen rfl rfl) (fun H1 locs1 hP1 hD1 hS1 => ?_)
        have e1 := xw_setA (cI := cI) (cZ := cZ) (ad := ad) (s := s0) (g := va_cpy (s0.1 q0) (s0.1 q) i.toNatClampNeg j.toNatClampNeg n.toNatClampNeg) h5
        rw [e1] at hP1 hD1
        exact kk H1 locs1 ls hP1 hD1 hS1 hl
      · cases hstep
  | invokevirtual ix =>
    simp only [xstep] at hstep
    split at hstep
    · have := (cond_some hstep).2
      cases this
    · cases hstep
  | return_ =>
    simp only [xstep] at hstep
    split at hstep <;> cases hstep
  | ireturn =>
    simp only [xstep] at hstep
    split at hstep
    · split at hstep <;> cases hstep
    · cases hstep
  | lreturn =>
    simp only [xstep] at hstep
    split at hstep <;> cases hstep
  | areturn =>
    simp only [xstep] at hstep
    split at hstep <;> cases hstep
  | _ => cases hstep
end XGO
end
section
def xrm (R : xRec) : Room := { frames := xrf R, cells := 0, slots := 0, locals := xrk R }
def xws (R : xRec) : List Cond := Cond.code (xry R) (xrc R) (xrL R) (xrt R) :: xTg
def xPc (D : va_G) (cI cZ : ClassId) (ad : Nat → Nat) (Ly : xLy) (as : List Value) (s0 : xS) (sz : Nat) : Array Value → State → Prop := va_Pc (as.map (xcv ad)) (fun U => U.heap.size = sz ∧ va_P D vwCl (xw cI cZ ad Ly s0) U.heap ∧ va_K D vwCl (xty cI cZ) U ∧ va_D (fun _ => True) (xw cI cZ ad Ly s0) ∧ xEn ad (va_A (xw cI cZ ad Ly s0) sz) U U.heap)
def xQc (D : va_G) (cI cZ : ClassId) (ad : Nat → Nat) (Ly : xLy) (r : Option Value) (s1 : xS) (A : Nat → Prop) : Array Value → State → Outcome → State → Prop := fun _ st oc t => oc = .returned (r.map (xcv ad)) ∧ va_P D vwCl (xw cI cZ ad Ly s1) t.heap ∧ va_F A st t
/-- what is known of a method of the table -/
def xRg (Ms : List xRec) (R : xRec) : Prop := (∀ q ∈ xri R, xeb Ms R q = true) ∧ (xry R).cls = xcn (xro R) ∧ Cond.code (xry R) (xrc R) (xrL R) (xrt R) ∈ xTg ∧ Cond.initialized (xry R).cls ∈ xTg ∧ plainName (xry R).cls = true ∧
  ((xry R).cls ≠ "java/lang/invoke/MethodHandle" ∧ (xry R).cls ≠ "java/lang/invoke/VarHandle" ∧ (parseMethodDescriptor (xry R).desc).map (fun d => d.parameters.length) = some (xrn R)) ∧
  (xrv R = true → Cond.instanceMethod (xry R) ∈ xTg ∧ Cond.selects (xry R).cls (xry R) (xry R) ∈ xTg ∧ ((xro R = 12 ∧ (xry R).cls = "java/lang/String") ∨ ∃ T N, vwCl[xro R]? = some ((xry R).cls, T, N))) ∧
  (xrv R = false → Cond.static (xry R) ∈ xTg)
theorem xTg_good {ws : List Cond} (h : ∀ w ∈ ws, w ∈ xTg) : GoodIn xTg ws := fun w hw => ⟨h w hw, good_of_word (List.mem_filter.mp (h w hw)).2⟩
theorem lv_args_cv (ad : Nat → Nat) : ∀ (as : List Value) (i : Nat), lv_args i (as.map (xcv ad)) = xcl ad (lv_args i as)
  | [], _ => rfl
  | v :: vs, i => by
    show (i, xcv ad v) :: lv_args (if (xcv ad v).category = 2 then i + 2 else i + 1) (vs.map (xcv ad)) = (i, xcv ad v) :: xcl ad (lv_args (if v.category = 2 then i + 2 else i + 1) vs)
    rw [xcv_cat, lv_args_cv ad vs]
theorem lg_sl_cv (ad : Nat → Nat) : ∀ (as : List Value), (lg_sl (as.map (xcv ad))).length = (lg_sl as).length
  | [] => rfl
  | v :: vs => by
    have h := lg_sl_cv ad vs
    unfold lg_sl at h ⊢
    simp only [List.map_cons, List.flatMap_cons, List.length_append, xcv_cat, h]
    congr 1
    split <;> rfl
section XSIM
variable {p : Program} {l : Launch} {e : Env} {Rm : Room} {s : State} {m : MethodId} {args : Array Value} {below : List Frame} {meth : Method} {c : Code} {Q : State → Prop} {A A1 : Nat → Prop} {D : va_G} {cI cZ : ClassId} {ad : Nat → Nat} {Ly : xLy} {Ms : List xRec} {R : xRec} {H : Heap} {locs : List Loc} {ls : Array Slot}
theorem xcall {pc : Nat} {rest st0 : List Value} {a : Array Value} {free : Addr → Prop} {r : Option Value} {s1 : xS} (hr : va_Run p l e Rm s m args below meth c H locs 0 0 0 0 (F0 m pc ls st0) rest (xQc D cI cZ ad Ly r s1 A1 a) free) (hS : va_S A s.heap H locs) (hA : ∀ q, q < H.size → A1 q → A q) (hf : ∀ q, free q → A q)
    (kk : ∀ (H1 : Heap) (locs1 : List Loc), va_P D vwCl (xw cI cZ ad Ly s1) H1 → va_S A s.heap H1 locs1 → W p l e Rm s m args below meth c H1 locs1 0 0 Q (F0 m (pc + 3) ls ((r.map (xcv ad)).toList ++ rest))) : W p l e Rm s m args below meth c H locs 0 0 Q (F0 m pc ls st0) := by
  intro T hT X
  obtain ⟨v, st₀, t, T', L, h0, X', hL, e1, e2, ⟨hv, hp, hz, hk⟩, st⟩ := hr T hT X
  cases hv
  rw [h0] at hz hk
  obtain ⟨t2, a1, b1⟩ := kk T'.heap (locs ++ L) (by rw [e1]; exact hp)
    ⟨Nat.le_trans hS.1 (by rw [e1]; exact hz), fun q h1 h2 => by rw [e1, hk q (Nat.lt_of_lt_of_le h1 hS.1) (fun z => h2 (hA q (Nat.lt_of_lt_of_le h1 hS.1) z))]; exact hS.2.1 q h1 h2, fun q hq => by
      rcases List.mem_append.mp hq with h | h
      · exact hS.2.2 q h
      · exact hf _ (hL q h)⟩ T' rfl X'
  exact ⟨t2, st t2 a1, b1⟩
theorem xw_free {s0 : xS} (hD : va_D A (xw cI cZ ad Ly s0)) (hS : va_S A s.heap H locs) (hA : ∀ q, s.heap.size ≤ q → A q) : ∀ q, va_A (xw cI cZ ad Ly s0) H.size q → A q := by
  intro q hq
  rcases hq with ⟨k, e, hk⟩ | h
  · exact hD.2 k _ hk
  · exact hA q (Nat.le_trans hS.1 h)
set_option maxHeartbeats 4000000 in
/-- a return -/
theorem xret (RG : xRg Ms R) {pc : Nat} {en : xEnt} {lv : xLv} {st : List Value} {s0 : xS} {r : Option Value} (hstep : xstep Ly (xrz R) pc en lv st s0 = some (.inr (.inr r))) (hisr : xisr en.1 = true) (hen : xeb Ms R (pc, en) = true)
    (hx : p.tables.exec = Jvm.exec) (hb : c.code = xrc R) (hr : meth.sig.returnType = xrt R) (hlocks : meth.locks = false) (hP : va_P D vwCl (xw cI cZ ad Ly s0) H) (hS : va_S A s.heap H locs) :
    W p l e Rm s m args below meth c H locs 0 0 (MQ below (xQc D cI cZ ad Ly r s0 A) args s 0 0 A) (F0 m pc ls (st.map (xcv ad))) := by
  obtain ⟨i, len, a, b, mk⟩ := en
  unfold xeb at hen
  simp only [Bool.and_eq_true, decide_eq_true_eq, Bool.or_eq_true] at hen
  obtain ⟨⟨hdg, hln⟩, hlb⟩ := hen
  have hlen : ∀ {i' : Instr}, i = i' → xsx i' = false → decode (xrc R) pc = .ok (i', xlen i') := by
    intro i' e1 e2
    subst e1
    rw [e2] at hln
    simp only [Bool.false_eq_true, false_or] at hln
    rw [hdg, Nat.eq_of_beq_eq_true hln]
  have hq : ∀ (v : Option Value) (t : State), v = r.map (xcv ad) → t.heap = H → s.WarmedH t.vm → xQc D cI cZ ad Ly r s0 A args s (.returned v) t := fun v t ev ht _ => ⟨by rw [ev], by rw [ht]; exact hP, hS.F ht⟩
  cases i with
  | return_ =>
    simp only [xstep] at hstep
    simp only [xlb] at hlb
    split at hstep
    · cases hstep
      exact W.vret hx hb (hr.trans (of_decide_eq_true hlb)) (hq none · rfl) hS.2.2 (hlen rfl rfl)
    · cases hstep
  | ireturn =>
    simp only [xstep] at hstep
    simp only [xlb] at hlb
    split at hstep
    · rename_i v
      split at hstep
      · cases hstep
      · rename_i hv
        cases hstep
        simp only [Bool.or_eq_true, decide_eq_true_eq] at hlb
        rcases hlb with (h | h) | h
        · exact W.iret hx hb (hr.trans h) (hq (some (.int v)) · rfl) hS.2.2 (hlen rfl rfl)
        · have hz : xrz R = true := by unfold xrz; rw [h]
          have h01 : v = 0 ∨ v = 1 := by
            by_cases h0 : v = 0
            · exact Or.inl h0
            · by_cases h1 : v = 1
              · exact Or.inr h1
              · exact absurd ⟨hz, h0, h1⟩ hv
          exact W.zret hx hb (hr.trans h) (by rcases h01 with rfl | rfl <;> rfl) (hq (some (.int v)) · rfl) hS.2.2 (hlen rfl rfl)
        · have hz : xrz R = true := by unfold xrz; rw [h]
          have h01 : v = 0 ∨ v = 1 := by
            by_cases h0 : v = 0
            · exact Or.inl h0
            · by_cases h1 : v = 1
              · exact Or.inr h1
              · exact absurd ⟨hz, h0, h1⟩ hv
          exact W.zret hx hb (hr.trans h) (by rcases h01 with rfl | rfl <;> rfl) (hq (some (.int v)) · rfl) hS.2.2 (hlen rfl rfl)
    · cases hstep
  | lreturn =>
    simp only [xstep] at hstep
    simp only [xlb] at hlb
    split at hstep
    · rename_i v
      cases hstep
      exact W.lret hx hb (hr.trans (of_decide_eq_true hlb)) (hq (some (.long v)) · rfl) hS.2.2 (hlen rfl rfl)
    · cases hstep
  | areturn =>
    simp only [xstep] at hstep
    simp only [xlb] at hlb
    split at hstep
    · rename_i v
      cases hstep
      split at hlb
      · rename_i nm hn
        exact W.aret hx hb (hr.trans hn) (Or.inl ⟨_, rfl⟩) (Or.inr ⟨ad v, rfl⟩) (hq (some (.ref (ad v))) · rfl) hS.2.2 (hlen rfl rfl)
      · cases hlb
    · cases hstep
  | _ => cases hisr
set_option maxHeartbeats 4000000 in
set_option maxRecDepth 100000 in
/-- the abstract machine's runs are the machine's -/
theorem xsim (l : Launch) (D : va_G) (cI cZ : ClassId) (ad : Nat → Nat) (G : xLG Ms) (CF : xCF) (LK : xLyk Ly) (RG : ∀ R ∈ Ms, xRg Ms R) (ML : Ms.length ≤ 900) : ∀ (n : Nat) (R : xRec) (f : xF) (r : Option Value) (s1 : xS), R ∈ Ms → xexec Ms Ly n R f = some (r, s1) →
    ∀ (p : Program) (e : Env) (s : State) (m : MethodId) (args : Array Value) (below : List Frame) (meth : Method) (c : Code) (A : Nat → Prop) (H : Heap) (locs : List Loc) (ls : Array Slot),
    p.tables.exec = Jvm.exec → c.code = xrc R → c.maxLocals = xrL R → meth.sig.returnType = xrt R → meth.locks = false → (∀ w ∈ xTg, w.before args s = true) → s.vm.findClass (xry R).cls = some m.cls → (∀ q, s.heap.size ≤ q → A q) → xEn ad A s s.heap →
    va_K D vwCl (xty cI cZ) s → va_P D vwCl (xw cI cZ ad Ly f.2.2.2) H → va_D A (xw cI cZ ad Ly f.2.2.2) → va_S A s.heap H locs → lv_has ls (xrL R) (xcl ad f.2.1) →
    W p l e (xrm R) s m args below meth c H locs 0 0 (MQ below (xQc D cI cZ ad Ly r s1 A) args s 0 0 A) (F0 m f.1 ls (f.2.2.1.map (xcv ad))) := by
  intro n
  induction n with
  | zero => intro R f r s1 hR h; cases h
  | succ n ih =>
    intro R f r s1 hR h p e s m args below meth c A H locs ls hx hb hml hr hlocks hts hown hA hE hK hP hD hS hl
    obtain ⟨pc, lv, st, s0⟩ := f
    simp only [xexec] at h
    cases hlk : xlk (xri R) pc with
    | none => rw [hlk] at h; cases h
    | some en =>
      rw [hlk] at h
      simp only at h
      have hg := RG R hR
      have hen := hg.1 _ (xlk_mem hlk)
      have hl' := xmask_has (m := en.2.2.2.2) hl
      cases hst : xstep Ly (xrz R) pc en (xmask en.2.2.2.2 lv) st s0 with
      | none => rw [hst] at h; cases h
      | some o =>
        rw [hst] at h
        rcases o with g | cc | rr
        · exact xgo G CF LK hst hen rfl hg.2.1 hx hb hml hts hown hE hK hP hD hS hl' (fun H1 locs1 ls1 hP1 hD1 hS1 hl1 => ih R g r s1 hR h p e s m args below meth c A H1 locs1 ls1 hx hb hml hr hlocks hts hown hA hE hK hP1 hD1 hS1 hl1)
        · simp only at h
          cases hms : Ms[cc.1]? with
          | none => rw [hms] at h; cases h
          | some R' =>
            rw [hms] at h
            obtain ⟨hcd, h⟩ := cond_some h
            rw [Bool.and_eq_true, Bool.and_eq_true] at hcd
            obtain ⟨⟨hisc, hrecv⟩, hfit⟩ := hcd
            cases hxe : xexec Ms Ly n R' (0, lv_args 0 cc.2.1, [], s0) with
            | none => rw [hxe] at h; cases h
            | some q =>
              rw [hxe] at h
              simp only at h
              obtain ⟨r2, s2⟩ := q
              have hR' : R' ∈ Ms := List.mem_of_getElem? hms
              have hg' := RG R' hR'
              have hfit' : (lg_sl (cc.2.1.map (xcv ad))).length ≤ xrL R' := by rw [lg_sl_cv]; exact Nat.le_of_ble_eq_true hfit
              -- the callee's contract
              have hM : Met l (xry R') (xws R') (xrm R') (xPc D cI cZ ad Ly cc.2.1 s0 H.size) (xQc D cI cZ ad Ly r2 s2 (va_A (xw cI cZ ad Ly s0) H.size)) 0 0 (va_A (xw cI cZ ad Ly s0) H.size) := by
                refine Met.ofW (cc := xrc R') (maxL := xrL R') (ret := xrt R') hg'.2.2.2.2.1 rfl ?_
                intro p' e' s' m' args' below' meth' c' s₁' B hml' hv
                obtain ⟨rfl, hsz, hP', hK', hD', hE'⟩ := hv
                have hts' := atoms_spec (ws := xws R') B.pre
                have hown' : s'.vm.findClass (xry R').cls = some m'.cls := findClass_of_methodNamed B.named
                rw [lg_entry_eq]
                have hl0 := lv_entry (cc.2.1.map (xcv ad)) (n := xrL R') hfit'
                rw [lv_args_cv] at hl0
                rw [← hsz] at hE' ⊢
                exact ih R' (0, lv_args 0 cc.2.1, [], s0) r2 s2 hR' hxe p' e' s' m' _ below' meth' c' _ s'.heap [] _ B.exec B.bytes hml' B.returns B.notSynchronized (fun w hw => hts' w (List.mem_cons_of_mem _ hw)) hown' (fun q hq => Or.inr hq) hE' hK' hP' hD'.self va_S.rf hl0
              have hFc := xw_free hD hS hA
              have hEH : xEn ad A s H := hE.kept hS.2.1
              have hblind : FrameBlind (xPc D cI cZ ad Ly cc.2.1 s0 H.size) := fun a U g mk q => by
                obtain ⟨q0, q1, qP, qK, qD, qE⟩ := q
                exact ⟨q0, q1, qP, va_K.moved (u := U) (U := U.calling g mk a) (Vm.Alike.refl U.vm) qK, qD, xEn.same (u := U) (U := U.calling g mk a) rfl (Vm.Alike.refl U.vm) qE⟩
              have hpre : ∀ U : State, U.heap = H → s.WarmedH U.vm → xPc D cI cZ ad Ly cc.2.1 s0 H.size (cc.2.1.map (xcv ad)).toArray U := fun U hU hW =>
                ⟨rfl, by rw [hU], by rw [hU]; exact hP, va_K.moved hW.alike hK, hD.weaken (fun _ _ _ _ => trivial), by rw [hU]; exact (hEH.narrow hFc).warm hW⟩
              have hkk : ∀ (H1 : Heap) (locs1 : List Loc), va_P D vwCl (xw cI cZ ad Ly s2) H1 → va_S A s.heap H1 locs1 → W p l e (xrm R) s m args below meth c H1 locs1 0 0 (MQ below (xQc D cI cZ ad Ly r s1 A) args s 0 0 A) (F0 m (pc + 3) ls ((r2.map (xcv ad)).toList ++ cc.2.2.map (xcv ad))) := fun H1 locs1 hP1 hS1 => by
                have hz := ih R (pc + 3, xmask en.2.2.2.2 lv, r2.toList ++ cc.2.2, s2) r s1 hR h p e s m args below meth c A H1 locs1 ls hx hb hml hr hlocks hts hown hA hE hK hP1 (xw_ad hD) hS1 hl'
                rw [List.map_append] at hz
                have he : (r2.map (xcv ad)).toList = r2.toList.map (xcv ad) := by cases r2 <;> rfl
                rw [he]
                exact hz
              obtain ⟨i, len, a, b, mk⟩ := en
              have hen0 := hen
              unfold xeb at hen
              simp only [Bool.and_eq_true, decide_eq_true_eq, Bool.or_eq_true] at hen
              obtain ⟨⟨hdg, hln⟩, hlb⟩ := hen
              have hlen : ∀ {i' : Instr}, i = i' → xsx i' = false → decode (xrc R) pc = .ok (i', xlen i') := by
                intro i' e1 e2
                subst e1
                rw [e2] at hln
                simp only [Bool.false_eq_true, false_or] at hln
                rw [hdg, Nat.eq_of_beq_eq_true hln]
              have hown2 := hown
              rw [hg.2.1] at hown2
              cases i with
              | invokestatic ix =>
                simp only [xstep] at hst
                simp only [xlb] at hlb
                cases hc2 : Nat.beq a 902 with
                | true =>
                  rw [hc2] at hst
                  simp only [cond_true] at hst
                  split at hst
                  · obtain ⟨n0, -, h4⟩ := xaw_some hst
                    obtain ⟨n1, -, h6⟩ := xaw_some h4
                    obtain ⟨-, h8⟩ := xck_some h6
                    cases h8
                  · cases hst
                | false =>
                  rw [hc2] at hst hlb
                  simp only [cond_false] at hst hlb
                  obtain ⟨hst1, hst2⟩ := cond_some hst
                  rw [Bool.and_eq_true] at hst1
                  have hble : b ≤ st.length := Nat.le_of_ble_eq_true hst1.1
                  have hcat : xcat (st.drop b) ≤ 8 := Nat.le_of_ble_eq_true hst1.2
                  have ecc : cc = (a, (st.take b).reverse, st.drop b) := by cases hst2; rfl
                  subst ecc
                  cases h98 : Nat.beq a 998 with
                  | true =>
                    have ea : a = 998 := Nat.eq_of_beq_eq_true h98
                    have := (List.getElem?_eq_some_iff.mp hms).1
                    simp only at this
                    omega
                  | false =>
                    rw [h98] at hlb
                    simp only [cond_false, Bool.and_eq_true, decide_eq_true_eq] at hlb
                    obtain ⟨hlk2, hok⟩ := hlb
                    unfold xcallok at hok
                    have hms2 : Ms[a]? = some R' := hms
                    rw [hms2] at hok
                    simp only [Bool.and_eq_true] at hok
                    obtain ⟨⟨⟨o1, o2⟩, o3⟩, o4⟩ := hok
                    have hsv : xrv R' = false := by simpa using o1
                    have hnb : xrn R' = b := Nat.eq_of_beq_eq_true o2
                    have hw := (G.2.2.2.1 _ hlk2).2 R' hms2
                    have cw := va_cwS (R := xrm R) (s := s) (args := args) (own := xcn (xro R)) (index := ix) (y := xry R') (bytes := xrc R') (maxL := xrL R') (mc := 0) (ms := 0) (ret := xrt R') (Ts := xTg) (ws := xws R') (ws' := xTg) (rm := xrm R') (xrn R') hts (xTg_good (fun w hw2 => by
                      unfold va_wsS at hw2
                      rcases List.mem_append.mp hw2 with h1 | h1
                      · simp only [List.mem_cons, List.not_mem_nil, or_false] at h1
                        rcases h1 with rfl | rfl | rfl
                        · exact hw
                        · exact hg'.2.2.2.2.2.2.2 hsv
                        · exact hg'.2.2.2.1
                      · rcases List.mem_cons.mp h1 with rfl | h1
                        · exact hg'.2.2.1
                        · exact h1)) rfl rfl rfl hg'.2.2.2.2.2.1 ⟨Nat.le_of_ble_eq_true o3, Nat.le_of_ble_eq_true o4⟩
                    refine xcall (va_runS (g := F0 m pc ls (st.map (xcv ad))) (As := (st.take b).reverse.map (xcv ad)) (rest := (st.drop b).map (xcv ad)) (Ts := xTg) ⟨hx, hb, hml, hown2, hts⟩ hM cw ⟨hblind, hpre⟩ rfl (by rw [List.length_map, List.length_reverse, List.length_take, hnb]; omega) hl.1 ?_ (lv_room (by rw [xcat_map]; exact hcat)) (hlen rfl rfl) ⟨Nat.le_refl _, Nat.le_refl _⟩) hS (fun q _ h => hFc q h) hFc hkk
                    show st.map (xcv ad) = _
                    rw [← List.map_reverse, List.reverse_reverse, ← List.map_append, List.take_append_drop]
              | invokevirtual ix =>
                simp only [xstep] at hst
                simp only [xlb, Bool.and_eq_true, decide_eq_true_eq] at hlb
                obtain ⟨hlk2, hok⟩ := hlb
                split at hst
                · rename_i q rr hdr
                  obtain ⟨hst1, hst2⟩ := cond_some hst
                  have hcat : xcat rr ≤ 8 := Nat.le_of_ble_eq_true hst1
                  have ecc : cc = (a, .ref q :: (st.take b).reverse, rr) := by cases hst2; rfl
                  subst ecc
                  have hbl : b < st.length := by
                    rcases Nat.lt_or_ge b st.length with h1 | h1
                    · exact h1
                    · rw [List.drop_eq_nil_of_le h1] at hdr; cases hdr
                  unfold xcallok at hok
                  have hms2 : Ms[a]? = some R' := hms
                  rw [hms2] at hok
                  simp only [Bool.and_eq_true] at hok
                  obtain ⟨⟨⟨o1, o2⟩, o3⟩, o4⟩ := hok
                  have hsv : xrv R' = true := by simpa using o1
                  have hnb : xrn R' = b := Nat.eq_of_beq_eq_true o2
                  have hw := G.2.2.1 _ hlk2 R' hms2
                  have hvi := hg'.2.2.2.2.2.2.1 hsv
                  have cw := cwV (R := xrm R) (s := s) (args := args) (own := xcn (xro R)) (C := (xry R').cls) (index := ix) (y := xry R') (bytes := xrc R') (maxL := xrL R') (mc := 0) (ms := 0) (ret := xrt R') (Ts := xTg) (ws := xws R') (ws' := xTg) (rm := xrm R') (xrn R') hts (xTg_good (fun w hw2 => by
                    unfold wsV at hw2
                    rcases List.mem_append.mp hw2 with h1 | h1
                    · simp only [List.mem_cons, List.not_mem_nil, or_false] at h1
                      rcases h1 with rfl | rfl | rfl | rfl
                      · exact hw
                      · exact hvi.1
                      · exact hvi.2.1
                      · exact hg'.2.2.2.1
                    · rcases List.mem_cons.mp h1 with rfl | h1
                      · exact hg'.2.2.1
                      · exact h1)) rfl rfl rfl ⟨rfl, hg'.2.2.2.2.2.1⟩ ⟨Nat.le_of_ble_eq_true o3, Nat.le_of_ble_eq_true o4⟩
                  have hrc : ∃ cell : Cell, H[ad q]? = some cell ∧ cell.vm.isStatics = false ∧ s.vm.findClass (xry R').cls = some cell.cls := by
                    unfold xrecv at hrecv
                    rw [hsv] at hrecv
                    simp only [cond_true] at hrecv
                    rcases hvi.2.2 with ⟨g1, g2⟩ | ⟨T, N, g1⟩
                    · rw [g1] at hrecv
                      rw [g2]
                      have hq : ∃ i, i < 2 ∧ q = 1002 + i := by
                        have h3 : (Nat.beq q 1002 || Nat.beq q 1003) = true := hrecv
                        rcases Bool.or_eq_true _ _ ▸ h3 with h | h
                        · exact ⟨0, by decide, Nat.eq_of_beq_eq_true h⟩
                        · exact ⟨1, by decide, Nat.eq_of_beq_eq_true h⟩
                      obtain ⟨i, hi, rfl⟩ := hq
                      exact vk_recv (i := i) (adK := fun i => ad (1002 + i)) hE.2.2.2.2.2.1 hi hS
                    · cases h12 : Nat.beq (xro R') 12 with
                      | true =>
                        have := Nat.eq_of_beq_eq_true h12
                        rw [this] at g1
                        cases g1
                      | false =>
                        rw [h12] at hrecv
                        simp only [cond_false] at hrecv
                        split at hrecv
                        · rename_i oo ho
                          have eo : oo.1 = xro R' := Nat.eq_of_beq_eq_true hrecv
                          obtain ⟨o1', o2'⟩ := oo
                          simp only at eo
                          subst eo
                          exact va_recv hK hP g1 (xw_at ho)
                        · cases hrecv
                  refine xcall (va_runV (g := F0 m pc ls (st.map (xcv ad))) (b := ad q) (As := (st.take b).reverse.map (xcv ad)) (rest := rr.map (xcv ad)) (Ts := xTg) ⟨hx, hb, hml, hown2, hts⟩ hM cw ⟨hblind, hrc, hpre⟩ rfl (by rw [List.length_map, List.length_reverse, List.length_take, hnb]; omega) hl.1 ?_ (lv_room (by rw [xcat_map]; exact hcat)) (hlen rfl rfl) ⟨Nat.le_refl _, Nat.le_refl _⟩) hS (fun q _ h => hFc q h) hFc hkk
                  show st.map (xcv ad) = _
                  rw [← List.map_reverse, List.reverse_reverse]
                  conv => lhs; rw [← List.take_append_drop b st, List.map_append, hdr]
                  rfl
                · cases hst
              | _ => cases hisc
        · obtain ⟨hi, h⟩ := cond_some h
          cases h
          exact xret hg hst hi hen hx hb hr hlocks hP hS
end XSIM
end
