set_option maxRecDepth 100000 in
theorem xe_X8_get : xL_X8_get.all (xeb xMs xR_X8_get) = true := by decide +kernel
set_option maxRecDepth 100000 in
theorem xg_X8_get : xRg xMs xR_X8_get := ⟨fun q hq => List.all_eq_true.mp xe_X8_get q hq, rfl, xin 849 (by decide +kernel) (by decide +kernel), xin 81 (by decide +kernel) (by decide +kernel), by decide +kernel, ⟨by decide +kernel, by decide +kernel, by decide +kernel⟩, fun _ => ⟨xin 847 (by decide +kernel) (by decide +kernel), xin 848 (by decide +kernel) (by decide +kernel), Or.inr ⟨_, _, rfl⟩⟩, (fun h => by cases h)⟩
set_option maxRecDepth 100000 in
theorem xe_X8_copy : xL_X8_copy.all (xeb xMs xR_X8_copy) = true := by decide +kernel
set_option maxRecDepth 100000 in
theorem xg_X8_copy : xRg xMs xR_X8_copy := ⟨fun q hq => List.all_eq_true.mp xe_X8_copy q hq, rfl, xin 854 (by decide +kernel) (by decide +kernel), xin 81 (by decide +kernel) (by decide +kernel), by decide +kernel, ⟨by decide +kernel, by decide +kernel, by decide +kernel⟩, fun _ => ⟨xin 852 (by decide +kernel) (by decide +kernel), xin 853 (by decide +kernel) (by decide +kernel), Or.inr ⟨_, _, rfl⟩⟩, (fun h => by cases h)⟩
set_option maxRecDepth 100000 in
theorem xe_X8_write : xL_X8_write.all (xeb xMs xR_X8_write) = true := by decide +kernel
set_option maxRecDepth 100000 in
theorem xg_X8_write : xRg xMs xR_X8_write := ⟨fun q hq => List.all_eq_true.mp xe_X8_write q hq, rfl, xin 868 (by decide +kernel) (by decide +kernel), xin 81 (by decide +kernel) (by decide +kernel), by decide +kernel, ⟨by decide +kernel, by decide +kernel, by decide +kernel⟩, fun _ => ⟨xin 866 (by decide +kernel) (by decide +kernel), xin 867 (by decide +kernel) (by decide +kernel), Or.inr ⟨_, _, rfl⟩⟩, (fun h => by cases h)⟩
set_option maxRecDepth 100000 in
theorem xe_X8_count : xL_X8_count.all (xeb xMs xR_X8_count) = true := by decide +kernel
set_option maxRecDepth 100000 in
theorem xg_X8_count : xRg xMs xR_X8_count := ⟨fun q hq => List.all_eq_true.mp xe_X8_count q hq, rfl, xin 873 (by decide +kernel) (by decide +kernel), xin 81 (by decide +kernel) (by decide +kernel), by decide +kernel, ⟨by decide +kernel, by decide +kernel, by decide +kernel⟩, fun _ => ⟨xin 871 (by decide +kernel) (by decide +kernel), xin 872 (by decide +kernel) (by decide +kernel), Or.inr ⟨_, _, rfl⟩⟩, (fun h => by cases h)⟩
set_option maxRecDepth 100000 in
theorem xe_X8_digest : xL_X8_digest.all (xeb xMs xR_X8_digest) = true := by decide +kernel
set_option maxRecDepth 100000 in
theorem xg_X8_digest : xRg xMs xR_X8_digest := ⟨fun q hq => List.all_eq_true.mp xe_X8_digest q hq, rfl, xin 881 (by decide +kernel) (by decide +kernel), xin 81 (by decide +kernel) (by decide +kernel), by decide +kernel, ⟨by decide +kernel, by decide +kernel, by decide +kernel⟩, fun _ => ⟨xin 879 (by decide +kernel) (by decide +kernel), xin 880 (by decide +kernel) (by decide +kernel), Or.inr ⟨_, _, rfl⟩⟩, (fun h => by cases h)⟩
set_option maxRecDepth 100000 in
theorem xe_X8_mixDeed : xL_X8_mixDeed.all (xeb xMs xR_X8_mixDeed) = true := by decide +kernel
set_option maxRecDepth 100000 in
theorem xg_X8_mixDeed : xRg xMs xR_X8_mixDeed := ⟨fun q hq => List.all_eq_true.mp xe_X8_mixDeed q hq, rfl, xin 896 (by decide +kernel) (by decide +kernel), xin 81 (by decide +kernel) (by decide +kernel), by decide +kernel, ⟨by decide +kernel, by decide +kernel, by decide +kernel⟩, fun _ => ⟨xin 895 (by decide +kernel) (by decide +kernel), xin 28 (by decide +kernel) (by decide +kernel), Or.inr ⟨_, _, rfl⟩⟩, (fun h => by cases h)⟩
set_option maxRecDepth 100000 in
theorem xe_X8_mix : xL_X8_mix.all (xeb xMs xR_X8_mix) = true := by decide +kernel
set_option maxRecDepth 100000 in
theorem xg_X8_mix : xRg xMs xR_X8_mix := ⟨fun q hq => List.all_eq_true.mp xe_X8_mix q hq, rfl, xin 886 (by decide +kernel) (by decide +kernel), xin 81 (by decide +kernel) (by decide +kernel), by decide +kernel, ⟨by decide +kernel, by decide +kernel, by decide +kernel⟩, (fun h => by cases h), fun _ => xin 885 (by decide +kernel) (by decide +kernel)⟩
set_option maxRecDepth 100000 in
theorem xe_X8_isOutside : xL_X8_isOutside.all (xeb xMs xR_X8_isOutside) = true := by decide +kernel
set_option maxRecDepth 100000 in
theorem xg_X8_isOutside : xRg xMs xR_X8_isOutside := ⟨fun q hq => List.all_eq_true.mp xe_X8_isOutside q hq, rfl, xin 421 (by decide +kernel) (by decide +kernel), xin 81 (by decide +kernel) (by decide +kernel), by decide +kernel, ⟨by decide +kernel, by decide +kernel, by decide +kernel⟩, (fun h => by cases h), fun _ => xin 420 (by decide +kernel) (by decide +kernel)⟩
set_option maxRecDepth 100000 in
theorem xe_X8_isNoDeed : xL_X8_isNoDeed.all (xeb xMs xR_X8_isNoDeed) = true := by decide +kernel
set_option maxRecDepth 100000 in
theorem xg_X8_isNoDeed : xRg xMs xR_X8_isNoDeed := ⟨fun q hq => List.all_eq_true.mp xe_X8_isNoDeed q hq, rfl, xin 599 (by decide +kernel) (by decide +kernel), xin 81 (by decide +kernel) (by decide +kernel), by decide +kernel, ⟨by decide +kernel, by decide +kernel, by decide +kernel⟩, fun _ => ⟨xin 598 (by decide +kernel) (by decide +kernel), xin 12 (by decide +kernel) (by decide +kernel), Or.inr ⟨_, _, rfl⟩⟩, (fun h => by cases h)⟩
set_option maxRecDepth 100000 in
theorem xe_X8_isNoThunder : xL_X8_isNoThunder.all (xeb xMs xR_X8_isNoThunder) = true := by decide +kernel
set_option maxRecDepth 100000 in
theorem xg_X8_isNoThunder : xRg xMs xR_X8_isNoThunder := ⟨fun q hq => List.all_eq_true.mp xe_X8_isNoThunder q hq, rfl, xin 610 (by decide +kernel) (by decide +kernel), xin 81 (by decide +kernel) (by decide +kernel), by decide +kernel, ⟨by decide +kernel, by decide +kernel, by decide +kernel⟩, (fun h => by cases h), fun _ => xin 609 (by decide +kernel) (by decide +kernel)⟩
set_option maxRecDepth 100000 in
theorem xe_X8_textOf : xL_X8_textOf.all (xeb xMs xR_X8_textOf) = true := by decide +kernel
set_option maxRecDepth 100000 in
theorem xg_X8_textOf : xRg xMs xR_X8_textOf := ⟨fun q hq => List.all_eq_true.mp xe_X8_textOf q hq, rfl, xin 425 (by decide +kernel) (by decide +kernel), xin 81 (by decide +kernel) (by decide +kernel), by decide +kernel, ⟨by decide +kernel, by decide +kernel, by decide +kernel⟩, fun _ => ⟨xin 424 (by decide +kernel) (by decide +kernel), xin 4 (by decide +kernel) (by decide +kernel), Or.inr ⟨_, _, rfl⟩⟩, (fun h => by cases h)⟩
set_option maxRecDepth 100000 in
theorem xe_X8_readAnew : xL_X8_readAnew.all (xeb xMs xR_X8_readAnew) = true := by decide +kernel
set_option maxRecDepth 100000 in
theorem xg_X8_readAnew : xRg xMs xR_X8_readAnew := ⟨fun q hq => List.all_eq_true.mp xe_X8_readAnew q hq, rfl, xin 437 (by decide +kernel) (by decide +kernel), xin 81 (by decide +kernel) (by decide +kernel), by decide +kernel, ⟨by decide +kernel, by decide +kernel, by decide +kernel⟩, fun _ => ⟨xin 436 (by decide +kernel) (by decide +kernel), xin 5 (by decide +kernel) (by decide +kernel), Or.inr ⟨_, _, rfl⟩⟩, (fun h => by cases h)⟩
set_option maxRecDepth 100000 in
theorem xe_X8_sleepAnew : xL_X8_sleepAnew.all (xeb xMs xR_X8_sleepAnew) = true := by decide +kernel
set_option maxRecDepth 100000 in
theorem xg_X8_sleepAnew : xRg xMs xR_X8_sleepAnew := ⟨fun q hq => List.all_eq_true.mp xe_X8_sleepAnew q hq, rfl, xin 315 (by decide +kernel) (by decide +kernel), xin 81 (by decide +kernel) (by decide +kernel), by decide +kernel, ⟨by decide +kernel, by decide +kernel, by decide +kernel⟩, fun _ => ⟨xin 314 (by decide +kernel) (by decide +kernel), xin 0 (by decide +kernel) (by decide +kernel), Or.inr ⟨_, _, rfl⟩⟩, (fun h => by cases h)⟩
set_option maxRecDepth 100000 in
theorem xe_X8_asHour : xL_X8_asHour.all (xeb xMs xR_X8_asHour) = true := by decide +kernel
set_option maxRecDepth 100000 in
theorem xg_X8_asHour : xRg xMs xR_X8_asHour := ⟨fun q hq => List.all_eq_true.mp xe_X8_asHour q hq, rfl, xin 696 (by decide +kernel) (by decide +kernel), xin 81 (by decide +kernel) (by decide +kernel), by decide +kernel, ⟨by decide +kernel, by decide +kernel, by decide +kernel⟩, (fun h => by cases h), fun _ => xin 695 (by decide +kernel) (by decide +kernel)⟩
set_option maxRecDepth 100000 in
theorem xe_X8_bestHourOf : xL_X8_bestHourOf.all (xeb xMs xR_X8_bestHourOf) = true := by decide +kernel
set_option maxRecDepth 100000 in
theorem xg_X8_bestHourOf : xRg xMs xR_X8_bestHourOf := ⟨fun q hq => List.all_eq_true.mp xe_X8_bestHourOf q hq, rfl, xin 681 (by decide +kernel) (by decide +kernel), xin 81 (by decide +kernel) (by decide +kernel), by decide +kernel, ⟨by decide +kernel, by decide +kernel, by decide +kernel⟩, fun _ => ⟨xin 680 (by decide +kernel) (by decide +kernel), xin 14 (by decide +kernel) (by decide +kernel), Or.inr ⟨_, _, rfl⟩⟩, (fun h => by cases h)⟩
set_option maxRecDepth 100000 in
theorem xe_X8_latenessAt : xL_X8_latenessAt.all (xeb xMs xR_X8_latenessAt) = true := by decide +kernel
set_option maxRecDepth 100000 in
theorem xg_X8_latenessAt : xRg xMs xR_X8_latenessAt := ⟨fun q hq => List.all_eq_true.mp xe_X8_latenessAt q hq, rfl, xin 685 (by decide +kernel) (by decide +kernel), xin 81 (by decide +kernel) (by decide +kernel), by decide +kernel, ⟨by decide +kernel, by decide +kernel, by decide +kernel⟩, fun _ => ⟨xin 684 (by decide +kernel) (by decide +kernel), xin 15 (by decide +kernel) (by decide +kernel), Or.inr ⟨_, _, rfl⟩⟩, (fun h => by cases h)⟩
set_option maxRecDepth 100000 in
theorem xe_X8_bestBed : xL_X8_bestBed.all (xeb xMs xR_X8_bestBed) = true := by decide +kernel
set_option maxRecDepth 100000 in
theorem xg_X8_bestBed : xRg xMs xR_X8_bestBed := ⟨fun q hq => List.all_eq_true.mp xe_X8_bestBed q hq, rfl, xin 733 (by decide +kernel) (by decide +kernel), xin 81 (by decide +kernel) (by decide +kernel), by decide +kernel, ⟨by decide +kernel, by decide +kernel, by decide +kernel⟩, fun _ => ⟨xin 732 (by decide +kernel) (by decide +kernel), xin 20 (by decide +kernel) (by decide +kernel), Or.inr ⟨_, _, rfl⟩⟩, (fun h => by cases h)⟩
set_option maxRecDepth 100000 in
theorem xe_X8_latenessWithBed : xL_X8_latenessWithBed.all (xeb xMs xR_X8_latenessWithBed) = true := by decide +kernel
set_option maxRecDepth 100000 in
theorem xg_X8_latenessWithBed : xRg xMs xR_X8_latenessWithBed := ⟨fun q hq => List.all_eq_true.mp xe_X8_latenessWithBed q hq, rfl, xin 737 (by decide +kernel) (by decide +kernel), xin 81 (by decide +kernel) (by decide +kernel), by decide +kernel, ⟨by decide +kernel, by decide +kernel, by decide +kernel⟩, fun _ => ⟨xin 736 (by decide +kernel) (by decide +kernel), xin 21 (by decide +kernel) (by decide +kernel), Or.inr ⟨_, _, rfl⟩⟩, (fun h => by cases h)⟩
set_option maxRecDepth 100000 in
theorem xe_X8_planFelt : xL_X8_planFelt.all (xeb xMs xR_X8_planFelt) = true := by decide +kernel
set_option maxRecDepth 100000 in
theorem xg_X8_planFelt : xRg xMs xR_X8_planFelt := ⟨fun q hq => List.all_eq_true.mp xe_X8_planFelt q hq, rfl, xin 704 (by decide +kernel) (by decide +kernel), xin 81 (by decide +kernel) (by decide +kernel), by decide +kernel, ⟨by decide +kernel, by decide +kernel, by decide +kernel⟩, fun _ => ⟨xin 703 (by decide +kernel) (by decide +kernel), xin 16 (by decide +kernel) (by decide +kernel), Or.inr ⟨_, _, rfl⟩⟩, (fun h => by cases h)⟩
set_option maxRecDepth 100000 in
theorem xe_X8_isStillWithOne : xL_X8_isStillWithOne.all (xeb xMs xR_X8_isStillWithOne) = true := by decide +kernel
set_option maxRecDepth 100000 in
theorem xg_X8_isStillWithOne : xRg xMs xR_X8_isStillWithOne := ⟨fun q hq => List.all_eq_true.mp xe_X8_isStillWithOne q hq, rfl, xin 708 (by decide +kernel) (by decide +kernel), xin 81 (by decide +kernel) (by decide +kernel), by decide +kernel, ⟨by decide +kernel, by decide +kernel, by decide +kernel⟩, fun _ => ⟨xin 707 (by decide +kernel) (by decide +kernel), xin 17 (by decide +kernel) (by decide +kernel), Or.inr ⟨_, _, rfl⟩⟩, (fun h => by cases h)⟩
set_option maxRecDepth 100000 in
theorem xe_X8_isStillWithTwo : xL_X8_isStillWithTwo.all (xeb xMs xR_X8_isStillWithTwo) = true := by decide +kernel
set_option maxRecDepth 100000 in
theorem xg_X8_isStillWithTwo : xRg xMs xR_X8_isStillWithTwo := ⟨fun q hq => List.all_eq_true.mp xe_X8_isStillWithTwo q hq, rfl, xin 725 (by decide +kernel) (by decide +kernel), xin 81 (by decide +kernel) (by decide +kernel), by decide +kernel, ⟨by decide +kernel, by decide +kernel, by decide +kernel⟩, fun _ => ⟨xin 724 (by decide +kernel) (by decide +kernel), xin 19 (by decide +kernel) (by decide +kernel), Or.inr ⟨_, _, rfl⟩⟩, (fun h => by cases h)⟩
set_option maxRecDepth 100000 in
theorem xe_X8_isStillWith : xL_X8_isStillWith.all (xeb xMs xR_X8_isStillWith) = true := by decide +kernel
set_option maxRecDepth 100000 in
theorem xg_X8_isStillWith : xRg xMs xR_X8_isStillWith := ⟨fun q hq => List.all_eq_true.mp xe_X8_isStillWith q hq, rfl, xin 717 (by decide +kernel) (by decide +kernel), xin 81 (by decide +kernel) (by decide +kernel), by decide +kernel, ⟨by decide +kernel, by decide +kernel, by decide +kernel⟩, fun _ => ⟨xin 716 (by decide +kernel) (by decide +kernel), xin 18 (by decide +kernel) (by decide +kernel), Or.inr ⟨_, _, rfl⟩⟩, (fun h => by cases h)⟩
set_option maxRecDepth 100000 in
theorem xe_X8_findPlaces : xL_X8_findPlaces.all (xeb xMs xR_X8_findPlaces) = true := by decide +kernel
set_option maxRecDepth 100000 in
theorem xg_X8_findPlaces : xRg xMs xR_X8_findPlaces := ⟨fun q hq => List.all_eq_true.mp xe_X8_findPlaces q hq, rfl, xin 767 (by decide +kernel) (by decide +kernel), xin 81 (by decide +kernel) (by decide +kernel), by decide +kernel, ⟨by decide +kernel, by decide +kernel, by decide +kernel⟩, fun _ => ⟨xin 766 (by decide +kernel) (by decide +kernel), xin 22 (by decide +kernel) (by decide +kernel), Or.inr ⟨_, _, rfl⟩⟩, (fun h => by cases h)⟩
set_option maxRecDepth 100000 in
theorem xe_X8_mostAlike : xL_X8_mostAlike.all (xeb xMs xR_X8_mostAlike) = true := by decide +kernel
set_option maxRecDepth 100000 in
theorem xg_X8_mostAlike : xRg xMs xR_X8_mostAlike := ⟨fun q hq => List.all_eq_true.mp xe_X8_mostAlike q hq, rfl, xin 782 (by decide +kernel) (by decide +kernel), xin 81 (by decide +kernel) (by decide +kernel), by decide +kernel, ⟨by decide +kernel, by decide +kernel, by decide +kernel⟩, fun _ => ⟨xin 781 (by decide +kernel) (by decide +kernel), xin 23 (by decide +kernel) (by decide +kernel), Or.inr ⟨_, _, rfl⟩⟩, (fun h => by cases h)⟩
set_option maxRecDepth 100000 in
theorem xe_X8_weightOfSleep : xL_X8_weightOfSleep.all (xeb xMs xR_X8_weightOfSleep) = true := by decide +kernel
set_option maxRecDepth 100000 in
theorem xg_X8_weightOfSleep : xRg xMs xR_X8_weightOfSleep := ⟨fun q hq => List.all_eq_true.mp xe_X8_weightOfSleep q hq, rfl, xin 792 (by decide +kernel) (by decide +kernel), xin 81 (by decide +kernel) (by decide +kernel), by decide +kernel, ⟨by decide +kernel, by decide +kernel, by decide +kernel⟩, fun _ => ⟨xin 791 (by decide +kernel) (by decide +kernel), xin 24 (by decide +kernel) (by decide +kernel), Or.inr ⟨_, _, rfl⟩⟩, (fun h => by cases h)⟩
set_option maxRecDepth 100000 in
theorem xe_X8_weightOf : xL_X8_weightOf.all (xeb xMs xR_X8_weightOf) = true := by decide +kernel
set_option maxRecDepth 100000 in
theorem xg_X8_weightOf : xRg xMs xR_X8_weightOf := ⟨fun q hq => List.all_eq_true.mp xe_X8_weightOf q hq, rfl, xin 796 (by decide +kernel) (by decide +kernel), xin 81 (by decide +kernel) (by decide +kernel), by decide +kernel, ⟨by decide +kernel, by decide +kernel, by decide +kernel⟩, fun _ => ⟨xin 795 (by decide +kernel) (by decide +kernel), xin 25 (by decide +kernel) (by decide +kernel), Or.inr ⟨_, _, rfl⟩⟩, (fun h => by cases h)⟩
set_option maxRecDepth 100000 in
theorem xe_X8_drawDeeds : xL_X8_drawDeeds.all (xeb xMs xR_X8_drawDeeds) = true := by decide +kernel
set_option maxRecDepth 100000 in
theorem xg_X8_drawDeeds : xRg xMs xR_X8_drawDeeds := ⟨fun q hq => List.all_eq_true.mp xe_X8_drawDeeds q hq, rfl, xin 806 (by decide +kernel) (by decide +kernel), xin 81 (by decide +kernel) (by decide +kernel), by decide +kernel, ⟨by decide +kernel, by decide +kernel, by decide +kernel⟩, fun _ => ⟨xin 805 (by decide +kernel) (by decide +kernel), xin 26 (by decide +kernel) (by decide +kernel), Or.inr ⟨_, _, rfl⟩⟩, (fun h => by cases h)⟩
set_option maxRecDepth 100000 in
theorem xe_X8_nextLot : xL_X8_nextLot.all (xeb xMs xR_X8_nextLot) = true := by decide +kernel
set_option maxRecDepth 100000 in
theorem xg_X8_nextLot : xRg xMs xR_X8_nextLot := ⟨fun q hq => List.all_eq_true.mp xe_X8_nextLot q hq, rfl, xin 809 (by decide +kernel) (by decide +kernel), xin 81 (by decide +kernel) (by decide +kernel), by decide +kernel, ⟨by decide +kernel, by decide +kernel, by decide +kernel⟩, (fun h => by cases h), fun _ => xin 808 (by decide +kernel) (by decide +kernel)⟩
set_option maxRecDepth 100000 in
theorem xe_X8_refusalOfItem : xL_X8_refusalOfItem.all (xeb xMs xR_X8_refusalOfItem) = true := by decide +kernel
set_option maxRecDepth 100000 in
theorem xg_X8_refusalOfItem : xRg xMs xR_X8_refusalOfItem := ⟨fun q hq => List.all_eq_true.mp xe_X8_refusalOfItem q hq, rfl, xin 837 (by decide +kernel) (by decide +kernel), xin 81 (by decide +kernel) (by decide +kernel), by decide +kernel, ⟨by decide +kernel, by decide +kernel, by decide +kernel⟩, fun _ => ⟨xin 836 (by decide +kernel) (by decide +kernel), xin 27 (by decide +kernel) (by decide +kernel), Or.inr ⟨_, _, rfl⟩⟩, (fun h => by cases h)⟩
set_option maxRecDepth 100000 in
theorem xe_X8_find : xL_X8_find.all (xeb xMs xR_X8_find) = true := by decide +kernel
set_option maxRecDepth 100000 in
theorem xg_X8_find : xRg xMs xR_X8_find := ⟨fun q hq => List.all_eq_true.mp xe_X8_find q hq, rfl, xin 635 (by decide +kernel) (by decide +kernel), xin 81 (by decide +kernel) (by decide +kernel), by decide +kernel, ⟨by decide +kernel, by decide +kernel, by decide +kernel⟩, fun _ => ⟨xin 634 (by decide +kernel) (by decide +kernel), xin 13 (by decide +kernel) (by decide +kernel), Or.inr ⟨_, _, rfl⟩⟩, (fun h => by cases h)⟩
set_option maxRecDepth 100000 in
theorem xe_X9_in : xL_X9_in.all (xeb xMs xR_X9_in) = true := by decide +kernel
set_option maxRecDepth 100000 in
theorem xg_X9_in : xRg xMs xR_X9_in := ⟨fun q hq => List.all_eq_true.mp xe_X9_in q hq, rfl, xin 1038 (by decide +kernel) (by decide +kernel), xin 92 (by decide +kernel) (by decide +kernel), by decide +kernel, ⟨by decide +kernel, by decide +kernel, by decide +kernel⟩, (fun h => by cases h), fun _ => xin 1037 (by decide +kernel) (by decide +kernel)⟩
set_option maxRecDepth 100000 in
theorem xe_X9_isIn : xL_X9_isIn.all (xeb xMs xR_X9_isIn) = true := by decide +kernel
set_option maxRecDepth 100000 in
theorem xg_X9_isIn : xRg xMs xR_X9_isIn := ⟨fun q hq => List.all_eq_true.mp xe_X9_isIn q hq, rfl, xin 1202 (by decide +kernel) (by decide +kernel), xin 92 (by decide +kernel) (by decide +kernel), by decide +kernel, ⟨by decide +kernel, by decide +kernel, by decide +kernel⟩, (fun h => by cases h), fun _ => xin 1201 (by decide +kernel) (by decide +kernel)⟩
set_option maxRecDepth 100000 in
theorem xe_X9_no : xL_X9_no.all (xeb xMs xR_X9_no) = true := by decide +kernel
set_option maxRecDepth 100000 in
theorem xg_X9_no : xRg xMs xR_X9_no := ⟨fun q hq => List.all_eq_true.mp xe_X9_no q hq, rfl, xin 1348 (by decide +kernel) (by decide +kernel), xin 92 (by decide +kernel) (by decide +kernel), by decide +kernel, ⟨by decide +kernel, by decide +kernel, by decide +kernel⟩, (fun h => by cases h), fun _ => xin 1347 (by decide +kernel) (by decide +kernel)⟩
set_option maxRecDepth 100000 in
theorem xe_X9_lowest : xL_X9_lowest.all (xeb xMs xR_X9_lowest) = true := by decide +kernel
set_option maxRecDepth 100000 in
theorem xg_X9_lowest : xRg xMs xR_X9_lowest := ⟨fun q hq => List.all_eq_true.mp xe_X9_lowest q hq, rfl, xin 1345 (by decide +kernel) (by decide +kernel), xin 92 (by decide +kernel) (by decide +kernel), by decide +kernel, ⟨by decide +kernel, by decide +kernel, by decide +kernel⟩, (fun h => by cases h), fun _ => xin 1344 (by decide +kernel) (by decide +kernel)⟩
set_option maxRecDepth 100000 in
theorem xe_X9_isText : xL_X9_isText.all (xeb xMs xR_X9_isText) = true := by decide +kernel
set_option maxRecDepth 100000 in
theorem xg_X9_isText : xRg xMs xR_X9_isText := ⟨fun q hq => List.all_eq_true.mp xe_X9_isText q hq, rfl, xin 1035 (by decide +kernel) (by decide +kernel), xin 92 (by decide +kernel) (by decide +kernel), by decide +kernel, ⟨by decide +kernel, by decide +kernel, by decide +kernel⟩, (fun h => by cases h), fun _ => xin 1034 (by decide +kernel) (by decide +kernel)⟩
set_option maxRecDepth 100000 in
theorem xe_X9_isHour : xL_X9_isHour.all (xeb xMs xR_X9_isHour) = true := by decide +kernel
set_option maxRecDepth 100000 in
theorem xg_X9_isHour : xRg xMs xR_X9_isHour := ⟨fun q hq => List.all_eq_true.mp xe_X9_isHour q hq, rfl, xin 1120 (by decide +kernel) (by decide +kernel), xin 92 (by decide +kernel) (by decide +kernel), by decide +kernel, ⟨by decide +kernel, by decide +kernel, by decide +kernel⟩, (fun h => by cases h), fun _ => xin 1119 (by decide +kernel) (by decide +kernel)⟩
theorem xgs_2 : ∀ R ∈ xM_2, xRg xMs R := List.forall_mem_cons.mpr ⟨xg_X8_get, List.forall_mem_cons.mpr ⟨xg_X8_copy, List.forall_mem_cons.mpr ⟨xg_X8_write, List.forall_mem_cons.mpr ⟨xg_X8_count, List.forall_mem_cons.mpr ⟨xg_X8_digest, List.forall_mem_cons.mpr ⟨xg_X8_mixDeed, List.forall_mem_cons.mpr ⟨xg_X8_mix, List.forall_mem_cons.mpr ⟨xg_X8_isOutside, List.forall_mem_cons.mpr ⟨xg_X8_isNoDeed, List.forall_mem_cons.mpr ⟨xg_X8_isNoThunder, List.forall_mem_cons.mpr ⟨xg_X8_textOf, List.forall_mem_cons.mpr ⟨xg_X8_readAnew, List.forall_mem_cons.mpr ⟨xg_X8_sleepAnew, List.forall_mem_cons.mpr ⟨xg_X8_asHour, List.forall_mem_cons.mpr ⟨xg_X8_bestHourOf, List.forall_mem_cons.mpr ⟨xg_X8_latenessAt, List.forall_mem_cons.mpr ⟨xg_X8_bestBed, List.forall_mem_cons.mpr ⟨xg_X8_latenessWithBed, List.forall_mem_cons.mpr ⟨xg_X8_planFelt, List.forall_mem_cons.mpr ⟨xg_X8_isStillWithOne, List.forall_mem_cons.mpr ⟨xg_X8_isStillWithTwo, List.forall_mem_cons.mpr ⟨xg_X8_isStillWith, List.forall_mem_cons.mpr ⟨xg_X8_findPlaces, List.forall_mem_cons.mpr ⟨xg_X8_mostAlike, List.forall_mem_cons.mpr ⟨xg_X8_weightOfSleep, List.forall_mem_cons.mpr ⟨xg_X8_weightOf, List.forall_mem_cons.mpr ⟨xg_X8_drawDeeds, List.forall_mem_cons.mpr ⟨xg_X8_nextLot, List.forall_mem_cons.mpr ⟨xg_X8_refusalOfItem, List.forall_mem_cons.mpr ⟨xg_X8_find, List.forall_mem_cons.mpr ⟨xg_X9_in, List.forall_mem_cons.mpr ⟨xg_X9_isIn, List.forall_mem_cons.mpr ⟨xg_X9_no, List.forall_mem_cons.mpr ⟨xg_X9_lowest, List.forall_mem_cons.mpr ⟨xg_X9_isText, List.forall_mem_cons.mpr ⟨xg_X9_isHour, fun _ h => absurd h List.not_mem_nil⟩⟩⟩⟩⟩⟩⟩⟩⟩⟩⟩⟩⟩⟩⟩⟩⟩⟩⟩⟩⟩⟩⟩⟩⟩⟩⟩⟩⟩⟩⟩⟩⟩⟩⟩⟩
