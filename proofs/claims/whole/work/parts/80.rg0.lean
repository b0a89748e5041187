theorem xin {w : Cond} (i : Nat) (h : lw_tbl[i]? = some w) (hg : goodWord w = true) : w ∈ xTg := List.mem_filter.mpr ⟨List.mem_of_getElem? h, hg⟩
set_option maxRecDepth 100000 in
theorem xe_X0_readFrom : xL_X0_readFrom.all (xeb xMs xR_X0_readFrom) = true := by decide +kernel
set_option maxRecDepth 100000 in
theorem xg_X0_readFrom : xRg xMs xR_X0_readFrom := ⟨fun q hq => List.all_eq_true.mp xe_X0_readFrom q hq, rfl, xin 554 (by decide +kernel) (by decide +kernel), xin 85 (by decide +kernel) (by decide +kernel), by decide +kernel, ⟨by decide +kernel, by decide +kernel, by decide +kernel⟩, fun _ => ⟨xin 552 (by decide +kernel) (by decide +kernel), xin 553 (by decide +kernel) (by decide +kernel), Or.inr ⟨_, _, rfl⟩⟩, (fun h => by cases h)⟩
set_option maxRecDepth 100000 in
theorem xe_X0_figure : xL_X0_figure.all (xeb xMs xR_X0_figure) = true := by decide +kernel
set_option maxRecDepth 100000 in
theorem xg_X0_figure : xRg xMs xR_X0_figure := ⟨fun q hq => List.all_eq_true.mp xe_X0_figure q hq, rfl, xin 565 (by decide +kernel) (by decide +kernel), xin 85 (by decide +kernel) (by decide +kernel), by decide +kernel, ⟨by decide +kernel, by decide +kernel, by decide +kernel⟩, (fun h => by cases h), fun _ => xin 564 (by decide +kernel) (by decide +kernel)⟩
set_option maxRecDepth 100000 in
theorem xe_X0_faultOf : xL_X0_faultOf.all (xeb xMs xR_X0_faultOf) = true := by decide +kernel
set_option maxRecDepth 100000 in
theorem xg_X0_faultOf : xRg xMs xR_X0_faultOf := ⟨fun q hq => List.all_eq_true.mp xe_X0_faultOf q hq, rfl, xin 557 (by decide +kernel) (by decide +kernel), xin 85 (by decide +kernel) (by decide +kernel), by decide +kernel, ⟨by decide +kernel, by decide +kernel, by decide +kernel⟩, (fun h => by cases h), fun _ => xin 556 (by decide +kernel) (by decide +kernel)⟩
set_option maxRecDepth 100000 in
theorem xe_X0_mayStand : xL_X0_mayStand.all (xeb xMs xR_X0_mayStand) = true := by decide +kernel
set_option maxRecDepth 100000 in
theorem xg_X0_mayStand : xRg xMs xR_X0_mayStand := ⟨fun q hq => List.all_eq_true.mp xe_X0_mayStand q hq, rfl, xin 560 (by decide +kernel) (by decide +kernel), xin 85 (by decide +kernel) (by decide +kernel), by decide +kernel, ⟨by decide +kernel, by decide +kernel, by decide +kernel⟩, (fun h => by cases h), fun _ => xin 559 (by decide +kernel) (by decide +kernel)⟩
set_option maxRecDepth 100000 in
theorem xe_X0_add : xL_X0_add.all (xeb xMs xR_X0_add) = true := by decide +kernel
set_option maxRecDepth 100000 in
theorem xg_X0_add : xRg xMs xR_X0_add := ⟨fun q hq => List.all_eq_true.mp xe_X0_add q hq, rfl, xin 569 (by decide +kernel) (by decide +kernel), xin 85 (by decide +kernel) (by decide +kernel), by decide +kernel, ⟨by decide +kernel, by decide +kernel, by decide +kernel⟩, fun _ => ⟨xin 567 (by decide +kernel) (by decide +kernel), xin 568 (by decide +kernel) (by decide +kernel), Or.inr ⟨_, _, rfl⟩⟩, (fun h => by cases h)⟩
set_option maxRecDepth 100000 in
theorem xe_X0_takeFrom : xL_X0_takeFrom.all (xeb xMs xR_X0_takeFrom) = true := by decide +kernel
set_option maxRecDepth 100000 in
theorem xg_X0_takeFrom : xRg xMs xR_X0_takeFrom := ⟨fun q hq => List.all_eq_true.mp xe_X0_takeFrom q hq, rfl, xin 689 (by decide +kernel) (by decide +kernel), xin 85 (by decide +kernel) (by decide +kernel), by decide +kernel, ⟨by decide +kernel, by decide +kernel, by decide +kernel⟩, fun _ => ⟨xin 687 (by decide +kernel) (by decide +kernel), xin 688 (by decide +kernel) (by decide +kernel), Or.inr ⟨_, _, rfl⟩⟩, (fun h => by cases h)⟩
set_option maxRecDepth 100000 in
theorem xe_X2_isFull : xL_X2_isFull.all (xeb xMs xR_X2_isFull) = true := by decide +kernel
set_option maxRecDepth 100000 in
theorem xg_X2_isFull : xRg xMs xR_X2_isFull := ⟨fun q hq => List.all_eq_true.mp xe_X2_isFull q hq, rfl, xin 614 (by decide +kernel) (by decide +kernel), xin 87 (by decide +kernel) (by decide +kernel), by decide +kernel, ⟨by decide +kernel, by decide +kernel, by decide +kernel⟩, fun _ => ⟨xin 612 (by decide +kernel) (by decide +kernel), xin 613 (by decide +kernel) (by decide +kernel), Or.inr ⟨_, _, rfl⟩⟩, (fun h => by cases h)⟩
set_option maxRecDepth 100000 in
theorem xe_X2_add : xL_X2_add.all (xeb xMs xR_X2_add) = true := by decide +kernel
set_option maxRecDepth 100000 in
theorem xg_X2_add : xRg xMs xR_X2_add := ⟨fun q hq => List.all_eq_true.mp xe_X2_add q hq, rfl, xin 618 (by decide +kernel) (by decide +kernel), xin 87 (by decide +kernel) (by decide +kernel), by decide +kernel, ⟨by decide +kernel, by decide +kernel, by decide +kernel⟩, fun _ => ⟨xin 616 (by decide +kernel) (by decide +kernel), xin 617 (by decide +kernel) (by decide +kernel), Or.inr ⟨_, _, rfl⟩⟩, (fun h => by cases h)⟩
set_option maxRecDepth 100000 in
theorem xe_X2_sumIn : xL_X2_sumIn.all (xeb xMs xR_X2_sumIn) = true := by decide +kernel
set_option maxRecDepth 100000 in
theorem xg_X2_sumIn : xRg xMs xR_X2_sumIn := ⟨fun q hq => List.all_eq_true.mp xe_X2_sumIn q hq, rfl, xin 354 (by decide +kernel) (by decide +kernel), xin 87 (by decide +kernel) (by decide +kernel), by decide +kernel, ⟨by decide +kernel, by decide +kernel, by decide +kernel⟩, fun _ => ⟨xin 352 (by decide +kernel) (by decide +kernel), xin 353 (by decide +kernel) (by decide +kernel), Or.inr ⟨_, _, rfl⟩⟩, (fun h => by cases h)⟩
set_option maxRecDepth 100000 in
theorem xe_X2_agreesWith : xL_X2_agreesWith.all (xeb xMs xR_X2_agreesWith) = true := by decide +kernel
set_option maxRecDepth 100000 in
theorem xg_X2_agreesWith : xRg xMs xR_X2_agreesWith := ⟨fun q hq => List.all_eq_true.mp xe_X2_agreesWith q hq, rfl, xin 759 (by decide +kernel) (by decide +kernel), xin 87 (by decide +kernel) (by decide +kernel), by decide +kernel, ⟨by decide +kernel, by decide +kernel, by decide +kernel⟩, fun _ => ⟨xin 757 (by decide +kernel) (by decide +kernel), xin 758 (by decide +kernel) (by decide +kernel), Or.inr ⟨_, _, rfl⟩⟩, (fun h => by cases h)⟩
set_option maxRecDepth 100000 in
theorem xe_X3_pass : xL_X3_pass.all (xeb xMs xR_X3_pass) = true := by decide +kernel
set_option maxRecDepth 100000 in
theorem xg_X3_pass : xRg xMs xR_X3_pass := ⟨fun q hq => List.all_eq_true.mp xe_X3_pass q hq, rfl, xin 339 (by decide +kernel) (by decide +kernel), xin 89 (by decide +kernel) (by decide +kernel), by decide +kernel, ⟨by decide +kernel, by decide +kernel, by decide +kernel⟩, fun _ => ⟨xin 337 (by decide +kernel) (by decide +kernel), xin 338 (by decide +kernel) (by decide +kernel), Or.inr ⟨_, _, rfl⟩⟩, (fun h => by cases h)⟩
set_option maxRecDepth 100000 in
theorem xe_X3_doDeeds : xL_X3_doDeeds.all (xeb xMs xR_X3_doDeeds) = true := by decide +kernel
set_option maxRecDepth 100000 in
theorem xg_X3_doDeeds : xRg xMs xR_X3_doDeeds := ⟨fun q hq => List.all_eq_true.mp xe_X3_doDeeds q hq, rfl, xin 350 (by decide +kernel) (by decide +kernel), xin 89 (by decide +kernel) (by decide +kernel), by decide +kernel, ⟨by decide +kernel, by decide +kernel, by decide +kernel⟩, fun _ => ⟨xin 349 (by decide +kernel) (by decide +kernel), xin 2 (by decide +kernel) (by decide +kernel), Or.inr ⟨_, _, rfl⟩⟩, (fun h => by cases h)⟩
set_option maxRecDepth 100000 in
theorem xe_X3_exileBy : xL_X3_exileBy.all (xeb xMs xR_X3_exileBy) = true := by decide +kernel
set_option maxRecDepth 100000 in
theorem xg_X3_exileBy : xRg xMs xR_X3_exileBy := ⟨fun q hq => List.all_eq_true.mp xe_X3_exileBy q hq, rfl, xin 358 (by decide +kernel) (by decide +kernel), xin 89 (by decide +kernel) (by decide +kernel), by decide +kernel, ⟨by decide +kernel, by decide +kernel, by decide +kernel⟩, fun _ => ⟨xin 357 (by decide +kernel) (by decide +kernel), xin 3 (by decide +kernel) (by decide +kernel), Or.inr ⟨_, _, rfl⟩⟩, (fun h => by cases h)⟩
set_option maxRecDepth 100000 in
theorem xe_X3_lateness : xL_X3_lateness.all (xeb xMs xR_X3_lateness) = true := by decide +kernel
set_option maxRecDepth 100000 in
theorem xg_X3_lateness : xRg xMs xR_X3_lateness := ⟨fun q hq => List.all_eq_true.mp xe_X3_lateness q hq, rfl, xin 693 (by decide +kernel) (by decide +kernel), xin 89 (by decide +kernel) (by decide +kernel), by decide +kernel, ⟨by decide +kernel, by decide +kernel, by decide +kernel⟩, fun _ => ⟨xin 691 (by decide +kernel) (by decide +kernel), xin 692 (by decide +kernel) (by decide +kernel), Or.inr ⟨_, _, rfl⟩⟩, (fun h => by cases h)⟩
set_option maxRecDepth 100000 in
theorem xe_X3_doneOf : xL_X3_doneOf.all (xeb xMs xR_X3_doneOf) = true := by decide +kernel
set_option maxRecDepth 100000 in
theorem xg_X3_doneOf : xRg xMs xR_X3_doneOf := ⟨fun q hq => List.all_eq_true.mp xe_X3_doneOf q hq, rfl, xin 877 (by decide +kernel) (by decide +kernel), xin 89 (by decide +kernel) (by decide +kernel), by decide +kernel, ⟨by decide +kernel, by decide +kernel, by decide +kernel⟩, fun _ => ⟨xin 875 (by decide +kernel) (by decide +kernel), xin 876 (by decide +kernel) (by decide +kernel), Or.inr ⟨_, _, rfl⟩⟩, (fun h => by cases h)⟩
set_option maxRecDepth 100000 in
theorem xe_X4_takeTolls : xL_X4_takeTolls.all (xeb xMs xR_X4_takeTolls) = true := by decide +kernel
set_option maxRecDepth 100000 in
theorem xg_X4_takeTolls : xRg xMs xR_X4_takeTolls := ⟨fun q hq => List.all_eq_true.mp xe_X4_takeTolls q hq, rfl, xin 319 (by decide +kernel) (by decide +kernel), xin 88 (by decide +kernel) (by decide +kernel), by decide +kernel, ⟨by decide +kernel, by decide +kernel, by decide +kernel⟩, fun _ => ⟨xin 317 (by decide +kernel) (by decide +kernel), xin 318 (by decide +kernel) (by decide +kernel), Or.inr ⟨_, _, rfl⟩⟩, (fun h => by cases h)⟩
set_option maxRecDepth 100000 in
theorem xe_X4_layFelt : xL_X4_layFelt.all (xeb xMs xR_X4_layFelt) = true := by decide +kernel
set_option maxRecDepth 100000 in
theorem xg_X4_layFelt : xRg xMs xR_X4_layFelt := ⟨fun q hq => List.all_eq_true.mp xe_X4_layFelt q hq, rfl, xin 721 (by decide +kernel) (by decide +kernel), xin 88 (by decide +kernel) (by decide +kernel), by decide +kernel, ⟨by decide +kernel, by decide +kernel, by decide +kernel⟩, fun _ => ⟨xin 719 (by decide +kernel) (by decide +kernel), xin 720 (by decide +kernel) (by decide +kernel), Or.inr ⟨_, _, rfl⟩⟩, (fun h => by cases h)⟩
set_option maxRecDepth 100000 in
theorem xe_X4_spread : xL_X4_spread.all (xeb xMs xR_X4_spread) = true := by decide +kernel
set_option maxRecDepth 100000 in
theorem xg_X4_spread : xRg xMs xR_X4_spread := ⟨fun q hq => List.all_eq_true.mp xe_X4_spread q hq, rfl, xin 325 (by decide +kernel) (by decide +kernel), xin 88 (by decide +kernel) (by decide +kernel), by decide +kernel, ⟨by decide +kernel, by decide +kernel, by decide +kernel⟩, fun _ => ⟨xin 323 (by decide +kernel) (by decide +kernel), xin 324 (by decide +kernel) (by decide +kernel), Or.inr ⟨_, _, rfl⟩⟩, (fun h => by cases h)⟩
set_option maxRecDepth 100000 in
theorem xe_X4_leastBeside : xL_X4_leastBeside.all (xeb xMs xR_X4_leastBeside) = true := by decide +kernel
set_option maxRecDepth 100000 in
theorem xg_X4_leastBeside : xRg xMs xR_X4_leastBeside := ⟨fun q hq => List.all_eq_true.mp xe_X4_leastBeside q hq, rfl, xin 335 (by decide +kernel) (by decide +kernel), xin 88 (by decide +kernel) (by decide +kernel), by decide +kernel, ⟨by decide +kernel, by decide +kernel, by decide +kernel⟩, fun _ => ⟨xin 334 (by decide +kernel) (by decide +kernel), xin 1 (by decide +kernel) (by decide +kernel), Or.inr ⟨_, _, rfl⟩⟩, (fun h => by cases h)⟩
set_option maxRecDepth 100000 in
theorem xe_X4_left : xL_X4_left.all (xeb xMs xR_X4_left) = true := by decide +kernel
set_option maxRecDepth 100000 in
theorem xg_X4_left : xRg xMs xR_X4_left := ⟨fun q hq => List.all_eq_true.mp xe_X4_left q hq, rfl, xin 346 (by decide +kernel) (by decide +kernel), xin 88 (by decide +kernel) (by decide +kernel), by decide +kernel, ⟨by decide +kernel, by decide +kernel, by decide +kernel⟩, fun _ => ⟨xin 344 (by decide +kernel) (by decide +kernel), xin 345 (by decide +kernel) (by decide +kernel), Or.inr ⟨_, _, rfl⟩⟩, (fun h => by cases h)⟩
set_option maxRecDepth 100000 in
theorem xe_X5_isLost : xL_X5_isLost.all (xeb xMs xR_X5_isLost) = true := by decide +kernel
set_option maxRecDepth 100000 in
theorem xg_X5_isLost : xRg xMs xR_X5_isLost := ⟨fun q hq => List.all_eq_true.mp xe_X5_isLost q hq, rfl, xin 631 (by decide +kernel) (by decide +kernel), xin 90 (by decide +kernel) (by decide +kernel), by decide +kernel, ⟨by decide +kernel, by decide +kernel, by decide +kernel⟩, fun _ => ⟨xin 629 (by decide +kernel) (by decide +kernel), xin 630 (by decide +kernel) (by decide +kernel), Or.inr ⟨_, _, rfl⟩⟩, (fun h => by cases h)⟩
set_option maxRecDepth 100000 in
theorem xe_X5_renew : xL_X5_renew.all (xeb xMs xR_X5_renew) = true := by decide +kernel
set_option maxRecDepth 100000 in
theorem xg_X5_renew : xRg xMs xR_X5_renew := ⟨fun q hq => List.all_eq_true.mp xe_X5_renew q hq, rfl, xin 825 (by decide +kernel) (by decide +kernel), xin 90 (by decide +kernel) (by decide +kernel), by decide +kernel, ⟨by decide +kernel, by decide +kernel, by decide +kernel⟩, fun _ => ⟨xin 823 (by decide +kernel) (by decide +kernel), xin 824 (by decide +kernel) (by decide +kernel), Or.inr ⟨_, _, rfl⟩⟩, (fun h => by cases h)⟩
set_option maxRecDepth 100000 in
theorem xe_X5_hasItem : xL_X5_hasItem.all (xeb xMs xR_X5_hasItem) = true := by decide +kernel
set_option maxRecDepth 100000 in
theorem xg_X5_hasItem : xRg xMs xR_X5_hasItem := ⟨fun q hq => List.all_eq_true.mp xe_X5_hasItem q hq, rfl, xin 643 (by decide +kernel) (by decide +kernel), xin 90 (by decide +kernel) (by decide +kernel), by decide +kernel, ⟨by decide +kernel, by decide +kernel, by decide +kernel⟩, fun _ => ⟨xin 641 (by decide +kernel) (by decide +kernel), xin 642 (by decide +kernel) (by decide +kernel), Or.inr ⟨_, _, rfl⟩⟩, (fun h => by cases h)⟩
set_option maxRecDepth 100000 in
theorem xe_X5_item : xL_X5_item.all (xeb xMs xR_X5_item) = true := by decide +kernel
set_option maxRecDepth 100000 in
theorem xg_X5_item : xRg xMs xR_X5_item := ⟨fun q hq => List.all_eq_true.mp xe_X5_item q hq, rfl, xin 639 (by decide +kernel) (by decide +kernel), xin 90 (by decide +kernel) (by decide +kernel), by decide +kernel, ⟨by decide +kernel, by decide +kernel, by decide +kernel⟩, fun _ => ⟨xin 637 (by decide +kernel) (by decide +kernel), xin 638 (by decide +kernel) (by decide +kernel), Or.inr ⟨_, _, rfl⟩⟩, (fun h => by cases h)⟩
set_option maxRecDepth 100000 in
theorem xe_X5_store : xL_X5_store.all (xeb xMs xR_X5_store) = true := by decide +kernel
set_option maxRecDepth 100000 in
theorem xg_X5_store : xRg xMs xR_X5_store := ⟨fun q hq => List.all_eq_true.mp xe_X5_store q hq, rfl, xin 842 (by decide +kernel) (by decide +kernel), xin 90 (by decide +kernel) (by decide +kernel), by decide +kernel, ⟨by decide +kernel, by decide +kernel, by decide +kernel⟩, fun _ => ⟨xin 840 (by decide +kernel) (by decide +kernel), xin 841 (by decide +kernel) (by decide +kernel), Or.inr ⟨_, _, rfl⟩⟩, (fun h => by cases h)⟩
set_option maxRecDepth 100000 in
theorem xe_X5_cut : xL_X5_cut.all (xeb xMs xR_X5_cut) = true := by decide +kernel
set_option maxRecDepth 100000 in
theorem xg_X5_cut : xRg xMs xR_X5_cut := ⟨fun q hq => List.all_eq_true.mp xe_X5_cut q hq, rfl, xin 845 (by decide +kernel) (by decide +kernel), xin 90 (by decide +kernel) (by decide +kernel), by decide +kernel, ⟨by decide +kernel, by decide +kernel, by decide +kernel⟩, (fun h => by cases h), fun _ => xin 844 (by decide +kernel) (by decide +kernel)⟩
set_option maxRecDepth 100000 in
theorem xe_X5_hasItems : xL_X5_hasItems.all (xeb xMs xR_X5_hasItems) = true := by decide +kernel
set_option maxRecDepth 100000 in
theorem xg_X5_hasItems : xRg xMs xR_X5_hasItems := ⟨fun q hq => List.all_eq_true.mp xe_X5_hasItems q hq, rfl, xin 858 (by decide +kernel) (by decide +kernel), xin 90 (by decide +kernel) (by decide +kernel), by decide +kernel, ⟨by decide +kernel, by decide +kernel, by decide +kernel⟩, fun _ => ⟨xin 856 (by decide +kernel) (by decide +kernel), xin 857 (by decide +kernel) (by decide +kernel), Or.inr ⟨_, _, rfl⟩⟩, (fun h => by cases h)⟩
set_option maxRecDepth 100000 in
theorem xe_X5_move : xL_X5_move.all (xeb xMs xR_X5_move) = true := by decide +kernel
set_option maxRecDepth 100000 in
theorem xg_X5_move : xRg xMs xR_X5_move := ⟨fun q hq => List.all_eq_true.mp xe_X5_move q hq, rfl, xin 862 (by decide +kernel) (by decide +kernel), xin 90 (by decide +kernel) (by decide +kernel), by decide +kernel, ⟨by decide +kernel, by decide +kernel, by decide +kernel⟩, fun _ => ⟨xin 860 (by decide +kernel) (by decide +kernel), xin 861 (by decide +kernel) (by decide +kernel), Or.inr ⟨_, _, rfl⟩⟩, (fun h => by cases h)⟩
set_option maxRecDepth 100000 in
theorem xe_X6_isFull : xL_X6_isFull.all (xeb xMs xR_X6_isFull) = true := by decide +kernel
set_option maxRecDepth 100000 in
theorem xg_X6_isFull : xRg xMs xR_X6_isFull := ⟨fun q hq => List.all_eq_true.mp xe_X6_isFull q hq, rfl, xin 429 (by decide +kernel) (by decide +kernel), xin 82 (by decide +kernel) (by decide +kernel), by decide +kernel, ⟨by decide +kernel, by decide +kernel, by decide +kernel⟩, fun _ => ⟨xin 427 (by decide +kernel) (by decide +kernel), xin 428 (by decide +kernel) (by decide +kernel), Or.inr ⟨_, _, rfl⟩⟩, (fun h => by cases h)⟩
set_option maxRecDepth 100000 in
theorem xe_X6_append : xL_X6_append.all (xeb xMs xR_X6_append) = true := by decide +kernel
set_option maxRecDepth 100000 in
theorem xg_X6_append : xRg xMs xR_X6_append := ⟨fun q hq => List.all_eq_true.mp xe_X6_append q hq, rfl, xin 433 (by decide +kernel) (by decide +kernel), xin 82 (by decide +kernel) (by decide +kernel), by decide +kernel, ⟨by decide +kernel, by decide +kernel, by decide +kernel⟩, fun _ => ⟨xin 431 (by decide +kernel) (by decide +kernel), xin 432 (by decide +kernel) (by decide +kernel), Or.inr ⟨_, _, rfl⟩⟩, (fun h => by cases h)⟩
set_option maxRecDepth 100000 in
theorem xe_X7_readFrom : xL_X7_readFrom.all (xeb xMs xR_X7_readFrom) = true := by decide +kernel
set_option maxRecDepth 100000 in
theorem xg_X7_readFrom : xRg xMs xR_X7_readFrom := ⟨fun q hq => List.all_eq_true.mp xe_X7_readFrom q hq, rfl, xin 441 (by decide +kernel) (by decide +kernel), xin 84 (by decide +kernel) (by decide +kernel), by decide +kernel, ⟨by decide +kernel, by decide +kernel, by decide +kernel⟩, fun _ => ⟨xin 439 (by decide +kernel) (by decide +kernel), xin 440 (by decide +kernel) (by decide +kernel), Or.inr ⟨_, _, rfl⟩⟩, (fun h => by cases h)⟩
set_option maxRecDepth 100000 in
theorem xe_X7_empty : xL_X7_empty.all (xeb xMs xR_X7_empty) = true := by decide +kernel
set_option maxRecDepth 100000 in
theorem xg_X7_empty : xRg xMs xR_X7_empty := ⟨fun q hq => List.all_eq_true.mp xe_X7_empty q hq, rfl, xin 445 (by decide +kernel) (by decide +kernel), xin 84 (by decide +kernel) (by decide +kernel), by decide +kernel, ⟨by decide +kernel, by decide +kernel, by decide +kernel⟩, fun _ => ⟨xin 444 (by decide +kernel) (by decide +kernel), xin 6 (by decide +kernel) (by decide +kernel), Or.inr ⟨_, _, rfl⟩⟩, (fun h => by cases h)⟩
set_option maxRecDepth 100000 in
theorem xe_X7_place : xL_X7_place.all (xeb xMs xR_X7_place) = true := by decide +kernel
set_option maxRecDepth 100000 in
theorem xg_X7_place : xRg xMs xR_X7_place := ⟨fun q hq => List.all_eq_true.mp xe_X7_place q hq, rfl, xin 449 (by decide +kernel) (by decide +kernel), xin 84 (by decide +kernel) (by decide +kernel), by decide +kernel, ⟨by decide +kernel, by decide +kernel, by decide +kernel⟩, fun _ => ⟨xin 448 (by decide +kernel) (by decide +kernel), xin 7 (by decide +kernel) (by decide +kernel), Or.inr ⟨_, _, rfl⟩⟩, (fun h => by cases h)⟩
set_option maxRecDepth 100000 in
theorem xe_X7_isTooShort : xL_X7_isTooShort.all (xeb xMs xR_X7_isTooShort) = true := by decide +kernel
set_option maxRecDepth 100000 in
theorem xg_X7_isTooShort : xRg xMs xR_X7_isTooShort := ⟨fun q hq => List.all_eq_true.mp xe_X7_isTooShort q hq, rfl, xin 453 (by decide +kernel) (by decide +kernel), xin 84 (by decide +kernel) (by decide +kernel), by decide +kernel, ⟨by decide +kernel, by decide +kernel, by decide +kernel⟩, fun _ => ⟨xin 452 (by decide +kernel) (by decide +kernel), xin 8 (by decide +kernel) (by decide +kernel), Or.inr ⟨_, _, rfl⟩⟩, (fun h => by cases h)⟩
set_option maxRecDepth 100000 in
theorem xe_X7_mayStand : xL_X7_mayStand.all (xeb xMs xR_X7_mayStand) = true := by decide +kernel
set_option maxRecDepth 100000 in
theorem xg_X7_mayStand : xRg xMs xR_X7_mayStand := ⟨fun q hq => List.all_eq_true.mp xe_X7_mayStand q hq, rfl, xin 542 (by decide +kernel) (by decide +kernel), xin 84 (by decide +kernel) (by decide +kernel), by decide +kernel, ⟨by decide +kernel, by decide +kernel, by decide +kernel⟩, fun _ => ⟨xin 541 (by decide +kernel) (by decide +kernel), xin 9 (by decide +kernel) (by decide +kernel), Or.inr ⟨_, _, rfl⟩⟩, (fun h => by cases h)⟩
set_option maxRecDepth 100000 in
theorem xe_X7_add : xL_X7_add.all (xeb xMs xR_X7_add) = true := by decide +kernel
set_option maxRecDepth 100000 in
theorem xg_X7_add : xRg xMs xR_X7_add := ⟨fun q hq => List.all_eq_true.mp xe_X7_add q hq, rfl, xin 546 (by decide +kernel) (by decide +kernel), xin 84 (by decide +kernel) (by decide +kernel), by decide +kernel, ⟨by decide +kernel, by decide +kernel, by decide +kernel⟩, fun _ => ⟨xin 545 (by decide +kernel) (by decide +kernel), xin 10 (by decide +kernel) (by decide +kernel), Or.inr ⟨_, _, rfl⟩⟩, (fun h => by cases h)⟩
theorem xgs_0 : ∀ R ∈ xM_0, xRg xMs R := List.forall_mem_cons.mpr ⟨xg_X0_readFrom, List.forall_mem_cons.mpr ⟨xg_X0_figure, List.forall_mem_cons.mpr ⟨xg_X0_faultOf, List.forall_mem_cons.mpr ⟨xg_X0_mayStand, List.forall_mem_cons.mpr ⟨xg_X0_add, List.forall_mem_cons.mpr ⟨xg_X0_takeFrom, List.forall_mem_cons.mpr ⟨xg_X2_isFull, List.forall_mem_cons.mpr ⟨xg_X2_add, List.forall_mem_cons.mpr ⟨xg_X2_sumIn, List.forall_mem_cons.mpr ⟨xg_X2_agreesWith, List.forall_mem_cons.mpr ⟨xg_X3_pass, List.forall_mem_cons.mpr ⟨xg_X3_doDeeds, List.forall_mem_cons.mpr ⟨xg_X3_exileBy, List.forall_mem_cons.mpr ⟨xg_X3_lateness, List.forall_mem_cons.mpr ⟨xg_X3_doneOf, List.forall_mem_cons.mpr ⟨xg_X4_takeTolls, List.forall_mem_cons.mpr ⟨xg_X4_layFelt, List.forall_mem_cons.mpr ⟨xg_X4_spread, List.forall_mem_cons.mpr ⟨xg_X4_leastBeside, List.forall_mem_cons.mpr ⟨xg_X4_left, List.forall_mem_cons.mpr ⟨xg_X5_isLost, List.forall_mem_cons.mpr ⟨xg_X5_renew, List.forall_mem_cons.mpr ⟨xg_X5_hasItem, List.forall_mem_cons.mpr ⟨xg_X5_item, List.forall_mem_cons.mpr ⟨xg_X5_store, List.forall_mem_cons.mpr ⟨xg_X5_cut, List.forall_mem_cons.mpr ⟨xg_X5_hasItems, List.forall_mem_cons.mpr ⟨xg_X5_move, List.forall_mem_cons.mpr ⟨xg_X6_isFull, List.forall_mem_cons.mpr ⟨xg_X6_append, List.forall_mem_cons.mpr ⟨xg_X7_readFrom, List.forall_mem_cons.mpr ⟨xg_X7_empty, List.forall_mem_cons.mpr ⟨xg_X7_place, List.forall_mem_cons.mpr ⟨xg_X7_isTooShort, List.forall_mem_cons.mpr ⟨xg_X7_mayStand, List.forall_mem_cons.mpr ⟨xg_X7_add, fun _ h => absurd h List.not_mem_nil⟩⟩⟩⟩⟩⟩⟩⟩⟩⟩⟩⟩⟩⟩⟩⟩⟩⟩⟩⟩⟩⟩⟩⟩⟩⟩⟩⟩⟩⟩⟩⟩⟩⟩⟩⟩
