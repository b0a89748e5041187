set_option maxRecDepth 100000 in
theorem xe_X7_link : xL_X7_link.all (xeb xMs xR_X7_link) = true := by decide +kernel
set_option maxRecDepth 100000 in
theorem xg_X7_link : xRg xMs xR_X7_link := ⟨fun q hq => List.all_eq_true.mp xe_X7_link q hq, rfl, xin 550 (by decide +kernel) (by decide +kernel), xin 84 (by decide +kernel) (by decide +kernel), by decide +kernel, ⟨by decide +kernel, by decide +kernel, by decide +kernel⟩, fun _ => ⟨xin 549 (by decide +kernel) (by decide +kernel), xin 11 (by decide +kernel) (by decide +kernel), Or.inr ⟨_, _, rfl⟩⟩, (fun h => by cases h)⟩
set_option maxRecDepth 100000 in
theorem xe_X7_has : xL_X7_has.all (xeb xMs xR_X7_has) = true := by decide +kernel
set_option maxRecDepth 100000 in
theorem xg_X7_has : xRg xMs xR_X7_has := ⟨fun q hq => List.all_eq_true.mp xe_X7_has q hq, rfl, xin 331 (by decide +kernel) (by decide +kernel), xin 84 (by decide +kernel) (by decide +kernel), by decide +kernel, ⟨by decide +kernel, by decide +kernel, by decide +kernel⟩, fun _ => ⟨xin 329 (by decide +kernel) (by decide +kernel), xin 330 (by decide +kernel) (by decide +kernel), Or.inr ⟨_, _, rfl⟩⟩, (fun h => by cases h)⟩
set_option maxRecDepth 100000 in
theorem xe_X7_isOpen : xL_X7_isOpen.all (xeb xMs xR_X7_isOpen) = true := by decide +kernel
set_option maxRecDepth 100000 in
theorem xg_X7_isOpen : xRg xMs xR_X7_isOpen := ⟨fun q hq => List.all_eq_true.mp xe_X7_isOpen q hq, rfl, xin 712 (by decide +kernel) (by decide +kernel), xin 84 (by decide +kernel) (by decide +kernel), by decide +kernel, ⟨by decide +kernel, by decide +kernel, by decide +kernel⟩, fun _ => ⟨xin 710 (by decide +kernel) (by decide +kernel), xin 711 (by decide +kernel) (by decide +kernel), Or.inr ⟨_, _, rfl⟩⟩, (fun h => by cases h)⟩
set_option maxRecDepth 100000 in
theorem xe_X8_type : xL_X8_type.all (xeb xMs xR_X8_type) = true := by decide +kernel
set_option maxRecDepth 100000 in
theorem xg_X8_type : xRg xMs xR_X8_type := ⟨fun q hq => List.all_eq_true.mp xe_X8_type q hq, rfl, xin 418 (by decide +kernel) (by decide +kernel), xin 81 (by decide +kernel) (by decide +kernel), by decide +kernel, ⟨by decide +kernel, by decide +kernel, by decide +kernel⟩, fun _ => ⟨xin 416 (by decide +kernel) (by decide +kernel), xin 417 (by decide +kernel) (by decide +kernel), Or.inr ⟨_, _, rfl⟩⟩, (fun h => by cases h)⟩
set_option maxRecDepth 100000 in
theorem xe_X8_wipe : xL_X8_wipe.all (xeb xMs xR_X8_wipe) = true := by decide +kernel
set_option maxRecDepth 100000 in
theorem xg_X8_wipe : xRg xMs xR_X8_wipe := ⟨fun q hq => List.all_eq_true.mp xe_X8_wipe q hq, rfl, xin 574 (by decide +kernel) (by decide +kernel), xin 81 (by decide +kernel) (by decide +kernel), by decide +kernel, ⟨by decide +kernel, by decide +kernel, by decide +kernel⟩, fun _ => ⟨xin 572 (by decide +kernel) (by decide +kernel), xin 573 (by decide +kernel) (by decide +kernel), Or.inr ⟨_, _, rfl⟩⟩, (fun h => by cases h)⟩
set_option maxRecDepth 100000 in
theorem xe_X8_undo : xL_X8_undo.all (xeb xMs xR_X8_undo) = true := by decide +kernel
set_option maxRecDepth 100000 in
theorem xg_X8_undo : xRg xMs xR_X8_undo := ⟨fun q hq => List.all_eq_true.mp xe_X8_undo q hq, rfl, xin 578 (by decide +kernel) (by decide +kernel), xin 81 (by decide +kernel) (by decide +kernel), by decide +kernel, ⟨by decide +kernel, by decide +kernel, by decide +kernel⟩, fun _ => ⟨xin 576 (by decide +kernel) (by decide +kernel), xin 577 (by decide +kernel) (by decide +kernel), Or.inr ⟨_, _, rfl⟩⟩, (fun h => by cases h)⟩
set_option maxRecDepth 100000 in
theorem xe_X8_fault : xL_X8_fault.all (xeb xMs xR_X8_fault) = true := by decide +kernel
set_option maxRecDepth 100000 in
theorem xg_X8_fault : xRg xMs xR_X8_fault := ⟨fun q hq => List.all_eq_true.mp xe_X8_fault q hq, rfl, xin 582 (by decide +kernel) (by decide +kernel), xin 81 (by decide +kernel) (by decide +kernel), by decide +kernel, ⟨by decide +kernel, by decide +kernel, by decide +kernel⟩, fun _ => ⟨xin 580 (by decide +kernel) (by decide +kernel), xin 581 (by decide +kernel) (by decide +kernel), Or.inr ⟨_, _, rfl⟩⟩, (fun h => by cases h)⟩
set_option maxRecDepth 100000 in
theorem xe_X8_cell : xL_X8_cell.all (xeb xMs xR_X8_cell) = true := by decide +kernel
set_option maxRecDepth 100000 in
theorem xg_X8_cell : xRg xMs xR_X8_cell := ⟨fun q hq => List.all_eq_true.mp xe_X8_cell q hq, rfl, xin 586 (by decide +kernel) (by decide +kernel), xin 81 (by decide +kernel) (by decide +kernel), by decide +kernel, ⟨by decide +kernel, by decide +kernel, by decide +kernel⟩, fun _ => ⟨xin 584 (by decide +kernel) (by decide +kernel), xin 585 (by decide +kernel) (by decide +kernel), Or.inr ⟨_, _, rfl⟩⟩, (fun h => by cases h)⟩
set_option maxRecDepth 100000 in
theorem xe_X8_bed : xL_X8_bed.all (xeb xMs xR_X8_bed) = true := by decide +kernel
set_option maxRecDepth 100000 in
theorem xg_X8_bed : xRg xMs xR_X8_bed := ⟨fun q hq => List.all_eq_true.mp xe_X8_bed q hq, rfl, xin 591 (by decide +kernel) (by decide +kernel), xin 81 (by decide +kernel) (by decide +kernel), by decide +kernel, ⟨by decide +kernel, by decide +kernel, by decide +kernel⟩, fun _ => ⟨xin 589 (by decide +kernel) (by decide +kernel), xin 590 (by decide +kernel) (by decide +kernel), Or.inr ⟨_, _, rfl⟩⟩, (fun h => by cases h)⟩
set_option maxRecDepth 100000 in
theorem xe_X8_deed : xL_X8_deed.all (xeb xMs xR_X8_deed) = true := by decide +kernel
set_option maxRecDepth 100000 in
theorem xg_X8_deed : xRg xMs xR_X8_deed := ⟨fun q hq => List.all_eq_true.mp xe_X8_deed q hq, rfl, xin 595 (by decide +kernel) (by decide +kernel), xin 81 (by decide +kernel) (by decide +kernel), by decide +kernel, ⟨by decide +kernel, by decide +kernel, by decide +kernel⟩, fun _ => ⟨xin 593 (by decide +kernel) (by decide +kernel), xin 594 (by decide +kernel) (by decide +kernel), Or.inr ⟨_, _, rfl⟩⟩, (fun h => by cases h)⟩
set_option maxRecDepth 100000 in
theorem xe_X8_set : xL_X8_set.all (xeb xMs xR_X8_set) = true := by decide +kernel
set_option maxRecDepth 100000 in
theorem xg_X8_set : xRg xMs xR_X8_set := ⟨fun q hq => List.all_eq_true.mp xe_X8_set q hq, rfl, xin 603 (by decide +kernel) (by decide +kernel), xin 81 (by decide +kernel) (by decide +kernel), by decide +kernel, ⟨by decide +kernel, by decide +kernel, by decide +kernel⟩, fun _ => ⟨xin 601 (by decide +kernel) (by decide +kernel), xin 602 (by decide +kernel) (by decide +kernel), Or.inr ⟨_, _, rfl⟩⟩, (fun h => by cases h)⟩
set_option maxRecDepth 100000 in
theorem xe_X8_thunder : xL_X8_thunder.all (xeb xMs xR_X8_thunder) = true := by decide +kernel
set_option maxRecDepth 100000 in
theorem xg_X8_thunder : xRg xMs xR_X8_thunder := ⟨fun q hq => List.all_eq_true.mp xe_X8_thunder q hq, rfl, xin 607 (by decide +kernel) (by decide +kernel), xin 81 (by decide +kernel) (by decide +kernel), by decide +kernel, ⟨by decide +kernel, by decide +kernel, by decide +kernel⟩, fun _ => ⟨xin 605 (by decide +kernel) (by decide +kernel), xin 606 (by decide +kernel) (by decide +kernel), Or.inr ⟨_, _, rfl⟩⟩, (fun h => by cases h)⟩
set_option maxRecDepth 100000 in
theorem xe_X8_back : xL_X8_back.all (xeb xMs xR_X8_back) = true := by decide +kernel
set_option maxRecDepth 100000 in
theorem xg_X8_back : xRg xMs xR_X8_back := ⟨fun q hq => List.all_eq_true.mp xe_X8_back q hq, rfl, xin 623 (by decide +kernel) (by decide +kernel), xin 81 (by decide +kernel) (by decide +kernel), by decide +kernel, ⟨by decide +kernel, by decide +kernel, by decide +kernel⟩, fun _ => ⟨xin 621 (by decide +kernel) (by decide +kernel), xin 622 (by decide +kernel) (by decide +kernel), Or.inr ⟨_, _, rfl⟩⟩, (fun h => by cases h)⟩
set_option maxRecDepth 100000 in
theorem xe_X8_read : xL_X8_read.all (xeb xMs xR_X8_read) = true := by decide +kernel
set_option maxRecDepth 100000 in
theorem xg_X8_read : xRg xMs xR_X8_read := ⟨fun q hq => List.all_eq_true.mp xe_X8_read q hq, rfl, xin 627 (by decide +kernel) (by decide +kernel), xin 81 (by decide +kernel) (by decide +kernel), by decide +kernel, ⟨by decide +kernel, by decide +kernel, by decide +kernel⟩, fun _ => ⟨xin 625 (by decide +kernel) (by decide +kernel), xin 626 (by decide +kernel) (by decide +kernel), Or.inr ⟨_, _, rfl⟩⟩, (fun h => by cases h)⟩
set_option maxRecDepth 100000 in
theorem xe_X8_carry : xL_X8_carry.all (xeb xMs xR_X8_carry) = true := by decide +kernel
set_option maxRecDepth 100000 in
theorem xg_X8_carry : xRg xMs xR_X8_carry := ⟨fun q hq => List.all_eq_true.mp xe_X8_carry q hq, rfl, xin 647 (by decide +kernel) (by decide +kernel), xin 81 (by decide +kernel) (by decide +kernel), by decide +kernel, ⟨by decide +kernel, by decide +kernel, by decide +kernel⟩, fun _ => ⟨xin 645 (by decide +kernel) (by decide +kernel), xin 646 (by decide +kernel) (by decide +kernel), Or.inr ⟨_, _, rfl⟩⟩, (fun h => by cases h)⟩
set_option maxRecDepth 100000 in
theorem xe_X8_heard : xL_X8_heard.all (xeb xMs xR_X8_heard) = true := by decide +kernel
set_option maxRecDepth 100000 in
theorem xg_X8_heard : xRg xMs xR_X8_heard := ⟨fun q hq => List.all_eq_true.mp xe_X8_heard q hq, rfl, xin 652 (by decide +kernel) (by decide +kernel), xin 81 (by decide +kernel) (by decide +kernel), by decide +kernel, ⟨by decide +kernel, by decide +kernel, by decide +kernel⟩, fun _ => ⟨xin 650 (by decide +kernel) (by decide +kernel), xin 651 (by decide +kernel) (by decide +kernel), Or.inr ⟨_, _, rfl⟩⟩, (fun h => by cases h)⟩
set_option maxRecDepth 100000 in
theorem xe_X8_noise : xL_X8_noise.all (xeb xMs xR_X8_noise) = true := by decide +kernel
set_option maxRecDepth 100000 in
theorem xg_X8_noise : xRg xMs xR_X8_noise := ⟨fun q hq => List.all_eq_true.mp xe_X8_noise q hq, rfl, xin 656 (by decide +kernel) (by decide +kernel), xin 81 (by decide +kernel) (by decide +kernel), by decide +kernel, ⟨by decide +kernel, by decide +kernel, by decide +kernel⟩, fun _ => ⟨xin 654 (by decide +kernel) (by decide +kernel), xin 655 (by decide +kernel) (by decide +kernel), Or.inr ⟨_, _, rfl⟩⟩, (fun h => by cases h)⟩
set_option maxRecDepth 100000 in
theorem xe_X8_depth : xL_X8_depth.all (xeb xMs xR_X8_depth) = true := by decide +kernel
set_option maxRecDepth 100000 in
theorem xg_X8_depth : xRg xMs xR_X8_depth := ⟨fun q hq => List.all_eq_true.mp xe_X8_depth q hq, rfl, xin 660 (by decide +kernel) (by decide +kernel), xin 81 (by decide +kernel) (by decide +kernel), by decide +kernel, ⟨by decide +kernel, by decide +kernel, by decide +kernel⟩, fun _ => ⟨xin 658 (by decide +kernel) (by decide +kernel), xin 659 (by decide +kernel) (by decide +kernel), Or.inr ⟨_, _, rfl⟩⟩, (fun h => by cases h)⟩
set_option maxRecDepth 100000 in
theorem xe_X8_wakes : xL_X8_wakes.all (xeb xMs xR_X8_wakes) = true := by decide +kernel
set_option maxRecDepth 100000 in
theorem xg_X8_wakes : xRg xMs xR_X8_wakes := ⟨fun q hq => List.all_eq_true.mp xe_X8_wakes q hq, rfl, xin 664 (by decide +kernel) (by decide +kernel), xin 81 (by decide +kernel) (by decide +kernel), by decide +kernel, ⟨by decide +kernel, by decide +kernel, by decide +kernel⟩, fun _ => ⟨xin 662 (by decide +kernel) (by decide +kernel), xin 663 (by decide +kernel) (by decide +kernel), Or.inr ⟨_, _, rfl⟩⟩, (fun h => by cases h)⟩
set_option maxRecDepth 100000 in
theorem xe_X8_exiled : xL_X8_exiled.all (xeb xMs xR_X8_exiled) = true := by decide +kernel
set_option maxRecDepth 100000 in
theorem xg_X8_exiled : xRg xMs xR_X8_exiled := ⟨fun q hq => List.all_eq_true.mp xe_X8_exiled q hq, rfl, xin 668 (by decide +kernel) (by decide +kernel), xin 81 (by decide +kernel) (by decide +kernel), by decide +kernel, ⟨by decide +kernel, by decide +kernel, by decide +kernel⟩, fun _ => ⟨xin 666 (by decide +kernel) (by decide +kernel), xin 667 (by decide +kernel) (by decide +kernel), Or.inr ⟨_, _, rfl⟩⟩, (fun h => by cases h)⟩
set_option maxRecDepth 100000 in
theorem xe_X8_loudest : xL_X8_loudest.all (xeb xMs xR_X8_loudest) = true := by decide +kernel
set_option maxRecDepth 100000 in
theorem xg_X8_loudest : xRg xMs xR_X8_loudest := ⟨fun q hq => List.all_eq_true.mp xe_X8_loudest q hq, rfl, xin 673 (by decide +kernel) (by decide +kernel), xin 81 (by decide +kernel) (by decide +kernel), by decide +kernel, ⟨by decide +kernel, by decide +kernel, by decide +kernel⟩, fun _ => ⟨xin 671 (by decide +kernel) (by decide +kernel), xin 672 (by decide +kernel) (by decide +kernel), Or.inr ⟨_, _, rfl⟩⟩, (fun h => by cases h)⟩
set_option maxRecDepth 100000 in
theorem xe_X8_hour : xL_X8_hour.all (xeb xMs xR_X8_hour) = true := by decide +kernel
set_option maxRecDepth 100000 in
theorem xg_X8_hour : xRg xMs xR_X8_hour := ⟨fun q hq => List.all_eq_true.mp xe_X8_hour q hq, rfl, xin 677 (by decide +kernel) (by decide +kernel), xin 81 (by decide +kernel) (by decide +kernel), by decide +kernel, ⟨by decide +kernel, by decide +kernel, by decide +kernel⟩, fun _ => ⟨xin 675 (by decide +kernel) (by decide +kernel), xin 676 (by decide +kernel) (by decide +kernel), Or.inr ⟨_, _, rfl⟩⟩, (fun h => by cases h)⟩
set_option maxRecDepth 100000 in
theorem xe_X8_felt : xL_X8_felt.all (xeb xMs xR_X8_felt) = true := by decide +kernel
set_option maxRecDepth 100000 in
theorem xg_X8_felt : xRg xMs xR_X8_felt := ⟨fun q hq => List.all_eq_true.mp xe_X8_felt q hq, rfl, xin 700 (by decide +kernel) (by decide +kernel), xin 81 (by decide +kernel) (by decide +kernel), by decide +kernel, ⟨by decide +kernel, by decide +kernel, by decide +kernel⟩, fun _ => ⟨xin 698 (by decide +kernel) (by decide +kernel), xin 699 (by decide +kernel) (by decide +kernel), Or.inr ⟨_, _, rfl⟩⟩, (fun h => by cases h)⟩
set_option maxRecDepth 100000 in
theorem xe_X8_lay : xL_X8_lay.all (xeb xMs xR_X8_lay) = true := by decide +kernel
set_option maxRecDepth 100000 in
theorem xg_X8_lay : xRg xMs xR_X8_lay := ⟨fun q hq => List.all_eq_true.mp xe_X8_lay q hq, rfl, xin 729 (by decide +kernel) (by decide +kernel), xin 81 (by decide +kernel) (by decide +kernel), by decide +kernel, ⟨by decide +kernel, by decide +kernel, by decide +kernel⟩, fun _ => ⟨xin 727 (by decide +kernel) (by decide +kernel), xin 728 (by decide +kernel) (by decide +kernel), Or.inr ⟨_, _, rfl⟩⟩, (fun h => by cases h)⟩
set_option maxRecDepth 100000 in
theorem xe_X8_way : xL_X8_way.all (xeb xMs xR_X8_way) = true := by decide +kernel
set_option maxRecDepth 100000 in
theorem xg_X8_way : xRg xMs xR_X8_way := ⟨fun q hq => List.all_eq_true.mp xe_X8_way q hq, rfl, xin 741 (by decide +kernel) (by decide +kernel), xin 81 (by decide +kernel) (by decide +kernel), by decide +kernel, ⟨by decide +kernel, by decide +kernel, by decide +kernel⟩, fun _ => ⟨xin 739 (by decide +kernel) (by decide +kernel), xin 740 (by decide +kernel) (by decide +kernel), Or.inr ⟨_, _, rfl⟩⟩, (fun h => by cases h)⟩
set_option maxRecDepth 100000 in
theorem xe_X8_listened : xL_X8_listened.all (xeb xMs xR_X8_listened) = true := by decide +kernel
set_option maxRecDepth 100000 in
theorem xg_X8_listened : xRg xMs xR_X8_listened := ⟨fun q hq => List.all_eq_true.mp xe_X8_listened q hq, rfl, xin 747 (by decide +kernel) (by decide +kernel), xin 81 (by decide +kernel) (by decide +kernel), by decide +kernel, ⟨by decide +kernel, by decide +kernel, by decide +kernel⟩, fun _ => ⟨xin 745 (by decide +kernel) (by decide +kernel), xin 746 (by decide +kernel) (by decide +kernel), Or.inr ⟨_, _, rfl⟩⟩, (fun h => by cases h)⟩
set_option maxRecDepth 100000 in
theorem xe_X8_forget : xL_X8_forget.all (xeb xMs xR_X8_forget) = true := by decide +kernel
set_option maxRecDepth 100000 in
theorem xg_X8_forget : xRg xMs xR_X8_forget := ⟨fun q hq => List.all_eq_true.mp xe_X8_forget q hq, rfl, xin 751 (by decide +kernel) (by decide +kernel), xin 81 (by decide +kernel) (by decide +kernel), by decide +kernel, ⟨by decide +kernel, by decide +kernel, by decide +kernel⟩, fun _ => ⟨xin 749 (by decide +kernel) (by decide +kernel), xin 750 (by decide +kernel) (by decide +kernel), Or.inr ⟨_, _, rfl⟩⟩, (fun h => by cases h)⟩
set_option maxRecDepth 100000 in
theorem xe_X8_never : xL_X8_never.all (xeb xMs xR_X8_never) = true := by decide +kernel
set_option maxRecDepth 100000 in
theorem xg_X8_never : xRg xMs xR_X8_never := ⟨fun q hq => List.all_eq_true.mp xe_X8_never q hq, rfl, xin 755 (by decide +kernel) (by decide +kernel), xin 81 (by decide +kernel) (by decide +kernel), by decide +kernel, ⟨by decide +kernel, by decide +kernel, by decide +kernel⟩, fun _ => ⟨xin 753 (by decide +kernel) (by decide +kernel), xin 754 (by decide +kernel) (by decide +kernel), Or.inr ⟨_, _, rfl⟩⟩, (fun h => by cases h)⟩
set_option maxRecDepth 100000 in
theorem xe_X8_whence : xL_X8_whence.all (xeb xMs xR_X8_whence) = true := by decide +kernel
set_option maxRecDepth 100000 in
theorem xg_X8_whence : xRg xMs xR_X8_whence := ⟨fun q hq => List.all_eq_true.mp xe_X8_whence q hq, rfl, xin 763 (by decide +kernel) (by decide +kernel), xin 81 (by decide +kernel) (by decide +kernel), by decide +kernel, ⟨by decide +kernel, by decide +kernel, by decide +kernel⟩, fun _ => ⟨xin 761 (by decide +kernel) (by decide +kernel), xin 762 (by decide +kernel) (by decide +kernel), Or.inr ⟨_, _, rfl⟩⟩, (fun h => by cases h)⟩
set_option maxRecDepth 100000 in
theorem xe_X8_what : xL_X8_what.all (xeb xMs xR_X8_what) = true := by decide +kernel
set_option maxRecDepth 100000 in
theorem xg_X8_what : xRg xMs xR_X8_what := ⟨fun q hq => List.all_eq_true.mp xe_X8_what q hq, rfl, xin 774 (by decide +kernel) (by decide +kernel), xin 81 (by decide +kernel) (by decide +kernel), by decide +kernel, ⟨by decide +kernel, by decide +kernel, by decide +kernel⟩, fun _ => ⟨xin 772 (by decide +kernel) (by decide +kernel), xin 773 (by decide +kernel) (by decide +kernel), Or.inr ⟨_, _, rfl⟩⟩, (fun h => by cases h)⟩
set_option maxRecDepth 100000 in
theorem xe_X8_ask : xL_X8_ask.all (xeb xMs xR_X8_ask) = true := by decide +kernel
set_option maxRecDepth 100000 in
theorem xg_X8_ask : xRg xMs xR_X8_ask := ⟨fun q hq => List.all_eq_true.mp xe_X8_ask q hq, rfl, xin 778 (by decide +kernel) (by decide +kernel), xin 81 (by decide +kernel) (by decide +kernel), by decide +kernel, ⟨by decide +kernel, by decide +kernel, by decide +kernel⟩, fun _ => ⟨xin 776 (by decide +kernel) (by decide +kernel), xin 777 (by decide +kernel) (by decide +kernel), Or.inr ⟨_, _, rfl⟩⟩, (fun h => by cases h)⟩
set_option maxRecDepth 100000 in
theorem xe_X8_sleeps : xL_X8_sleeps.all (xeb xMs xR_X8_sleeps) = true := by decide +kernel
set_option maxRecDepth 100000 in
theorem xg_X8_sleeps : xRg xMs xR_X8_sleeps := ⟨fun q hq => List.all_eq_true.mp xe_X8_sleeps q hq, rfl, xin 787 (by decide +kernel) (by decide +kernel), xin 81 (by decide +kernel) (by decide +kernel), by decide +kernel, ⟨by decide +kernel, by decide +kernel, by decide +kernel⟩, fun _ => ⟨xin 785 (by decide +kernel) (by decide +kernel), xin 786 (by decide +kernel) (by decide +kernel), Or.inr ⟨_, _, rfl⟩⟩, (fun h => by cases h)⟩
set_option maxRecDepth 100000 in
theorem xe_X8_day : xL_X8_day.all (xeb xMs xR_X8_day) = true := by decide +kernel
set_option maxRecDepth 100000 in
theorem xg_X8_day : xRg xMs xR_X8_day := ⟨fun q hq => List.all_eq_true.mp xe_X8_day q hq, rfl, xin 802 (by decide +kernel) (by decide +kernel), xin 81 (by decide +kernel) (by decide +kernel), by decide +kernel, ⟨by decide +kernel, by decide +kernel, by decide +kernel⟩, fun _ => ⟨xin 800 (by decide +kernel) (by decide +kernel), xin 801 (by decide +kernel) (by decide +kernel), Or.inr ⟨_, _, rfl⟩⟩, (fun h => by cases h)⟩
set_option maxRecDepth 100000 in
theorem xe_X8_sheet : xL_X8_sheet.all (xeb xMs xR_X8_sheet) = true := by decide +kernel
set_option maxRecDepth 100000 in
theorem xg_X8_sheet : xRg xMs xR_X8_sheet := ⟨fun q hq => List.all_eq_true.mp xe_X8_sheet q hq, rfl, xin 821 (by decide +kernel) (by decide +kernel), xin 81 (by decide +kernel) (by decide +kernel), by decide +kernel, ⟨by decide +kernel, by decide +kernel, by decide +kernel⟩, fun _ => ⟨xin 819 (by decide +kernel) (by decide +kernel), xin 820 (by decide +kernel) (by decide +kernel), Or.inr ⟨_, _, rfl⟩⟩, (fun h => by cases h)⟩
set_option maxRecDepth 100000 in
theorem xe_X8_lose : xL_X8_lose.all (xeb xMs xR_X8_lose) = true := by decide +kernel
set_option maxRecDepth 100000 in
theorem xg_X8_lose : xRg xMs xR_X8_lose := ⟨fun q hq => List.all_eq_true.mp xe_X8_lose q hq, rfl, xin 829 (by decide +kernel) (by decide +kernel), xin 81 (by decide +kernel) (by decide +kernel), by decide +kernel, ⟨by decide +kernel, by decide +kernel, by decide +kernel⟩, fun _ => ⟨xin 827 (by decide +kernel) (by decide +kernel), xin 828 (by decide +kernel) (by decide +kernel), Or.inr ⟨_, _, rfl⟩⟩, (fun h => by cases h)⟩
set_option maxRecDepth 100000 in
theorem xe_X8_put : xL_X8_put.all (xeb xMs xR_X8_put) = true := by decide +kernel
set_option maxRecDepth 100000 in
theorem xg_X8_put : xRg xMs xR_X8_put := ⟨fun q hq => List.all_eq_true.mp xe_X8_put q hq, rfl, xin 833 (by decide +kernel) (by decide +kernel), xin 81 (by decide +kernel) (by decide +kernel), by decide +kernel, ⟨by decide +kernel, by decide +kernel, by decide +kernel⟩, fun _ => ⟨xin 831 (by decide +kernel) (by decide +kernel), xin 832 (by decide +kernel) (by decide +kernel), Or.inr ⟨_, _, rfl⟩⟩, (fun h => by cases h)⟩
theorem xgs_1 : ∀ R ∈ xM_1, xRg xMs R := List.forall_mem_cons.mpr ⟨xg_X7_link, List.forall_mem_cons.mpr ⟨xg_X7_has, List.forall_mem_cons.mpr ⟨xg_X7_isOpen, List.forall_mem_cons.mpr ⟨xg_X8_type, List.forall_mem_cons.mpr ⟨xg_X8_wipe, List.forall_mem_cons.mpr ⟨xg_X8_undo, List.forall_mem_cons.mpr ⟨xg_X8_fault, List.forall_mem_cons.mpr ⟨xg_X8_cell, List.forall_mem_cons.mpr ⟨xg_X8_bed, List.forall_mem_cons.mpr ⟨xg_X8_deed, List.forall_mem_cons.mpr ⟨xg_X8_set, List.forall_mem_cons.mpr ⟨xg_X8_thunder, List.forall_mem_cons.mpr ⟨xg_X8_back, List.forall_mem_cons.mpr ⟨xg_X8_read, List.forall_mem_cons.mpr ⟨xg_X8_carry, List.forall_mem_cons.mpr ⟨xg_X8_heard, List.forall_mem_cons.mpr ⟨xg_X8_noise, List.forall_mem_cons.mpr ⟨xg_X8_depth, List.forall_mem_cons.mpr ⟨xg_X8_wakes, List.forall_mem_cons.mpr ⟨xg_X8_exiled, List.forall_mem_cons.mpr ⟨xg_X8_loudest, List.forall_mem_cons.mpr ⟨xg_X8_hour, List.forall_mem_cons.mpr ⟨xg_X8_felt, List.forall_mem_cons.mpr ⟨xg_X8_lay, List.forall_mem_cons.mpr ⟨xg_X8_way, List.forall_mem_cons.mpr ⟨xg_X8_listened, List.forall_mem_cons.mpr ⟨xg_X8_forget, List.forall_mem_cons.mpr ⟨xg_X8_never, List.forall_mem_cons.mpr ⟨xg_X8_whence, List.forall_mem_cons.mpr ⟨xg_X8_what, List.forall_mem_cons.mpr ⟨xg_X8_ask, List.forall_mem_cons.mpr ⟨xg_X8_sleeps, List.forall_mem_cons.mpr ⟨xg_X8_day, List.forall_mem_cons.mpr ⟨xg_X8_sheet, List.forall_mem_cons.mpr ⟨xg_X8_lose, List.forall_mem_cons.mpr ⟨xg_X8_put, fun _ h => absurd h List.not_mem_nil⟩⟩⟩⟩⟩⟩⟩⟩⟩⟩⟩⟩⟩⟩⟩⟩⟩⟩⟩⟩⟩⟩⟩⟩⟩⟩⟩⟩⟩⟩⟩⟩⟩⟩⟩⟩
