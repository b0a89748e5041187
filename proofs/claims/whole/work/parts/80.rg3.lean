set_option maxRecDepth 100000 in
theorem xe_X9_type : xL_X9_type.all (xeb xMs xR_X9_type) = true := by decide +kernel
set_option maxRecDepth 100000 in
theorem xg_X9_type : xRg xMs xR_X9_type := ⟨fun q hq => List.all_eq_true.mp xe_X9_type q hq, rfl, xin 1032 (by decide +kernel) (by decide +kernel), xin 92 (by decide +kernel) (by decide +kernel), by decide +kernel, ⟨by decide +kernel, by decide +kernel, by decide +kernel⟩, fun _ => ⟨xin 1030 (by decide +kernel) (by decide +kernel), xin 1031 (by decide +kernel) (by decide +kernel), Or.inr ⟨_, _, rfl⟩⟩, (fun h => by cases h)⟩
set_option maxRecDepth 100000 in
theorem xe_X9_wipe : xL_X9_wipe.all (xeb xMs xR_X9_wipe) = true := by decide +kernel
set_option maxRecDepth 100000 in
theorem xg_X9_wipe : xRg xMs xR_X9_wipe := ⟨fun q hq => List.all_eq_true.mp xe_X9_wipe q hq, rfl, xin 1042 (by decide +kernel) (by decide +kernel), xin 92 (by decide +kernel) (by decide +kernel), by decide +kernel, ⟨by decide +kernel, by decide +kernel, by decide +kernel⟩, fun _ => ⟨xin 1040 (by decide +kernel) (by decide +kernel), xin 1041 (by decide +kernel) (by decide +kernel), Or.inr ⟨_, _, rfl⟩⟩, (fun h => by cases h)⟩
set_option maxRecDepth 100000 in
theorem xe_X9_undo : xL_X9_undo.all (xeb xMs xR_X9_undo) = true := by decide +kernel
set_option maxRecDepth 100000 in
theorem xg_X9_undo : xRg xMs xR_X9_undo := ⟨fun q hq => List.all_eq_true.mp xe_X9_undo q hq, rfl, xin 1046 (by decide +kernel) (by decide +kernel), xin 92 (by decide +kernel) (by decide +kernel), by decide +kernel, ⟨by decide +kernel, by decide +kernel, by decide +kernel⟩, fun _ => ⟨xin 1044 (by decide +kernel) (by decide +kernel), xin 1045 (by decide +kernel) (by decide +kernel), Or.inr ⟨_, _, rfl⟩⟩, (fun h => by cases h)⟩
set_option maxRecDepth 100000 in
theorem xe_X9_byteAt : xL_X9_byteAt.all (xeb xMs xR_X9_byteAt) = true := by decide +kernel
set_option maxRecDepth 100000 in
theorem xg_X9_byteAt : xRg xMs xR_X9_byteAt := ⟨fun q hq => List.all_eq_true.mp xe_X9_byteAt q hq, rfl, xin 1062 (by decide +kernel) (by decide +kernel), xin 92 (by decide +kernel) (by decide +kernel), by decide +kernel, ⟨by decide +kernel, by decide +kernel, by decide +kernel⟩, fun _ => ⟨xin 1061 (by decide +kernel) (by decide +kernel), xin 31 (by decide +kernel) (by decide +kernel), Or.inr ⟨_, _, rfl⟩⟩, (fun h => by cases h)⟩
set_option maxRecDepth 100000 in
theorem xe_X9_kindOf : xL_X9_kindOf.all (xeb xMs xR_X9_kindOf) = true := by decide +kernel
set_option maxRecDepth 100000 in
theorem xg_X9_kindOf : xRg xMs xR_X9_kindOf := ⟨fun q hq => List.all_eq_true.mp xe_X9_kindOf q hq, rfl, xin 1065 (by decide +kernel) (by decide +kernel), xin 92 (by decide +kernel) (by decide +kernel), by decide +kernel, ⟨by decide +kernel, by decide +kernel, by decide +kernel⟩, (fun h => by cases h), fun _ => xin 1064 (by decide +kernel) (by decide +kernel)⟩
set_option maxRecDepth 100000 in
theorem xe_X9_readsTown : xL_X9_readsTown.all (xeb xMs xR_X9_readsTown) = true := by decide +kernel
set_option maxRecDepth 100000 in
theorem xg_X9_readsTown : xRg xMs xR_X9_readsTown := ⟨fun q hq => List.all_eq_true.mp xe_X9_readsTown q hq, rfl, xin 1058 (by decide +kernel) (by decide +kernel), xin 92 (by decide +kernel) (by decide +kernel), by decide +kernel, ⟨by decide +kernel, by decide +kernel, by decide +kernel⟩, fun _ => ⟨xin 1057 (by decide +kernel) (by decide +kernel), xin 30 (by decide +kernel) (by decide +kernel), Or.inr ⟨_, _, rfl⟩⟩, (fun h => by cases h)⟩
set_option maxRecDepth 100000 in
theorem xe_X9_figureAt : xL_X9_figureAt.all (xeb xMs xR_X9_figureAt) = true := by decide +kernel
set_option maxRecDepth 100000 in
theorem xg_X9_figureAt : xRg xMs xR_X9_figureAt := ⟨fun q hq => List.all_eq_true.mp xe_X9_figureAt q hq, rfl, xin 1077 (by decide +kernel) (by decide +kernel), xin 92 (by decide +kernel) (by decide +kernel), by decide +kernel, ⟨by decide +kernel, by decide +kernel, by decide +kernel⟩, fun _ => ⟨xin 1076 (by decide +kernel) (by decide +kernel), xin 34 (by decide +kernel) (by decide +kernel), Or.inr ⟨_, _, rfl⟩⟩, (fun h => by cases h)⟩
set_option maxRecDepth 100000 in
theorem xe_X9_readsDeed : xL_X9_readsDeed.all (xeb xMs xR_X9_readsDeed) = true := by decide +kernel
set_option maxRecDepth 100000 in
theorem xg_X9_readsDeed : xRg xMs xR_X9_readsDeed := ⟨fun q hq => List.all_eq_true.mp xe_X9_readsDeed q hq, rfl, xin 1073 (by decide +kernel) (by decide +kernel), xin 92 (by decide +kernel) (by decide +kernel), by decide +kernel, ⟨by decide +kernel, by decide +kernel, by decide +kernel⟩, fun _ => ⟨xin 1072 (by decide +kernel) (by decide +kernel), xin 33 (by decide +kernel) (by decide +kernel), Or.inr ⟨_, _, rfl⟩⟩, (fun h => by cases h)⟩
set_option maxRecDepth 100000 in
theorem xe_X9_readsDeeds : xL_X9_readsDeeds.all (xeb xMs xR_X9_readsDeeds) = true := by decide +kernel
set_option maxRecDepth 100000 in
theorem xg_X9_readsDeeds : xRg xMs xR_X9_readsDeeds := ⟨fun q hq => List.all_eq_true.mp xe_X9_readsDeeds q hq, rfl, xin 1069 (by decide +kernel) (by decide +kernel), xin 92 (by decide +kernel) (by decide +kernel), by decide +kernel, ⟨by decide +kernel, by decide +kernel, by decide +kernel⟩, fun _ => ⟨xin 1068 (by decide +kernel) (by decide +kernel), xin 32 (by decide +kernel) (by decide +kernel), Or.inr ⟨_, _, rfl⟩⟩, (fun h => by cases h)⟩
set_option maxRecDepth 100000 in
theorem xe_X9_faultOf : xL_X9_faultOf.all (xeb xMs xR_X9_faultOf) = true := by decide +kernel
set_option maxRecDepth 100000 in
theorem xg_X9_faultOf : xRg xMs xR_X9_faultOf := ⟨fun q hq => List.all_eq_true.mp xe_X9_faultOf q hq, rfl, xin 1054 (by decide +kernel) (by decide +kernel), xin 92 (by decide +kernel) (by decide +kernel), by decide +kernel, ⟨by decide +kernel, by decide +kernel, by decide +kernel⟩, fun _ => ⟨xin 1053 (by decide +kernel) (by decide +kernel), xin 29 (by decide +kernel) (by decide +kernel), Or.inr ⟨_, _, rfl⟩⟩, (fun h => by cases h)⟩
set_option maxRecDepth 100000 in
theorem xe_X9_reads : xL_X9_reads.all (xeb xMs xR_X9_reads) = true := by decide +kernel
set_option maxRecDepth 100000 in
theorem xg_X9_reads : xRg xMs xR_X9_reads := ⟨fun q hq => List.all_eq_true.mp xe_X9_reads q hq, rfl, xin 1089 (by decide +kernel) (by decide +kernel), xin 92 (by decide +kernel) (by decide +kernel), by decide +kernel, ⟨by decide +kernel, by decide +kernel, by decide +kernel⟩, fun _ => ⟨xin 1088 (by decide +kernel) (by decide +kernel), xin 36 (by decide +kernel) (by decide +kernel), Or.inr ⟨_, _, rfl⟩⟩, (fun h => by cases h)⟩
set_option maxRecDepth 100000 in
theorem xe_X9_fault : xL_X9_fault.all (xeb xMs xR_X9_fault) = true := by decide +kernel
set_option maxRecDepth 100000 in
theorem xg_X9_fault : xRg xMs xR_X9_fault := ⟨fun q hq => List.all_eq_true.mp xe_X9_fault q hq, rfl, xin 1050 (by decide +kernel) (by decide +kernel), xin 92 (by decide +kernel) (by decide +kernel), by decide +kernel, ⟨by decide +kernel, by decide +kernel, by decide +kernel⟩, fun _ => ⟨xin 1048 (by decide +kernel) (by decide +kernel), xin 1049 (by decide +kernel) (by decide +kernel), Or.inr ⟨_, _, rfl⟩⟩, (fun h => by cases h)⟩
set_option maxRecDepth 100000 in
theorem xe_X9_isCell : xL_X9_isCell.all (xeb xMs xR_X9_isCell) = true := by decide +kernel
set_option maxRecDepth 100000 in
theorem xg_X9_isCell : xRg xMs xR_X9_isCell := ⟨fun q hq => List.all_eq_true.mp xe_X9_isCell q hq, rfl, xin 1085 (by decide +kernel) (by decide +kernel), xin 92 (by decide +kernel) (by decide +kernel), by decide +kernel, ⟨by decide +kernel, by decide +kernel, by decide +kernel⟩, fun _ => ⟨xin 1084 (by decide +kernel) (by decide +kernel), xin 35 (by decide +kernel) (by decide +kernel), Or.inr ⟨_, _, rfl⟩⟩, (fun h => by cases h)⟩
set_option maxRecDepth 100000 in
theorem xe_X9_isDeed : xL_X9_isDeed.all (xeb xMs xR_X9_isDeed) = true := by decide +kernel
set_option maxRecDepth 100000 in
theorem xg_X9_isDeed : xRg xMs xR_X9_isDeed := ⟨fun q hq => List.all_eq_true.mp xe_X9_isDeed q hq, rfl, xin 1105 (by decide +kernel) (by decide +kernel), xin 92 (by decide +kernel) (by decide +kernel), by decide +kernel, ⟨by decide +kernel, by decide +kernel, by decide +kernel⟩, fun _ => ⟨xin 1104 (by decide +kernel) (by decide +kernel), xin 38 (by decide +kernel) (by decide +kernel), Or.inr ⟨_, _, rfl⟩⟩, (fun h => by cases h)⟩
set_option maxRecDepth 100000 in
theorem xe_X9_cell : xL_X9_cell.all (xeb xMs xR_X9_cell) = true := by decide +kernel
set_option maxRecDepth 100000 in
theorem xg_X9_cell : xRg xMs xR_X9_cell := ⟨fun q hq => List.all_eq_true.mp xe_X9_cell q hq, rfl, xin 1081 (by decide +kernel) (by decide +kernel), xin 92 (by decide +kernel) (by decide +kernel), by decide +kernel, ⟨by decide +kernel, by decide +kernel, by decide +kernel⟩, fun _ => ⟨xin 1079 (by decide +kernel) (by decide +kernel), xin 1080 (by decide +kernel) (by decide +kernel), Or.inr ⟨_, _, rfl⟩⟩, (fun h => by cases h)⟩
set_option maxRecDepth 100000 in
theorem xe_X9_bedNow : xL_X9_bedNow.all (xeb xMs xR_X9_bedNow) = true := by decide +kernel
set_option maxRecDepth 100000 in
theorem xg_X9_bedNow : xRg xMs xR_X9_bedNow := ⟨fun q hq => List.all_eq_true.mp xe_X9_bedNow q hq, rfl, xin 1097 (by decide +kernel) (by decide +kernel), xin 92 (by decide +kernel) (by decide +kernel), by decide +kernel, ⟨by decide +kernel, by decide +kernel, by decide +kernel⟩, fun _ => ⟨xin 1096 (by decide +kernel) (by decide +kernel), xin 37 (by decide +kernel) (by decide +kernel), Or.inr ⟨_, _, rfl⟩⟩, (fun h => by cases h)⟩
set_option maxRecDepth 100000 in
theorem xe_X9_bed : xL_X9_bed.all (xeb xMs xR_X9_bed) = true := by decide +kernel
set_option maxRecDepth 100000 in
theorem xg_X9_bed : xRg xMs xR_X9_bed := ⟨fun q hq => List.all_eq_true.mp xe_X9_bed q hq, rfl, xin 1093 (by decide +kernel) (by decide +kernel), xin 92 (by decide +kernel) (by decide +kernel), by decide +kernel, ⟨by decide +kernel, by decide +kernel, by decide +kernel⟩, fun _ => ⟨xin 1091 (by decide +kernel) (by decide +kernel), xin 1092 (by decide +kernel) (by decide +kernel), Or.inr ⟨_, _, rfl⟩⟩, (fun h => by cases h)⟩
set_option maxRecDepth 100000 in
theorem xe_X9_deedOf : xL_X9_deedOf.all (xeb xMs xR_X9_deedOf) = true := by decide +kernel
set_option maxRecDepth 100000 in
theorem xg_X9_deedOf : xRg xMs xR_X9_deedOf := ⟨fun q hq => List.all_eq_true.mp xe_X9_deedOf q hq, rfl, xin 1109 (by decide +kernel) (by decide +kernel), xin 92 (by decide +kernel) (by decide +kernel), by decide +kernel, ⟨by decide +kernel, by decide +kernel, by decide +kernel⟩, fun _ => ⟨xin 1108 (by decide +kernel) (by decide +kernel), xin 39 (by decide +kernel) (by decide +kernel), Or.inr ⟨_, _, rfl⟩⟩, (fun h => by cases h)⟩
set_option maxRecDepth 100000 in
theorem xe_X9_deed : xL_X9_deed.all (xeb xMs xR_X9_deed) = true := by decide +kernel
set_option maxRecDepth 100000 in
theorem xg_X9_deed : xRg xMs xR_X9_deed := ⟨fun q hq => List.all_eq_true.mp xe_X9_deed q hq, rfl, xin 1101 (by decide +kernel) (by decide +kernel), xin 92 (by decide +kernel) (by decide +kernel), by decide +kernel, ⟨by decide +kernel, by decide +kernel, by decide +kernel⟩, fun _ => ⟨xin 1099 (by decide +kernel) (by decide +kernel), xin 1100 (by decide +kernel) (by decide +kernel), Or.inr ⟨_, _, rfl⟩⟩, (fun h => by cases h)⟩
set_option maxRecDepth 100000 in
theorem xe_X9_set : xL_X9_set.all (xeb xMs xR_X9_set) = true := by decide +kernel
set_option maxRecDepth 100000 in
theorem xg_X9_set : xRg xMs xR_X9_set := ⟨fun q hq => List.all_eq_true.mp xe_X9_set q hq, rfl, xin 1113 (by decide +kernel) (by decide +kernel), xin 92 (by decide +kernel) (by decide +kernel), by decide +kernel, ⟨by decide +kernel, by decide +kernel, by decide +kernel⟩, fun _ => ⟨xin 1111 (by decide +kernel) (by decide +kernel), xin 1112 (by decide +kernel) (by decide +kernel), Or.inr ⟨_, _, rfl⟩⟩, (fun h => by cases h)⟩
set_option maxRecDepth 100000 in
theorem xe_X9_thunder : xL_X9_thunder.all (xeb xMs xR_X9_thunder) = true := by decide +kernel
set_option maxRecDepth 100000 in
theorem xg_X9_thunder : xRg xMs xR_X9_thunder := ⟨fun q hq => List.all_eq_true.mp xe_X9_thunder q hq, rfl, xin 1117 (by decide +kernel) (by decide +kernel), xin 92 (by decide +kernel) (by decide +kernel), by decide +kernel, ⟨by decide +kernel, by decide +kernel, by decide +kernel⟩, fun _ => ⟨xin 1115 (by decide +kernel) (by decide +kernel), xin 1116 (by decide +kernel) (by decide +kernel), Or.inr ⟨_, _, rfl⟩⟩, (fun h => by cases h)⟩
set_option maxRecDepth 100000 in
theorem xe_X9_back : xL_X9_back.all (xeb xMs xR_X9_back) = true := by decide +kernel
set_option maxRecDepth 100000 in
theorem xg_X9_back : xRg xMs xR_X9_back := ⟨fun q hq => List.all_eq_true.mp xe_X9_back q hq, rfl, xin 1124 (by decide +kernel) (by decide +kernel), xin 92 (by decide +kernel) (by decide +kernel), by decide +kernel, ⟨by decide +kernel, by decide +kernel, by decide +kernel⟩, fun _ => ⟨xin 1122 (by decide +kernel) (by decide +kernel), xin 1123 (by decide +kernel) (by decide +kernel), Or.inr ⟨_, _, rfl⟩⟩, (fun h => by cases h)⟩
set_option maxRecDepth 100000 in
theorem xe_X9_read : xL_X9_read.all (xeb xMs xR_X9_read) = true := by decide +kernel
set_option maxRecDepth 100000 in
theorem xg_X9_read : xRg xMs xR_X9_read := ⟨fun q hq => List.all_eq_true.mp xe_X9_read q hq, rfl, xin 1128 (by decide +kernel) (by decide +kernel), xin 92 (by decide +kernel) (by decide +kernel), by decide +kernel, ⟨by decide +kernel, by decide +kernel, by decide +kernel⟩, fun _ => ⟨xin 1126 (by decide +kernel) (by decide +kernel), xin 1127 (by decide +kernel) (by decide +kernel), Or.inr ⟨_, _, rfl⟩⟩, (fun h => by cases h)⟩
set_option maxRecDepth 100000 in
theorem xe_X9_beside : xL_X9_beside.all (xeb xMs xR_X9_beside) = true := by decide +kernel
set_option maxRecDepth 100000 in
theorem xg_X9_beside : xRg xMs xR_X9_beside := ⟨fun q hq => List.all_eq_true.mp xe_X9_beside q hq, rfl, xin 1156 (by decide +kernel) (by decide +kernel), xin 92 (by decide +kernel) (by decide +kernel), by decide +kernel, ⟨by decide +kernel, by decide +kernel, by decide +kernel⟩, fun _ => ⟨xin 1155 (by decide +kernel) (by decide +kernel), xin 44 (by decide +kernel) (by decide +kernel), Or.inr ⟨_, _, rfl⟩⟩, (fun h => by cases h)⟩
set_option maxRecDepth 100000 in
theorem xe_X9_into : xL_X9_into.all (xeb xMs xR_X9_into) = true := by decide +kernel
set_option maxRecDepth 100000 in
theorem xg_X9_into : xRg xMs xR_X9_into := ⟨fun q hq => List.all_eq_true.mp xe_X9_into q hq, rfl, xin 1160 (by decide +kernel) (by decide +kernel), xin 92 (by decide +kernel) (by decide +kernel), by decide +kernel, ⟨by decide +kernel, by decide +kernel, by decide +kernel⟩, fun _ => ⟨xin 1159 (by decide +kernel) (by decide +kernel), xin 45 (by decide +kernel) (by decide +kernel), Or.inr ⟨_, _, rfl⟩⟩, (fun h => by cases h)⟩
set_option maxRecDepth 100000 in
theorem xe_X9_doesEase : xL_X9_doesEase.all (xeb xMs xR_X9_doesEase) = true := by decide +kernel
set_option maxRecDepth 100000 in
theorem xg_X9_doesEase : xRg xMs xR_X9_doesEase := ⟨fun q hq => List.all_eq_true.mp xe_X9_doesEase q hq, rfl, xin 1152 (by decide +kernel) (by decide +kernel), xin 92 (by decide +kernel) (by decide +kernel), by decide +kernel, ⟨by decide +kernel, by decide +kernel, by decide +kernel⟩, fun _ => ⟨xin 1151 (by decide +kernel) (by decide +kernel), xin 43 (by decide +kernel) (by decide +kernel), Or.inr ⟨_, _, rfl⟩⟩, (fun h => by cases h)⟩
set_option maxRecDepth 100000 in
theorem xe_X9_carriesTo : xL_X9_carriesTo.all (xeb xMs xR_X9_carriesTo) = true := by decide +kernel
set_option maxRecDepth 100000 in
theorem xg_X9_carriesTo : xRg xMs xR_X9_carriesTo := ⟨fun q hq => List.all_eq_true.mp xe_X9_carriesTo q hq, rfl, xin 1148 (by decide +kernel) (by decide +kernel), xin 92 (by decide +kernel) (by decide +kernel), by decide +kernel, ⟨by decide +kernel, by decide +kernel, by decide +kernel⟩, fun _ => ⟨xin 1147 (by decide +kernel) (by decide +kernel), xin 42 (by decide +kernel) (by decide +kernel), Or.inr ⟨_, _, rfl⟩⟩, (fun h => by cases h)⟩
set_option maxRecDepth 100000 in
theorem xe_X9_carryOf : xL_X9_carryOf.all (xeb xMs xR_X9_carryOf) = true := by decide +kernel
set_option maxRecDepth 100000 in
theorem xg_X9_carryOf : xRg xMs xR_X9_carryOf := ⟨fun q hq => List.all_eq_true.mp xe_X9_carryOf q hq, rfl, xin 1144 (by decide +kernel) (by decide +kernel), xin 92 (by decide +kernel) (by decide +kernel), by decide +kernel, ⟨by decide +kernel, by decide +kernel, by decide +kernel⟩, fun _ => ⟨xin 1143 (by decide +kernel) (by decide +kernel), xin 41 (by decide +kernel) (by decide +kernel), Or.inr ⟨_, _, rfl⟩⟩, (fun h => by cases h)⟩
set_option maxRecDepth 100000 in
theorem xe_X9_carry : xL_X9_carry.all (xeb xMs xR_X9_carry) = true := by decide +kernel
set_option maxRecDepth 100000 in
theorem xg_X9_carry : xRg xMs xR_X9_carry := ⟨fun q hq => List.all_eq_true.mp xe_X9_carry q hq, rfl, xin 1140 (by decide +kernel) (by decide +kernel), xin 92 (by decide +kernel) (by decide +kernel), by decide +kernel, ⟨by decide +kernel, by decide +kernel, by decide +kernel⟩, fun _ => ⟨xin 1138 (by decide +kernel) (by decide +kernel), xin 1139 (by decide +kernel) (by decide +kernel), Or.inr ⟨_, _, rfl⟩⟩, (fun h => by cases h)⟩
set_option maxRecDepth 100000 in
theorem xe_X9_loudOf : xL_X9_loudOf.all (xeb xMs xR_X9_loudOf) = true := by decide +kernel
set_option maxRecDepth 100000 in
theorem xg_X9_loudOf : xRg xMs xR_X9_loudOf := ⟨fun q hq => List.all_eq_true.mp xe_X9_loudOf q hq, rfl, xin 1195 (by decide +kernel) (by decide +kernel), xin 92 (by decide +kernel) (by decide +kernel), by decide +kernel, ⟨by decide +kernel, by decide +kernel, by decide +kernel⟩, (fun h => by cases h), fun _ => xin 1194 (by decide +kernel) (by decide +kernel)⟩
set_option maxRecDepth 100000 in
theorem xe_X9_lays : xL_X9_lays.all (xeb xMs xR_X9_lays) = true := by decide +kernel
set_option maxRecDepth 100000 in
theorem xg_X9_lays : xRg xMs xR_X9_lays := ⟨fun q hq => List.all_eq_true.mp xe_X9_lays q hq, rfl, xin 1184 (by decide +kernel) (by decide +kernel), xin 92 (by decide +kernel) (by decide +kernel), by decide +kernel, ⟨by decide +kernel, by decide +kernel, by decide +kernel⟩, fun _ => ⟨xin 1183 (by decide +kernel) (by decide +kernel), xin 50 (by decide +kernel) (by decide +kernel), Or.inr ⟨_, _, rfl⟩⟩, (fun h => by cases h)⟩
set_option maxRecDepth 100000 in
theorem xe_X9_hears : xL_X9_hears.all (xeb xMs xR_X9_hears) = true := by decide +kernel
set_option maxRecDepth 100000 in
theorem xg_X9_hears : xRg xMs xR_X9_hears := ⟨fun q hq => List.all_eq_true.mp xe_X9_hears q hq, rfl, xin 1192 (by decide +kernel) (by decide +kernel), xin 92 (by decide +kernel) (by decide +kernel), by decide +kernel, ⟨by decide +kernel, by decide +kernel, by decide +kernel⟩, fun _ => ⟨xin 1191 (by decide +kernel) (by decide +kernel), xin 52 (by decide +kernel) (by decide +kernel), Or.inr ⟨_, _, rfl⟩⟩, (fun h => by cases h)⟩
set_option maxRecDepth 100000 in
theorem xe_X9_noiseIn : xL_X9_noiseIn.all (xeb xMs xR_X9_noiseIn) = true := by decide +kernel
set_option maxRecDepth 100000 in
theorem xg_X9_noiseIn : xRg xMs xR_X9_noiseIn := ⟨fun q hq => List.all_eq_true.mp xe_X9_noiseIn q hq, rfl, xin 1199 (by decide +kernel) (by decide +kernel), xin 92 (by decide +kernel) (by decide +kernel), by decide +kernel, ⟨by decide +kernel, by decide +kernel, by decide +kernel⟩, fun _ => ⟨xin 1198 (by decide +kernel) (by decide +kernel), xin 53 (by decide +kernel) (by decide +kernel), Or.inr ⟨_, _, rfl⟩⟩, (fun h => by cases h)⟩
set_option maxRecDepth 100000 in
theorem xe_X9_sleepsOn : xL_X9_sleepsOn.all (xeb xMs xR_X9_sleepsOn) = true := by decide +kernel
set_option maxRecDepth 100000 in
theorem xg_X9_sleepsOn : xRg xMs xR_X9_sleepsOn := ⟨fun q hq => List.all_eq_true.mp xe_X9_sleepsOn q hq, rfl, xin 1188 (by decide +kernel) (by decide +kernel), xin 92 (by decide +kernel) (by decide +kernel), by decide +kernel, ⟨by decide +kernel, by decide +kernel, by decide +kernel⟩, fun _ => ⟨xin 1187 (by decide +kernel) (by decide +kernel), xin 51 (by decide +kernel) (by decide +kernel), Or.inr ⟨_, _, rfl⟩⟩, (fun h => by cases h)⟩
set_option maxRecDepth 100000 in
theorem xe_X9_runs : xL_X9_runs.all (xeb xMs xR_X9_runs) = true := by decide +kernel
set_option maxRecDepth 100000 in
theorem xg_X9_runs : xRg xMs xR_X9_runs := ⟨fun q hq => List.all_eq_true.mp xe_X9_runs q hq, rfl, xin 1180 (by decide +kernel) (by decide +kernel), xin 92 (by decide +kernel) (by decide +kernel), by decide +kernel, ⟨by decide +kernel, by decide +kernel, by decide +kernel⟩, fun _ => ⟨xin 1179 (by decide +kernel) (by decide +kernel), xin 49 (by decide +kernel) (by decide +kernel), Or.inr ⟨_, _, rfl⟩⟩, (fun h => by cases h)⟩
set_option maxRecDepth 100000 in
theorem xe_X9_asTold : xL_X9_asTold.all (xeb xMs xR_X9_asTold) = true := by decide +kernel
set_option maxRecDepth 100000 in
theorem xg_X9_asTold : xRg xMs xR_X9_asTold := ⟨fun q hq => List.all_eq_true.mp xe_X9_asTold q hq, rfl, xin 1176 (by decide +kernel) (by decide +kernel), xin 92 (by decide +kernel) (by decide +kernel), by decide +kernel, ⟨by decide +kernel, by decide +kernel, by decide +kernel⟩, fun _ => ⟨xin 1175 (by decide +kernel) (by decide +kernel), xin 48 (by decide +kernel) (by decide +kernel), Or.inr ⟨_, _, rfl⟩⟩, (fun h => by cases h)⟩
theorem xgs_3 : ∀ R ∈ xM_3, xRg xMs R := List.forall_mem_cons.mpr ⟨xg_X9_type, List.forall_mem_cons.mpr ⟨xg_X9_wipe, List.forall_mem_cons.mpr ⟨xg_X9_undo, List.forall_mem_cons.mpr ⟨xg_X9_byteAt, List.forall_mem_cons.mpr ⟨xg_X9_kindOf, List.forall_mem_cons.mpr ⟨xg_X9_readsTown, List.forall_mem_cons.mpr ⟨xg_X9_figureAt, List.forall_mem_cons.mpr ⟨xg_X9_readsDeed, List.forall_mem_cons.mpr ⟨xg_X9_readsDeeds, List.forall_mem_cons.mpr ⟨xg_X9_faultOf, List.forall_mem_cons.mpr ⟨xg_X9_reads, List.forall_mem_cons.mpr ⟨xg_X9_fault, List.forall_mem_cons.mpr ⟨xg_X9_isCell, List.forall_mem_cons.mpr ⟨xg_X9_isDeed, List.forall_mem_cons.mpr ⟨xg_X9_cell, List.forall_mem_cons.mpr ⟨xg_X9_bedNow, List.forall_mem_cons.mpr ⟨xg_X9_bed, List.forall_mem_cons.mpr ⟨xg_X9_deedOf, List.forall_mem_cons.mpr ⟨xg_X9_deed, List.forall_mem_cons.mpr ⟨xg_X9_set, List.forall_mem_cons.mpr ⟨xg_X9_thunder, List.forall_mem_cons.mpr ⟨xg_X9_back, List.forall_mem_cons.mpr ⟨xg_X9_read, List.forall_mem_cons.mpr ⟨xg_X9_beside, List.forall_mem_cons.mpr ⟨xg_X9_into, List.forall_mem_cons.mpr ⟨xg_X9_doesEase, List.forall_mem_cons.mpr ⟨xg_X9_carriesTo, List.forall_mem_cons.mpr ⟨xg_X9_carryOf, List.forall_mem_cons.mpr ⟨xg_X9_carry, List.forall_mem_cons.mpr ⟨xg_X9_loudOf, List.forall_mem_cons.mpr ⟨xg_X9_lays, List.forall_mem_cons.mpr ⟨xg_X9_hears, List.forall_mem_cons.mpr ⟨xg_X9_noiseIn, List.forall_mem_cons.mpr ⟨xg_X9_sleepsOn, List.forall_mem_cons.mpr ⟨xg_X9_runs, List.forall_mem_cons.mpr ⟨xg_X9_asTold, fun _ h => absurd h List.not_mem_nil⟩⟩⟩⟩⟩⟩⟩⟩⟩⟩⟩⟩⟩⟩⟩⟩⟩⟩⟩⟩⟩⟩⟩⟩⟩⟩⟩⟩⟩⟩⟩⟩⟩⟩⟩⟩
