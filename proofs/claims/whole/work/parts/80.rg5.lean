set_option maxRecDepth 100000 in
theorem xe_X9_sleepsBy : xL_X9_sleepsBy.all (xeb xMs xR_X9_sleepsBy) = true := by decide +kernel
set_option maxRecDepth 100000 in
theorem xg_X9_sleepsBy : xRg xMs xR_X9_sleepsBy := ⟨fun q hq => List.all_eq_true.mp xe_X9_sleepsBy q hq, rfl, xin 1342 (by decide +kernel) (by decide +kernel), xin 92 (by decide +kernel) (by decide +kernel), by decide +kernel, ⟨by decide +kernel, by decide +kernel, by decide +kernel⟩, fun _ => ⟨xin 1341 (by decide +kernel) (by decide +kernel), xin 72 (by decide +kernel) (by decide +kernel), Or.inr ⟨_, _, rfl⟩⟩, (fun h => by cases h)⟩
set_option maxRecDepth 100000 in
theorem xe_X9_sleeps : xL_X9_sleeps.all (xeb xMs xR_X9_sleeps) = true := by decide +kernel
set_option maxRecDepth 100000 in
theorem xg_X9_sleeps : xRg xMs xR_X9_sleeps := ⟨fun q hq => List.all_eq_true.mp xe_X9_sleeps q hq, rfl, xin 1338 (by decide +kernel) (by decide +kernel), xin 92 (by decide +kernel) (by decide +kernel), by decide +kernel, ⟨by decide +kernel, by decide +kernel, by decide +kernel⟩, fun _ => ⟨xin 1336 (by decide +kernel) (by decide +kernel), xin 1337 (by decide +kernel) (by decide +kernel), Or.inr ⟨_, _, rfl⟩⟩, (fun h => by cases h)⟩
set_option maxRecDepth 100000 in
theorem xe_X9_exiledMany : xL_X9_exiledMany.all (xeb xMs xR_X9_exiledMany) = true := by decide +kernel
set_option maxRecDepth 100000 in
theorem xg_X9_exiledMany : xRg xMs xR_X9_exiledMany := ⟨fun q hq => List.all_eq_true.mp xe_X9_exiledMany q hq, rfl, xin 1362 (by decide +kernel) (by decide +kernel), xin 92 (by decide +kernel) (by decide +kernel), by decide +kernel, ⟨by decide +kernel, by decide +kernel, by decide +kernel⟩, fun _ => ⟨xin 1361 (by decide +kernel) (by decide +kernel), xin 74 (by decide +kernel) (by decide +kernel), Or.inr ⟨_, _, rfl⟩⟩, (fun h => by cases h)⟩
set_option maxRecDepth 100000 in
theorem xe_X9_dayOf : xL_X9_dayOf.all (xeb xMs xR_X9_dayOf) = true := by decide +kernel
set_option maxRecDepth 100000 in
theorem xg_X9_dayOf : xRg xMs xR_X9_dayOf := ⟨fun q hq => List.all_eq_true.mp xe_X9_dayOf q hq, rfl, xin 1357 (by decide +kernel) (by decide +kernel), xin 92 (by decide +kernel) (by decide +kernel), by decide +kernel, ⟨by decide +kernel, by decide +kernel, by decide +kernel⟩, fun _ => ⟨xin 1356 (by decide +kernel) (by decide +kernel), xin 73 (by decide +kernel) (by decide +kernel), Or.inr ⟨_, _, rfl⟩⟩, (fun h => by cases h)⟩
set_option maxRecDepth 100000 in
theorem xe_X9_day : xL_X9_day.all (xeb xMs xR_X9_day) = true := by decide +kernel
set_option maxRecDepth 100000 in
theorem xg_X9_day : xRg xMs xR_X9_day := ⟨fun q hq => List.all_eq_true.mp xe_X9_day q hq, rfl, xin 1353 (by decide +kernel) (by decide +kernel), xin 92 (by decide +kernel) (by decide +kernel), by decide +kernel, ⟨by decide +kernel, by decide +kernel, by decide +kernel⟩, fun _ => ⟨xin 1351 (by decide +kernel) (by decide +kernel), xin 1352 (by decide +kernel) (by decide +kernel), Or.inr ⟨_, _, rfl⟩⟩, (fun h => by cases h)⟩
set_option maxRecDepth 100000 in
theorem xe_X9_meets : xL_X9_meets.all (xeb xMs xR_X9_meets) = true := by decide +kernel
set_option maxRecDepth 100000 in
theorem xg_X9_meets : xRg xMs xR_X9_meets := ⟨fun q hq => List.all_eq_true.mp xe_X9_meets q hq, rfl, xin 1135 (by decide +kernel) (by decide +kernel), xin 92 (by decide +kernel) (by decide +kernel), by decide +kernel, ⟨by decide +kernel, by decide +kernel, by decide +kernel⟩, fun _ => ⟨xin 1134 (by decide +kernel) (by decide +kernel), xin 40 (by decide +kernel) (by decide +kernel), Or.inr ⟨_, _, rfl⟩⟩, (fun h => by cases h)⟩
set_option maxRecDepth 100000 in
theorem xe_X9_isSheet : xL_X9_isSheet.all (xeb xMs xR_X9_isSheet) = true := by decide +kernel
set_option maxRecDepth 100000 in
theorem xg_X9_isSheet : xRg xMs xR_X9_isSheet := ⟨fun q hq => List.all_eq_true.mp xe_X9_isSheet q hq, rfl, xin 1131 (by decide +kernel) (by decide +kernel), xin 92 (by decide +kernel) (by decide +kernel), by decide +kernel, ⟨by decide +kernel, by decide +kernel, by decide +kernel⟩, (fun h => by cases h), fun _ => xin 1130 (by decide +kernel) (by decide +kernel)⟩
set_option maxRecDepth 100000 in
theorem xe_X9_sheet : xL_X9_sheet.all (xeb xMs xR_X9_sheet) = true := by decide +kernel
set_option maxRecDepth 100000 in
theorem xg_X9_sheet : xRg xMs xR_X9_sheet := ⟨fun q hq => List.all_eq_true.mp xe_X9_sheet q hq, rfl, xin 1366 (by decide +kernel) (by decide +kernel), xin 92 (by decide +kernel) (by decide +kernel), by decide +kernel, ⟨by decide +kernel, by decide +kernel, by decide +kernel⟩, fun _ => ⟨xin 1364 (by decide +kernel) (by decide +kernel), xin 1365 (by decide +kernel) (by decide +kernel), Or.inr ⟨_, _, rfl⟩⟩, (fun h => by cases h)⟩
set_option maxRecDepth 100000 in
theorem xe_X9_lose : xL_X9_lose.all (xeb xMs xR_X9_lose) = true := by decide +kernel
set_option maxRecDepth 100000 in
theorem xg_X9_lose : xRg xMs xR_X9_lose := ⟨fun q hq => List.all_eq_true.mp xe_X9_lose q hq, rfl, xin 1370 (by decide +kernel) (by decide +kernel), xin 92 (by decide +kernel) (by decide +kernel), by decide +kernel, ⟨by decide +kernel, by decide +kernel, by decide +kernel⟩, fun _ => ⟨xin 1368 (by decide +kernel) (by decide +kernel), xin 1369 (by decide +kernel) (by decide +kernel), Or.inr ⟨_, _, rfl⟩⟩, (fun h => by cases h)⟩
set_option maxRecDepth 100000 in
theorem xe_X9_lacks : xL_X9_lacks.all (xeb xMs xR_X9_lacks) = true := by decide +kernel
set_option maxRecDepth 100000 in
theorem xg_X9_lacks : xRg xMs xR_X9_lacks := ⟨fun q hq => List.all_eq_true.mp xe_X9_lacks q hq, rfl, xin 1378 (by decide +kernel) (by decide +kernel), xin 92 (by decide +kernel) (by decide +kernel), by decide +kernel, ⟨by decide +kernel, by decide +kernel, by decide +kernel⟩, fun _ => ⟨xin 1377 (by decide +kernel) (by decide +kernel), xin 75 (by decide +kernel) (by decide +kernel), Or.inr ⟨_, _, rfl⟩⟩, (fun h => by cases h)⟩
set_option maxRecDepth 100000 in
theorem xe_X9_keep : xL_X9_keep.all (xeb xMs xR_X9_keep) = true := by decide +kernel
set_option maxRecDepth 100000 in
theorem xg_X9_keep : xRg xMs xR_X9_keep := ⟨fun q hq => List.all_eq_true.mp xe_X9_keep q hq, rfl, xin 1382 (by decide +kernel) (by decide +kernel), xin 92 (by decide +kernel) (by decide +kernel), by decide +kernel, ⟨by decide +kernel, by decide +kernel, by decide +kernel⟩, fun _ => ⟨xin 1381 (by decide +kernel) (by decide +kernel), xin 76 (by decide +kernel) (by decide +kernel), Or.inr ⟨_, _, rfl⟩⟩, (fun h => by cases h)⟩
set_option maxRecDepth 100000 in
theorem xe_X9_put : xL_X9_put.all (xeb xMs xR_X9_put) = true := by decide +kernel
set_option maxRecDepth 100000 in
theorem xg_X9_put : xRg xMs xR_X9_put := ⟨fun q hq => List.all_eq_true.mp xe_X9_put q hq, rfl, xin 1374 (by decide +kernel) (by decide +kernel), xin 92 (by decide +kernel) (by decide +kernel), by decide +kernel, ⟨by decide +kernel, by decide +kernel, by decide +kernel⟩, fun _ => ⟨xin 1372 (by decide +kernel) (by decide +kernel), xin 1373 (by decide +kernel) (by decide +kernel), Or.inr ⟨_, _, rfl⟩⟩, (fun h => by cases h)⟩
set_option maxRecDepth 100000 in
theorem xe_X9_get : xL_X9_get.all (xeb xMs xR_X9_get) = true := by decide +kernel
set_option maxRecDepth 100000 in
theorem xg_X9_get : xRg xMs xR_X9_get := ⟨fun q hq => List.all_eq_true.mp xe_X9_get q hq, rfl, xin 1386 (by decide +kernel) (by decide +kernel), xin 92 (by decide +kernel) (by decide +kernel), by decide +kernel, ⟨by decide +kernel, by decide +kernel, by decide +kernel⟩, fun _ => ⟨xin 1384 (by decide +kernel) (by decide +kernel), xin 1385 (by decide +kernel) (by decide +kernel), Or.inr ⟨_, _, rfl⟩⟩, (fun h => by cases h)⟩
set_option maxRecDepth 100000 in
theorem xe_X9_copy : xL_X9_copy.all (xeb xMs xR_X9_copy) = true := by decide +kernel
set_option maxRecDepth 100000 in
theorem xg_X9_copy : xRg xMs xR_X9_copy := ⟨fun q hq => List.all_eq_true.mp xe_X9_copy q hq, rfl, xin 1391 (by decide +kernel) (by decide +kernel), xin 92 (by decide +kernel) (by decide +kernel), by decide +kernel, ⟨by decide +kernel, by decide +kernel, by decide +kernel⟩, fun _ => ⟨xin 1389 (by decide +kernel) (by decide +kernel), xin 1390 (by decide +kernel) (by decide +kernel), Or.inr ⟨_, _, rfl⟩⟩, (fun h => by cases h)⟩
set_option maxRecDepth 100000 in
theorem xe_X9_write : xL_X9_write.all (xeb xMs xR_X9_write) = true := by decide +kernel
set_option maxRecDepth 100000 in
theorem xg_X9_write : xRg xMs xR_X9_write := ⟨fun q hq => List.all_eq_true.mp xe_X9_write q hq, rfl, xin 1395 (by decide +kernel) (by decide +kernel), xin 92 (by decide +kernel) (by decide +kernel), by decide +kernel, ⟨by decide +kernel, by decide +kernel, by decide +kernel⟩, fun _ => ⟨xin 1393 (by decide +kernel) (by decide +kernel), xin 1394 (by decide +kernel) (by decide +kernel), Or.inr ⟨_, _, rfl⟩⟩, (fun h => by cases h)⟩
set_option maxRecDepth 100000 in
theorem xe_X9_doneMany : xL_X9_doneMany.all (xeb xMs xR_X9_doneMany) = true := by decide +kernel
set_option maxRecDepth 100000 in
theorem xg_X9_doneMany : xRg xMs xR_X9_doneMany := ⟨fun q hq => List.all_eq_true.mp xe_X9_doneMany q hq, rfl, xin 1407 (by decide +kernel) (by decide +kernel), xin 92 (by decide +kernel) (by decide +kernel), by decide +kernel, ⟨by decide +kernel, by decide +kernel, by decide +kernel⟩, fun _ => ⟨xin 1406 (by decide +kernel) (by decide +kernel), xin 78 (by decide +kernel) (by decide +kernel), Or.inr ⟨_, _, rfl⟩⟩, (fun h => by cases h)⟩
set_option maxRecDepth 100000 in
theorem xe_X9_sumOf : xL_X9_sumOf.all (xeb xMs xR_X9_sumOf) = true := by decide +kernel
set_option maxRecDepth 100000 in
theorem xg_X9_sumOf : xRg xMs xR_X9_sumOf := ⟨fun q hq => List.all_eq_true.mp xe_X9_sumOf q hq, rfl, xin 1403 (by decide +kernel) (by decide +kernel), xin 92 (by decide +kernel) (by decide +kernel), by decide +kernel, ⟨by decide +kernel, by decide +kernel, by decide +kernel⟩, fun _ => ⟨xin 1402 (by decide +kernel) (by decide +kernel), xin 77 (by decide +kernel) (by decide +kernel), Or.inr ⟨_, _, rfl⟩⟩, (fun h => by cases h)⟩
set_option maxRecDepth 100000 in
theorem xe_X9_count : xL_X9_count.all (xeb xMs xR_X9_count) = true := by decide +kernel
set_option maxRecDepth 100000 in
theorem xg_X9_count : xRg xMs xR_X9_count := ⟨fun q hq => List.all_eq_true.mp xe_X9_count q hq, rfl, xin 1399 (by decide +kernel) (by decide +kernel), xin 92 (by decide +kernel) (by decide +kernel), by decide +kernel, ⟨by decide +kernel, by decide +kernel, by decide +kernel⟩, fun _ => ⟨xin 1397 (by decide +kernel) (by decide +kernel), xin 1398 (by decide +kernel) (by decide +kernel), Or.inr ⟨_, _, rfl⟩⟩, (fun h => by cases h)⟩
set_option maxRecDepth 100000 in
theorem xe_X9_deedDigest : xL_X9_deedDigest.all (xeb xMs xR_X9_deedDigest) = true := by decide +kernel
set_option maxRecDepth 100000 in
theorem xg_X9_deedDigest : xRg xMs xR_X9_deedDigest := ⟨fun q hq => List.all_eq_true.mp xe_X9_deedDigest q hq, rfl, xin 1418 (by decide +kernel) (by decide +kernel), xin 92 (by decide +kernel) (by decide +kernel), by decide +kernel, ⟨by decide +kernel, by decide +kernel, by decide +kernel⟩, fun _ => ⟨xin 1417 (by decide +kernel) (by decide +kernel), xin 79 (by decide +kernel) (by decide +kernel), Or.inr ⟨_, _, rfl⟩⟩, (fun h => by cases h)⟩
set_option maxRecDepth 100000 in
theorem xe_X9_digest : xL_X9_digest.all (xeb xMs xR_X9_digest) = true := by decide +kernel
set_option maxRecDepth 100000 in
theorem xg_X9_digest : xRg xMs xR_X9_digest := ⟨fun q hq => List.all_eq_true.mp xe_X9_digest q hq, rfl, xin 1411 (by decide +kernel) (by decide +kernel), xin 92 (by decide +kernel) (by decide +kernel), by decide +kernel, ⟨by decide +kernel, by decide +kernel, by decide +kernel⟩, fun _ => ⟨xin 1409 (by decide +kernel) (by decide +kernel), xin 1410 (by decide +kernel) (by decide +kernel), Or.inr ⟨_, _, rfl⟩⟩, (fun h => by cases h)⟩
set_option maxRecDepth 100000 in
theorem xe_J13_bitCount_95d88 : xL_J13_bitCount_95d88.all (xeb xMs xR_J13_bitCount_95d88) = true := by decide +kernel
set_option maxRecDepth 100000 in
theorem xg_J13_bitCount_95d88 : xRg xMs xR_J13_bitCount_95d88 := ⟨fun q hq => List.all_eq_true.mp xe_J13_bitCount_95d88 q hq, rfl, xin 814 (by decide +kernel) (by decide +kernel), xin 99 (by decide +kernel) (by decide +kernel), by decide +kernel, ⟨by decide +kernel, by decide +kernel, by decide +kernel⟩, (fun h => by cases h), fun _ => xin 813 (by decide +kernel) (by decide +kernel)⟩
set_option maxRecDepth 100000 in
theorem xe_J0_length_8abf5 : xL_J0_length_8abf5.all (xeb xMs xR_J0_length_8abf5) = true := by decide +kernel
set_option maxRecDepth 100000 in
theorem xg_J0_length_8abf5 : xRg xMs xR_J0_length_8abf5 := ⟨fun q hq => List.all_eq_true.mp xe_J0_length_8abf5 q hq, rfl, xin 472 (by decide +kernel) (by decide +kernel), xin 93 (by decide +kernel) (by decide +kernel), by decide +kernel, ⟨by decide +kernel, by decide +kernel, by decide +kernel⟩, fun _ => ⟨xin 470 (by decide +kernel) (by decide +kernel), xin 471 (by decide +kernel) (by decide +kernel), Or.inl ⟨rfl, rfl⟩⟩, (fun h => by cases h)⟩
set_option maxRecDepth 100000 in
theorem xe_J0_indexOf_0f7a4 : xL_J0_indexOf_0f7a4.all (xeb xMs xR_J0_indexOf_0f7a4) = true := by decide +kernel
set_option maxRecDepth 100000 in
theorem xg_J0_indexOf_0f7a4 : xRg xMs xR_J0_indexOf_0f7a4 := ⟨fun q hq => List.all_eq_true.mp xe_J0_indexOf_0f7a4 q hq, rfl, xin 458 (by decide +kernel) (by decide +kernel), xin 93 (by decide +kernel) (by decide +kernel), by decide +kernel, ⟨by decide +kernel, by decide +kernel, by decide +kernel⟩, fun _ => ⟨xin 456 (by decide +kernel) (by decide +kernel), xin 457 (by decide +kernel) (by decide +kernel), Or.inl ⟨rfl, rfl⟩⟩, (fun h => by cases h)⟩
set_option maxRecDepth 100000 in
theorem xe_J0_indexOf_7cf53 : xL_J0_indexOf_7cf53.all (xeb xMs xR_J0_indexOf_7cf53) = true := by decide +kernel
set_option maxRecDepth 100000 in
theorem xg_J0_indexOf_7cf53 : xRg xMs xR_J0_indexOf_7cf53 := ⟨fun q hq => List.all_eq_true.mp xe_J0_indexOf_7cf53 q hq, rfl, xin 462 (by decide +kernel) (by decide +kernel), xin 93 (by decide +kernel) (by decide +kernel), by decide +kernel, ⟨by decide +kernel, by decide +kernel, by decide +kernel⟩, fun _ => ⟨xin 460 (by decide +kernel) (by decide +kernel), xin 461 (by decide +kernel) (by decide +kernel), Or.inl ⟨rfl, rfl⟩⟩, (fun h => by cases h)⟩
set_option maxRecDepth 100000 in
theorem xe_J0_coder_7d493 : xL_J0_coder_7d493.all (xeb xMs xR_J0_coder_7d493) = true := by decide +kernel
set_option maxRecDepth 100000 in
theorem xg_J0_coder_7d493 : xRg xMs xR_J0_coder_7d493 := ⟨fun q hq => List.all_eq_true.mp xe_J0_coder_7d493 q hq, rfl, xin 476 (by decide +kernel) (by decide +kernel), xin 93 (by decide +kernel) (by decide +kernel), by decide +kernel, ⟨by decide +kernel, by decide +kernel, by decide +kernel⟩, fun _ => ⟨xin 474 (by decide +kernel) (by decide +kernel), xin 475 (by decide +kernel) (by decide +kernel), Or.inl ⟨rfl, rfl⟩⟩, (fun h => by cases h)⟩
set_option maxRecDepth 100000 in
theorem xe_J0_isLatin1_aae02 : xL_J0_isLatin1_aae02.all (xeb xMs xR_J0_isLatin1_aae02) = true := by decide +kernel
set_option maxRecDepth 100000 in
theorem xg_J0_isLatin1_aae02 : xRg xMs xR_J0_isLatin1_aae02 := ⟨fun q hq => List.all_eq_true.mp xe_J0_isLatin1_aae02 q hq, rfl, xin 466 (by decide +kernel) (by decide +kernel), xin 93 (by decide +kernel) (by decide +kernel), by decide +kernel, ⟨by decide +kernel, by decide +kernel, by decide +kernel⟩, fun _ => ⟨xin 464 (by decide +kernel) (by decide +kernel), xin 465 (by decide +kernel) (by decide +kernel), Or.inl ⟨rfl, rfl⟩⟩, (fun h => by cases h)⟩
set_option maxRecDepth 100000 in
theorem xe_J1_canEncode_9a6ad : xL_J1_canEncode_9a6ad.all (xeb xMs xR_J1_canEncode_9a6ad) = true := by decide +kernel
set_option maxRecDepth 100000 in
theorem xg_J1_canEncode_9a6ad : xRg xMs xR_J1_canEncode_9a6ad := ⟨fun q hq => List.all_eq_true.mp xe_J1_canEncode_9a6ad q hq, rfl, xin 482 (by decide +kernel) (by decide +kernel), xin 94 (by decide +kernel) (by decide +kernel), by decide +kernel, ⟨by decide +kernel, by decide +kernel, by decide +kernel⟩, (fun h => by cases h), fun _ => xin 481 (by decide +kernel) (by decide +kernel)⟩
set_option maxRecDepth 100000 in
theorem xe_J1_indexOf_4cfef : xL_J1_indexOf_4cfef.all (xeb xMs xR_J1_indexOf_4cfef) = true := by decide +kernel
set_option maxRecDepth 100000 in
theorem xg_J1_indexOf_4cfef : xRg xMs xR_J1_indexOf_4cfef := ⟨fun q hq => List.all_eq_true.mp xe_J1_indexOf_4cfef q hq, rfl, xin 479 (by decide +kernel) (by decide +kernel), xin 94 (by decide +kernel) (by decide +kernel), by decide +kernel, ⟨by decide +kernel, by decide +kernel, by decide +kernel⟩, (fun h => by cases h), fun _ => xin 478 (by decide +kernel) (by decide +kernel)⟩
set_option maxRecDepth 100000 in
theorem xe_J1_indexOfChar_4cfef : xL_J1_indexOfChar_4cfef.all (xeb xMs xR_J1_indexOfChar_4cfef) = true := by decide +kernel
set_option maxRecDepth 100000 in
theorem xg_J1_indexOfChar_4cfef : xRg xMs xR_J1_indexOfChar_4cfef := ⟨fun q hq => List.all_eq_true.mp xe_J1_indexOfChar_4cfef q hq, rfl, xin 489 (by decide +kernel) (by decide +kernel), xin 94 (by decide +kernel) (by decide +kernel), by decide +kernel, ⟨by decide +kernel, by decide +kernel, by decide +kernel⟩, (fun h => by cases h), fun _ => xin 488 (by decide +kernel) (by decide +kernel)⟩
set_option maxRecDepth 100000 in
theorem xe_J7_fill_53178 : xL_J7_fill_53178.all (xeb xMs xR_J7_fill_53178) = true := by decide +kernel
set_option maxRecDepth 100000 in
theorem xg_J7_fill_53178 : xRg xMs xR_J7_fill_53178 := ⟨fun q hq => List.all_eq_true.mp xe_J7_fill_53178 q hq, rfl, xin 299 (by decide +kernel) (by decide +kernel), xin 91 (by decide +kernel) (by decide +kernel), by decide +kernel, ⟨by decide +kernel, by decide +kernel, by decide +kernel⟩, (fun h => by cases h), fun _ => xin 298 (by decide +kernel) (by decide +kernel)⟩
theorem xgs_5 : ∀ R ∈ xM_5, xRg xMs R := List.forall_mem_cons.mpr ⟨xg_X9_sleepsBy, List.forall_mem_cons.mpr ⟨xg_X9_sleeps, List.forall_mem_cons.mpr ⟨xg_X9_exiledMany, List.forall_mem_cons.mpr ⟨xg_X9_dayOf, List.forall_mem_cons.mpr ⟨xg_X9_day, List.forall_mem_cons.mpr ⟨xg_X9_meets, List.forall_mem_cons.mpr ⟨xg_X9_isSheet, List.forall_mem_cons.mpr ⟨xg_X9_sheet, List.forall_mem_cons.mpr ⟨xg_X9_lose, List.forall_mem_cons.mpr ⟨xg_X9_lacks, List.forall_mem_cons.mpr ⟨xg_X9_keep, List.forall_mem_cons.mpr ⟨xg_X9_put, List.forall_mem_cons.mpr ⟨xg_X9_get, List.forall_mem_cons.mpr ⟨xg_X9_copy, List.forall_mem_cons.mpr ⟨xg_X9_write, List.forall_mem_cons.mpr ⟨xg_X9_doneMany, List.forall_mem_cons.mpr ⟨xg_X9_sumOf, List.forall_mem_cons.mpr ⟨xg_X9_count, List.forall_mem_cons.mpr ⟨xg_X9_deedDigest, List.forall_mem_cons.mpr ⟨xg_X9_digest, List.forall_mem_cons.mpr ⟨xg_J13_bitCount_95d88, List.forall_mem_cons.mpr ⟨xg_J0_length_8abf5, List.forall_mem_cons.mpr ⟨xg_J0_indexOf_0f7a4, List.forall_mem_cons.mpr ⟨xg_J0_indexOf_7cf53, List.forall_mem_cons.mpr ⟨xg_J0_coder_7d493, List.forall_mem_cons.mpr ⟨xg_J0_isLatin1_aae02, List.forall_mem_cons.mpr ⟨xg_J1_canEncode_9a6ad, List.forall_mem_cons.mpr ⟨xg_J1_indexOf_4cfef, List.forall_mem_cons.mpr ⟨xg_J1_indexOfChar_4cfef, List.forall_mem_cons.mpr ⟨xg_J7_fill_53178, fun _ h => absurd h List.not_mem_nil⟩⟩⟩⟩⟩⟩⟩⟩⟩⟩⟩⟩⟩⟩⟩⟩⟩⟩⟩⟩⟩⟩⟩⟩⟩⟩⟩⟩⟩⟩
