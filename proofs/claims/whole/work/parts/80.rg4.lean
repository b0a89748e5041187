set_option maxRecDepth 100000 in
theorem xe_X9_runsTold : xL_X9_runsTold.all (xeb xMs xR_X9_runsTold) = true := by decide +kernel
set_option maxRecDepth 100000 in
theorem xg_X9_runsTold : xRg xMs xR_X9_runsTold := ⟨fun q hq => List.all_eq_true.mp xe_X9_runsTold q hq, rfl, xin 1172 (by decide +kernel) (by decide +kernel), xin 92 (by decide +kernel) (by decide +kernel), by decide +kernel, ⟨by decide +kernel, by decide +kernel, by decide +kernel⟩, fun _ => ⟨xin 1171 (by decide +kernel) (by decide +kernel), xin 47 (by decide +kernel) (by decide +kernel), Or.inr ⟨_, _, rfl⟩⟩, (fun h => by cases h)⟩
set_option maxRecDepth 100000 in
theorem xe_X9_heardBy : xL_X9_heardBy.all (xeb xMs xR_X9_heardBy) = true := by decide +kernel
set_option maxRecDepth 100000 in
theorem xg_X9_heardBy : xRg xMs xR_X9_heardBy := ⟨fun q hq => List.all_eq_true.mp xe_X9_heardBy q hq, rfl, xin 1168 (by decide +kernel) (by decide +kernel), xin 92 (by decide +kernel) (by decide +kernel), by decide +kernel, ⟨by decide +kernel, by decide +kernel, by decide +kernel⟩, fun _ => ⟨xin 1167 (by decide +kernel) (by decide +kernel), xin 46 (by decide +kernel) (by decide +kernel), Or.inr ⟨_, _, rfl⟩⟩, (fun h => by cases h)⟩
set_option maxRecDepth 100000 in
theorem xe_X9_heard : xL_X9_heard.all (xeb xMs xR_X9_heard) = true := by decide +kernel
set_option maxRecDepth 100000 in
theorem xg_X9_heard : xRg xMs xR_X9_heard := ⟨fun q hq => List.all_eq_true.mp xe_X9_heard q hq, rfl, xin 1164 (by decide +kernel) (by decide +kernel), xin 92 (by decide +kernel) (by decide +kernel), by decide +kernel, ⟨by decide +kernel, by decide +kernel, by decide +kernel⟩, fun _ => ⟨xin 1162 (by decide +kernel) (by decide +kernel), xin 1163 (by decide +kernel) (by decide +kernel), Or.inr ⟨_, _, rfl⟩⟩, (fun h => by cases h)⟩
set_option maxRecDepth 100000 in
theorem xe_X9_noiseOf : xL_X9_noiseOf.all (xeb xMs xR_X9_noiseOf) = true := by decide +kernel
set_option maxRecDepth 100000 in
theorem xg_X9_noiseOf : xRg xMs xR_X9_noiseOf := ⟨fun q hq => List.all_eq_true.mp xe_X9_noiseOf q hq, rfl, xin 1210 (by decide +kernel) (by decide +kernel), xin 92 (by decide +kernel) (by decide +kernel), by decide +kernel, ⟨by decide +kernel, by decide +kernel, by decide +kernel⟩, fun _ => ⟨xin 1209 (by decide +kernel) (by decide +kernel), xin 54 (by decide +kernel) (by decide +kernel), Or.inr ⟨_, _, rfl⟩⟩, (fun h => by cases h)⟩
set_option maxRecDepth 100000 in
theorem xe_X9_noise : xL_X9_noise.all (xeb xMs xR_X9_noise) = true := by decide +kernel
set_option maxRecDepth 100000 in
theorem xg_X9_noise : xRg xMs xR_X9_noise := ⟨fun q hq => List.all_eq_true.mp xe_X9_noise q hq, rfl, xin 1206 (by decide +kernel) (by decide +kernel), xin 92 (by decide +kernel) (by decide +kernel), by decide +kernel, ⟨by decide +kernel, by decide +kernel, by decide +kernel⟩, fun _ => ⟨xin 1204 (by decide +kernel) (by decide +kernel), xin 1205 (by decide +kernel) (by decide +kernel), Or.inr ⟨_, _, rfl⟩⟩, (fun h => by cases h)⟩
set_option maxRecDepth 100000 in
theorem xe_X9_depthOf : xL_X9_depthOf.all (xeb xMs xR_X9_depthOf) = true := by decide +kernel
set_option maxRecDepth 100000 in
theorem xg_X9_depthOf : xRg xMs xR_X9_depthOf := ⟨fun q hq => List.all_eq_true.mp xe_X9_depthOf q hq, rfl, xin 1218 (by decide +kernel) (by decide +kernel), xin 92 (by decide +kernel) (by decide +kernel), by decide +kernel, ⟨by decide +kernel, by decide +kernel, by decide +kernel⟩, fun _ => ⟨xin 1217 (by decide +kernel) (by decide +kernel), xin 55 (by decide +kernel) (by decide +kernel), Or.inr ⟨_, _, rfl⟩⟩, (fun h => by cases h)⟩
set_option maxRecDepth 100000 in
theorem xe_X9_depth : xL_X9_depth.all (xeb xMs xR_X9_depth) = true := by decide +kernel
set_option maxRecDepth 100000 in
theorem xg_X9_depth : xRg xMs xR_X9_depth := ⟨fun q hq => List.all_eq_true.mp xe_X9_depth q hq, rfl, xin 1214 (by decide +kernel) (by decide +kernel), xin 92 (by decide +kernel) (by decide +kernel), by decide +kernel, ⟨by decide +kernel, by decide +kernel, by decide +kernel⟩, fun _ => ⟨xin 1212 (by decide +kernel) (by decide +kernel), xin 1213 (by decide +kernel) (by decide +kernel), Or.inr ⟨_, _, rfl⟩⟩, (fun h => by cases h)⟩
set_option maxRecDepth 100000 in
theorem xe_X9_wakesOf : xL_X9_wakesOf.all (xeb xMs xR_X9_wakesOf) = true := by decide +kernel
set_option maxRecDepth 100000 in
theorem xg_X9_wakesOf : xRg xMs xR_X9_wakesOf := ⟨fun q hq => List.all_eq_true.mp xe_X9_wakesOf q hq, rfl, xin 1226 (by decide +kernel) (by decide +kernel), xin 92 (by decide +kernel) (by decide +kernel), by decide +kernel, ⟨by decide +kernel, by decide +kernel, by decide +kernel⟩, fun _ => ⟨xin 1225 (by decide +kernel) (by decide +kernel), xin 56 (by decide +kernel) (by decide +kernel), Or.inr ⟨_, _, rfl⟩⟩, (fun h => by cases h)⟩
set_option maxRecDepth 100000 in
theorem xe_X9_wakes : xL_X9_wakes.all (xeb xMs xR_X9_wakes) = true := by decide +kernel
set_option maxRecDepth 100000 in
theorem xg_X9_wakes : xRg xMs xR_X9_wakes := ⟨fun q hq => List.all_eq_true.mp xe_X9_wakes q hq, rfl, xin 1222 (by decide +kernel) (by decide +kernel), xin 92 (by decide +kernel) (by decide +kernel), by decide +kernel, ⟨by decide +kernel, by decide +kernel, by decide +kernel⟩, fun _ => ⟨xin 1220 (by decide +kernel) (by decide +kernel), xin 1221 (by decide +kernel) (by decide +kernel), Or.inr ⟨_, _, rfl⟩⟩, (fun h => by cases h)⟩
set_option maxRecDepth 100000 in
theorem xe_X9_exiledOf : xL_X9_exiledOf.all (xeb xMs xR_X9_exiledOf) = true := by decide +kernel
set_option maxRecDepth 100000 in
theorem xg_X9_exiledOf : xRg xMs xR_X9_exiledOf := ⟨fun q hq => List.all_eq_true.mp xe_X9_exiledOf q hq, rfl, xin 1234 (by decide +kernel) (by decide +kernel), xin 92 (by decide +kernel) (by decide +kernel), by decide +kernel, ⟨by decide +kernel, by decide +kernel, by decide +kernel⟩, fun _ => ⟨xin 1233 (by decide +kernel) (by decide +kernel), xin 57 (by decide +kernel) (by decide +kernel), Or.inr ⟨_, _, rfl⟩⟩, (fun h => by cases h)⟩
set_option maxRecDepth 100000 in
theorem xe_X9_exiled : xL_X9_exiled.all (xeb xMs xR_X9_exiled) = true := by decide +kernel
set_option maxRecDepth 100000 in
theorem xg_X9_exiled : xRg xMs xR_X9_exiled := ⟨fun q hq => List.all_eq_true.mp xe_X9_exiled q hq, rfl, xin 1230 (by decide +kernel) (by decide +kernel), xin 92 (by decide +kernel) (by decide +kernel), by decide +kernel, ⟨by decide +kernel, by decide +kernel, by decide +kernel⟩, fun _ => ⟨xin 1228 (by decide +kernel) (by decide +kernel), xin 1229 (by decide +kernel) (by decide +kernel), Or.inr ⟨_, _, rfl⟩⟩, (fun h => by cases h)⟩
set_option maxRecDepth 100000 in
theorem xe_X9_loudestNow : xL_X9_loudestNow.all (xeb xMs xR_X9_loudestNow) = true := by decide +kernel
set_option maxRecDepth 100000 in
theorem xg_X9_loudestNow : xRg xMs xR_X9_loudestNow := ⟨fun q hq => List.all_eq_true.mp xe_X9_loudestNow q hq, rfl, xin 1242 (by decide +kernel) (by decide +kernel), xin 92 (by decide +kernel) (by decide +kernel), by decide +kernel, ⟨by decide +kernel, by decide +kernel, by decide +kernel⟩, fun _ => ⟨xin 1241 (by decide +kernel) (by decide +kernel), xin 58 (by decide +kernel) (by decide +kernel), Or.inr ⟨_, _, rfl⟩⟩, (fun h => by cases h)⟩
set_option maxRecDepth 100000 in
theorem xe_X9_loudest : xL_X9_loudest.all (xeb xMs xR_X9_loudest) = true := by decide +kernel
set_option maxRecDepth 100000 in
theorem xg_X9_loudest : xRg xMs xR_X9_loudest := ⟨fun q hq => List.all_eq_true.mp xe_X9_loudest q hq, rfl, xin 1238 (by decide +kernel) (by decide +kernel), xin 92 (by decide +kernel) (by decide +kernel), by decide +kernel, ⟨by decide +kernel, by decide +kernel, by decide +kernel⟩, fun _ => ⟨xin 1236 (by decide +kernel) (by decide +kernel), xin 1237 (by decide +kernel) (by decide +kernel), Or.inr ⟨_, _, rfl⟩⟩, (fun h => by cases h)⟩
set_option maxRecDepth 100000 in
theorem xe_X9_hourOf : xL_X9_hourOf.all (xeb xMs xR_X9_hourOf) = true := by decide +kernel
set_option maxRecDepth 100000 in
theorem xg_X9_hourOf : xRg xMs xR_X9_hourOf := ⟨fun q hq => List.all_eq_true.mp xe_X9_hourOf q hq, rfl, xin 1250 (by decide +kernel) (by decide +kernel), xin 92 (by decide +kernel) (by decide +kernel), by decide +kernel, ⟨by decide +kernel, by decide +kernel, by decide +kernel⟩, fun _ => ⟨xin 1249 (by decide +kernel) (by decide +kernel), xin 59 (by decide +kernel) (by decide +kernel), Or.inr ⟨_, _, rfl⟩⟩, (fun h => by cases h)⟩
set_option maxRecDepth 100000 in
theorem xe_X9_hour : xL_X9_hour.all (xeb xMs xR_X9_hour) = true := by decide +kernel
set_option maxRecDepth 100000 in
theorem xg_X9_hour : xRg xMs xR_X9_hour := ⟨fun q hq => List.all_eq_true.mp xe_X9_hour q hq, rfl, xin 1246 (by decide +kernel) (by decide +kernel), xin 92 (by decide +kernel) (by decide +kernel), by decide +kernel, ⟨by decide +kernel, by decide +kernel, by decide +kernel⟩, fun _ => ⟨xin 1244 (by decide +kernel) (by decide +kernel), xin 1245 (by decide +kernel) (by decide +kernel), Or.inr ⟨_, _, rfl⟩⟩, (fun h => by cases h)⟩
set_option maxRecDepth 100000 in
theorem xe_X9_isStill : xL_X9_isStill.all (xeb xMs xR_X9_isStill) = true := by decide +kernel
set_option maxRecDepth 100000 in
theorem xg_X9_isStill : xRg xMs xR_X9_isStill := ⟨fun q hq => List.all_eq_true.mp xe_X9_isStill q hq, rfl, xin 1262 (by decide +kernel) (by decide +kernel), xin 92 (by decide +kernel) (by decide +kernel), by decide +kernel, ⟨by decide +kernel, by decide +kernel, by decide +kernel⟩, fun _ => ⟨xin 1261 (by decide +kernel) (by decide +kernel), xin 61 (by decide +kernel) (by decide +kernel), Or.inr ⟨_, _, rfl⟩⟩, (fun h => by cases h)⟩
set_option maxRecDepth 100000 in
theorem xe_X9_feltBy : xL_X9_feltBy.all (xeb xMs xR_X9_feltBy) = true := by decide +kernel
set_option maxRecDepth 100000 in
theorem xg_X9_feltBy : xRg xMs xR_X9_feltBy := ⟨fun q hq => List.all_eq_true.mp xe_X9_feltBy q hq, rfl, xin 1258 (by decide +kernel) (by decide +kernel), xin 92 (by decide +kernel) (by decide +kernel), by decide +kernel, ⟨by decide +kernel, by decide +kernel, by decide +kernel⟩, fun _ => ⟨xin 1257 (by decide +kernel) (by decide +kernel), xin 60 (by decide +kernel) (by decide +kernel), Or.inr ⟨_, _, rfl⟩⟩, (fun h => by cases h)⟩
set_option maxRecDepth 100000 in
theorem xe_X9_ofRow : xL_X9_ofRow.all (xeb xMs xR_X9_ofRow) = true := by decide +kernel
set_option maxRecDepth 100000 in
theorem xg_X9_ofRow : xRg xMs xR_X9_ofRow := ⟨fun q hq => List.all_eq_true.mp xe_X9_ofRow q hq, rfl, xin 1266 (by decide +kernel) (by decide +kernel), xin 92 (by decide +kernel) (by decide +kernel), by decide +kernel, ⟨by decide +kernel, by decide +kernel, by decide +kernel⟩, fun _ => ⟨xin 1265 (by decide +kernel) (by decide +kernel), xin 62 (by decide +kernel) (by decide +kernel), Or.inr ⟨_, _, rfl⟩⟩, (fun h => by cases h)⟩
set_option maxRecDepth 100000 in
theorem xe_X9_felt : xL_X9_felt.all (xeb xMs xR_X9_felt) = true := by decide +kernel
set_option maxRecDepth 100000 in
theorem xg_X9_felt : xRg xMs xR_X9_felt := ⟨fun q hq => List.all_eq_true.mp xe_X9_felt q hq, rfl, xin 1254 (by decide +kernel) (by decide +kernel), xin 92 (by decide +kernel) (by decide +kernel), by decide +kernel, ⟨by decide +kernel, by decide +kernel, by decide +kernel⟩, fun _ => ⟨xin 1252 (by decide +kernel) (by decide +kernel), xin 1253 (by decide +kernel) (by decide +kernel), Or.inr ⟨_, _, rfl⟩⟩, (fun h => by cases h)⟩
set_option maxRecDepth 100000 in
theorem xe_X9_layOf : xL_X9_layOf.all (xeb xMs xR_X9_layOf) = true := by decide +kernel
set_option maxRecDepth 100000 in
theorem xg_X9_layOf : xRg xMs xR_X9_layOf := ⟨fun q hq => List.all_eq_true.mp xe_X9_layOf q hq, rfl, xin 1274 (by decide +kernel) (by decide +kernel), xin 92 (by decide +kernel) (by decide +kernel), by decide +kernel, ⟨by decide +kernel, by decide +kernel, by decide +kernel⟩, fun _ => ⟨xin 1273 (by decide +kernel) (by decide +kernel), xin 63 (by decide +kernel) (by decide +kernel), Or.inr ⟨_, _, rfl⟩⟩, (fun h => by cases h)⟩
set_option maxRecDepth 100000 in
theorem xe_X9_lay : xL_X9_lay.all (xeb xMs xR_X9_lay) = true := by decide +kernel
set_option maxRecDepth 100000 in
theorem xg_X9_lay : xRg xMs xR_X9_lay := ⟨fun q hq => List.all_eq_true.mp xe_X9_lay q hq, rfl, xin 1270 (by decide +kernel) (by decide +kernel), xin 92 (by decide +kernel) (by decide +kernel), by decide +kernel, ⟨by decide +kernel, by decide +kernel, by decide +kernel⟩, fun _ => ⟨xin 1268 (by decide +kernel) (by decide +kernel), xin 1269 (by decide +kernel) (by decide +kernel), Or.inr ⟨_, _, rfl⟩⟩, (fun h => by cases h)⟩
set_option maxRecDepth 100000 in
theorem xe_X9_doesShorten : xL_X9_doesShorten.all (xeb xMs xR_X9_doesShorten) = true := by decide +kernel
set_option maxRecDepth 100000 in
theorem xg_X9_doesShorten : xRg xMs xR_X9_doesShorten := ⟨fun q hq => List.all_eq_true.mp xe_X9_doesShorten q hq, rfl, xin 1286 (by decide +kernel) (by decide +kernel), xin 92 (by decide +kernel) (by decide +kernel), by decide +kernel, ⟨by decide +kernel, by decide +kernel, by decide +kernel⟩, fun _ => ⟨xin 1285 (by decide +kernel) (by decide +kernel), xin 65 (by decide +kernel) (by decide +kernel), Or.inr ⟨_, _, rfl⟩⟩, (fun h => by cases h)⟩
set_option maxRecDepth 100000 in
theorem xe_X9_wayOf : xL_X9_wayOf.all (xeb xMs xR_X9_wayOf) = true := by decide +kernel
set_option maxRecDepth 100000 in
theorem xg_X9_wayOf : xRg xMs xR_X9_wayOf := ⟨fun q hq => List.all_eq_true.mp xe_X9_wayOf q hq, rfl, xin 1282 (by decide +kernel) (by decide +kernel), xin 92 (by decide +kernel) (by decide +kernel), by decide +kernel, ⟨by decide +kernel, by decide +kernel, by decide +kernel⟩, fun _ => ⟨xin 1281 (by decide +kernel) (by decide +kernel), xin 64 (by decide +kernel) (by decide +kernel), Or.inr ⟨_, _, rfl⟩⟩, (fun h => by cases h)⟩
set_option maxRecDepth 100000 in
theorem xe_X9_way : xL_X9_way.all (xeb xMs xR_X9_way) = true := by decide +kernel
set_option maxRecDepth 100000 in
theorem xg_X9_way : xRg xMs xR_X9_way := ⟨fun q hq => List.all_eq_true.mp xe_X9_way q hq, rfl, xin 1278 (by decide +kernel) (by decide +kernel), xin 92 (by decide +kernel) (by decide +kernel), by decide +kernel, ⟨by decide +kernel, by decide +kernel, by decide +kernel⟩, fun _ => ⟨xin 1276 (by decide +kernel) (by decide +kernel), xin 1277 (by decide +kernel) (by decide +kernel), Or.inr ⟨_, _, rfl⟩⟩, (fun h => by cases h)⟩
set_option maxRecDepth 100000 in
theorem xe_X9_listened : xL_X9_listened.all (xeb xMs xR_X9_listened) = true := by decide +kernel
set_option maxRecDepth 100000 in
theorem xg_X9_listened : xRg xMs xR_X9_listened := ⟨fun q hq => List.all_eq_true.mp xe_X9_listened q hq, rfl, xin 1290 (by decide +kernel) (by decide +kernel), xin 92 (by decide +kernel) (by decide +kernel), by decide +kernel, ⟨by decide +kernel, by decide +kernel, by decide +kernel⟩, fun _ => ⟨xin 1288 (by decide +kernel) (by decide +kernel), xin 1289 (by decide +kernel) (by decide +kernel), Or.inr ⟨_, _, rfl⟩⟩, (fun h => by cases h)⟩
set_option maxRecDepth 100000 in
theorem xe_X9_forget : xL_X9_forget.all (xeb xMs xR_X9_forget) = true := by decide +kernel
set_option maxRecDepth 100000 in
theorem xg_X9_forget : xRg xMs xR_X9_forget := ⟨fun q hq => List.all_eq_true.mp xe_X9_forget q hq, rfl, xin 1294 (by decide +kernel) (by decide +kernel), xin 92 (by decide +kernel) (by decide +kernel), by decide +kernel, ⟨by decide +kernel, by decide +kernel, by decide +kernel⟩, fun _ => ⟨xin 1292 (by decide +kernel) (by decide +kernel), xin 1293 (by decide +kernel) (by decide +kernel), Or.inr ⟨_, _, rfl⟩⟩, (fun h => by cases h)⟩
set_option maxRecDepth 100000 in
theorem xe_X9_isListened : xL_X9_isListened.all (xeb xMs xR_X9_isListened) = true := by decide +kernel
set_option maxRecDepth 100000 in
theorem xg_X9_isListened : xRg xMs xR_X9_isListened := ⟨fun q hq => List.all_eq_true.mp xe_X9_isListened q hq, rfl, xin 1306 (by decide +kernel) (by decide +kernel), xin 92 (by decide +kernel) (by decide +kernel), by decide +kernel, ⟨by decide +kernel, by decide +kernel, by decide +kernel⟩, fun _ => ⟨xin 1305 (by decide +kernel) (by decide +kernel), xin 67 (by decide +kernel) (by decide +kernel), Or.inr ⟨_, _, rfl⟩⟩, (fun h => by cases h)⟩
set_option maxRecDepth 100000 in
theorem xe_X9_neverNow : xL_X9_neverNow.all (xeb xMs xR_X9_neverNow) = true := by decide +kernel
set_option maxRecDepth 100000 in
theorem xg_X9_neverNow : xRg xMs xR_X9_neverNow := ⟨fun q hq => List.all_eq_true.mp xe_X9_neverNow q hq, rfl, xin 1302 (by decide +kernel) (by decide +kernel), xin 92 (by decide +kernel) (by decide +kernel), by decide +kernel, ⟨by decide +kernel, by decide +kernel, by decide +kernel⟩, fun _ => ⟨xin 1301 (by decide +kernel) (by decide +kernel), xin 66 (by decide +kernel) (by decide +kernel), Or.inr ⟨_, _, rfl⟩⟩, (fun h => by cases h)⟩
set_option maxRecDepth 100000 in
theorem xe_X9_never : xL_X9_never.all (xeb xMs xR_X9_never) = true := by decide +kernel
set_option maxRecDepth 100000 in
theorem xg_X9_never : xRg xMs xR_X9_never := ⟨fun q hq => List.all_eq_true.mp xe_X9_never q hq, rfl, xin 1298 (by decide +kernel) (by decide +kernel), xin 92 (by decide +kernel) (by decide +kernel), by decide +kernel, ⟨by decide +kernel, by decide +kernel, by decide +kernel⟩, fun _ => ⟨xin 1296 (by decide +kernel) (by decide +kernel), xin 1297 (by decide +kernel) (by decide +kernel), Or.inr ⟨_, _, rfl⟩⟩, (fun h => by cases h)⟩
set_option maxRecDepth 100000 in
theorem xe_X9_whences : xL_X9_whences.all (xeb xMs xR_X9_whences) = true := by decide +kernel
set_option maxRecDepth 100000 in
theorem xg_X9_whences : xRg xMs xR_X9_whences := ⟨fun q hq => List.all_eq_true.mp xe_X9_whences q hq, rfl, xin 1318 (by decide +kernel) (by decide +kernel), xin 92 (by decide +kernel) (by decide +kernel), by decide +kernel, ⟨by decide +kernel, by decide +kernel, by decide +kernel⟩, fun _ => ⟨xin 1317 (by decide +kernel) (by decide +kernel), xin 69 (by decide +kernel) (by decide +kernel), Or.inr ⟨_, _, rfl⟩⟩, (fun h => by cases h)⟩
set_option maxRecDepth 100000 in
theorem xe_X9_whenceOf : xL_X9_whenceOf.all (xeb xMs xR_X9_whenceOf) = true := by decide +kernel
set_option maxRecDepth 100000 in
theorem xg_X9_whenceOf : xRg xMs xR_X9_whenceOf := ⟨fun q hq => List.all_eq_true.mp xe_X9_whenceOf q hq, rfl, xin 1314 (by decide +kernel) (by decide +kernel), xin 92 (by decide +kernel) (by decide +kernel), by decide +kernel, ⟨by decide +kernel, by decide +kernel, by decide +kernel⟩, fun _ => ⟨xin 1313 (by decide +kernel) (by decide +kernel), xin 68 (by decide +kernel) (by decide +kernel), Or.inr ⟨_, _, rfl⟩⟩, (fun h => by cases h)⟩
set_option maxRecDepth 100000 in
theorem xe_X9_whence : xL_X9_whence.all (xeb xMs xR_X9_whence) = true := by decide +kernel
set_option maxRecDepth 100000 in
theorem xg_X9_whence : xRg xMs xR_X9_whence := ⟨fun q hq => List.all_eq_true.mp xe_X9_whence q hq, rfl, xin 1310 (by decide +kernel) (by decide +kernel), xin 92 (by decide +kernel) (by decide +kernel), by decide +kernel, ⟨by decide +kernel, by decide +kernel, by decide +kernel⟩, fun _ => ⟨xin 1308 (by decide +kernel) (by decide +kernel), xin 1309 (by decide +kernel) (by decide +kernel), Or.inr ⟨_, _, rfl⟩⟩, (fun h => by cases h)⟩
set_option maxRecDepth 100000 in
theorem xe_X9_whatOf : xL_X9_whatOf.all (xeb xMs xR_X9_whatOf) = true := by decide +kernel
set_option maxRecDepth 100000 in
theorem xg_X9_whatOf : xRg xMs xR_X9_whatOf := ⟨fun q hq => List.all_eq_true.mp xe_X9_whatOf q hq, rfl, xin 1326 (by decide +kernel) (by decide +kernel), xin 92 (by decide +kernel) (by decide +kernel), by decide +kernel, ⟨by decide +kernel, by decide +kernel, by decide +kernel⟩, fun _ => ⟨xin 1325 (by decide +kernel) (by decide +kernel), xin 70 (by decide +kernel) (by decide +kernel), Or.inr ⟨_, _, rfl⟩⟩, (fun h => by cases h)⟩
set_option maxRecDepth 100000 in
theorem xe_X9_what : xL_X9_what.all (xeb xMs xR_X9_what) = true := by decide +kernel
set_option maxRecDepth 100000 in
theorem xg_X9_what : xRg xMs xR_X9_what := ⟨fun q hq => List.all_eq_true.mp xe_X9_what q hq, rfl, xin 1322 (by decide +kernel) (by decide +kernel), xin 92 (by decide +kernel) (by decide +kernel), by decide +kernel, ⟨by decide +kernel, by decide +kernel, by decide +kernel⟩, fun _ => ⟨xin 1320 (by decide +kernel) (by decide +kernel), xin 1321 (by decide +kernel) (by decide +kernel), Or.inr ⟨_, _, rfl⟩⟩, (fun h => by cases h)⟩
set_option maxRecDepth 100000 in
theorem xe_X9_askOf : xL_X9_askOf.all (xeb xMs xR_X9_askOf) = true := by decide +kernel
set_option maxRecDepth 100000 in
theorem xg_X9_askOf : xRg xMs xR_X9_askOf := ⟨fun q hq => List.all_eq_true.mp xe_X9_askOf q hq, rfl, xin 1334 (by decide +kernel) (by decide +kernel), xin 92 (by decide +kernel) (by decide +kernel), by decide +kernel, ⟨by decide +kernel, by decide +kernel, by decide +kernel⟩, fun _ => ⟨xin 1333 (by decide +kernel) (by decide +kernel), xin 71 (by decide +kernel) (by decide +kernel), Or.inr ⟨_, _, rfl⟩⟩, (fun h => by cases h)⟩
set_option maxRecDepth 100000 in
theorem xe_X9_ask : xL_X9_ask.all (xeb xMs xR_X9_ask) = true := by decide +kernel
set_option maxRecDepth 100000 in
theorem xg_X9_ask : xRg xMs xR_X9_ask := ⟨fun q hq => List.all_eq_true.mp xe_X9_ask q hq, rfl, xin 1330 (by decide +kernel) (by decide +kernel), xin 92 (by decide +kernel) (by decide +kernel), by decide +kernel, ⟨by decide +kernel, by decide +kernel, by decide +kernel⟩, fun _ => ⟨xin 1328 (by decide +kernel) (by decide +kernel), xin 1329 (by decide +kernel) (by decide +kernel), Or.inr ⟨_, _, rfl⟩⟩, (fun h => by cases h)⟩
theorem xgs_4 : ∀ R ∈ xM_4, xRg xMs R := List.forall_mem_cons.mpr ⟨xg_X9_runsTold, List.forall_mem_cons.mpr ⟨xg_X9_heardBy, List.forall_mem_cons.mpr ⟨xg_X9_heard, List.forall_mem_cons.mpr ⟨xg_X9_noiseOf, List.forall_mem_cons.mpr ⟨xg_X9_noise, List.forall_mem_cons.mpr ⟨xg_X9_depthOf, List.forall_mem_cons.mpr ⟨xg_X9_depth, List.forall_mem_cons.mpr ⟨xg_X9_wakesOf, List.forall_mem_cons.mpr ⟨xg_X9_wakes, List.forall_mem_cons.mpr ⟨xg_X9_exiledOf, List.forall_mem_cons.mpr ⟨xg_X9_exiled, List.forall_mem_cons.mpr ⟨xg_X9_loudestNow, List.forall_mem_cons.mpr ⟨xg_X9_loudest, List.forall_mem_cons.mpr ⟨xg_X9_hourOf, List.forall_mem_cons.mpr ⟨xg_X9_hour, List.forall_mem_cons.mpr ⟨xg_X9_isStill, List.forall_mem_cons.mpr ⟨xg_X9_feltBy, List.forall_mem_cons.mpr ⟨xg_X9_ofRow, List.forall_mem_cons.mpr ⟨xg_X9_felt, List.forall_mem_cons.mpr ⟨xg_X9_layOf, List.forall_mem_cons.mpr ⟨xg_X9_lay, List.forall_mem_cons.mpr ⟨xg_X9_doesShorten, List.forall_mem_cons.mpr ⟨xg_X9_wayOf, List.forall_mem_cons.mpr ⟨xg_X9_way, List.forall_mem_cons.mpr ⟨xg_X9_listened, List.forall_mem_cons.mpr ⟨xg_X9_forget, List.forall_mem_cons.mpr ⟨xg_X9_isListened, List.forall_mem_cons.mpr ⟨xg_X9_neverNow, List.forall_mem_cons.mpr ⟨xg_X9_never, List.forall_mem_cons.mpr ⟨xg_X9_whences, List.forall_mem_cons.mpr ⟨xg_X9_whenceOf, List.forall_mem_cons.mpr ⟨xg_X9_whence, List.forall_mem_cons.mpr ⟨xg_X9_whatOf, List.forall_mem_cons.mpr ⟨xg_X9_what, List.forall_mem_cons.mpr ⟨xg_X9_askOf, List.forall_mem_cons.mpr ⟨xg_X9_ask, fun _ h => absurd h List.not_mem_nil⟩⟩⟩⟩⟩⟩⟩⟩⟩⟩⟩⟩⟩⟩⟩⟩⟩⟩⟩⟩⟩⟩⟩⟩⟩⟩⟩⟩⟩⟩⟩⟩⟩⟩⟩⟩
