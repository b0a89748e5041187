def RX0 : String := "FounderSleeps$Deeds"
def TX0 : u_T := fun k => match k with
  | 0 => ("FounderSleeps$Deeds", "places", "[I", true)
  | 1 => ("FounderSleeps$Deeds", "kinds", "[I", true)
  | 2 => ("FounderSleeps$Deeds", "hours", "[I", true)
  | 3 => ("FounderSleeps$Deeds", "size", "I", false)
  | _ => ("FounderSleeps$Deeds", "faultAt", "I", false)
def tyX0 : Nat → FieldType := fun k => match k with
  | 0 => .array .int
  | 1 => .array .int
  | 2 => .array .int
  | 3 => .int
  | _ => .int
theorem nmX0 : ∀ a, a < 5 → ∀ b, b < 5 → a ≠ b → (TX0 a).2.1 ≠ (TX0 b).2.1 := by decide +kernel
theorem tyX0_ok : ∀ k, k < 5 → parseFieldDescriptor (TX0 k).2.2.1 = some (tyX0 k) := by decide +kernel
def RX1 : String := "FounderSleeps$Law"
def TX1 : u_T := fun k => match k with
  | 0 => ("FounderSleeps$Law", "thunders", "LFounderSleeps$Log;", true)
  | 1 => ("FounderSleeps$Law", "depth", "I", false)
  | _ => ("FounderSleeps$Law", "charter", "I", false)
def tyX1 : Nat → FieldType := fun k => match k with
  | 0 => .object "FounderSleeps$Log"
  | 1 => .int
  | _ => .int
theorem nmX1 : ∀ a, a < 3 → ∀ b, b < 3 → a ≠ b → (TX1 a).2.1 ≠ (TX1 b).2.1 := by decide +kernel
theorem tyX1_ok : ∀ k, k < 3 → parseFieldDescriptor (TX1 k).2.2.1 = some (tyX1 k) := by decide +kernel
def RX2 : String := "FounderSleeps$Log"
def TX2 : u_T := fun k => match k with
  | 0 => ("FounderSleeps$Log", "hours", "[I", true)
  | 1 => ("FounderSleeps$Log", "much", "[I", true)
  | 2 => ("FounderSleeps$Log", "most", "I", true)
  | _ => ("FounderSleeps$Log", "size", "I", false)
def tyX2 : Nat → FieldType := fun k => match k with
  | 0 => .array .int
  | 1 => .array .int
  | 2 => .int
  | _ => .int
theorem nmX2 : ∀ a, a < 4 → ∀ b, b < 4 → a ≠ b → (TX2 a).2.1 ≠ (TX2 b).2.1 := by decide +kernel
theorem tyX2_ok : ∀ k, k < 4 → parseFieldDescriptor (TX2 k).2.2.1 = some (tyX2 k) := by decide +kernel
def RX3 : String := "FounderSleeps$Night"
def TX3 : u_T := fun k => match k with
  | 0 => ("FounderSleeps$Night", "law", "LFounderSleeps$Law;", true)
  | 1 => ("FounderSleeps$Night", "noises", "[I", true)
  | 2 => ("FounderSleeps$Night", "depths", "[I", true)
  | 3 => ("FounderSleeps$Night", "shares", "[I", true)
  | 4 => ("FounderSleeps$Night", "fates", "[I", true)
  | 5 => ("FounderSleeps$Night", "wakeHour", "I", false)
  | _ => ("FounderSleeps$Night", "exiles", "J", false)
def tyX3 : Nat → FieldType := fun k => match k with
  | 0 => .object "FounderSleeps$Law"
  | 1 => .array .int
  | 2 => .array .int
  | 3 => .array .int
  | 4 => .array .int
  | 5 => .int
  | _ => .long
theorem nmX3 : ∀ a, a < 7 → ∀ b, b < 7 → a ≠ b → (TX3 a).2.1 ≠ (TX3 b).2.1 := by decide +kernel
theorem tyX3_ok : ∀ k, k < 7 → parseFieldDescriptor (TX3 k).2.2.1 = some (tyX3 k) := by decide +kernel
def RX4 : String := "FounderSleeps$Reach"
def TX4 : u_T := fun k => match k with
  | 0 => ("FounderSleeps$Reach", "tolls", "[I", true)
  | _ => ("FounderSleeps$Reach", "lost", "[I", true)
def tyX4 : Nat → FieldType := fun k => match k with
  | 0 => .array .int
  | _ => .array .int
theorem nmX4 : ∀ a, a < 2 → ∀ b, b < 2 → a ≠ b → (TX4 a).2.1 ≠ (TX4 b).2.1 := by decide +kernel
theorem tyX4_ok : ∀ k, k < 2 → parseFieldDescriptor (TX4 k).2.2.1 = some (tyX4 k) := by decide +kernel
def RX5 : String := "FounderSleeps$Sheets"
def TX5 : u_T := fun k => match k with
  | 0 => ("FounderSleeps$Sheets", "forms", "[I", true)
  | 1 => ("FounderSleeps$Sheets", "sizes", "[I", true)
  | _ => ("FounderSleeps$Sheets", "items", "[I", true)
def tyX5 : Nat → FieldType := fun k => match k with
  | 0 => .array .int
  | 1 => .array .int
  | _ => .array .int
theorem nmX5 : ∀ a, a < 3 → ∀ b, b < 3 → a ≠ b → (TX5 a).2.1 ≠ (TX5 b).2.1 := by decide +kernel
theorem tyX5_ok : ∀ k, k < 3 → parseFieldDescriptor (TX5 k).2.2.1 = some (tyX5 k) := by decide +kernel
def RX6 : String := "FounderSleeps$Text"
def TX6 : u_T := fun k => match k with
  | 0 => ("FounderSleeps$Text", "bytes", "[I", true)
  | 1 => ("FounderSleeps$Text", "most", "I", true)
  | _ => ("FounderSleeps$Text", "size", "I", false)
def tyX6 : Nat → FieldType := fun k => match k with
  | 0 => .array .int
  | 1 => .int
  | _ => .int
theorem nmX6 : ∀ a, a < 3 → ∀ b, b < 3 → a ≠ b → (TX6 a).2.1 ≠ (TX6 b).2.1 := by decide +kernel
theorem tyX6_ok : ∀ k, k < 3 → parseFieldDescriptor (TX6 k).2.2.1 = some (tyX6 k) := by decide +kernel
def RX7 : String := "FounderSleeps$Town"
def TX7 : u_T := fun k => match k with
  | 0 => ("FounderSleeps$Town", "kinds", "[I", true)
  | 1 => ("FounderSleeps$Town", "beside", "[I", true)
  | 2 => ("FounderSleeps$Town", "cells", "I", false)
  | 3 => ("FounderSleeps$Town", "width", "I", false)
  | 4 => ("FounderSleeps$Town", "bedCell", "I", false)
  | _ => ("FounderSleeps$Town", "faultAt", "I", false)
def tyX7 : Nat → FieldType := fun k => match k with
  | 0 => .array .int
  | 1 => .array .int
  | 2 => .int
  | 3 => .int
  | 4 => .int
  | _ => .int
theorem nmX7 : ∀ a, a < 6 → ∀ b, b < 6 → a ≠ b → (TX7 a).2.1 ≠ (TX7 b).2.1 := by decide +kernel
theorem tyX7_ok : ∀ k, k < 6 → parseFieldDescriptor (TX7 k).2.2.1 = some (tyX7 k) := by decide +kernel
def RX8 : String := "FounderSleeps"
def TX8 : u_T := fun k => match k with
  | 0 => ("FounderSleeps", "townText", "LFounderSleeps$Text;", true)
  | 1 => ("FounderSleeps", "deedText", "LFounderSleeps$Text;", true)
  | 2 => ("FounderSleeps", "town", "LFounderSleeps$Town;", true)
  | 3 => ("FounderSleeps", "told", "LFounderSleeps$Deeds;", true)
  | 4 => ("FounderSleeps", "law", "LFounderSleeps$Law;", true)
  | 5 => ("FounderSleeps", "ears", "LFounderSleeps$Log;", true)
  | 6 => ("FounderSleeps", "toBed", "LFounderSleeps$Reach;", true)
  | 7 => ("FounderSleeps", "night", "LFounderSleeps$Night;", true)
  | 8 => ("FounderSleeps", "tried", "LFounderSleeps$Deeds;", true)
  | 9 => ("FounderSleeps", "triedReach", "LFounderSleeps$Reach;", true)
  | 10 => ("FounderSleeps", "triedNight", "LFounderSleeps$Night;", true)
  | 11 => ("FounderSleeps", "places", "[I", true)
  | 12 => ("FounderSleeps", "placeNoises", "[I", true)
  | 13 => ("FounderSleeps", "laid", "[I", true)
  | 14 => ("FounderSleeps", "feltNeeded", "I", false)
  | 15 => ("FounderSleeps", "feltIsPlanned", "Z", false)
  | 16 => ("FounderSleeps", "sheets", "LFounderSleeps$Sheets;", true)
  | _ => ("FounderSleeps", "latestFinding", "I", false)
def tyX8 : Nat → FieldType := fun k => match k with
  | 0 => .object "FounderSleeps$Text"
  | 1 => .object "FounderSleeps$Text"
  | 2 => .object "FounderSleeps$Town"
  | 3 => .object "FounderSleeps$Deeds"
  | 4 => .object "FounderSleeps$Law"
  | 5 => .object "FounderSleeps$Log"
  | 6 => .object "FounderSleeps$Reach"
  | 7 => .object "FounderSleeps$Night"
  | 8 => .object "FounderSleeps$Deeds"
  | 9 => .object "FounderSleeps$Reach"
  | 10 => .object "FounderSleeps$Night"
  | 11 => .array .int
  | 12 => .array .int
  | 13 => .array .int
  | 14 => .int
  | 15 => .boolean
  | 16 => .object "FounderSleeps$Sheets"
  | _ => .int
theorem nmX8 : ∀ a, a < 18 → ∀ b, b < 18 → a ≠ b → (TX8 a).2.1 ≠ (TX8 b).2.1 := by decide +kernel
theorem tyX8_ok : ∀ k, k < 18 → parseFieldDescriptor (TX8 k).2.2.1 = some (tyX8 k) := by decide +kernel
def RX9 : String := "FounderSleepsModel"
def TX9 : u_T := fun k => match k with
  | 0 => ("FounderSleepsModel", "typed", "[I", true)
  | 1 => ("FounderSleepsModel", "texts", "[I", true)
  | 2 => ("FounderSleepsModel", "wide", "I", false)
  | 3 => ("FounderSleepsModel", "cells", "I", false)
  | 4 => ("FounderSleepsModel", "kinds", "[I", true)
  | 5 => ("FounderSleepsModel", "deeds", "I", false)
  | 6 => ("FounderSleepsModel", "places", "[I", true)
  | 7 => ("FounderSleepsModel", "acts", "[I", true)
  | 8 => ("FounderSleepsModel", "hours", "[I", true)
  | 9 => ("FounderSleepsModel", "depthTold", "I", false)
  | 10 => ("FounderSleepsModel", "charterTold", "I", false)
  | 11 => ("FounderSleepsModel", "thunders", "I", false)
  | 12 => ("FounderSleepsModel", "thunderHour", "[I", true)
  | 13 => ("FounderSleepsModel", "thunderLoud", "[I", true)
  | 14 => ("FounderSleepsModel", "takes", "[I", true)
  | 15 => ("FounderSleepsModel", "notDeeds", "I", false)
  | 16 => ("FounderSleepsModel", "heardOf", "[I", true)
  | 17 => ("FounderSleepsModel", "comes", "[I", true)
  | 18 => ("FounderSleepsModel", "noises", "[I", true)
  | 19 => ("FounderSleepsModel", "depths", "[I", true)
  | 20 => ("FounderSleepsModel", "wakesAt", "I", false)
  | 21 => ("FounderSleepsModel", "isExiled", "[Z", true)
  | 22 => ("FounderSleepsModel", "planRow", "[I", true)
  | 23 => ("FounderSleepsModel", "cartAt", "[I", true)
  | 24 => ("FounderSleepsModel", "wayTo", "[I", true)
  | 25 => ("FounderSleepsModel", "tales", "I", false)
  | 26 => ("FounderSleepsModel", "taleHour", "[I", true)
  | 27 => ("FounderSleepsModel", "taleMuch", "[I", true)
  | 28 => ("FounderSleepsModel", "mayBe", "[Z", true)
  | 29 => ("FounderSleepsModel", "noiseBy", "[I", true)
  | 30 => ("FounderSleepsModel", "isThere", "[Z", true)
  | 31 => ("FounderSleepsModel", "forms", "[I", true)
  | 32 => ("FounderSleepsModel", "sizes", "[I", true)
  | 33 => ("FounderSleepsModel", "items", "[I", true)
  | 34 => ("FounderSleepsModel", "moved", "[I", true)
  | _ => ("FounderSleepsModel", "finding", "I", false)
def tyX9 : Nat → FieldType := fun k => match k with
  | 0 => .array .int
  | 1 => .array .int
  | 2 => .int
  | 3 => .int
  | 4 => .array .int
  | 5 => .int
  | 6 => .array .int
  | 7 => .array .int
  | 8 => .array .int
  | 9 => .int
  | 10 => .int
  | 11 => .int
  | 12 => .array .int
  | 13 => .array .int
  | 14 => .array .int
  | 15 => .int
  | 16 => .array .int
  | 17 => .array .int
  | 18 => .array .int
  | 19 => .array .int
  | 20 => .int
  | 21 => .array .boolean
  | 22 => .array .int
  | 23 => .array .int
  | 24 => .array .int
  | 25 => .int
  | 26 => .array .int
  | 27 => .array .int
  | 28 => .array .boolean
  | 29 => .array .int
  | 30 => .array .boolean
  | 31 => .array .int
  | 32 => .array .int
  | 33 => .array .int
  | 34 => .array .int
  | _ => .int
theorem nmX9 : ∀ a, a < 36 → ∀ b, b < 36 → a ≠ b → (TX9 a).2.1 ≠ (TX9 b).2.1 := by decide +kernel
theorem tyX9_ok : ∀ k, k < 36 → parseFieldDescriptor (TX9 k).2.2.1 = some (tyX9 k) := by decide +kernel
def RJ7 : String := "java/util/Arrays"
def RJ13 : String := "java/lang/Long"
def RJ0 : String := "java/lang/String"
def RJ1 : String := "java/lang/StringLatin1"
def RJ9 : String := "java/lang/Math"
abbrev vwCl : List vw_C := [(RX0, TX0, 5), (RX1, TX1, 3), (RX2, TX2, 4), (RX3, TX3, 7), (RX4, TX4, 2), (RX5, TX5, 3), (RX6, TX6, 3), (RX7, TX7, 6), (RX8, TX8, 18), (RX9, TX9, 36)]
set_option maxRecDepth 100000 in
theorem inX0 : ∀ w ∈ u_ws RX0 TX0 5, w ∈ lw_tbl := by
  intro w hw
  have h : u_ws RX0 TX0 5 = [185, 187, 189, 191, 193].filterMap (fun i => lw_tbl[i]?) := rfl
  rw [h] at hw
  obtain ⟨i, -, hi⟩ := List.mem_filterMap.mp hw
  exact List.mem_of_getElem? hi
set_option maxRecDepth 100000 in
theorem inX1 : ∀ w ∈ u_ws RX1 TX1 3, w ∈ lw_tbl := by
  intro w hw
  have h : u_ws RX1 TX1 3 = [232, 234, 236].filterMap (fun i => lw_tbl[i]?) := rfl
  rw [h] at hw
  obtain ⟨i, -, hi⟩ := List.mem_filterMap.mp hw
  exact List.mem_of_getElem? hi
set_option maxRecDepth 100000 in
theorem inX2 : ∀ w ∈ u_ws RX2 TX2 4, w ∈ lw_tbl := by
  intro w hw
  have h : u_ws RX2 TX2 4 = [214, 216, 218, 220].filterMap (fun i => lw_tbl[i]?) := rfl
  rw [h] at hw
  obtain ⟨i, -, hi⟩ := List.mem_filterMap.mp hw
  exact List.mem_of_getElem? hi
set_option maxRecDepth 100000 in
theorem inX3 : ∀ w ∈ u_ws RX3 TX3 7, w ∈ lw_tbl := by
  intro w hw
  have h : u_ws RX3 TX3 7 = [276, 278, 280, 282, 284, 286, 288].filterMap (fun i => lw_tbl[i]?) := rfl
  rw [h] at hw
  obtain ⟨i, -, hi⟩ := List.mem_filterMap.mp hw
  exact List.mem_of_getElem? hi
set_option maxRecDepth 100000 in
theorem inX4 : ∀ w ∈ u_ws RX4 TX4 2, w ∈ lw_tbl := by
  intro w hw
  have h : u_ws RX4 TX4 2 = [251, 253].filterMap (fun i => lw_tbl[i]?) := rfl
  rw [h] at hw
  obtain ⟨i, -, hi⟩ := List.mem_filterMap.mp hw
  exact List.mem_of_getElem? hi
set_option maxRecDepth 100000 in
theorem inX5 : ∀ w ∈ u_ws RX5 TX5 3, w ∈ lw_tbl := by
  intro w hw
  have h : u_ws RX5 TX5 3 = [305, 307, 309].filterMap (fun i => lw_tbl[i]?) := rfl
  rw [h] at hw
  obtain ⟨i, -, hi⟩ := List.mem_filterMap.mp hw
  exact List.mem_of_getElem? hi
set_option maxRecDepth 100000 in
theorem inX6 : ∀ w ∈ u_ws RX6 TX6 3, w ∈ lw_tbl := by
  intro w hw
  have h : u_ws RX6 TX6 3 = [125, 127, 129].filterMap (fun i => lw_tbl[i]?) := rfl
  rw [h] at hw
  obtain ⟨i, -, hi⟩ := List.mem_filterMap.mp hw
  exact List.mem_of_getElem? hi
set_option maxRecDepth 100000 in
theorem inX7 : ∀ w ∈ u_ws RX7 TX7 6, w ∈ lw_tbl := by
  intro w hw
  have h : u_ws RX7 TX7 6 = [152, 154, 156, 158, 160, 162].filterMap (fun i => lw_tbl[i]?) := rfl
  rw [h] at hw
  obtain ⟨i, -, hi⟩ := List.mem_filterMap.mp hw
  exact List.mem_of_getElem? hi
set_option maxRecDepth 100000 in
theorem inX8 : ∀ w ∈ u_ws RX8 TX8 18, w ∈ lw_tbl := by
  intro w hw
  have h : u_ws RX8 TX8 18 = [378, 380, 382, 384, 386, 388, 390, 392, 394, 396, 398, 400, 402, 404, 406, 408, 410, 412].filterMap (fun i => lw_tbl[i]?) := rfl
  rw [h] at hw
  obtain ⟨i, -, hi⟩ := List.mem_filterMap.mp hw
  exact List.mem_of_getElem? hi
set_option maxRecDepth 100000 in
theorem inX9 : ∀ w ∈ u_ws RX9 TX9 36, w ∈ lw_tbl := by
  intro w hw
  have h : u_ws RX9 TX9 36 = [955, 957, 959, 961, 963, 965, 967, 969, 971, 973, 975, 977, 979, 981, 983, 985, 987, 989, 991, 993, 995, 997, 999, 1001, 1003, 1005, 1007, 1009, 1011, 1013, 1015, 1017, 1019, 1021, 1023, 1025].filterMap (fun i => lw_tbl[i]?) := rfl
  rw [h] at hw
  obtain ⟨i, -, hi⟩ := List.mem_filterMap.mp hw
  exact List.mem_of_getElem? hi
abbrev cX0_readFrom : ByteArray := prog_2_method_2_code
def yX0_readFrom : MethodName := ⟨RX0, "readFrom", "(LFounderSleeps$Text;)V"⟩
abbrev cX0_figure : ByteArray := prog_2_method_3_code
def yX0_figure : MethodName := ⟨RX0, "figure", "(LFounderSleeps$Text;I)I"⟩
abbrev cX0_faultOf : ByteArray := prog_2_method_4_code
def yX0_faultOf : MethodName := ⟨RX0, "faultOf", "(LFounderSleeps$Text;)I"⟩
abbrev cX0_mayStand : ByteArray := prog_2_method_5_code
def yX0_mayStand : MethodName := ⟨RX0, "mayStand", "(II)Z"⟩
abbrev cX0_add : ByteArray := prog_2_method_6_code
def yX0_add : MethodName := ⟨RX0, "add", "(III)V"⟩
abbrev cX0_takeFrom : ByteArray := prog_2_method_7_code
def yX0_takeFrom : MethodName := ⟨RX0, "takeFrom", "(LFounderSleeps$Deeds;)V"⟩
abbrev cX2_isFull : ByteArray := prog_4_method_2_code
def yX2_isFull : MethodName := ⟨RX2, "isFull", "()Z"⟩
abbrev cX2_add : ByteArray := prog_4_method_3_code
def yX2_add : MethodName := ⟨RX2, "add", "(II)V"⟩
abbrev cX2_sumIn : ByteArray := prog_4_method_4_code
def yX2_sumIn : MethodName := ⟨RX2, "sumIn", "(I)I"⟩
abbrev cX2_agreesWith : ByteArray := prog_4_method_5_code
def yX2_agreesWith : MethodName := ⟨RX2, "agreesWith", "(LFounderSleeps$Night;)Z"⟩
abbrev cX3_pass : ByteArray := prog_5_method_2_code
def yX3_pass : MethodName := ⟨RX3, "pass", "(LFounderSleeps$Deeds;ILFounderSleeps$Reach;)V"⟩
abbrev cX3_doDeeds : ByteArray := prog_5_method_3_code
def yX3_doDeeds : MethodName := ⟨RX3, "doDeeds", "(LFounderSleeps$Deeds;II)I"⟩
abbrev cX3_exileBy : ByteArray := prog_5_method_4_code
def yX3_exileBy : MethodName := ⟨RX3, "exileBy", "(LFounderSleeps$Deeds;II)V"⟩
abbrev cX3_lateness : ByteArray := prog_5_method_5_code
def yX3_lateness : MethodName := ⟨RX3, "lateness", "()I"⟩
abbrev cX3_doneOf : ByteArray := prog_5_method_6_code
def yX3_doneOf : MethodName := ⟨RX3, "doneOf", "(LFounderSleeps$Deeds;)I"⟩
abbrev cX4_takeTolls : ByteArray := prog_6_method_2_code
def yX4_takeTolls : MethodName := ⟨RX4, "takeTolls", "(LFounderSleeps$Town;)V"⟩
abbrev cX4_layFelt : ByteArray := prog_6_method_3_code
def yX4_layFelt : MethodName := ⟨RX4, "layFelt", "(I)V"⟩
abbrev cX4_spread : ByteArray := prog_6_method_4_code
def yX4_spread : MethodName := ⟨RX4, "spread", "(LFounderSleeps$Town;I)V"⟩
abbrev cX4_leastBeside : ByteArray := prog_6_method_5_code
def yX4_leastBeside : MethodName := ⟨RX4, "leastBeside", "(LFounderSleeps$Town;I)I"⟩
abbrev cX4_left : ByteArray := prog_6_method_6_code
def yX4_left : MethodName := ⟨RX4, "left", "(II)I"⟩
abbrev cX5_isLost : ByteArray := prog_7_method_2_code
def yX5_isLost : MethodName := ⟨RX5, "isLost", "(I)Z"⟩
abbrev cX5_renew : ByteArray := prog_7_method_3_code
def yX5_renew : MethodName := ⟨RX5, "renew", "(III)V"⟩
abbrev cX5_hasItem : ByteArray := prog_7_method_4_code
def yX5_hasItem : MethodName := ⟨RX5, "hasItem", "(II)Z"⟩
abbrev cX5_item : ByteArray := prog_7_method_5_code
def yX5_item : MethodName := ⟨RX5, "item", "(II)I"⟩
abbrev cX5_store : ByteArray := prog_7_method_6_code
def yX5_store : MethodName := ⟨RX5, "store", "(III)V"⟩
abbrev cX5_cut : ByteArray := prog_7_method_7_code
def yX5_cut : MethodName := ⟨RX5, "cut", "(II)I"⟩
abbrev cX5_hasItems : ByteArray := prog_7_method_8_code
def yX5_hasItems : MethodName := ⟨RX5, "hasItems", "(III)Z"⟩
abbrev cX5_move : ByteArray := prog_7_method_9_code
def yX5_move : MethodName := ⟨RX5, "move", "(IIIII)V"⟩
abbrev cX6_isFull : ByteArray := prog_8_method_2_code
def yX6_isFull : MethodName := ⟨RX6, "isFull", "()Z"⟩
abbrev cX6_append : ByteArray := prog_8_method_3_code
def yX6_append : MethodName := ⟨RX6, "append", "(I)V"⟩
abbrev cX7_readFrom : ByteArray := prog_9_method_2_code
def yX7_readFrom : MethodName := ⟨RX7, "readFrom", "(LFounderSleeps$Text;)V"⟩
abbrev cX7_empty : ByteArray := prog_9_method_3_code
def yX7_empty : MethodName := ⟨RX7, "empty", "()V"⟩
abbrev cX7_place : ByteArray := prog_9_method_4_code
def yX7_place : MethodName := ⟨RX7, "place", "(LFounderSleeps$Text;)I"⟩
abbrev cX7_isTooShort : ByteArray := prog_9_method_5_code
def yX7_isTooShort : MethodName := ⟨RX7, "isTooShort", "(I)Z"⟩
abbrev cX7_mayStand : ByteArray := prog_9_method_6_code
def yX7_mayStand : MethodName := ⟨RX7, "mayStand", "(III)Z"⟩
abbrev cX7_add : ByteArray := prog_9_method_7_code
def yX7_add : MethodName := ⟨RX7, "add", "(I)V"⟩
abbrev cX7_link : ByteArray := prog_9_method_8_code
def yX7_link : MethodName := ⟨RX7, "link", "()V"⟩
abbrev cX7_has : ByteArray := prog_9_method_9_code
def yX7_has : MethodName := ⟨RX7, "has", "(I)Z"⟩
abbrev cX7_isOpen : ByteArray := prog_9_method_10_code
def yX7_isOpen : MethodName := ⟨RX7, "isOpen", "(I)Z"⟩
abbrev cX8_type : ByteArray := prog_1_method_2_code
def yX8_type : MethodName := ⟨RX8, "type", "(II)I"⟩
abbrev cX8_wipe : ByteArray := prog_1_method_3_code
def yX8_wipe : MethodName := ⟨RX8, "wipe", "(I)I"⟩
abbrev cX8_undo : ByteArray := prog_1_method_4_code
def yX8_undo : MethodName := ⟨RX8, "undo", "(I)I"⟩
abbrev cX8_fault : ByteArray := prog_1_method_5_code
def yX8_fault : MethodName := ⟨RX8, "fault", "(I)I"⟩
abbrev cX8_cell : ByteArray := prog_1_method_6_code
def yX8_cell : MethodName := ⟨RX8, "cell", "(I)I"⟩
abbrev cX8_bed : ByteArray := prog_1_method_7_code
def yX8_bed : MethodName := ⟨RX8, "bed", "()I"⟩
abbrev cX8_deed : ByteArray := prog_1_method_8_code
def yX8_deed : MethodName := ⟨RX8, "deed", "(II)I"⟩
abbrev cX8_set : ByteArray := prog_1_method_9_code
def yX8_set : MethodName := ⟨RX8, "set", "(II)I"⟩
abbrev cX8_thunder : ByteArray := prog_1_method_10_code
def yX8_thunder : MethodName := ⟨RX8, "thunder", "(II)I"⟩
abbrev cX8_back : ByteArray := prog_1_method_11_code
def yX8_back : MethodName := ⟨RX8, "back", "()I"⟩
abbrev cX8_read : ByteArray := prog_1_method_12_code
def yX8_read : MethodName := ⟨RX8, "read", "(I)I"⟩
abbrev cX8_carry : ByteArray := prog_1_method_13_code
def yX8_carry : MethodName := ⟨RX8, "carry", "(III)I"⟩
abbrev cX8_heard : ByteArray := prog_1_method_14_code
def yX8_heard : MethodName := ⟨RX8, "heard", "(II)I"⟩
abbrev cX8_noise : ByteArray := prog_1_method_15_code
def yX8_noise : MethodName := ⟨RX8, "noise", "(I)I"⟩
abbrev cX8_depth : ByteArray := prog_1_method_16_code
def yX8_depth : MethodName := ⟨RX8, "depth", "(I)I"⟩
abbrev cX8_wakes : ByteArray := prog_1_method_17_code
def yX8_wakes : MethodName := ⟨RX8, "wakes", "()I"⟩
abbrev cX8_exiled : ByteArray := prog_1_method_18_code
def yX8_exiled : MethodName := ⟨RX8, "exiled", "(I)I"⟩
abbrev cX8_loudest : ByteArray := prog_1_method_19_code
def yX8_loudest : MethodName := ⟨RX8, "loudest", "()I"⟩
abbrev cX8_hour : ByteArray := prog_1_method_20_code
def yX8_hour : MethodName := ⟨RX8, "hour", "(II)I"⟩
abbrev cX8_felt : ByteArray := prog_1_method_21_code
def yX8_felt : MethodName := ⟨RX8, "felt", "(I)I"⟩
abbrev cX8_lay : ByteArray := prog_1_method_22_code
def yX8_lay : MethodName := ⟨RX8, "lay", "(I)I"⟩
abbrev cX8_way : ByteArray := prog_1_method_23_code
def yX8_way : MethodName := ⟨RX8, "way", "(II)I"⟩
abbrev cX8_listened : ByteArray := prog_1_method_24_code
def yX8_listened : MethodName := ⟨RX8, "listened", "(II)I"⟩
abbrev cX8_forget : ByteArray := prog_1_method_25_code
def yX8_forget : MethodName := ⟨RX8, "forget", "()I"⟩
abbrev cX8_never : ByteArray := prog_1_method_26_code
def yX8_never : MethodName := ⟨RX8, "never", "()I"⟩
abbrev cX8_whence : ByteArray := prog_1_method_27_code
def yX8_whence : MethodName := ⟨RX8, "whence", "(II)I"⟩
abbrev cX8_what : ByteArray := prog_1_method_28_code
def yX8_what : MethodName := ⟨RX8, "what", "(I)I"⟩
abbrev cX8_ask : ByteArray := prog_1_method_29_code
def yX8_ask : MethodName := ⟨RX8, "ask", "(I)I"⟩
abbrev cX8_sleeps : ByteArray := prog_1_method_30_code
def yX8_sleeps : MethodName := ⟨RX8, "sleeps", "(II)J"⟩
abbrev cX8_day : ByteArray := prog_1_method_31_code
def yX8_day : MethodName := ⟨RX8, "day", "(III)I"⟩
abbrev cX8_sheet : ByteArray := prog_1_method_32_code
def yX8_sheet : MethodName := ⟨RX8, "sheet", "(III)I"⟩
abbrev cX8_lose : ByteArray := prog_1_method_33_code
def yX8_lose : MethodName := ⟨RX8, "lose", "(I)I"⟩
abbrev cX8_put : ByteArray := prog_1_method_34_code
def yX8_put : MethodName := ⟨RX8, "put", "(IIII)I"⟩
abbrev cX8_get : ByteArray := prog_1_method_35_code
def yX8_get : MethodName := ⟨RX8, "get", "(III)I"⟩
abbrev cX8_copy : ByteArray := prog_1_method_36_code
def yX8_copy : MethodName := ⟨RX8, "copy", "(IIIII)I"⟩
abbrev cX8_write : ByteArray := prog_1_method_37_code
def yX8_write : MethodName := ⟨RX8, "write", "(I)I"⟩
abbrev cX8_count : ByteArray := prog_1_method_38_code
def yX8_count : MethodName := ⟨RX8, "count", "(I)I"⟩
abbrev cX8_digest : ByteArray := prog_1_method_39_code
def yX8_digest : MethodName := ⟨RX8, "digest", "()J"⟩
abbrev cX8_mixDeed : ByteArray := prog_1_method_40_code
def yX8_mixDeed : MethodName := ⟨RX8, "mixDeed", "(JI)J"⟩
abbrev cX8_mix : ByteArray := prog_1_method_41_code
def yX8_mix : MethodName := ⟨RX8, "mix", "(JJ)J"⟩
abbrev cX8_isOutside : ByteArray := prog_1_method_42_code
def yX8_isOutside : MethodName := ⟨RX8, "isOutside", "(II)Z"⟩
abbrev cX8_isNoDeed : ByteArray := prog_1_method_43_code
def yX8_isNoDeed : MethodName := ⟨RX8, "isNoDeed", "(I)Z"⟩
abbrev cX8_isNoThunder : ByteArray := prog_1_method_44_code
def yX8_isNoThunder : MethodName := ⟨RX8, "isNoThunder", "(II)Z"⟩
abbrev cX8_textOf : ByteArray := prog_1_method_45_code
def yX8_textOf : MethodName := ⟨RX8, "textOf", "(I)LFounderSleeps$Text;"⟩
abbrev cX8_readAnew : ByteArray := prog_1_method_46_code
def yX8_readAnew : MethodName := ⟨RX8, "readAnew", "(I)V"⟩
abbrev cX8_sleepAnew : ByteArray := prog_1_method_47_code
def yX8_sleepAnew : MethodName := ⟨RX8, "sleepAnew", "()V"⟩
abbrev cX8_asHour : ByteArray := prog_1_method_48_code
def yX8_asHour : MethodName := ⟨RX8, "asHour", "(I)I"⟩
abbrev cX8_bestHourOf : ByteArray := prog_1_method_49_code
def yX8_bestHourOf : MethodName := ⟨RX8, "bestHourOf", "(I)I"⟩
abbrev cX8_latenessAt : ByteArray := prog_1_method_50_code
def yX8_latenessAt : MethodName := ⟨RX8, "latenessAt", "(II)I"⟩
abbrev cX8_bestBed : ByteArray := prog_1_method_51_code
def yX8_bestBed : MethodName := ⟨RX8, "bestBed", "()I"⟩
abbrev cX8_latenessWithBed : ByteArray := prog_1_method_52_code
def yX8_latenessWithBed : MethodName := ⟨RX8, "latenessWithBed", "(I)I"⟩
abbrev cX8_planFelt : ByteArray := prog_1_method_53_code
def yX8_planFelt : MethodName := ⟨RX8, "planFelt", "()V"⟩
abbrev cX8_isStillWithOne : ByteArray := prog_1_method_54_code
def yX8_isStillWithOne : MethodName := ⟨RX8, "isStillWithOne", "()Z"⟩
abbrev cX8_isStillWithTwo : ByteArray := prog_1_method_55_code
def yX8_isStillWithTwo : MethodName := ⟨RX8, "isStillWithTwo", "()Z"⟩
abbrev cX8_isStillWith : ByteArray := prog_1_method_56_code
def yX8_isStillWith : MethodName := ⟨RX8, "isStillWith", "(II)Z"⟩
abbrev cX8_findPlaces : ByteArray := prog_1_method_57_code
def yX8_findPlaces : MethodName := ⟨RX8, "findPlaces", "(I)I"⟩
abbrev cX8_mostAlike : ByteArray := prog_1_method_58_code
def yX8_mostAlike : MethodName := ⟨RX8, "mostAlike", "(II)I"⟩
abbrev cX8_weightOfSleep : ByteArray := prog_1_method_59_code
def yX8_weightOfSleep : MethodName := ⟨RX8, "weightOfSleep", "(I)J"⟩
abbrev cX8_weightOf : ByteArray := prog_1_method_60_code
def yX8_weightOf : MethodName := ⟨RX8, "weightOf", "(II)J"⟩
abbrev cX8_drawDeeds : ByteArray := prog_1_method_61_code
def yX8_drawDeeds : MethodName := ⟨RX8, "drawDeeds", "(II)V"⟩
abbrev cX8_nextLot : ByteArray := prog_1_method_62_code
def yX8_nextLot : MethodName := ⟨RX8, "nextLot", "(I)I"⟩
abbrev cX8_refusalOfItem : ByteArray := prog_1_method_63_code
def yX8_refusalOfItem : MethodName := ⟨RX8, "refusalOfItem", "(III)I"⟩
abbrev cX8_find : ByteArray := prog_1_method_64_code
def yX8_find : MethodName := ⟨RX8, "find", "(I)I"⟩
abbrev cX9_in : ByteArray := prog_11_method_3_code
def yX9_in : MethodName := ⟨RX9, "in", "(III)Z"⟩
abbrev cX9_isIn : ByteArray := prog_11_method_4_code
def yX9_isIn : MethodName := ⟨RX9, "isIn", "(II)Z"⟩
abbrev cX9_no : ByteArray := prog_11_method_5_code
def yX9_no : MethodName := ⟨RX9, "no", "(I)J"⟩
abbrev cX9_lowest : ByteArray := prog_11_method_6_code
def yX9_lowest : MethodName := ⟨RX9, "lowest", "(JJI)J"⟩
abbrev cX9_isText : ByteArray := prog_11_method_7_code
def yX9_isText : MethodName := ⟨RX9, "isText", "(I)Z"⟩
abbrev cX9_isHour : ByteArray := prog_11_method_8_code
def yX9_isHour : MethodName := ⟨RX9, "isHour", "(I)Z"⟩
abbrev cX9_type : ByteArray := prog_11_method_9_code
def yX9_type : MethodName := ⟨RX9, "type", "(II)I"⟩
abbrev cX9_wipe : ByteArray := prog_11_method_10_code
def yX9_wipe : MethodName := ⟨RX9, "wipe", "(I)I"⟩
abbrev cX9_undo : ByteArray := prog_11_method_11_code
def yX9_undo : MethodName := ⟨RX9, "undo", "(I)I"⟩
abbrev cX9_byteAt : ByteArray := prog_11_method_12_code
def yX9_byteAt : MethodName := ⟨RX9, "byteAt", "(II)I"⟩
abbrev cX9_kindOf : ByteArray := prog_11_method_13_code
def yX9_kindOf : MethodName := ⟨RX9, "kindOf", "(I)I"⟩
abbrev cX9_readsTown : ByteArray := prog_11_method_14_code
def yX9_readsTown : MethodName := ⟨RX9, "readsTown", "()I"⟩
abbrev cX9_figureAt : ByteArray := prog_11_method_15_code
def yX9_figureAt : MethodName := ⟨RX9, "figureAt", "(II)I"⟩
abbrev cX9_readsDeed : ByteArray := prog_11_method_16_code
def yX9_readsDeed : MethodName := ⟨RX9, "readsDeed", "(II)I"⟩
abbrev cX9_readsDeeds : ByteArray := prog_11_method_17_code
def yX9_readsDeeds : MethodName := ⟨RX9, "readsDeeds", "()I"⟩
abbrev cX9_faultOf : ByteArray := prog_11_method_18_code
def yX9_faultOf : MethodName := ⟨RX9, "faultOf", "(I)I"⟩
abbrev cX9_reads : ByteArray := prog_11_method_19_code
def yX9_reads : MethodName := ⟨RX9, "reads", "()V"⟩
abbrev cX9_fault : ByteArray := prog_11_method_20_code
def yX9_fault : MethodName := ⟨RX9, "fault", "(I)I"⟩
abbrev cX9_isCell : ByteArray := prog_11_method_21_code
def yX9_isCell : MethodName := ⟨RX9, "isCell", "(I)Z"⟩
abbrev cX9_isDeed : ByteArray := prog_11_method_22_code
def yX9_isDeed : MethodName := ⟨RX9, "isDeed", "(I)Z"⟩
abbrev cX9_cell : ByteArray := prog_11_method_23_code
def yX9_cell : MethodName := ⟨RX9, "cell", "(I)I"⟩
abbrev cX9_bedNow : ByteArray := prog_11_method_24_code
def yX9_bedNow : MethodName := ⟨RX9, "bedNow", "()I"⟩
abbrev cX9_bed : ByteArray := prog_11_method_25_code
def yX9_bed : MethodName := ⟨RX9, "bed", "()I"⟩
abbrev cX9_deedOf : ByteArray := prog_11_method_26_code
def yX9_deedOf : MethodName := ⟨RX9, "deedOf", "(II)I"⟩
abbrev cX9_deed : ByteArray := prog_11_method_27_code
def yX9_deed : MethodName := ⟨RX9, "deed", "(II)I"⟩
abbrev cX9_set : ByteArray := prog_11_method_28_code
def yX9_set : MethodName := ⟨RX9, "set", "(II)I"⟩
abbrev cX9_thunder : ByteArray := prog_11_method_29_code
def yX9_thunder : MethodName := ⟨RX9, "thunder", "(II)I"⟩
abbrev cX9_back : ByteArray := prog_11_method_30_code
def yX9_back : MethodName := ⟨RX9, "back", "()I"⟩
abbrev cX9_read : ByteArray := prog_11_method_31_code
def yX9_read : MethodName := ⟨RX9, "read", "(I)I"⟩
abbrev cX9_beside : ByteArray := prog_11_method_32_code
def yX9_beside : MethodName := ⟨RX9, "beside", "(II)I"⟩
abbrev cX9_into : ByteArray := prog_11_method_33_code
def yX9_into : MethodName := ⟨RX9, "into", "(I)I"⟩
abbrev cX9_doesEase : ByteArray := prog_11_method_34_code
def yX9_doesEase : MethodName := ⟨RX9, "doesEase", "()Z"⟩
abbrev cX9_carriesTo : ByteArray := prog_11_method_35_code
def yX9_carriesTo : MethodName := ⟨RX9, "carriesTo", "(I)V"⟩
abbrev cX9_carryOf : ByteArray := prog_11_method_36_code
def yX9_carryOf : MethodName := ⟨RX9, "carryOf", "(III)I"⟩
abbrev cX9_carry : ByteArray := prog_11_method_37_code
def yX9_carry : MethodName := ⟨RX9, "carry", "(III)I"⟩
abbrev cX9_loudOf : ByteArray := prog_11_method_38_code
def yX9_loudOf : MethodName := ⟨RX9, "loudOf", "(I)I"⟩
abbrev cX9_lays : ByteArray := prog_11_method_39_code
def yX9_lays : MethodName := ⟨RX9, "lays", "()V"⟩
abbrev cX9_hears : ByteArray := prog_11_method_40_code
def yX9_hears : MethodName := ⟨RX9, "hears", "()V"⟩
abbrev cX9_noiseIn : ByteArray := prog_11_method_41_code
def yX9_noiseIn : MethodName := ⟨RX9, "noiseIn", "(I)I"⟩
abbrev cX9_sleepsOn : ByteArray := prog_11_method_42_code
def yX9_sleepsOn : MethodName := ⟨RX9, "sleepsOn", "()V"⟩
abbrev cX9_runs : ByteArray := prog_11_method_43_code
def yX9_runs : MethodName := ⟨RX9, "runs", "()V"⟩
abbrev cX9_asTold : ByteArray := prog_11_method_44_code
def yX9_asTold : MethodName := ⟨RX9, "asTold", "()V"⟩
abbrev cX9_runsTold : ByteArray := prog_11_method_45_code
def yX9_runsTold : MethodName := ⟨RX9, "runsTold", "()V"⟩
abbrev cX9_heardBy : ByteArray := prog_11_method_46_code
def yX9_heardBy : MethodName := ⟨RX9, "heardBy", "(II)I"⟩
abbrev cX9_heard : ByteArray := prog_11_method_47_code
def yX9_heard : MethodName := ⟨RX9, "heard", "(II)I"⟩
abbrev cX9_noiseOf : ByteArray := prog_11_method_48_code
def yX9_noiseOf : MethodName := ⟨RX9, "noiseOf", "(I)I"⟩
abbrev cX9_noise : ByteArray := prog_11_method_49_code
def yX9_noise : MethodName := ⟨RX9, "noise", "(I)I"⟩
abbrev cX9_depthOf : ByteArray := prog_11_method_50_code
def yX9_depthOf : MethodName := ⟨RX9, "depthOf", "(I)I"⟩
abbrev cX9_depth : ByteArray := prog_11_method_51_code
def yX9_depth : MethodName := ⟨RX9, "depth", "(I)I"⟩
abbrev cX9_wakesOf : ByteArray := prog_11_method_52_code
def yX9_wakesOf : MethodName := ⟨RX9, "wakesOf", "()I"⟩
abbrev cX9_wakes : ByteArray := prog_11_method_53_code
def yX9_wakes : MethodName := ⟨RX9, "wakes", "()I"⟩
abbrev cX9_exiledOf : ByteArray := prog_11_method_54_code
def yX9_exiledOf : MethodName := ⟨RX9, "exiledOf", "(I)I"⟩
abbrev cX9_exiled : ByteArray := prog_11_method_55_code
def yX9_exiled : MethodName := ⟨RX9, "exiled", "(I)I"⟩
abbrev cX9_loudestNow : ByteArray := prog_11_method_56_code
def yX9_loudestNow : MethodName := ⟨RX9, "loudestNow", "()I"⟩
abbrev cX9_loudest : ByteArray := prog_11_method_57_code
def yX9_loudest : MethodName := ⟨RX9, "loudest", "()I"⟩
abbrev cX9_hourOf : ByteArray := prog_11_method_58_code
def yX9_hourOf : MethodName := ⟨RX9, "hourOf", "(II)I"⟩
abbrev cX9_hour : ByteArray := prog_11_method_59_code
def yX9_hour : MethodName := ⟨RX9, "hour", "(II)I"⟩
abbrev cX9_isStill : ByteArray := prog_11_method_60_code
def yX9_isStill : MethodName := ⟨RX9, "isStill", "(II)Z"⟩
abbrev cX9_feltBy : ByteArray := prog_11_method_61_code
def yX9_feltBy : MethodName := ⟨RX9, "feltBy", "()I"⟩
abbrev cX9_ofRow : ByteArray := prog_11_method_62_code
def yX9_ofRow : MethodName := ⟨RX9, "ofRow", "(II)I"⟩
abbrev cX9_felt : ByteArray := prog_11_method_63_code
def yX9_felt : MethodName := ⟨RX9, "felt", "(I)I"⟩
abbrev cX9_layOf : ByteArray := prog_11_method_64_code
def yX9_layOf : MethodName := ⟨RX9, "layOf", "(I)I"⟩
abbrev cX9_lay : ByteArray := prog_11_method_65_code
def yX9_lay : MethodName := ⟨RX9, "lay", "(I)I"⟩
abbrev cX9_doesShorten : ByteArray := prog_11_method_66_code
def yX9_doesShorten : MethodName := ⟨RX9, "doesShorten", "()Z"⟩
abbrev cX9_wayOf : ByteArray := prog_11_method_67_code
def yX9_wayOf : MethodName := ⟨RX9, "wayOf", "(II)I"⟩
abbrev cX9_way : ByteArray := prog_11_method_68_code
def yX9_way : MethodName := ⟨RX9, "way", "(II)I"⟩
abbrev cX9_listened : ByteArray := prog_11_method_69_code
def yX9_listened : MethodName := ⟨RX9, "listened", "(II)I"⟩
abbrev cX9_forget : ByteArray := prog_11_method_70_code
def yX9_forget : MethodName := ⟨RX9, "forget", "()I"⟩
abbrev cX9_isListened : ByteArray := prog_11_method_71_code
def yX9_isListened : MethodName := ⟨RX9, "isListened", "()Z"⟩
abbrev cX9_neverNow : ByteArray := prog_11_method_72_code
def yX9_neverNow : MethodName := ⟨RX9, "neverNow", "()I"⟩
abbrev cX9_never : ByteArray := prog_11_method_73_code
def yX9_never : MethodName := ⟨RX9, "never", "()I"⟩
abbrev cX9_whences : ByteArray := prog_11_method_74_code
def yX9_whences : MethodName := ⟨RX9, "whences", "(I)I"⟩
abbrev cX9_whenceOf : ByteArray := prog_11_method_75_code
def yX9_whenceOf : MethodName := ⟨RX9, "whenceOf", "(II)I"⟩
abbrev cX9_whence : ByteArray := prog_11_method_76_code
def yX9_whence : MethodName := ⟨RX9, "whence", "(II)I"⟩
abbrev cX9_whatOf : ByteArray := prog_11_method_77_code
def yX9_whatOf : MethodName := ⟨RX9, "whatOf", "(I)I"⟩
abbrev cX9_what : ByteArray := prog_11_method_78_code
def yX9_what : MethodName := ⟨RX9, "what", "(I)I"⟩
abbrev cX9_askOf : ByteArray := prog_11_method_79_code
def yX9_askOf : MethodName := ⟨RX9, "askOf", "(I)I"⟩
abbrev cX9_ask : ByteArray := prog_11_method_80_code
def yX9_ask : MethodName := ⟨RX9, "ask", "(I)I"⟩
abbrev cX9_sleepsBy : ByteArray := prog_11_method_81_code
def yX9_sleepsBy : MethodName := ⟨RX9, "sleepsBy", "(II)J"⟩
abbrev cX9_sleeps : ByteArray := prog_11_method_82_code
def yX9_sleeps : MethodName := ⟨RX9, "sleeps", "(II)J"⟩
abbrev cX9_exiledMany : ByteArray := prog_11_method_83_code
def yX9_exiledMany : MethodName := ⟨RX9, "exiledMany", "()I"⟩
abbrev cX9_dayOf : ByteArray := prog_11_method_84_code
def yX9_dayOf : MethodName := ⟨RX9, "dayOf", "(III)I"⟩
abbrev cX9_day : ByteArray := prog_11_method_85_code
def yX9_day : MethodName := ⟨RX9, "day", "(III)I"⟩
abbrev cX9_meets : ByteArray := prog_11_method_86_code
def yX9_meets : MethodName := ⟨RX9, "meets", "(I)I"⟩
abbrev cX9_isSheet : ByteArray := prog_11_method_87_code
def yX9_isSheet : MethodName := ⟨RX9, "isSheet", "(I)Z"⟩
abbrev cX9_sheet : ByteArray := prog_11_method_88_code
def yX9_sheet : MethodName := ⟨RX9, "sheet", "(III)I"⟩
abbrev cX9_lose : ByteArray := prog_11_method_89_code
def yX9_lose : MethodName := ⟨RX9, "lose", "(I)I"⟩
abbrev cX9_lacks : ByteArray := prog_11_method_90_code
def yX9_lacks : MethodName := ⟨RX9, "lacks", "(III)I"⟩
abbrev cX9_keep : ByteArray := prog_11_method_91_code
def yX9_keep : MethodName := ⟨RX9, "keep", "(III)V"⟩
abbrev cX9_put : ByteArray := prog_11_method_92_code
def yX9_put : MethodName := ⟨RX9, "put", "(IIII)I"⟩
abbrev cX9_get : ByteArray := prog_11_method_93_code
def yX9_get : MethodName := ⟨RX9, "get", "(III)I"⟩
abbrev cX9_copy : ByteArray := prog_11_method_94_code
def yX9_copy : MethodName := ⟨RX9, "copy", "(IIIII)I"⟩
abbrev cX9_write : ByteArray := prog_11_method_95_code
def yX9_write : MethodName := ⟨RX9, "write", "(I)I"⟩
abbrev cX9_doneMany : ByteArray := prog_11_method_96_code
def yX9_doneMany : MethodName := ⟨RX9, "doneMany", "()I"⟩
abbrev cX9_sumOf : ByteArray := prog_11_method_97_code
def yX9_sumOf : MethodName := ⟨RX9, "sumOf", "(I)I"⟩
abbrev cX9_count : ByteArray := prog_11_method_98_code
def yX9_count : MethodName := ⟨RX9, "count", "(I)I"⟩
abbrev cX9_deedDigest : ByteArray := prog_11_method_99_code
def yX9_deedDigest : MethodName := ⟨RX9, "deedDigest", "(JI)J"⟩
abbrev cX9_digest : ByteArray := prog_11_method_100_code
def yX9_digest : MethodName := ⟨RX9, "digest", "()J"⟩
abbrev cJ13_bitCount_95d88 : ByteArray := prog_13_method_50_code
def yJ13_bitCount_95d88 : MethodName := ⟨RJ13, "bitCount", "(J)I"⟩
abbrev cJ0_length_8abf5 : ByteArray := prog_15_method_54_code
def yJ0_length_8abf5 : MethodName := ⟨RJ0, "length", "()I"⟩
abbrev cJ0_indexOf_0f7a4 : ByteArray := prog_15_method_79_code
def yJ0_indexOf_0f7a4 : MethodName := ⟨RJ0, "indexOf", "(I)I"⟩
abbrev cJ0_indexOf_7cf53 : ByteArray := prog_15_method_80_code
def yJ0_indexOf_7cf53 : MethodName := ⟨RJ0, "indexOf", "(II)I"⟩
abbrev cJ0_coder_7d493 : ByteArray := prog_15_method_152_code
def yJ0_coder_7d493 : MethodName := ⟨RJ0, "coder", "()B"⟩
abbrev cJ0_isLatin1_aae02 : ByteArray := prog_15_method_154_code
def yJ0_isLatin1_aae02 : MethodName := ⟨RJ0, "isLatin1", "()Z"⟩
abbrev cJ1_canEncode_9a6ad : ByteArray := prog_16_method_4_code
def yJ1_canEncode_9a6ad : MethodName := ⟨RJ1, "canEncode", "(I)Z"⟩
abbrev cJ1_indexOf_4cfef : ByteArray := prog_16_method_22_code
def yJ1_indexOf_4cfef : MethodName := ⟨RJ1, "indexOf", "([BIII)I"⟩
abbrev cJ1_indexOfChar_4cfef : ByteArray := prog_16_method_23_code
def yJ1_indexOfChar_4cfef : MethodName := ⟨RJ1, "indexOfChar", "([BIII)I"⟩
abbrev cJ7_fill_53178 : ByteArray := prog_19_method_103_code
def yJ7_fill_53178 : MethodName := ⟨RJ7, "fill", "([II)V"⟩
