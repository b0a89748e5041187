-- X8_carry
def F_X8_carry (l1 : Int32) (l2 : Int32) (l3 : Int32) (s : xS) : Option (Int32 × xS) := (F_X8_isOutside l1 (100 : Int32) s).bind fun v1 => (if v1 = 0 then ((F_X7_has l2 s).bind fun v3 => (if v3 = 0 then (some ((-2 : Int32), s)) else ((F_X7_has l3 s).bind fun v5 => (if v5 = 0 then (some ((-2 : Int32), s)) else ((F_X4_takeTolls 31 s).bind fun s8 => ((F_X4_spread 31 l3 s8).bind fun s10 => ((F_X4_left 31 l1 l2 s10).bind fun v11 => (some (v11, s10))))))))) else (some ((-2 : Int32), s)))
set_option maxRecDepth 100000 in
theorem ok_X8_carry (l1 : Int32) (l2 : Int32) (l3 : Int32) (s : xS) : xTr xMs xFL xR_X8_carry (Sum.inl (0, [(0, .ref 0), (1, .int l1), (2, .int l2), (3, .int l3)], [], s)) (F_X8_carry l1 l2 l3 s) (fun (y : Int32 × xS) => Sum.inr (some (.int y.1), y.2)) := by
  unfold F_X8_carry
  refine xTr.ms 2 (g := (3, [(0, .ref 0), (1, .int l1), (2, .int l2), (3, .int l3)], [.int (100 : Int32), .int l1], s)) rfl ?_
  refine xTr.callip (R' := xR_X8_isOutside) (as := [.int l1, .int (100 : Int32)]) (lv := [(0, .ref 0), (1, .int l1), (2, .int l2), (3, .int l3)]) (rest := []) (ok_X8_isOutside l1 (100 : Int32) s) rfl rfl rfl rfl rfl (fun v1 => ?_)
  refine xTr.br (g1 := (9, [(0, .ref 0), (1, .int l1), (2, .int l2), (3, .int l3)], [], s)) (g2 := (31, [(0, .ref 0), (1, .int l1), (2, .int l2), (3, .int l3)], [], s)) rfl (fun h2 => ?_) (fun h2 => ?_)
  · refine xTr.ms 3 (g := (14, [(0, .ref 0), (1, .int l1), (2, .int l2), (3, .int l3)], [.int l2, .ref 5], s)) rfl ?_
    refine xTr.callip (R' := xR_X7_has) (as := [.ref 5, .int l2]) (lv := [(0, .ref 0), (1, .int l1), (2, .int l2), (3, .int l3)]) (rest := []) (ok_X7_has l2 s) rfl rfl rfl rfl rfl (fun v3 => ?_)
    refine xTr.br (g1 := (31, [(0, .ref 0), (1, .int l1), (2, .int l2), (3, .int l3)], [], s)) (g2 := (20, [(0, .ref 0), (1, .int l1), (2, .int l2), (3, .int l3)], [], s)) rfl (fun h4 => ?_) (fun h4 => ?_)
    · refine xTr.ms 1 (g := (33, [], [.int (-2 : Int32)], s)) rfl ?_
      exact xTr.ret rfl rfl rfl
    · refine xTr.ms 3 (g := (25, [(0, .ref 0), (1, .int l1), (2, .int l2), (3, .int l3)], [.int l3, .ref 5], s)) rfl ?_
      refine xTr.callip (R' := xR_X7_has) (as := [.ref 5, .int l3]) (lv := [(0, .ref 0), (1, .int l1), (2, .int l2), (3, .int l3)]) (rest := []) (ok_X7_has l3 s) rfl rfl rfl rfl rfl (fun v5 => ?_)
      refine xTr.br (g1 := (31, [(0, .ref 0), (1, .int l1), (2, .int l2), (3, .int l3)], [], s)) (g2 := (34, [(0, .ref 0), (1, .int l1), (2, .int l2), (3, .int l3)], [], s)) rfl (fun h6 => ?_) (fun h6 => ?_)
      · refine xTr.ms 1 (g := (33, [], [.int (-2 : Int32)], s)) rfl ?_
        exact xTr.ret rfl rfl rfl
      · refine xTr.ms 4 (g := (42, [(0, .ref 0), (1, .int l1), (2, .int l2), (3, .int l3)], [.ref 5, .ref 31], s)) rfl ?_
        refine xTr.callv (R' := xR_X4_takeTolls) (as := [.ref 31, .ref 5]) (lv := [(0, .ref 0), (1, .int l1), (2, .int l2), (3, .int l3)]) (rest := []) (ok_X4_takeTolls_31 s) rfl rfl rfl rfl rfl (fun s8 => ?_)
        refine xTr.ms 5 (g := (54, [(0, .ref 0), (1, .int l1), (2, .int l2), (3, .int l3)], [.int l3, .ref 5, .ref 31], s8)) rfl ?_
        refine xTr.callv (R' := xR_X4_spread) (as := [.ref 31, .ref 5, .int l3]) (lv := [(0, .ref 0), (1, .int l1), (2, .int l2), (3, .int l3)]) (rest := []) (ok_X4_spread_31 l3 s8) rfl rfl rfl rfl rfl (fun s10 => ?_)
        refine xTr.ms 4 (g := (63, [(0, .ref 0), (1, .int l1), (2, .int l2), (3, .int l3)], [.int l2, .int l1, .ref 31], s10)) rfl ?_
        refine xTr.callip (R' := xR_X4_left) (as := [.ref 31, .int l1, .int l2]) (lv := [(0, .ref 0), (1, .int l1), (2, .int l2), (3, .int l3)]) (rest := []) (ok_X4_left_31 l1 l2 s10) rfl rfl rfl rfl rfl (fun v11 => ?_)
        exact xTr.ret rfl rfl rfl
  · refine xTr.ms 1 (g := (33, [], [.int (-2 : Int32)], s)) rfl ?_
    exact xTr.ret rfl rfl rfl
-- X8_heard
def F_X8_heard (l1 : Int32) (l2 : Int32) (s : xS) : Option (Int32) := (F_X8_isNoDeed l1 s).bind fun v1 => (if v1 = 0 then ((F_X8_isOutside l2 (2 : Int32) s).bind fun v3 => (if v3 = 0 then (if l2 = 0 then (if l1 < 0 ∨ 8 ≤ l1.toNatClampNeg then none else (some (s.1 25 l1.toNatClampNeg))) else (if l1 < 0 ∨ 8 ≤ l1.toNatClampNeg then none else (some (s.1 26 l1.toNatClampNeg)))) else (some (-2 : Int32)))) else (some (-2 : Int32)))
set_option maxRecDepth 100000 in
theorem ok_X8_heard (l1 : Int32) (l2 : Int32) (s : xS) : xTr xMs xFL xR_X8_heard (Sum.inl (0, [(0, .ref 0), (1, .int l1), (2, .int l2)], [], s)) (F_X8_heard l1 l2 s) (fun (y : Int32) => Sum.inr (some (.int y), s)) := by
  unfold F_X8_heard
  refine xTr.ms 2 (g := (2, [(0, .ref 0), (1, .int l1), (2, .int l2)], [.int l1, .ref 0], s)) rfl ?_
  refine xTr.callip (R' := xR_X8_isNoDeed) (as := [.ref 0, .int l1]) (lv := [(0, .ref 0), (1, .int l1), (2, .int l2)]) (rest := []) (ok_X8_isNoDeed l1 s) rfl rfl rfl rfl rfl (fun v1 => ?_)
  refine xTr.br (g1 := (8, [(0, .ref 0), (1, .int l1), (2, .int l2)], [], s)) (g2 := (16, [(0, .ref 0), (1, .int l1), (2, .int l2)], [], s)) rfl (fun h2 => ?_) (fun h2 => ?_)
  · refine xTr.ms 2 (g := (10, [(0, .ref 0), (1, .int l1), (2, .int l2)], [.int (2 : Int32), .int l2], s)) rfl ?_
    refine xTr.callip (R' := xR_X8_isOutside) (as := [.int l2, .int (2 : Int32)]) (lv := [(0, .ref 0), (1, .int l1), (2, .int l2)]) (rest := []) (ok_X8_isOutside l2 (2 : Int32) s) rfl rfl rfl rfl rfl (fun v3 => ?_)
    refine xTr.br (g1 := (19, [(0, .ref 0), (1, .int l1), (2, .int l2)], [], s)) (g2 := (16, [(0, .ref 0), (1, .int l1), (2, .int l2)], [], s)) rfl (fun h4 => ?_) (fun h4 => ?_)
    · refine xTr.ms 1 (g := (20, [(0, .ref 0), (1, .int l1), (2, .int l2)], [.int l2], s)) rfl ?_
      refine xTr.br (g1 := (23, [(0, .ref 0), (1, .int l1), (2, .int l2)], [], s)) (g2 := (35, [(0, .ref 0), (1, .int l1), (2, .int l2)], [], s)) rfl (fun h5 => ?_) (fun h5 => ?_)
      · refine xTr.ms 4 (g := (31, [(0, .ref 0), (1, .int l1)], [.int l1, .ref 25], s)) rfl ?_
        refine xTr.ck (g := (32, [(0, .ref 0), (1, .int l1)], [.int (s.1 25 l1.toNatClampNeg)], s)) rfl (fun h6 => ?_)
        refine xTr.ms 1 (g := (44, [(0, .ref 0), (1, .int l1)], [.int (s.1 25 l1.toNatClampNeg)], s)) rfl ?_
        exact xTr.ret rfl rfl rfl
      · refine xTr.ms 4 (g := (43, [(0, .ref 0), (1, .int l1)], [.int l1, .ref 26], s)) rfl ?_
        refine xTr.ck (g := (44, [(0, .ref 0), (1, .int l1)], [.int (s.1 26 l1.toNatClampNeg)], s)) rfl (fun h7 => ?_)
        exact xTr.ret rfl rfl rfl
    · refine xTr.ms 1 (g := (18, [], [.int (-2 : Int32)], s)) rfl ?_
      exact xTr.ret rfl rfl rfl
  · refine xTr.ms 1 (g := (18, [], [.int (-2 : Int32)], s)) rfl ?_
    exact xTr.ret rfl rfl rfl
-- X8_noise
def F_X8_noise (l1 : Int32) (s : xS) : Option (Int32) := (F_X8_isOutside l1 (10 : Int32) s).bind fun v1 => (if v1 = 0 then (if l1 < 0 ∨ 10 ≤ l1.toNatClampNeg then none else (some (s.1 23 l1.toNatClampNeg))) else (some (-2 : Int32)))
set_option maxRecDepth 100000 in
theorem ok_X8_noise (l1 : Int32) (s : xS) : xTr xMs xFL xR_X8_noise (Sum.inl (0, [(0, .ref 0), (1, .int l1)], [], s)) (F_X8_noise l1 s) (fun (y : Int32) => Sum.inr (some (.int y), s)) := by
  unfold F_X8_noise
  refine xTr.ms 2 (g := (3, [(0, .ref 0), (1, .int l1)], [.int (10 : Int32), .int l1], s)) rfl ?_
  refine xTr.callip (R' := xR_X8_isOutside) (as := [.int l1, .int (10 : Int32)]) (lv := [(0, .ref 0), (1, .int l1)]) (rest := []) (ok_X8_isOutside l1 (10 : Int32) s) rfl rfl rfl rfl rfl (fun v1 => ?_)
  refine xTr.br (g1 := (14, [(0, .ref 0), (1, .int l1)], [], s)) (g2 := (9, [(0, .ref 0), (1, .int l1)], [], s)) rfl (fun h2 => ?_) (fun h2 => ?_)
  · refine xTr.ms 4 (g := (22, [(0, .ref 0), (1, .int l1)], [.int l1, .ref 23], s)) rfl ?_
    refine xTr.ck (g := (23, [(0, .ref 0), (1, .int l1)], [.int (s.1 23 l1.toNatClampNeg)], s)) rfl (fun h3 => ?_)
    exact xTr.ret rfl rfl rfl
  · refine xTr.ms 2 (g := (23, [], [.int (-2 : Int32)], s)) rfl ?_
    exact xTr.ret rfl rfl rfl
-- X8_depth
def F_X8_depth (l1 : Int32) (s : xS) : Option (Int32) := (F_X8_isOutside l1 (10 : Int32) s).bind fun v1 => (if v1 = 0 then (if l1 < 0 ∨ 10 ≤ l1.toNatClampNeg then none else (some (s.1 24 l1.toNatClampNeg))) else (some (-2 : Int32)))
set_option maxRecDepth 100000 in
theorem ok_X8_depth (l1 : Int32) (s : xS) : xTr xMs xFL xR_X8_depth (Sum.inl (0, [(0, .ref 0), (1, .int l1)], [], s)) (F_X8_depth l1 s) (fun (y : Int32) => Sum.inr (some (.int y), s)) := by
  unfold F_X8_depth
  refine xTr.ms 2 (g := (3, [(0, .ref 0), (1, .int l1)], [.int (10 : Int32), .int l1], s)) rfl ?_
  refine xTr.callip (R' := xR_X8_isOutside) (as := [.int l1, .int (10 : Int32)]) (lv := [(0, .ref 0), (1, .int l1)]) (rest := []) (ok_X8_isOutside l1 (10 : Int32) s) rfl rfl rfl rfl rfl (fun v1 => ?_)
  refine xTr.br (g1 := (14, [(0, .ref 0), (1, .int l1)], [], s)) (g2 := (9, [(0, .ref 0), (1, .int l1)], [], s)) rfl (fun h2 => ?_) (fun h2 => ?_)
  · refine xTr.ms 4 (g := (22, [(0, .ref 0), (1, .int l1)], [.int l1, .ref 24], s)) rfl ?_
    refine xTr.ck (g := (23, [(0, .ref 0), (1, .int l1)], [.int (s.1 24 l1.toNatClampNeg)], s)) rfl (fun h3 => ?_)
    exact xTr.ret rfl rfl rfl
  · refine xTr.ms 2 (g := (23, [], [.int (-2 : Int32)], s)) rfl ?_
    exact xTr.ret rfl rfl rfl
-- X8_wakes
def F_X8_wakes (s : xS) : Option (Int32) := some (s.1 22 5)
set_option maxRecDepth 100000 in
theorem ok_X8_wakes (s : xS) : xTr xMs xFL xR_X8_wakes (Sum.inl (0, [(0, .ref 0)], [], s)) (F_X8_wakes s) (fun (y : Int32) => Sum.inr (some (.int y), s)) := by
  unfold F_X8_wakes
  refine xTr.ms 3 (g := (7, [(0, .ref 0)], [.int (s.1 22 5)], s)) rfl ?_
  exact xTr.ret rfl rfl rfl
-- X8_exiled
def F_X8_exiled (l1 : Int32) (s : xS) : Option (Int32) := (F_X8_isOutside l1 (2 : Int32) s).bind fun v1 => (if v1 = 0 then (if l1 = 0 then (some (((s.2 22 6) &&& (262143 : Int64))).toInt32) else (some (((xlshr (s.2 22 6) (18 : Int32)) &&& (262143 : Int64))).toInt32)) else (some (-2 : Int32)))
set_option maxRecDepth 100000 in
theorem ok_X8_exiled (l1 : Int32) (s : xS) : xTr xMs xFL xR_X8_exiled (Sum.inl (0, [(0, .ref 0), (1, .int l1)], [], s)) (F_X8_exiled l1 s) (fun (y : Int32) => Sum.inr (some (.int y), s)) := by
  unfold F_X8_exiled
  refine xTr.ms 2 (g := (2, [(0, .ref 0), (1, .int l1)], [.int (2 : Int32), .int l1], s)) rfl ?_
  refine xTr.callip (R' := xR_X8_isOutside) (as := [.int l1, .int (2 : Int32)]) (lv := [(0, .ref 0), (1, .int l1)]) (rest := []) (ok_X8_isOutside l1 (2 : Int32) s) rfl rfl rfl rfl rfl (fun v1 => ?_)
  refine xTr.br (g1 := (11, [(0, .ref 0), (1, .int l1)], [], s)) (g2 := (8, [(0, .ref 0), (1, .int l1)], [], s)) rfl (fun h2 => ?_) (fun h2 => ?_)
  · refine xTr.ms 1 (g := (12, [(0, .ref 0), (1, .int l1)], [.int l1], s)) rfl ?_
    refine xTr.br (g1 := (15, [(0, .ref 0), (1, .int l1)], [], s)) (g2 := (25, [(0, .ref 0), (1, .int l1)], [], s)) rfl (fun h3 => ?_) (fun h3 => ?_)
    · refine xTr.ms 9 (g := (42, [(2, .long (s.2 22 6))], [.int (((s.2 22 6) &&& (262143 : Int64))).toInt32], s)) rfl ?_
      exact xTr.ret rfl rfl rfl
    · refine xTr.ms 10 (g := (42, [(2, .long (xlshr (s.2 22 6) (18 : Int32)))], [.int (((xlshr (s.2 22 6) (18 : Int32)) &&& (262143 : Int64))).toInt32], s)) rfl ?_
      exact xTr.ret rfl rfl rfl
  · refine xTr.ms 1 (g := (10, [], [.int (-2 : Int32)], s)) rfl ?_
    exact xTr.ret rfl rfl rfl
-- X8_loudest
def F_X8_loudest_L4_J32 (s : xS) (j1 : Int32) (j2 : Int32) (t0 : Int32) : Option ((Int32 × Int32) ⊕ (Int32)) := if t0 = 0 then (some (Sum.inl (j1, (j2 + (1 : Int32))))) else (if j1 = (-1 : Int32) then (some (Sum.inl (j2, (j2 + (1 : Int32))))) else (if j2 < 0 ∨ 8 ≤ j2.toNatClampNeg then none else (if j1 < 0 ∨ 8 ≤ j1.toNatClampNeg then none else (if (s.1 25 j2.toNatClampNeg) ≤ (s.1 25 j1.toNatClampNeg) then (some (Sum.inl (j1, (j2 + (1 : Int32))))) else (some (Sum.inl (j2, (j2 + (1 : Int32)))))))))
def F_X8_loudest_L4 (s : xS) (a : Int32 × Int32) : Option ((Int32 × Int32) ⊕ (Int32)) := if (s.1 8 3) ≤ a.2 then (some (Sum.inr a.1)) else (if a.2 < 0 ∨ 8 ≤ a.2.toNatClampNeg then none else (if (s.1 26 a.2.toNatClampNeg) = 0 then (F_X8_loudest_L4_J32 s a.1 a.2 (1 : Int32)) else (F_X8_loudest_L4_J32 s a.1 a.2 (0 : Int32))))
def F_X8_loudest (s : xS) : Option (Int32) := (xlp (F_X8_loudest_L4 s) 100000 ((-1 : Int32), (0 : Int32))).bind (fun b9 => (some b9))
def F_X8_loudest_L4_hd (s : xS) (a : Int32 × Int32) : xT := Sum.inl (4, [(0, .ref 0), (1, .int a.1), (2, .int a.2)], [], s)
def F_X8_loudest_L4_ex (s : xS) : (Int32) → xT := (fun (z : Int32) => Sum.inl (71, [(1, .int z)], [], s))
set_option maxRecDepth 100000 in
theorem F_X8_loudest_L4_J32_ok (s : xS) (j1 : Int32) (j2 : Int32) (t0 : Int32) : xTr xMs xFL xR_X8_loudest (Sum.inl (32, [(0, .ref 0), (1, .int j1), (2, .int j2)], [.int t0], s)) (F_X8_loudest_L4_J32 s j1 j2 t0) (xhx (F_X8_loudest_L4_hd s) (F_X8_loudest_L4_ex s)) := by
  unfold F_X8_loudest_L4_J32
  refine xTr.ms 2 (g := (34, [(0, .ref 0), (1, .int j1), (2, .int j2), (3, .int t0)], [.int t0], s)) rfl ?_
  refine xTr.br (g1 := (65, [(0, .ref 0), (1, .int j1), (2, .int j2), (3, .int t0)], [], s)) (g2 := (37, [(0, .ref 0), (1, .int j1), (2, .int j2), (3, .int t0)], [], s)) rfl (fun h4 => ?_) (fun h4 => ?_)
  · refine xTr.ms 2 (g := (4, [(0, .ref 0), (1, .int j1), (2, .int (j2 + (1 : Int32)))], [], s)) rfl ?_
    exact xTr.leaf rfl
  · refine xTr.ms 2 (g := (39, [(0, .ref 0), (1, .int j1), (2, .int j2)], [.int (-1 : Int32), .int j1], s)) rfl ?_
    refine xTr.br (g1 := (63, [(0, .ref 0), (1, .int j1), (2, .int j2)], [], s)) (g2 := (42, [(0, .ref 0), (1, .int j1), (2, .int j2)], [], s)) rfl (fun h5 => ?_) (fun h5 => ?_)
    · refine xTr.ms 4 (g := (4, [(0, .ref 0), (1, .int j2), (2, .int (j2 + (1 : Int32)))], [], s)) rfl ?_
      exact xTr.leaf rfl
    · refine xTr.ms 4 (g := (50, [(0, .ref 0), (1, .int j1), (2, .int j2)], [.int j2, .ref 25], s)) rfl ?_
      refine xTr.ck (g := (51, [(0, .ref 0), (1, .int j1), (2, .int j2)], [.int (s.1 25 j2.toNatClampNeg)], s)) rfl (fun h6 => ?_)
      refine xTr.ms 4 (g := (59, [(0, .ref 0), (1, .int j1), (2, .int j2)], [.int j1, .ref 25, .int (s.1 25 j2.toNatClampNeg)], s)) rfl ?_
      refine xTr.ck (g := (60, [(0, .ref 0), (1, .int j1), (2, .int j2)], [.int (s.1 25 j1.toNatClampNeg), .int (s.1 25 j2.toNatClampNeg)], s)) rfl (fun h7 => ?_)
      refine xTr.br (g1 := (65, [(0, .ref 0), (1, .int j1), (2, .int j2)], [], s)) (g2 := (63, [(0, .ref 0), (1, .int j1), (2, .int j2)], [], s)) rfl (fun h8 => ?_) (fun h8 => ?_)
      · refine xTr.ms 2 (g := (4, [(0, .ref 0), (1, .int j1), (2, .int (j2 + (1 : Int32)))], [], s)) rfl ?_
        exact xTr.leaf rfl
      · refine xTr.ms 4 (g := (4, [(0, .ref 0), (1, .int j2), (2, .int (j2 + (1 : Int32)))], [], s)) rfl ?_
        exact xTr.leaf rfl
set_option maxRecDepth 100000 in
theorem F_X8_loudest_L4_ok (s : xS) (a : Int32 × Int32) : xTr xMs xFL xR_X8_loudest (F_X8_loudest_L4_hd s a) (F_X8_loudest_L4 s a) (xhx (F_X8_loudest_L4_hd s) (F_X8_loudest_L4_ex s)) := by
  unfold F_X8_loudest_L4
  refine xTr.ms 4 (g := (12, [(0, .ref 0), (1, .int a.1), (2, .int a.2)], [.int (s.1 8 3), .int a.2], s)) rfl ?_
  refine xTr.br (g1 := (71, [(0, .ref 0), (1, .int a.1), (2, .int a.2)], [], s)) (g2 := (15, [(0, .ref 0), (1, .int a.1), (2, .int a.2)], [], s)) rfl (fun h1 => ?_) (fun h1 => ?_)
  · refine xTr.mk (lv1 := [(1, .int a.1)]) rfl rfl ?_
    exact xTr.leaf rfl
  · refine xTr.ms 4 (g := (23, [(0, .ref 0), (1, .int a.1), (2, .int a.2)], [.int a.2, .ref 26], s)) rfl ?_
    refine xTr.ck (g := (24, [(0, .ref 0), (1, .int a.1), (2, .int a.2)], [.int (s.1 26 a.2.toNatClampNeg)], s)) rfl (fun h2 => ?_)
    refine xTr.br (g1 := (27, [(0, .ref 0), (1, .int a.1), (2, .int a.2)], [], s)) (g2 := (31, [(0, .ref 0), (1, .int a.1), (2, .int a.2)], [], s)) rfl (fun h3 => ?_) (fun h3 => ?_)
    · refine xTr.ms 2 (g := (32, [(0, .ref 0), (1, .int a.1), (2, .int a.2)], [.int (1 : Int32)], s)) rfl ?_
      exact F_X8_loudest_L4_J32_ok s a.1 a.2 (1 : Int32)
    · refine xTr.ms 1 (g := (32, [(0, .ref 0), (1, .int a.1), (2, .int a.2)], [.int (0 : Int32)], s)) rfl ?_
      exact F_X8_loudest_L4_J32_ok s a.1 a.2 (0 : Int32)
set_option maxRecDepth 100000 in
theorem ok_X8_loudest (s : xS) : xTr xMs xFL xR_X8_loudest (Sum.inl (0, [(0, .ref 0)], [], s)) (F_X8_loudest s) (fun (y : Int32) => Sum.inr (some (.int y), s)) := by
  unfold F_X8_loudest
  refine xTr.ms 4 (g := (4, [(0, .ref 0), (1, .int (-1 : Int32)), (2, .int (0 : Int32))], [], s)) rfl ?_
  refine xTr.bind (J := F_X8_loudest_L4_ex s) (xTr.loop (hd := F_X8_loudest_L4_hd s) (fun aa => F_X8_loudest_L4_ok s aa) 100000 ((-1 : Int32), (0 : Int32))) (fun b9 => ?_)
  refine xTr.ms 1 (g := (72, [(1, .int b9)], [.int b9], s)) rfl ?_
  exact xTr.ret rfl rfl rfl
-- X0_takeFrom
def F_X0_takeFrom_L10 (a : Int32 × xS) : Option ((Int32 × xS) ⊕ (xS)) := if (a.2.1 27 3) ≤ a.1 then (some (Sum.inr a.2)) else (if a.1 < 0 ∨ 8 ≤ a.1.toNatClampNeg then none else (if a.1 < 0 ∨ 8 ≤ a.1.toNatClampNeg then none else (if a.1 < 0 ∨ 8 ≤ a.1.toNatClampNeg then none else (if a.1 < 0 ∨ 8 ≤ a.1.toNatClampNeg then none else (if a.1 < 0 ∨ 8 ≤ a.1.toNatClampNeg then none else (if a.1 < 0 ∨ 8 ≤ a.1.toNatClampNeg then none else (some (Sum.inl ((a.1 + (1 : Int32)), (xu (xu (xu a.2 28 a.1.toNatClampNeg (a.2.1 9 a.1.toNatClampNeg)) 29 a.1.toNatClampNeg (a.2.1 10 a.1.toNatClampNeg)) 30 a.1.toNatClampNeg (a.2.1 11 a.1.toNatClampNeg)))))))))))
def F_X0_takeFrom (s : xS) : Option (xS) := (xlp (F_X0_takeFrom_L10) 100000 ((0 : Int32), (xu s 27 3 (s.1 8 3)))).bind (fun b8 => (some b8))
def F_X0_takeFrom_L10_hd (a : Int32 × xS) : xT := Sum.inl (10, [(0, .ref 27), (1, .ref 8), (2, .int a.1)], [], a.2)
def F_X0_takeFrom_L10_ex : (xS) → xT := (fun (z : xS) => Sum.inl (60, [], [], z))
set_option maxRecDepth 100000 in
theorem F_X0_takeFrom_L10_ok (a : Int32 × xS) : xTr xMs xFL xR_X0_takeFrom (F_X0_takeFrom_L10_hd a) (F_X0_takeFrom_L10 a) (xhx (F_X0_takeFrom_L10_hd) (F_X0_takeFrom_L10_ex)) := by
  unfold F_X0_takeFrom_L10
  refine xTr.ms 3 (g := (15, [(0, .ref 27), (1, .ref 8), (2, .int a.1)], [.int (a.2.1 27 3), .int a.1], a.2)) rfl ?_
  refine xTr.br (g1 := (60, [(0, .ref 27), (1, .ref 8), (2, .int a.1)], [], a.2)) (g2 := (18, [(0, .ref 27), (1, .ref 8), (2, .int a.1)], [], a.2)) rfl (fun h1 => ?_) (fun h1 => ?_)
  · refine xTr.mk (lv1 := []) rfl rfl ?_
    exact xTr.leaf rfl
  · refine xTr.ms 6 (g := (28, [(0, .ref 27), (1, .ref 8), (2, .int a.1)], [.int a.1, .ref 9, .int a.1, .ref 28], a.2)) rfl ?_
    refine xTr.ck (g := (29, [(0, .ref 27), (1, .ref 8), (2, .int a.1)], [.int (a.2.1 9 a.1.toNatClampNeg), .int a.1, .ref 28], a.2)) rfl (fun h2 => ?_)
    refine xTr.ck (g := (30, [(0, .ref 27), (1, .ref 8), (2, .int a.1)], [], (xu a.2 28 a.1.toNatClampNeg (a.2.1 9 a.1.toNatClampNeg)))) rfl (fun h3 => ?_)
    refine xTr.ms 6 (g := (40, [(0, .ref 27), (1, .ref 8), (2, .int a.1)], [.int a.1, .ref 10, .int a.1, .ref 29], (xu a.2 28 a.1.toNatClampNeg (a.2.1 9 a.1.toNatClampNeg)))) rfl ?_
    refine xTr.ck (g := (41, [(0, .ref 27), (1, .ref 8), (2, .int a.1)], [.int (a.2.1 10 a.1.toNatClampNeg), .int a.1, .ref 29], (xu a.2 28 a.1.toNatClampNeg (a.2.1 9 a.1.toNatClampNeg)))) rfl (fun h4 => ?_)
    refine xTr.ck (g := (42, [(0, .ref 27), (1, .ref 8), (2, .int a.1)], [], (xu (xu a.2 28 a.1.toNatClampNeg (a.2.1 9 a.1.toNatClampNeg)) 29 a.1.toNatClampNeg (a.2.1 10 a.1.toNatClampNeg)))) rfl (fun h5 => ?_)
    refine xTr.ms 6 (g := (52, [(0, .ref 27), (1, .ref 8), (2, .int a.1)], [.int a.1, .ref 11, .int a.1, .ref 30], (xu (xu a.2 28 a.1.toNatClampNeg (a.2.1 9 a.1.toNatClampNeg)) 29 a.1.toNatClampNeg (a.2.1 10 a.1.toNatClampNeg)))) rfl ?_
    refine xTr.ck (g := (53, [(0, .ref 27), (1, .ref 8), (2, .int a.1)], [.int (a.2.1 11 a.1.toNatClampNeg), .int a.1, .ref 30], (xu (xu a.2 28 a.1.toNatClampNeg (a.2.1 9 a.1.toNatClampNeg)) 29 a.1.toNatClampNeg (a.2.1 10 a.1.toNatClampNeg)))) rfl (fun h6 => ?_)
    refine xTr.ck (g := (54, [(0, .ref 27), (1, .ref 8), (2, .int a.1)], [], (xu (xu (xu a.2 28 a.1.toNatClampNeg (a.2.1 9 a.1.toNatClampNeg)) 29 a.1.toNatClampNeg (a.2.1 10 a.1.toNatClampNeg)) 30 a.1.toNatClampNeg (a.2.1 11 a.1.toNatClampNeg)))) rfl (fun h7 => ?_)
    refine xTr.ms 2 (g := (10, [(0, .ref 27), (1, .ref 8), (2, .int (a.1 + (1 : Int32)))], [], (xu (xu (xu a.2 28 a.1.toNatClampNeg (a.2.1 9 a.1.toNatClampNeg)) 29 a.1.toNatClampNeg (a.2.1 10 a.1.toNatClampNeg)) 30 a.1.toNatClampNeg (a.2.1 11 a.1.toNatClampNeg)))) rfl ?_
    exact xTr.leaf rfl
set_option maxRecDepth 100000 in
theorem ok_X0_takeFrom (s : xS) : xTr xMs xFL xR_X0_takeFrom (Sum.inl (0, [(0, .ref 27), (1, .ref 8)], [], s)) (F_X0_takeFrom s) (fun (y : xS) => Sum.inr (none, y)) := by
  unfold F_X0_takeFrom
  refine xTr.ms 6 (g := (10, [(0, .ref 27), (1, .ref 8), (2, .int (0 : Int32))], [], (xu s 27 3 (s.1 8 3)))) rfl ?_
  refine xTr.bind (J := F_X0_takeFrom_L10_ex) (xTr.loop (hd := F_X0_takeFrom_L10_hd) (fun aa => F_X0_takeFrom_L10_ok aa) 100000 ((0 : Int32), (xu s 27 3 (s.1 8 3)))) (fun b8 => ?_)
  exact xTr.ret rfl rfl rfl
-- X3_lateness
def F_X3_lateness (s : xS) : Option (Int32) := if (s.1 34 5) = (-1 : Int32) then (some (10 : Int32)) else (some (s.1 34 5))
set_option maxRecDepth 100000 in
theorem ok_X3_lateness (s : xS) : xTr xMs xFL xR_X3_lateness (Sum.inl (0, [(0, .ref 34)], [], s)) (F_X3_lateness s) (fun (y : Int32) => Sum.inr (some (.int y), s)) := by
  unfold F_X3_lateness
  refine xTr.ms 3 (g := (5, [(0, .ref 34)], [.int (-1 : Int32), .int (s.1 34 5)], s)) rfl ?_
  refine xTr.br (g1 := (8, [(0, .ref 34)], [], s)) (g2 := (13, [(0, .ref 34)], [], s)) rfl (fun h1 => ?_) (fun h1 => ?_)
  · refine xTr.ms 2 (g := (17, [], [.int (10 : Int32)], s)) rfl ?_
    exact xTr.ret rfl rfl rfl
  · refine xTr.ms 2 (g := (17, [(0, .ref 34)], [.int (s.1 34 5)], s)) rfl ?_
    exact xTr.ret rfl rfl rfl
-- X8_latenessAt
def F_X8_latenessAt (l1 : Int32) (l2 : Int32) (s : xS) : Option (Int32 × xS) := (F_X0_takeFrom s).bind fun s2 => (if l1 < 0 ∨ 8 ≤ l1.toNatClampNeg then none else ((F_X3_pass 34 27 19 (255 : Int32) (xu s2 30 l1.toNatClampNeg l2)).bind fun s5 => ((F_X3_lateness s5).bind fun v6 => (some (v6, s5)))))
set_option maxRecDepth 100000 in
theorem ok_X8_latenessAt (l1 : Int32) (l2 : Int32) (s : xS) : xTr xMs xFL xR_X8_latenessAt (Sum.inl (0, [(0, .ref 0), (1, .int l1), (2, .int l2)], [], s)) (F_X8_latenessAt l1 l2 s) (fun (y : Int32 × xS) => Sum.inr (some (.int y.1), y.2)) := by
  unfold F_X8_latenessAt
  refine xTr.ms 4 (g := (8, [(0, .ref 0), (1, .int l1), (2, .int l2)], [.ref 8, .ref 27], s)) rfl ?_
  refine xTr.callv (R' := xR_X0_takeFrom) (as := [.ref 27, .ref 8]) (lv := [(0, .ref 0), (1, .int l1), (2, .int l2)]) (rest := []) (ok_X0_takeFrom s) rfl rfl rfl rfl rfl (fun s2 => ?_)
  refine xTr.ms 5 (g := (20, [(0, .ref 0), (1, .int l1), (2, .int l2)], [.int l2, .int l1, .ref 30], s2)) rfl ?_
  refine xTr.ck (g := (21, [(0, .ref 0), (1, .int l1), (2, .int l2)], [], (xu s2 30 l1.toNatClampNeg l2))) rfl (fun h3 => ?_)
  refine xTr.ms 7 (g := (36, [(0, .ref 0), (1, .int l1), (2, .int l2)], [.ref 19, .int (255 : Int32), .ref 27, .ref 34], (xu s2 30 l1.toNatClampNeg l2))) rfl ?_
  refine xTr.callv (R' := xR_X3_pass) (as := [.ref 34, .ref 27, .int (255 : Int32), .ref 19]) (lv := [(0, .ref 0), (1, .int l1), (2, .int l2)]) (rest := []) (ok_X3_pass_34_27_19 (255 : Int32) (xu s2 30 l1.toNatClampNeg l2)) rfl rfl rfl rfl rfl (fun s5 => ?_)
  refine xTr.ms 2 (g := (43, [(0, .ref 0), (1, .int l1), (2, .int l2)], [.ref 34], s5)) rfl ?_
  refine xTr.callip (R' := xR_X3_lateness) (as := [.ref 34]) (lv := [(0, .ref 0), (1, .int l1), (2, .int l2)]) (rest := []) (ok_X3_lateness s5) rfl rfl rfl rfl rfl (fun v6 => ?_)
  exact xTr.ret rfl rfl rfl
-- X8_bestHourOf
def F_X8_bestHourOf_L7 (l1 : Int32) (a : Int32 × Int32 × Int32 × xS) : Option ((Int32 × Int32 × Int32 × xS) ⊕ (Int32 × xS)) := if (10 : Int32) ≤ a.2.2.1 then (some (Sum.inr (a.1, a.2.2.2))) else ((F_X8_latenessAt l1 a.2.2.1 a.2.2.2).bind fun q3 => (if q3.1 ≤ a.2.1 then (some (Sum.inl (a.1, a.2.1, (a.2.2.1 + (1 : Int32)), q3.2))) else (some (Sum.inl (a.2.2.1, q3.1, (a.2.2.1 + (1 : Int32)), q3.2)))))
def F_X8_bestHourOf (l1 : Int32) (s : xS) : Option (Int32 × xS) := (xlp (F_X8_bestHourOf_L7 l1) 100000 ((0 : Int32), (-1 : Int32), (0 : Int32), s)).bind (fun b5 => (some (b5.1, b5.2)))
def F_X8_bestHourOf_L7_hd (l1 : Int32) (a : Int32 × Int32 × Int32 × xS) : xT := Sum.inl (7, [(0, .ref 0), (1, .int l1), (2, .int a.1), (3, .int a.2.1), (4, .int a.2.2.1)], [], a.2.2.2)
def F_X8_bestHourOf_L7_ex (l1 : Int32) : (Int32 × xS) → xT := (fun (z : Int32 × xS) => Sum.inl (41, [(2, .int z.1)], [], z.2))
set_option maxRecDepth 100000 in
theorem F_X8_bestHourOf_L7_ok (l1 : Int32) (a : Int32 × Int32 × Int32 × xS) : xTr xMs xFL xR_X8_bestHourOf (F_X8_bestHourOf_L7_hd l1 a) (F_X8_bestHourOf_L7 l1 a) (xhx (F_X8_bestHourOf_L7_hd l1) (F_X8_bestHourOf_L7_ex l1)) := by
  unfold F_X8_bestHourOf_L7
  refine xTr.ms 2 (g := (11, [(0, .ref 0), (1, .int l1), (2, .int a.1), (3, .int a.2.1), (4, .int a.2.2.1)], [.int (10 : Int32), .int a.2.2.1], a.2.2.2)) rfl ?_
  refine xTr.br (g1 := (41, [(0, .ref 0), (1, .int l1), (2, .int a.1), (3, .int a.2.1), (4, .int a.2.2.1)], [], a.2.2.2)) (g2 := (14, [(0, .ref 0), (1, .int l1), (2, .int a.1), (3, .int a.2.1), (4, .int a.2.2.1)], [], a.2.2.2)) rfl (fun h1 => ?_) (fun h1 => ?_)
  · refine xTr.mk (lv1 := [(2, .int a.1)]) rfl rfl ?_
    exact xTr.leaf rfl
  · refine xTr.ms 3 (g := (18, [(0, .ref 0), (1, .int l1), (2, .int a.1), (3, .int a.2.1), (4, .int a.2.2.1)], [.int a.2.2.1, .int l1, .ref 0], a.2.2.2)) rfl ?_
    refine xTr.calli (R' := xR_X8_latenessAt) (as := [.ref 0, .int l1, .int a.2.2.1]) (lv := [(0, .ref 0), (1, .int l1), (2, .int a.1), (3, .int a.2.1), (4, .int a.2.2.1)]) (rest := []) (ok_X8_latenessAt l1 a.2.2.1 a.2.2.2) rfl rfl rfl rfl rfl (fun v2 s2 => ?_)
    refine xTr.ms 3 (g := (26, [(0, .ref 0), (1, .int l1), (2, .int a.1), (3, .int a.2.1), (4, .int a.2.2.1), (5, .int v2)], [.int a.2.1, .int v2], s2)) rfl ?_
    refine xTr.br (g1 := (35, [(0, .ref 0), (1, .int l1), (2, .int a.1), (3, .int a.2.1), (4, .int a.2.2.1), (5, .int v2)], [], s2)) (g2 := (29, [(0, .ref 0), (1, .int l1), (2, .int a.1), (3, .int a.2.1), (4, .int a.2.2.1), (5, .int v2)], [], s2)) rfl (fun h4 => ?_) (fun h4 => ?_)
    · refine xTr.ms 2 (g := (7, [(0, .ref 0), (1, .int l1), (2, .int a.1), (3, .int a.2.1), (4, .int (a.2.2.1 + (1 : Int32)))], [], s2)) rfl ?_
      exact xTr.leaf rfl
    · refine xTr.ms 6 (g := (7, [(0, .ref 0), (1, .int l1), (2, .int a.2.2.1), (3, .int v2), (4, .int (a.2.2.1 + (1 : Int32)))], [], s2)) rfl ?_
      exact xTr.leaf rfl
set_option maxRecDepth 100000 in
theorem ok_X8_bestHourOf (l1 : Int32) (s : xS) : xTr xMs xFL xR_X8_bestHourOf (Sum.inl (0, [(0, .ref 0), (1, .int l1)], [], s)) (F_X8_bestHourOf l1 s) (fun (y : Int32 × xS) => Sum.inr (some (.int y.1), y.2)) := by
  unfold F_X8_bestHourOf
  refine xTr.ms 6 (g := (7, [(0, .ref 0), (1, .int l1), (2, .int (0 : Int32)), (3, .int (-1 : Int32)), (4, .int (0 : Int32))], [], s)) rfl ?_
  refine xTr.bind (J := F_X8_bestHourOf_L7_ex l1) (xTr.loop (hd := F_X8_bestHourOf_L7_hd l1) (fun aa => F_X8_bestHourOf_L7_ok l1 aa) 100000 ((0 : Int32), (-1 : Int32), (0 : Int32), s)) (fun b5 => ?_)
  refine xTr.ms 1 (g := (42, [(2, .int b5.1)], [.int b5.1], b5.2)) rfl ?_
  exact xTr.ret rfl rfl rfl
-- X8_asHour
def F_X8_asHour (l0 : Int32) (s : xS) : Option (Int32) := if (10 : Int32) ≤ l0 then (some (-1 : Int32)) else (some l0)
set_option maxRecDepth 100000 in
theorem ok_X8_asHour (l0 : Int32) (s : xS) : xTr xMs xFL xR_X8_asHour (Sum.inl (0, [(0, .int l0)], [], s)) (F_X8_asHour l0 s) (fun (y : Int32) => Sum.inr (some (.int y), s)) := by
  unfold F_X8_asHour
  refine xTr.ms 2 (g := (3, [(0, .int l0)], [.int (10 : Int32), .int l0], s)) rfl ?_
  refine xTr.br (g1 := (10, [(0, .int l0)], [], s)) (g2 := (6, [(0, .int l0)], [], s)) rfl (fun h1 => ?_) (fun h1 => ?_)
  · refine xTr.ms 1 (g := (11, [], [.int (-1 : Int32)], s)) rfl ?_
    exact xTr.ret rfl rfl rfl
  · refine xTr.ms 2 (g := (11, [(0, .int l0)], [.int l0], s)) rfl ?_
    exact xTr.ret rfl rfl rfl
-- X8_hour
def F_X8_hour (l1 : Int32) (l2 : Int32) (s : xS) : Option (Int32 × xS) := (F_X8_isNoDeed l1 s).bind fun v1 => (if v1 = 0 then ((F_X8_isOutside l2 (2 : Int32) s).bind fun v3 => (if v3 = 0 then ((F_X8_bestHourOf l1 s).bind fun q6 => (if l2 = 0 then (some (q6.1, q6.2)) else ((F_X8_latenessAt l1 q6.1 q6.2).bind fun q9 => ((F_X8_asHour q9.1 q9.2).bind fun v10 => (some (v10, q9.2)))))) else (some ((-2 : Int32), s)))) else (some ((-2 : Int32), s)))
set_option maxRecDepth 100000 in
theorem ok_X8_hour (l1 : Int32) (l2 : Int32) (s : xS) : xTr xMs xFL xR_X8_hour (Sum.inl (0, [(0, .ref 0), (1, .int l1), (2, .int l2)], [], s)) (F_X8_hour l1 l2 s) (fun (y : Int32 × xS) => Sum.inr (some (.int y.1), y.2)) := by
  unfold F_X8_hour
  refine xTr.ms 2 (g := (2, [(0, .ref 0), (1, .int l1), (2, .int l2)], [.int l1, .ref 0], s)) rfl ?_
  refine xTr.callip (R' := xR_X8_isNoDeed) (as := [.ref 0, .int l1]) (lv := [(0, .ref 0), (1, .int l1), (2, .int l2)]) (rest := []) (ok_X8_isNoDeed l1 s) rfl rfl rfl rfl rfl (fun v1 => ?_)
  refine xTr.br (g1 := (8, [(0, .ref 0), (1, .int l1), (2, .int l2)], [], s)) (g2 := (16, [(0, .ref 0), (1, .int l1), (2, .int l2)], [], s)) rfl (fun h2 => ?_) (fun h2 => ?_)
  · refine xTr.ms 2 (g := (10, [(0, .ref 0), (1, .int l1), (2, .int l2)], [.int (2 : Int32), .int l2], s)) rfl ?_
    refine xTr.callip (R' := xR_X8_isOutside) (as := [.int l2, .int (2 : Int32)]) (lv := [(0, .ref 0), (1, .int l1), (2, .int l2)]) (rest := []) (ok_X8_isOutside l2 (2 : Int32) s) rfl rfl rfl rfl rfl (fun v3 => ?_)
    refine xTr.br (g1 := (19, [(0, .ref 0), (1, .int l1), (2, .int l2)], [], s)) (g2 := (16, [(0, .ref 0), (1, .int l1), (2, .int l2)], [], s)) rfl (fun h4 => ?_) (fun h4 => ?_)
    · refine xTr.ms 2 (g := (21, [(0, .ref 0), (1, .int l1), (2, .int l2)], [.int l1, .ref 0], s)) rfl ?_
      refine xTr.calli (R' := xR_X8_bestHourOf) (as := [.ref 0, .int l1]) (lv := [(0, .ref 0), (1, .int l1), (2, .int l2)]) (rest := []) (ok_X8_bestHourOf l1 s) rfl rfl rfl rfl rfl (fun v5 s5 => ?_)
      refine xTr.ms 2 (g := (26, [(0, .ref 0), (1, .int l1), (2, .int l2), (3, .int v5)], [.int l2], s5)) rfl ?_
      refine xTr.br (g1 := (29, [(0, .ref 0), (1, .int l1), (2, .int l2), (3, .int v5)], [], s5)) (g2 := (33, [(0, .ref 0), (1, .int l1), (2, .int l2), (3, .int v5)], [], s5)) rfl (fun h7 => ?_) (fun h7 => ?_)
      · refine xTr.ms 2 (g := (42, [(3, .int v5)], [.int v5], s5)) rfl ?_
        exact xTr.ret rfl rfl rfl
      · refine xTr.ms 3 (g := (36, [(0, .ref 0), (1, .int l1), (3, .int v5)], [.int v5, .int l1, .ref 0], s5)) rfl ?_
        refine xTr.calli (R' := xR_X8_latenessAt) (as := [.ref 0, .int l1, .int v5]) (lv := [(0, .ref 0), (1, .int l1), (3, .int v5)]) (rest := []) (ok_X8_latenessAt l1 v5 s5) rfl rfl rfl rfl rfl (fun v8 s8 => ?_)
        refine xTr.callip (R' := xR_X8_asHour) (as := [.int v8]) (lv := [(0, .ref 0), (1, .int l1), (3, .int v5)]) (rest := []) (ok_X8_asHour v8 s8) rfl rfl rfl rfl rfl (fun v10 => ?_)
        exact xTr.ret rfl rfl rfl
    · refine xTr.ms 1 (g := (18, [], [.int (-2 : Int32)], s)) rfl ?_
      exact xTr.ret rfl rfl rfl
  · refine xTr.ms 1 (g := (18, [], [.int (-2 : Int32)], s)) rfl ?_
    exact xTr.ret rfl rfl rfl
-- X7_isOpen
def F_X7_isOpen (l1 : Int32) (s : xS) : Option (Int32) := (F_X7_has l1 s).bind fun v1 => (if v1 = 0 then (some (0 : Int32)) else (if l1 < 0 ∨ 36 ≤ l1.toNatClampNeg then none else (if (s.1 6 l1.toNatClampNeg) = 0 then (some (1 : Int32)) else (some (0 : Int32)))))
set_option maxRecDepth 100000 in
theorem ok_X7_isOpen (l1 : Int32) (s : xS) : xTr xMs xFL xR_X7_isOpen (Sum.inl (0, [(0, .ref 5), (1, .int l1)], [], s)) (F_X7_isOpen l1 s) (fun (y : Int32) => Sum.inr (some (.int y), s)) := by
  unfold F_X7_isOpen
  refine xTr.ms 2 (g := (2, [(0, .ref 5), (1, .int l1)], [.int l1, .ref 5], s)) rfl ?_
  refine xTr.callip (R' := xR_X7_has) (as := [.ref 5, .int l1]) (lv := [(0, .ref 5), (1, .int l1)]) (rest := []) (ok_X7_has l1 s) rfl rfl rfl rfl rfl (fun v1 => ?_)
  refine xTr.br (g1 := (21, [(0, .ref 5), (1, .int l1)], [], s)) (g2 := (8, [(0, .ref 5), (1, .int l1)], [], s)) rfl (fun h2 => ?_) (fun h2 => ?_)
  · refine xTr.ms 1 (g := (22, [], [.int (0 : Int32)], s)) rfl ?_
    exact xTr.ret rfl rfl rfl
  · refine xTr.ms 3 (g := (13, [(0, .ref 5), (1, .int l1)], [.int l1, .ref 6], s)) rfl ?_
    refine xTr.ck (g := (14, [(0, .ref 5), (1, .int l1)], [.int (s.1 6 l1.toNatClampNeg)], s)) rfl (fun h3 => ?_)
    refine xTr.br (g1 := (17, [(0, .ref 5), (1, .int l1)], [], s)) (g2 := (21, [(0, .ref 5), (1, .int l1)], [], s)) rfl (fun h4 => ?_) (fun h4 => ?_)
    · refine xTr.ms 2 (g := (22, [], [.int (1 : Int32)], s)) rfl ?_
      exact xTr.ret rfl rfl rfl
    · refine xTr.ms 1 (g := (22, [], [.int (0 : Int32)], s)) rfl ?_
      exact xTr.ret rfl rfl rfl
-- X4_layFelt
def F_X4_layFelt (l1 : Int32) (s : xS) : Option (xS) := if l1 < 0 then (some s) else (if (36 : Int32) ≤ l1 then (some s) else (if l1 < 0 ∨ 36 ≤ l1.toNatClampNeg then none else (some (xu s 32 l1.toNatClampNeg (3 : Int32)))))
set_option maxRecDepth 100000 in
theorem ok_X4_layFelt (l1 : Int32) (s : xS) : xTr xMs xFL xR_X4_layFelt (Sum.inl (0, [(0, .ref 31), (1, .int l1)], [], s)) (F_X4_layFelt l1 s) (fun (y : xS) => Sum.inr (none, y)) := by
  unfold F_X4_layFelt
  refine xTr.ms 1 (g := (1, [(0, .ref 31), (1, .int l1)], [.int l1], s)) rfl ?_
  refine xTr.br (g1 := (20, [(0, .ref 31), (1, .int l1)], [], s)) (g2 := (4, [(0, .ref 31), (1, .int l1)], [], s)) rfl (fun h1 => ?_) (fun h1 => ?_)
  · exact xTr.ret rfl rfl rfl
  · refine xTr.ms 4 (g := (10, [(0, .ref 31), (1, .int l1)], [.int (36 : Int32), .int l1], s)) rfl ?_
    refine xTr.br (g1 := (20, [(0, .ref 31), (1, .int l1)], [], s)) (g2 := (13, [(0, .ref 31), (1, .int l1)], [], s)) rfl (fun h2 => ?_) (fun h2 => ?_)
    · exact xTr.ret rfl rfl rfl
    · refine xTr.ms 4 (g := (19, [(0, .ref 31), (1, .int l1)], [.int (3 : Int32), .int l1, .ref 32], s)) rfl ?_
      refine xTr.ck (g := (20, [(0, .ref 31), (1, .int l1)], [], (xu s 32 l1.toNatClampNeg (3 : Int32)))) rfl (fun h3 => ?_)
      exact xTr.ret rfl rfl rfl
-- X8_isStillWith
def F_X8_isStillWith (l1 : Int32) (l2 : Int32) (s : xS) : Option (Int32 × xS) := (F_X4_takeTolls 31 s).bind fun s2 => ((F_X4_layFelt l1 s2).bind fun s4 => ((F_X4_layFelt l2 s4).bind fun s6 => ((F_X4_spread 31 (s6.1 5 4) s6).bind fun s8 => ((F_X3_pass 34 8 31 (255 : Int32) s8).bind fun s10 => (if (s10.1 34 5) = (-1 : Int32) then (some ((1 : Int32), s10)) else (some ((0 : Int32), s10)))))))
set_option maxRecDepth 100000 in
theorem ok_X8_isStillWith (l1 : Int32) (l2 : Int32) (s : xS) : xTr xMs xFL xR_X8_isStillWith (Sum.inl (0, [(0, .ref 0), (1, .int l1), (2, .int l2)], [], s)) (F_X8_isStillWith l1 l2 s) (fun (y : Int32 × xS) => Sum.inr (some (.int y.1), y.2)) := by
  unfold F_X8_isStillWith
  refine xTr.ms 4 (g := (8, [(0, .ref 0), (1, .int l1), (2, .int l2)], [.ref 5, .ref 31], s)) rfl ?_
  refine xTr.callv (R' := xR_X4_takeTolls) (as := [.ref 31, .ref 5]) (lv := [(0, .ref 0), (1, .int l1), (2, .int l2)]) (rest := []) (ok_X4_takeTolls_31 s) rfl rfl rfl rfl rfl (fun s2 => ?_)
  refine xTr.ms 3 (g := (16, [(0, .ref 0), (1, .int l1), (2, .int l2)], [.int l1, .ref 31], s2)) rfl ?_
  refine xTr.callv (R' := xR_X4_layFelt) (as := [.ref 31, .int l1]) (lv := [(0, .ref 0), (1, .int l1), (2, .int l2)]) (rest := []) (ok_X4_layFelt l1 s2) rfl rfl rfl rfl rfl (fun s4 => ?_)
  refine xTr.ms 3 (g := (24, [(0, .ref 0), (1, .int l1), (2, .int l2)], [.int l2, .ref 31], s4)) rfl ?_
  refine xTr.callv (R' := xR_X4_layFelt) (as := [.ref 31, .int l2]) (lv := [(0, .ref 0), (1, .int l1), (2, .int l2)]) (rest := []) (ok_X4_layFelt l2 s4) rfl rfl rfl rfl rfl (fun s6 => ?_)
  refine xTr.ms 7 (g := (42, [(0, .ref 0), (1, .int l1), (2, .int l2)], [.int (s6.1 5 4), .ref 5, .ref 31], s6)) rfl ?_
  refine xTr.callv (R' := xR_X4_spread) (as := [.ref 31, .ref 5, .int (s6.1 5 4)]) (lv := [(0, .ref 0), (1, .int l1), (2, .int l2)]) (rest := []) (ok_X4_spread_31 (s6.1 5 4) s6) rfl rfl rfl rfl rfl (fun s8 => ?_)
  refine xTr.ms 7 (g := (60, [(0, .ref 0), (1, .int l1), (2, .int l2)], [.ref 31, .int (255 : Int32), .ref 8, .ref 34], s8)) rfl ?_
  refine xTr.callv (R' := xR_X3_pass) (as := [.ref 34, .ref 8, .int (255 : Int32), .ref 31]) (lv := [(0, .ref 0), (1, .int l1), (2, .int l2)]) (rest := []) (ok_X3_pass_34_8_31 (255 : Int32) s8) rfl rfl rfl rfl rfl (fun s10 => ?_)
  refine xTr.ms 4 (g := (71, [(0, .ref 0), (1, .int l1), (2, .int l2)], [.int (-1 : Int32), .int (s10.1 34 5)], s10)) rfl ?_
  refine xTr.br (g1 := (74, [(0, .ref 0), (1, .int l1), (2, .int l2)], [], s10)) (g2 := (78, [(0, .ref 0), (1, .int l1), (2, .int l2)], [], s10)) rfl (fun h11 => ?_) (fun h11 => ?_)
  · refine xTr.ms 2 (g := (79, [], [.int (1 : Int32)], s10)) rfl ?_
    exact xTr.ret rfl rfl rfl
  · refine xTr.ms 1 (g := (79, [], [.int (0 : Int32)], s10)) rfl ?_
    exact xTr.ret rfl rfl rfl
-- X8_isStillWithOne
def F_X8_isStillWithOne_L2 (a : Int32 × xS) : Option ((Int32 × xS) ⊕ ((Int32 × xS) ⊕ (xS))) := if (a.2.1 5 2) ≤ a.1 then (some (Sum.inr (Sum.inr a.2))) else ((F_X7_isOpen a.1 a.2).bind fun v2 => (if v2 = 0 then (some (Sum.inl ((a.1 + (1 : Int32)), a.2))) else ((F_X8_isStillWith a.1 (-1 : Int32) a.2).bind fun q5 => (if q5.1 = 0 then (some (Sum.inl ((a.1 + (1 : Int32)), q5.2))) else (some (Sum.inr (Sum.inl (a.1, q5.2))))))))
def F_X8_isStillWithOne (s : xS) : Option (Int32 × xS) := (xlp (F_X8_isStillWithOne_L2) 100000 ((0 : Int32), s)).bind (Sum.elim (fun b7_0 => (some ((1 : Int32), (xu b7_0.2 41 0 b7_0.1)))) (fun b7_1 => (some ((0 : Int32), b7_1))))
def F_X8_isStillWithOne_L2_hd (a : Int32 × xS) : xT := Sum.inl (2, [(0, .ref 0), (1, .int a.1)], [], a.2)
def F_X8_isStillWithOne_L2_ex : ((Int32 × xS) ⊕ (xS)) → xT := (Sum.elim (fun (z : Int32 × xS) => Sum.inl (33, [(0, .ref 0), (1, .int z.1)], [], z.2)) (fun (z : xS) => Sum.inl (48, [], [], z)))
set_option maxRecDepth 100000 in
theorem F_X8_isStillWithOne_L2_ok (a : Int32 × xS) : xTr xMs xFL xR_X8_isStillWithOne (F_X8_isStillWithOne_L2_hd a) (F_X8_isStillWithOne_L2 a) (xhx (F_X8_isStillWithOne_L2_hd) (F_X8_isStillWithOne_L2_ex)) := by
  unfold F_X8_isStillWithOne_L2
  refine xTr.ms 4 (g := (10, [(0, .ref 0), (1, .int a.1)], [.int (a.2.1 5 2), .int a.1], a.2)) rfl ?_
  refine xTr.br (g1 := (48, [(0, .ref 0), (1, .int a.1)], [], a.2)) (g2 := (13, [(0, .ref 0), (1, .int a.1)], [], a.2)) rfl (fun h1 => ?_) (fun h1 => ?_)
  · refine xTr.mk (lv1 := []) rfl rfl ?_
    exact xTr.leaf rfl
  · refine xTr.ms 3 (g := (18, [(0, .ref 0), (1, .int a.1)], [.int a.1, .ref 5], a.2)) rfl ?_
    refine xTr.callip (R' := xR_X7_isOpen) (as := [.ref 5, .int a.1]) (lv := [(0, .ref 0), (1, .int a.1)]) (rest := []) (ok_X7_isOpen a.1 a.2) rfl rfl rfl rfl rfl (fun v2 => ?_)
    refine xTr.br (g1 := (42, [(0, .ref 0), (1, .int a.1)], [], a.2)) (g2 := (24, [(0, .ref 0), (1, .int a.1)], [], a.2)) rfl (fun h3 => ?_) (fun h3 => ?_)
    · refine xTr.ms 2 (g := (2, [(0, .ref 0), (1, .int (a.1 + (1 : Int32)))], [], a.2)) rfl ?_
      exact xTr.leaf rfl
    · refine xTr.ms 3 (g := (27, [(0, .ref 0), (1, .int a.1)], [.int (-1 : Int32), .int a.1, .ref 0], a.2)) rfl ?_
      refine xTr.calli (R' := xR_X8_isStillWith) (as := [.ref 0, .int a.1, .int (-1 : Int32)]) (lv := [(0, .ref 0), (1, .int a.1)]) (rest := []) (ok_X8_isStillWith a.1 (-1 : Int32) a.2) rfl rfl rfl rfl rfl (fun v4 s4 => ?_)
      refine xTr.br (g1 := (42, [(0, .ref 0), (1, .int a.1)], [], s4)) (g2 := (33, [(0, .ref 0), (1, .int a.1)], [], s4)) rfl (fun h6 => ?_) (fun h6 => ?_)
      · refine xTr.ms 2 (g := (2, [(0, .ref 0), (1, .int (a.1 + (1 : Int32)))], [], s4)) rfl ?_
        exact xTr.leaf rfl
      · exact xTr.leaf rfl
set_option maxRecDepth 100000 in
theorem ok_X8_isStillWithOne (s : xS) : xTr xMs xFL xR_X8_isStillWithOne (Sum.inl (0, [(0, .ref 0)], [], s)) (F_X8_isStillWithOne s) (fun (y : Int32 × xS) => Sum.inr (some (.int y.1), y.2)) := by
  unfold F_X8_isStillWithOne
  refine xTr.ms 2 (g := (2, [(0, .ref 0), (1, .int (0 : Int32))], [], s)) rfl ?_
  refine xTr.bind (J := F_X8_isStillWithOne_L2_ex) (xTr.loop (hd := F_X8_isStillWithOne_L2_hd) (fun aa => F_X8_isStillWithOne_L2_ok aa) 100000 ((0 : Int32), s)) (fun b7 => ?_)
  rcases b7 with b7_0 | b7_1
  · refine xTr.ms 6 (g := (41, [(0, .ref 0), (1, .int b7_0.1)], [.int (1 : Int32)], (xu b7_0.2 41 0 b7_0.1))) rfl ?_
    exact xTr.ret rfl rfl rfl
  · refine xTr.ms 1 (g := (49, [], [.int (0 : Int32)], b7_1)) rfl ?_
    exact xTr.ret rfl rfl rfl
-- X8_isStillWithTwo
def F_X8_isStillWithTwo_L17 (l1 : Int32) (a : Int32 × xS) : Option ((Int32 × xS) ⊕ ((Int32 × xS) ⊕ (xS))) := if (a.2.1 5 2) ≤ a.1 then (some (Sum.inr (Sum.inr a.2))) else ((F_X7_isOpen l1 a.2).bind fun v3 => (if v3 = 0 then (some (Sum.inl ((a.1 + (1 : Int32)), a.2))) else ((F_X7_isOpen a.1 a.2).bind fun v5 => (if v5 = 0 then (some (Sum.inl ((a.1 + (1 : Int32)), a.2))) else ((F_X8_isStillWith l1 a.1 a.2).bind fun q8 => (if q8.1 = 0 then (some (Sum.inl ((a.1 + (1 : Int32)), q8.2))) else (some (Sum.inr (Sum.inl (a.1, q8.2))))))))))
def F_X8_isStillWithTwo_L2 (a : Int32 × xS) : Option ((Int32 × xS) ⊕ ((Int32 × Int32 × xS) ⊕ (xS))) := if (a.2.1 5 2) ≤ a.1 then (some (Sum.inr (Sum.inr a.2))) else ((xlp (F_X8_isStillWithTwo_L17 a.1) 100000 ((a.1 + (1 : Int32)), a.2)).bind (Sum.elim (fun b10_0 => (some (Sum.inr (Sum.inl (a.1, b10_0.1, b10_0.2))))) (fun b10_1 => (some (Sum.inl ((a.1 + (1 : Int32)), b10_1))))))
def F_X8_isStillWithTwo (s : xS) : Option (Int32 × xS) := (xlp (F_X8_isStillWithTwo_L2) 100000 ((0 : Int32), s)).bind (Sum.elim (fun b11_0 => (some ((1 : Int32), (xu (xu b11_0.2.2 41 0 b11_0.1) 41 1 b11_0.2.1)))) (fun b11_1 => (some ((0 : Int32), b11_1))))
def F_X8_isStillWithTwo_L2_hd (a : Int32 × xS) : xT := Sum.inl (2, [(0, .ref 0), (1, .int a.1)], [], a.2)
def F_X8_isStillWithTwo_L2_ex : ((Int32 × Int32 × xS) ⊕ (xS)) → xT := (Sum.elim (fun (z : Int32 × Int32 × xS) => Sum.inl (59, [(0, .ref 0), (1, .int z.1), (2, .int z.2.1)], [], z.2.2)) (fun (z : xS) => Sum.inl (87, [], [], z)))
def F_X8_isStillWithTwo_L17_hd (l1 : Int32) (a : Int32 × xS) : xT := Sum.inl (17, [(0, .ref 0), (1, .int l1), (2, .int a.1)], [], a.2)
def F_X8_isStillWithTwo_L17_ex (l1 : Int32) : ((Int32 × xS) ⊕ (xS)) → xT := (Sum.elim (fun (z : Int32 × xS) => Sum.inl (59, [(0, .ref 0), (1, .int l1), (2, .int z.1)], [], z.2)) (fun (z : xS) => Sum.inl (81, [(0, .ref 0), (1, .int l1)], [], z)))
set_option maxRecDepth 100000 in
theorem F_X8_isStillWithTwo_L17_ok (l1 : Int32) (a : Int32 × xS) : xTr xMs xFL xR_X8_isStillWithTwo (F_X8_isStillWithTwo_L17_hd l1 a) (F_X8_isStillWithTwo_L17 l1 a) (xhx (F_X8_isStillWithTwo_L17_hd l1) (F_X8_isStillWithTwo_L17_ex l1)) := by
  unfold F_X8_isStillWithTwo_L17
  refine xTr.ms 4 (g := (25, [(0, .ref 0), (1, .int l1), (2, .int a.1)], [.int (a.2.1 5 2), .int a.1], a.2)) rfl ?_
  refine xTr.br (g1 := (81, [(0, .ref 0), (1, .int l1), (2, .int a.1)], [], a.2)) (g2 := (28, [(0, .ref 0), (1, .int l1), (2, .int a.1)], [], a.2)) rfl (fun h2 => ?_) (fun h2 => ?_)
  · refine xTr.mk (lv1 := [(0, .ref 0), (1, .int l1)]) rfl rfl ?_
    exact xTr.leaf rfl
  · refine xTr.ms 3 (g := (33, [(0, .ref 0), (1, .int l1), (2, .int a.1)], [.int l1, .ref 5], a.2)) rfl ?_
    refine xTr.callip (R' := xR_X7_isOpen) (as := [.ref 5, .int l1]) (lv := [(0, .ref 0), (1, .int l1), (2, .int a.1)]) (rest := []) (ok_X7_isOpen l1 a.2) rfl rfl rfl rfl rfl (fun v3 => ?_)
    refine xTr.br (g1 := (75, [(0, .ref 0), (1, .int l1), (2, .int a.1)], [], a.2)) (g2 := (39, [(0, .ref 0), (1, .int l1), (2, .int a.1)], [], a.2)) rfl (fun h4 => ?_) (fun h4 => ?_)
    · refine xTr.ms 2 (g := (17, [(0, .ref 0), (1, .int l1), (2, .int (a.1 + (1 : Int32)))], [], a.2)) rfl ?_
      exact xTr.leaf rfl
    · refine xTr.ms 3 (g := (44, [(0, .ref 0), (1, .int l1), (2, .int a.1)], [.int a.1, .ref 5], a.2)) rfl ?_
      refine xTr.callip (R' := xR_X7_isOpen) (as := [.ref 5, .int a.1]) (lv := [(0, .ref 0), (1, .int l1), (2, .int a.1)]) (rest := []) (ok_X7_isOpen a.1 a.2) rfl rfl rfl rfl rfl (fun v5 => ?_)
      refine xTr.br (g1 := (75, [(0, .ref 0), (1, .int l1), (2, .int a.1)], [], a.2)) (g2 := (50, [(0, .ref 0), (1, .int l1), (2, .int a.1)], [], a.2)) rfl (fun h6 => ?_) (fun h6 => ?_)
      · refine xTr.ms 2 (g := (17, [(0, .ref 0), (1, .int l1), (2, .int (a.1 + (1 : Int32)))], [], a.2)) rfl ?_
        exact xTr.leaf rfl
      · refine xTr.ms 3 (g := (53, [(0, .ref 0), (1, .int l1), (2, .int a.1)], [.int a.1, .int l1, .ref 0], a.2)) rfl ?_
        refine xTr.calli (R' := xR_X8_isStillWith) (as := [.ref 0, .int l1, .int a.1]) (lv := [(0, .ref 0), (1, .int l1), (2, .int a.1)]) (rest := []) (ok_X8_isStillWith l1 a.1 a.2) rfl rfl rfl rfl rfl (fun v7 s7 => ?_)
        refine xTr.br (g1 := (75, [(0, .ref 0), (1, .int l1), (2, .int a.1)], [], s7)) (g2 := (59, [(0, .ref 0), (1, .int l1), (2, .int a.1)], [], s7)) rfl (fun h9 => ?_) (fun h9 => ?_)
        · refine xTr.ms 2 (g := (17, [(0, .ref 0), (1, .int l1), (2, .int (a.1 + (1 : Int32)))], [], s7)) rfl ?_
          exact xTr.leaf rfl
        · exact xTr.leaf rfl
set_option maxRecDepth 100000 in
theorem F_X8_isStillWithTwo_L2_ok (a : Int32 × xS) : xTr xMs xFL xR_X8_isStillWithTwo (F_X8_isStillWithTwo_L2_hd a) (F_X8_isStillWithTwo_L2 a) (xhx (F_X8_isStillWithTwo_L2_hd) (F_X8_isStillWithTwo_L2_ex)) := by
  unfold F_X8_isStillWithTwo_L2
  refine xTr.ms 4 (g := (10, [(0, .ref 0), (1, .int a.1)], [.int (a.2.1 5 2), .int a.1], a.2)) rfl ?_
  refine xTr.br (g1 := (87, [(0, .ref 0), (1, .int a.1)], [], a.2)) (g2 := (13, [(0, .ref 0), (1, .int a.1)], [], a.2)) rfl (fun h1 => ?_) (fun h1 => ?_)
  · refine xTr.mk (lv1 := []) rfl rfl ?_
    exact xTr.leaf rfl
  · refine xTr.ms 4 (g := (17, [(0, .ref 0), (1, .int a.1), (2, .int (a.1 + (1 : Int32)))], [], a.2)) rfl ?_
    refine xTr.bind (J := F_X8_isStillWithTwo_L17_ex a.1) (xTr.loop (hd := F_X8_isStillWithTwo_L17_hd a.1) (fun aa => F_X8_isStillWithTwo_L17_ok a.1 aa) 100000 ((a.1 + (1 : Int32)), a.2)) (fun b10 => ?_)
    rcases b10 with b10_0 | b10_1
    · exact xTr.leaf rfl
    · refine xTr.ms 2 (g := (2, [(0, .ref 0), (1, .int (a.1 + (1 : Int32)))], [], b10_1)) rfl ?_
      exact xTr.leaf rfl
set_option maxRecDepth 100000 in
theorem ok_X8_isStillWithTwo (s : xS) : xTr xMs xFL xR_X8_isStillWithTwo (Sum.inl (0, [(0, .ref 0)], [], s)) (F_X8_isStillWithTwo s) (fun (y : Int32 × xS) => Sum.inr (some (.int y.1), y.2)) := by
  unfold F_X8_isStillWithTwo
  refine xTr.ms 2 (g := (2, [(0, .ref 0), (1, .int (0 : Int32))], [], s)) rfl ?_
  refine xTr.bind (J := F_X8_isStillWithTwo_L2_ex) (xTr.loop (hd := F_X8_isStillWithTwo_L2_hd) (fun aa => F_X8_isStillWithTwo_L2_ok aa) 100000 ((0 : Int32), s)) (fun b11 => ?_)
  rcases b11 with b11_0 | b11_1
  · refine xTr.ms 11 (g := (74, [(0, .ref 0), (1, .int b11_0.1), (2, .int b11_0.2.1)], [.int (1 : Int32)], (xu (xu b11_0.2.2 41 0 b11_0.1) 41 1 b11_0.2.1))) rfl ?_
    exact xTr.ret rfl rfl rfl
  · refine xTr.ms 1 (g := (88, [], [.int (0 : Int32)], b11_1)) rfl ?_
    exact xTr.ret rfl rfl rfl
