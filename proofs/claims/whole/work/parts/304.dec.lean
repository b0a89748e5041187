-- X8_sleepAnew
def F_X8_sleepAnew (s : xS) : Option (xS) := (F_X4_takeTolls 19 s).bind fun s2 => ((F_X4_spread 19 (s2.1 5 4) s2).bind fun s4 => ((F_X3_pass 22 8 19 (255 : Int32) s4).bind fun s6 => (some (xu s6 0 15 (0 : Int32)))))
set_option maxRecDepth 100000 in
theorem ok_X8_sleepAnew (s : xS) : xTr xMs xFL xR_X8_sleepAnew (Sum.inl (0, [(0, .ref 0)], [], s)) (F_X8_sleepAnew s) (fun (y : xS) => Sum.inr (none, y)) := by
  unfold F_X8_sleepAnew
  refine xTr.ms 4 (g := (8, [(0, .ref 0)], [.ref 5, .ref 19], s)) rfl ?_
  refine xTr.callv (R' := xR_X4_takeTolls) (as := [.ref 19, .ref 5]) (lv := [(0, .ref 0)]) (rest := []) (ok_X4_takeTolls_19 s) rfl rfl rfl rfl rfl (fun s2 => ?_)
  refine xTr.ms 7 (g := (26, [(0, .ref 0)], [.int (s2.1 5 4), .ref 5, .ref 19], s2)) rfl ?_
  refine xTr.callv (R' := xR_X4_spread) (as := [.ref 19, .ref 5, .int (s2.1 5 4)]) (lv := [(0, .ref 0)]) (rest := []) (ok_X4_spread_19 (s2.1 5 4) s2) rfl rfl rfl rfl rfl (fun s4 => ?_)
  refine xTr.ms 7 (g := (44, [(0, .ref 0)], [.ref 19, .int (255 : Int32), .ref 8, .ref 22], s4)) rfl ?_
  refine xTr.callv (R' := xR_X3_pass) (as := [.ref 22, .ref 8, .int (255 : Int32), .ref 19]) (lv := [(0, .ref 0)]) (rest := []) (ok_X3_pass_22_8_19 (255 : Int32) s4) rfl rfl rfl rfl rfl (fun s6 => ?_)
  refine xTr.ms 3 (g := (52, [(0, .ref 0)], [], (xu s6 0 15 (0 : Int32)))) rfl ?_
  exact xTr.ret rfl rfl rfl
-- X8_readAnew
def F_X8_readAnew (l1 : Int32) (s : xS) : Option (xS) := if l1 = 0 then ((F_X7_readFrom s).bind fun s3 => ((F_X8_sleepAnew s3).bind fun s5 => (some s5))) else ((F_X0_readFrom s).bind fun s7 => ((F_X8_sleepAnew s7).bind fun s9 => (some s9)))
set_option maxRecDepth 100000 in
theorem ok_X8_readAnew (l1 : Int32) (s : xS) : xTr xMs xFL xR_X8_readAnew (Sum.inl (0, [(0, .ref 0), (1, .int l1)], [], s)) (F_X8_readAnew l1 s) (fun (y : xS) => Sum.inr (none, y)) := by
  unfold F_X8_readAnew
  refine xTr.ms 1 (g := (1, [(0, .ref 0), (1, .int l1)], [.int l1], s)) rfl ?_
  refine xTr.br (g1 := (4, [(0, .ref 0), (1, .int l1)], [], s)) (g2 := (18, [(0, .ref 0), (1, .int l1)], [], s)) rfl (fun h1 => ?_) (fun h1 => ?_)
  · refine xTr.ms 4 (g := (12, [(0, .ref 0)], [.ref 1, .ref 5], s)) rfl ?_
    refine xTr.callv (R' := xR_X7_readFrom) (as := [.ref 5, .ref 1]) (lv := [(0, .ref 0)]) (rest := []) (ok_X7_readFrom s) rfl rfl rfl rfl rfl (fun s3 => ?_)
    refine xTr.ms 2 (g := (30, [(0, .ref 0)], [.ref 0], s3)) rfl ?_
    refine xTr.callv (R' := xR_X8_sleepAnew) (as := [.ref 0]) (lv := [(0, .ref 0)]) (rest := []) (ok_X8_sleepAnew s3) rfl rfl rfl rfl rfl (fun s5 => ?_)
    exact xTr.ret rfl rfl rfl
  · refine xTr.ms 4 (g := (26, [(0, .ref 0)], [.ref 3, .ref 8], s)) rfl ?_
    refine xTr.callv (R' := xR_X0_readFrom) (as := [.ref 8, .ref 3]) (lv := [(0, .ref 0)]) (rest := []) (ok_X0_readFrom s) rfl rfl rfl rfl rfl (fun s7 => ?_)
    refine xTr.ms 1 (g := (30, [(0, .ref 0)], [.ref 0], s7)) rfl ?_
    refine xTr.callv (R' := xR_X8_sleepAnew) (as := [.ref 0]) (lv := [(0, .ref 0)]) (rest := []) (ok_X8_sleepAnew s7) rfl rfl rfl rfl rfl (fun s9 => ?_)
    exact xTr.ret rfl rfl rfl
-- X8_type
def F_X8_type (l1 : Int32) (l2 : Int32) (s : xS) : Option (Int32 × xS) := (F_X8_isOutside l1 (2 : Int32) s).bind fun v1 => (if v1 = 0 then ((F_X8_isOutside l2 (256 : Int32) s).bind fun v3 => (if v3 = 0 then (if l1 = 0 then ((F_X6_isFull 1 s).bind fun v6 => (if v6 = 0 then ((F_X6_append 1 l2 s).bind fun s9 => ((F_X8_readAnew l1 s9).bind fun s11 => (some ((s11.1 1 2), s11)))) else (some ((-4 : Int32), s)))) else ((F_X6_isFull 3 s).bind fun v12 => (if v12 = 0 then ((F_X6_append 3 l2 s).bind fun s15 => ((F_X8_readAnew l1 s15).bind fun s17 => (some ((s17.1 3 2), s17)))) else (some ((-4 : Int32), s))))) else (some ((-2 : Int32), s)))) else (some ((-2 : Int32), s)))
set_option maxRecDepth 100000 in
theorem ok_X8_type (l1 : Int32) (l2 : Int32) (s : xS) : xTr xMs xFL xR_X8_type (Sum.inl (0, [(0, .ref 0), (1, .int l1), (2, .int l2)], [], s)) (F_X8_type l1 l2 s) (fun (y : Int32 × xS) => Sum.inr (some (.int y.1), y.2)) := by
  unfold F_X8_type
  refine xTr.ms 2 (g := (2, [(0, .ref 0), (1, .int l1), (2, .int l2)], [.int (2 : Int32), .int l1], s)) rfl ?_
  refine xTr.callip (R' := xR_X8_isOutside) (as := [.int l1, .int (2 : Int32)]) (lv := [(0, .ref 0), (1, .int l1), (2, .int l2)]) (rest := []) (ok_X8_isOutside l1 (2 : Int32) s) rfl rfl rfl rfl rfl (fun v1 => ?_)
  refine xTr.br (g1 := (8, [(0, .ref 0), (1, .int l1), (2, .int l2)], [], s)) (g2 := (18, [(0, .ref 0), (1, .int l1), (2, .int l2)], [], s)) rfl (fun h2 => ?_) (fun h2 => ?_)
  · refine xTr.ms 2 (g := (12, [(0, .ref 0), (1, .int l1), (2, .int l2)], [.int (256 : Int32), .int l2], s)) rfl ?_
    refine xTr.callip (R' := xR_X8_isOutside) (as := [.int l2, .int (256 : Int32)]) (lv := [(0, .ref 0), (1, .int l1), (2, .int l2)]) (rest := []) (ok_X8_isOutside l2 (256 : Int32) s) rfl rfl rfl rfl rfl (fun v3 => ?_)
    refine xTr.br (g1 := (21, [(0, .ref 0), (1, .int l1), (2, .int l2)], [], s)) (g2 := (18, [(0, .ref 0), (1, .int l1), (2, .int l2)], [], s)) rfl (fun h4 => ?_) (fun h4 => ?_)
    · refine xTr.ms 2 (g := (23, [(0, .ref 0), (1, .int l1), (2, .int l2)], [.int l1, .ref 0], s)) rfl ?_
      refine xTr.cs (fun h5 => ?_) (fun h5 => ?_)
      · refine xTr.callr (R' := xR_X8_textOf) (as := [.ref 0, .int l1]) (lv := [(0, .ref 0), (1, .int l1), (2, .int l2)]) (rest := []) (F_X8_textOf_1 l1 s h5) rfl rfl rfl rfl rfl ?_
        refine xTr.ms 2 (g := (28, [(0, .ref 0), (1, .int l1), (2, .int l2), (3, .ref 1)], [.ref 1], s)) rfl ?_
        refine xTr.callip (R' := xR_X6_isFull) (as := [.ref 1]) (lv := [(0, .ref 0), (1, .int l1), (2, .int l2), (3, .ref 1)]) (rest := []) (ok_X6_isFull_1 s) rfl rfl rfl rfl rfl (fun v6 => ?_)
        refine xTr.br (g1 := (37, [(0, .ref 0), (1, .int l1), (2, .int l2), (3, .ref 1)], [], s)) (g2 := (34, [(0, .ref 0), (1, .int l1), (2, .int l2), (3, .ref 1)], [], s)) rfl (fun h7 => ?_) (fun h7 => ?_)
        · refine xTr.ms 2 (g := (39, [(0, .ref 0), (1, .int l1), (2, .int l2), (3, .ref 1)], [.int l2, .ref 1], s)) rfl ?_
          refine xTr.callv (R' := xR_X6_append) (as := [.ref 1, .int l2]) (lv := [(0, .ref 0), (1, .int l1), (2, .int l2), (3, .ref 1)]) (rest := []) (ok_X6_append_1 l2 s) rfl rfl rfl rfl rfl (fun s9 => ?_)
          refine xTr.ms 2 (g := (44, [(0, .ref 0), (1, .int l1), (2, .int l2), (3, .ref 1)], [.int l1, .ref 0], s9)) rfl ?_
          refine xTr.callv (R' := xR_X8_readAnew) (as := [.ref 0, .int l1]) (lv := [(0, .ref 0), (1, .int l1), (2, .int l2), (3, .ref 1)]) (rest := []) (ok_X8_readAnew l1 s9) rfl rfl rfl rfl rfl (fun s11 => ?_)
          refine xTr.ms 2 (g := (51, [(0, .ref 0), (1, .int l1), (2, .int l2), (3, .ref 1)], [.int (s11.1 1 2)], s11)) rfl ?_
          exact xTr.ret rfl rfl rfl
        · refine xTr.ms 1 (g := (36, [], [.int (-4 : Int32)], s)) rfl ?_
          exact xTr.ret rfl rfl rfl
      · refine xTr.callr (R' := xR_X8_textOf) (as := [.ref 0, .int l1]) (lv := [(0, .ref 0), (1, .int l1), (2, .int l2)]) (rest := []) (F_X8_textOf_3 l1 s h5) rfl rfl rfl rfl rfl ?_
        refine xTr.ms 2 (g := (28, [(0, .ref 0), (1, .int l1), (2, .int l2), (3, .ref 3)], [.ref 3], s)) rfl ?_
        refine xTr.callip (R' := xR_X6_isFull) (as := [.ref 3]) (lv := [(0, .ref 0), (1, .int l1), (2, .int l2), (3, .ref 3)]) (rest := []) (ok_X6_isFull_3 s) rfl rfl rfl rfl rfl (fun v12 => ?_)
        refine xTr.br (g1 := (37, [(0, .ref 0), (1, .int l1), (2, .int l2), (3, .ref 3)], [], s)) (g2 := (34, [(0, .ref 0), (1, .int l1), (2, .int l2), (3, .ref 3)], [], s)) rfl (fun h13 => ?_) (fun h13 => ?_)
        · refine xTr.ms 2 (g := (39, [(0, .ref 0), (1, .int l1), (2, .int l2), (3, .ref 3)], [.int l2, .ref 3], s)) rfl ?_
          refine xTr.callv (R' := xR_X6_append) (as := [.ref 3, .int l2]) (lv := [(0, .ref 0), (1, .int l1), (2, .int l2), (3, .ref 3)]) (rest := []) (ok_X6_append_3 l2 s) rfl rfl rfl rfl rfl (fun s15 => ?_)
          refine xTr.ms 2 (g := (44, [(0, .ref 0), (1, .int l1), (2, .int l2), (3, .ref 3)], [.int l1, .ref 0], s15)) rfl ?_
          refine xTr.callv (R' := xR_X8_readAnew) (as := [.ref 0, .int l1]) (lv := [(0, .ref 0), (1, .int l1), (2, .int l2), (3, .ref 3)]) (rest := []) (ok_X8_readAnew l1 s15) rfl rfl rfl rfl rfl (fun s17 => ?_)
          refine xTr.ms 2 (g := (51, [(0, .ref 0), (1, .int l1), (2, .int l2), (3, .ref 3)], [.int (s17.1 3 2)], s17)) rfl ?_
          exact xTr.ret rfl rfl rfl
        · refine xTr.ms 1 (g := (36, [], [.int (-4 : Int32)], s)) rfl ?_
          exact xTr.ret rfl rfl rfl
    · refine xTr.ms 1 (g := (20, [], [.int (-2 : Int32)], s)) rfl ?_
      exact xTr.ret rfl rfl rfl
  · refine xTr.ms 1 (g := (20, [], [.int (-2 : Int32)], s)) rfl ?_
    exact xTr.ret rfl rfl rfl
-- X8_wipe
def F_X8_wipe (l1 : Int32) (s : xS) : Option (Int32 × xS) := (F_X8_isOutside l1 (2 : Int32) s).bind fun v1 => (if v1 = 0 then (if l1 = 0 then ((F_X8_readAnew l1 (xu s 1 2 (0 : Int32))).bind fun s5 => (some ((s.1 1 2), s5))) else ((F_X8_readAnew l1 (xu s 3 2 (0 : Int32))).bind fun s7 => (some ((s.1 3 2), s7)))) else (some ((-2 : Int32), s)))
set_option maxRecDepth 100000 in
theorem ok_X8_wipe (l1 : Int32) (s : xS) : xTr xMs xFL xR_X8_wipe (Sum.inl (0, [(0, .ref 0), (1, .int l1)], [], s)) (F_X8_wipe l1 s) (fun (y : Int32 × xS) => Sum.inr (some (.int y.1), y.2)) := by
  unfold F_X8_wipe
  refine xTr.ms 2 (g := (2, [(0, .ref 0), (1, .int l1)], [.int (2 : Int32), .int l1], s)) rfl ?_
  refine xTr.callip (R' := xR_X8_isOutside) (as := [.int l1, .int (2 : Int32)]) (lv := [(0, .ref 0), (1, .int l1)]) (rest := []) (ok_X8_isOutside l1 (2 : Int32) s) rfl rfl rfl rfl rfl (fun v1 => ?_)
  refine xTr.br (g1 := (11, [(0, .ref 0), (1, .int l1)], [], s)) (g2 := (8, [(0, .ref 0), (1, .int l1)], [], s)) rfl (fun h2 => ?_) (fun h2 => ?_)
  · refine xTr.ms 2 (g := (13, [(0, .ref 0), (1, .int l1)], [.int l1, .ref 0], s)) rfl ?_
    refine xTr.cs (fun h3 => ?_) (fun h3 => ?_)
    · refine xTr.callr (R' := xR_X8_textOf) (as := [.ref 0, .int l1]) (lv := [(0, .ref 0), (1, .int l1)]) (rest := []) (F_X8_textOf_1 l1 s h3) rfl rfl rfl rfl rfl ?_
      refine xTr.ms 9 (g := (29, [(0, .ref 0), (1, .int l1), (2, .ref 1), (3, .int (s.1 1 2))], [.int l1, .ref 0], (xu s 1 2 (0 : Int32)))) rfl ?_
      refine xTr.callv (R' := xR_X8_readAnew) (as := [.ref 0, .int l1]) (lv := [(0, .ref 0), (1, .int l1), (2, .ref 1), (3, .int (s.1 1 2))]) (rest := []) (ok_X8_readAnew l1 (xu s 1 2 (0 : Int32))) rfl rfl rfl rfl rfl (fun s5 => ?_)
      refine xTr.ms 1 (g := (33, [(0, .ref 0), (1, .int l1), (2, .ref 1), (3, .int (s.1 1 2))], [.int (s.1 1 2)], s5)) rfl ?_
      exact xTr.ret rfl rfl rfl
    · refine xTr.callr (R' := xR_X8_textOf) (as := [.ref 0, .int l1]) (lv := [(0, .ref 0), (1, .int l1)]) (rest := []) (F_X8_textOf_3 l1 s h3) rfl rfl rfl rfl rfl ?_
      refine xTr.ms 9 (g := (29, [(0, .ref 0), (1, .int l1), (2, .ref 3), (3, .int (s.1 3 2))], [.int l1, .ref 0], (xu s 3 2 (0 : Int32)))) rfl ?_
      refine xTr.callv (R' := xR_X8_readAnew) (as := [.ref 0, .int l1]) (lv := [(0, .ref 0), (1, .int l1), (2, .ref 3), (3, .int (s.1 3 2))]) (rest := []) (ok_X8_readAnew l1 (xu s 3 2 (0 : Int32))) rfl rfl rfl rfl rfl (fun s7 => ?_)
      refine xTr.ms 1 (g := (33, [(0, .ref 0), (1, .int l1), (2, .ref 3), (3, .int (s.1 3 2))], [.int (s.1 3 2)], s7)) rfl ?_
      exact xTr.ret rfl rfl rfl
  · refine xTr.ms 1 (g := (10, [], [.int (-2 : Int32)], s)) rfl ?_
    exact xTr.ret rfl rfl rfl
-- X8_undo
def F_X8_undo (l1 : Int32) (s : xS) : Option (Int32 × xS) := (F_X8_isOutside l1 (2 : Int32) s).bind fun v1 => (if v1 = 0 then (if l1 = 0 then (if (s.1 1 2) = 0 then (some ((-3 : Int32), s)) else ((F_X8_readAnew l1 (xu s 1 2 ((s.1 1 2) - (1 : Int32)))).bind fun s6 => (some ((s6.1 1 2), s6)))) else (if (s.1 3 2) = 0 then (some ((-3 : Int32), s)) else ((F_X8_readAnew l1 (xu s 3 2 ((s.1 3 2) - (1 : Int32)))).bind fun s9 => (some ((s9.1 3 2), s9))))) else (some ((-2 : Int32), s)))
set_option maxRecDepth 100000 in
theorem ok_X8_undo (l1 : Int32) (s : xS) : xTr xMs xFL xR_X8_undo (Sum.inl (0, [(0, .ref 0), (1, .int l1)], [], s)) (F_X8_undo l1 s) (fun (y : Int32 × xS) => Sum.inr (some (.int y.1), y.2)) := by
  unfold F_X8_undo
  refine xTr.ms 2 (g := (2, [(0, .ref 0), (1, .int l1)], [.int (2 : Int32), .int l1], s)) rfl ?_
  refine xTr.callip (R' := xR_X8_isOutside) (as := [.int l1, .int (2 : Int32)]) (lv := [(0, .ref 0), (1, .int l1)]) (rest := []) (ok_X8_isOutside l1 (2 : Int32) s) rfl rfl rfl rfl rfl (fun v1 => ?_)
  refine xTr.br (g1 := (11, [(0, .ref 0), (1, .int l1)], [], s)) (g2 := (8, [(0, .ref 0), (1, .int l1)], [], s)) rfl (fun h2 => ?_) (fun h2 => ?_)
  · refine xTr.ms 2 (g := (13, [(0, .ref 0), (1, .int l1)], [.int l1, .ref 0], s)) rfl ?_
    refine xTr.cs (fun h3 => ?_) (fun h3 => ?_)
    · refine xTr.callr (R' := xR_X8_textOf) (as := [.ref 0, .int l1]) (lv := [(0, .ref 0), (1, .int l1)]) (rest := []) (F_X8_textOf_1 l1 s h3) rfl rfl rfl rfl rfl ?_
      refine xTr.ms 3 (g := (21, [(0, .ref 0), (1, .int l1), (2, .ref 1)], [.int (s.1 1 2)], s)) rfl ?_
      refine xTr.br (g1 := (24, [(0, .ref 0), (1, .int l1), (2, .ref 1)], [], s)) (g2 := (27, [(0, .ref 0), (1, .int l1), (2, .ref 1)], [], s)) rfl (fun h4 => ?_) (fun h4 => ?_)
      · refine xTr.ms 1 (g := (26, [], [.int (-3 : Int32)], s)) rfl ?_
        exact xTr.ret rfl rfl rfl
      · refine xTr.ms 8 (g := (39, [(0, .ref 0), (1, .int l1), (2, .ref 1)], [.int l1, .ref 0], (xu s 1 2 ((s.1 1 2) - (1 : Int32))))) rfl ?_
        refine xTr.callv (R' := xR_X8_readAnew) (as := [.ref 0, .int l1]) (lv := [(0, .ref 0), (1, .int l1), (2, .ref 1)]) (rest := []) (ok_X8_readAnew l1 (xu s 1 2 ((s.1 1 2) - (1 : Int32)))) rfl rfl rfl rfl rfl (fun s6 => ?_)
        refine xTr.ms 2 (g := (46, [(0, .ref 0), (1, .int l1), (2, .ref 1)], [.int (s6.1 1 2)], s6)) rfl ?_
        exact xTr.ret rfl rfl rfl
    · refine xTr.callr (R' := xR_X8_textOf) (as := [.ref 0, .int l1]) (lv := [(0, .ref 0), (1, .int l1)]) (rest := []) (F_X8_textOf_3 l1 s h3) rfl rfl rfl rfl rfl ?_
      refine xTr.ms 3 (g := (21, [(0, .ref 0), (1, .int l1), (2, .ref 3)], [.int (s.1 3 2)], s)) rfl ?_
      refine xTr.br (g1 := (24, [(0, .ref 0), (1, .int l1), (2, .ref 3)], [], s)) (g2 := (27, [(0, .ref 0), (1, .int l1), (2, .ref 3)], [], s)) rfl (fun h7 => ?_) (fun h7 => ?_)
      · refine xTr.ms 1 (g := (26, [], [.int (-3 : Int32)], s)) rfl ?_
        exact xTr.ret rfl rfl rfl
      · refine xTr.ms 8 (g := (39, [(0, .ref 0), (1, .int l1), (2, .ref 3)], [.int l1, .ref 0], (xu s 3 2 ((s.1 3 2) - (1 : Int32))))) rfl ?_
        refine xTr.callv (R' := xR_X8_readAnew) (as := [.ref 0, .int l1]) (lv := [(0, .ref 0), (1, .int l1), (2, .ref 3)]) (rest := []) (ok_X8_readAnew l1 (xu s 3 2 ((s.1 3 2) - (1 : Int32)))) rfl rfl rfl rfl rfl (fun s9 => ?_)
        refine xTr.ms 2 (g := (46, [(0, .ref 0), (1, .int l1), (2, .ref 3)], [.int (s9.1 3 2)], s9)) rfl ?_
        exact xTr.ret rfl rfl rfl
  · refine xTr.ms 1 (g := (10, [], [.int (-2 : Int32)], s)) rfl ?_
    exact xTr.ret rfl rfl rfl
-- X8_fault
def F_X8_fault (l1 : Int32) (s : xS) : Option (Int32) := (F_X8_isOutside l1 (2 : Int32) s).bind fun v1 => (if v1 = 0 then (if l1 = 0 then (some (s.1 5 5)) else (some (s.1 8 4))) else (some (-2 : Int32)))
set_option maxRecDepth 100000 in
theorem ok_X8_fault (l1 : Int32) (s : xS) : xTr xMs xFL xR_X8_fault (Sum.inl (0, [(0, .ref 0), (1, .int l1)], [], s)) (F_X8_fault l1 s) (fun (y : Int32) => Sum.inr (some (.int y), s)) := by
  unfold F_X8_fault
  refine xTr.ms 2 (g := (2, [(0, .ref 0), (1, .int l1)], [.int (2 : Int32), .int l1], s)) rfl ?_
  refine xTr.callip (R' := xR_X8_isOutside) (as := [.int l1, .int (2 : Int32)]) (lv := [(0, .ref 0), (1, .int l1)]) (rest := []) (ok_X8_isOutside l1 (2 : Int32) s) rfl rfl rfl rfl rfl (fun v1 => ?_)
  refine xTr.br (g1 := (11, [(0, .ref 0), (1, .int l1)], [], s)) (g2 := (8, [(0, .ref 0), (1, .int l1)], [], s)) rfl (fun h2 => ?_) (fun h2 => ?_)
  · refine xTr.ms 1 (g := (12, [(0, .ref 0), (1, .int l1)], [.int l1], s)) rfl ?_
    refine xTr.br (g1 := (15, [(0, .ref 0), (1, .int l1)], [], s)) (g2 := (25, [(0, .ref 0), (1, .int l1)], [], s)) rfl (fun h3 => ?_) (fun h3 => ?_)
    · refine xTr.ms 4 (g := (32, [(0, .ref 0)], [.int (s.1 5 5)], s)) rfl ?_
      exact xTr.ret rfl rfl rfl
    · refine xTr.ms 3 (g := (32, [(0, .ref 0)], [.int (s.1 8 4)], s)) rfl ?_
      exact xTr.ret rfl rfl rfl
  · refine xTr.ms 1 (g := (10, [], [.int (-2 : Int32)], s)) rfl ?_
    exact xTr.ret rfl rfl rfl
-- X8_cell
def F_X8_cell (l1 : Int32) (s : xS) : Option (Int32) := (F_X8_isOutside l1 (36 : Int32) s).bind fun v1 => (if v1 = 0 then ((F_X7_has l1 s).bind fun v3 => (if v3 = 0 then (some (-1 : Int32)) else (if l1 < 0 ∨ 36 ≤ l1.toNatClampNeg then none else (some (s.1 6 l1.toNatClampNeg))))) else (some (-2 : Int32)))
set_option maxRecDepth 100000 in
theorem ok_X8_cell (l1 : Int32) (s : xS) : xTr xMs xFL xR_X8_cell (Sum.inl (0, [(0, .ref 0), (1, .int l1)], [], s)) (F_X8_cell l1 s) (fun (y : Int32) => Sum.inr (some (.int y), s)) := by
  unfold F_X8_cell
  refine xTr.ms 2 (g := (3, [(0, .ref 0), (1, .int l1)], [.int (36 : Int32), .int l1], s)) rfl ?_
  refine xTr.callip (R' := xR_X8_isOutside) (as := [.int l1, .int (36 : Int32)]) (lv := [(0, .ref 0), (1, .int l1)]) (rest := []) (ok_X8_isOutside l1 (36 : Int32) s) rfl rfl rfl rfl rfl (fun v1 => ?_)
  refine xTr.br (g1 := (12, [(0, .ref 0), (1, .int l1)], [], s)) (g2 := (9, [(0, .ref 0), (1, .int l1)], [], s)) rfl (fun h2 => ?_) (fun h2 => ?_)
  · refine xTr.ms 3 (g := (17, [(0, .ref 0), (1, .int l1)], [.int l1, .ref 5], s)) rfl ?_
    refine xTr.callip (R' := xR_X7_has) (as := [.ref 5, .int l1]) (lv := [(0, .ref 0), (1, .int l1)]) (rest := []) (ok_X7_has l1 s) rfl rfl rfl rfl rfl (fun v3 => ?_)
    refine xTr.br (g1 := (35, [(0, .ref 0), (1, .int l1)], [], s)) (g2 := (23, [(0, .ref 0), (1, .int l1)], [], s)) rfl (fun h4 => ?_) (fun h4 => ?_)
    · refine xTr.ms 1 (g := (36, [], [.int (-1 : Int32)], s)) rfl ?_
      exact xTr.ret rfl rfl rfl
    · refine xTr.ms 4 (g := (31, [(0, .ref 0), (1, .int l1)], [.int l1, .ref 6], s)) rfl ?_
      refine xTr.ck (g := (32, [(0, .ref 0), (1, .int l1)], [.int (s.1 6 l1.toNatClampNeg)], s)) rfl (fun h5 => ?_)
      refine xTr.ms 1 (g := (36, [(0, .ref 0), (1, .int l1)], [.int (s.1 6 l1.toNatClampNeg)], s)) rfl ?_
      exact xTr.ret rfl rfl rfl
  · refine xTr.ms 1 (g := (11, [], [.int (-2 : Int32)], s)) rfl ?_
    exact xTr.ret rfl rfl rfl
-- X8_bed
def F_X8_bed (s : xS) : Option (Int32) := some (s.1 5 4)
set_option maxRecDepth 100000 in
theorem ok_X8_bed (s : xS) : xTr xMs xFL xR_X8_bed (Sum.inl (0, [(0, .ref 0)], [], s)) (F_X8_bed s) (fun (y : Int32) => Sum.inr (some (.int y), s)) := by
  unfold F_X8_bed
  refine xTr.ms 3 (g := (7, [(0, .ref 0)], [.int (s.1 5 4)], s)) rfl ?_
  exact xTr.ret rfl rfl rfl
-- X8_isNoDeed
def F_X8_isNoDeed (l1 : Int32) (s : xS) : Option (Int32) := (F_X8_isOutside l1 (s.1 8 3) s).bind fun v1 => (if v1 = 0 ∨ v1 = 1 then some v1 else none)
set_option maxRecDepth 100000 in
theorem ok_X8_isNoDeed (l1 : Int32) (s : xS) : xTr xMs xFL xR_X8_isNoDeed (Sum.inl (0, [(0, .ref 0), (1, .int l1)], [], s)) (F_X8_isNoDeed l1 s) (fun (y : Int32) => Sum.inr (some (.int y), s)) := by
  unfold F_X8_isNoDeed
  refine xTr.ms 4 (g := (8, [(0, .ref 0), (1, .int l1)], [.int (s.1 8 3), .int l1], s)) rfl ?_
  refine xTr.callip (R' := xR_X8_isOutside) (as := [.int l1, .int (s.1 8 3)]) (lv := [(0, .ref 0), (1, .int l1)]) (rest := []) (ok_X8_isOutside l1 (s.1 8 3) s) rfl rfl rfl rfl rfl (fun v1 => ?_)
  exact xTr.rtz rfl rfl rfl
-- X8_deed
def F_X8_deed (l1 : Int32) (l2 : Int32) (s : xS) : Option (Int32) := (F_X8_isNoDeed l1 s).bind fun v1 => (if v1 = 0 then ((F_X8_isOutside l2 (3 : Int32) s).bind fun v3 => (if v3 = 0 then (if l2 = 0 then (if l1 < 0 ∨ 8 ≤ l1.toNatClampNeg then none else (some (s.1 9 l1.toNatClampNeg))) else (if l2 = (1 : Int32) then (if l1 < 0 ∨ 8 ≤ l1.toNatClampNeg then none else (some (s.1 10 l1.toNatClampNeg))) else (if l1 < 0 ∨ 8 ≤ l1.toNatClampNeg then none else (some (s.1 11 l1.toNatClampNeg))))) else (some (-2 : Int32)))) else (some (-2 : Int32)))
set_option maxRecDepth 100000 in
theorem ok_X8_deed (l1 : Int32) (l2 : Int32) (s : xS) : xTr xMs xFL xR_X8_deed (Sum.inl (0, [(0, .ref 0), (1, .int l1), (2, .int l2)], [], s)) (F_X8_deed l1 l2 s) (fun (y : Int32) => Sum.inr (some (.int y), s)) := by
  unfold F_X8_deed
  refine xTr.ms 2 (g := (2, [(0, .ref 0), (1, .int l1), (2, .int l2)], [.int l1, .ref 0], s)) rfl ?_
  refine xTr.callip (R' := xR_X8_isNoDeed) (as := [.ref 0, .int l1]) (lv := [(0, .ref 0), (1, .int l1), (2, .int l2)]) (rest := []) (ok_X8_isNoDeed l1 s) rfl rfl rfl rfl rfl (fun v1 => ?_)
  refine xTr.br (g1 := (8, [(0, .ref 0), (1, .int l1), (2, .int l2)], [], s)) (g2 := (16, [(0, .ref 0), (1, .int l1), (2, .int l2)], [], s)) rfl (fun h2 => ?_) (fun h2 => ?_)
  · refine xTr.ms 2 (g := (10, [(0, .ref 0), (1, .int l1), (2, .int l2)], [.int (3 : Int32), .int l2], s)) rfl ?_
    refine xTr.callip (R' := xR_X8_isOutside) (as := [.int l2, .int (3 : Int32)]) (lv := [(0, .ref 0), (1, .int l1), (2, .int l2)]) (rest := []) (ok_X8_isOutside l2 (3 : Int32) s) rfl rfl rfl rfl rfl (fun v3 => ?_)
    refine xTr.br (g1 := (19, [(0, .ref 0), (1, .int l1), (2, .int l2)], [], s)) (g2 := (16, [(0, .ref 0), (1, .int l1), (2, .int l2)], [], s)) rfl (fun h4 => ?_) (fun h4 => ?_)
    · refine xTr.ms 1 (g := (20, [(0, .ref 0), (1, .int l1), (2, .int l2)], [.int l2], s)) rfl ?_
      refine xTr.br (g1 := (23, [(0, .ref 0), (1, .int l1), (2, .int l2)], [], s)) (g2 := (33, [(0, .ref 0), (1, .int l1), (2, .int l2)], [], s)) rfl (fun h5 => ?_) (fun h5 => ?_)
      · refine xTr.ms 4 (g := (31, [(0, .ref 0), (1, .int l1)], [.int l1, .ref 9], s)) rfl ?_
        refine xTr.ck (g := (32, [(0, .ref 0), (1, .int l1)], [.int (s.1 9 l1.toNatClampNeg)], s)) rfl (fun h6 => ?_)
        exact xTr.ret rfl rfl rfl
      · refine xTr.ms 2 (g := (35, [(0, .ref 0), (1, .int l1), (2, .int l2)], [.int (1 : Int32), .int l2], s)) rfl ?_
        refine xTr.br (g1 := (38, [(0, .ref 0), (1, .int l1), (2, .int l2)], [], s)) (g2 := (50, [(0, .ref 0), (1, .int l1), (2, .int l2)], [], s)) rfl (fun h7 => ?_) (fun h7 => ?_)
        · refine xTr.ms 4 (g := (46, [(0, .ref 0), (1, .int l1)], [.int l1, .ref 10], s)) rfl ?_
          refine xTr.ck (g := (47, [(0, .ref 0), (1, .int l1)], [.int (s.1 10 l1.toNatClampNeg)], s)) rfl (fun h8 => ?_)
          refine xTr.ms 1 (g := (59, [(0, .ref 0), (1, .int l1)], [.int (s.1 10 l1.toNatClampNeg)], s)) rfl ?_
          exact xTr.ret rfl rfl rfl
        · refine xTr.ms 4 (g := (58, [(0, .ref 0), (1, .int l1)], [.int l1, .ref 11], s)) rfl ?_
          refine xTr.ck (g := (59, [(0, .ref 0), (1, .int l1)], [.int (s.1 11 l1.toNatClampNeg)], s)) rfl (fun h9 => ?_)
          exact xTr.ret rfl rfl rfl
    · refine xTr.ms 1 (g := (18, [], [.int (-2 : Int32)], s)) rfl ?_
      exact xTr.ret rfl rfl rfl
  · refine xTr.ms 1 (g := (18, [], [.int (-2 : Int32)], s)) rfl ?_
    exact xTr.ret rfl rfl rfl
-- X8_set
def F_X8_set_J52 (l1 : Int32) (l2 : Int32) (t0 : Int32) (js : xS) : Option (Int32 × xS) := if l1 = 0 then ((F_X8_sleepAnew (xu js 12 1 l2)).bind fun s9 => (some (t0, s9))) else ((F_X8_sleepAnew (xu js 12 2 l2)).bind fun s11 => (some (t0, s11)))
def F_X8_set_J20 (l1 : Int32) (l2 : Int32) (t0 : Int32) (t1 : Int32) (js : xS) : Option (Int32 × xS) := (F_X8_isOutside t0 (t1 + (1 : Int32)) js).bind fun v4 => (if v4 = 0 then (if l1 = 0 then (F_X8_set_J52 l1 l2 (js.1 12 1) js) else (F_X8_set_J52 l1 l2 (js.1 12 2) js)) else (some ((-2 : Int32), js)))
def F_X8_set (l1 : Int32) (l2 : Int32) (s : xS) : Option (Int32 × xS) := (F_X8_isOutside l1 (2 : Int32) s).bind fun v1 => (if v1 = 0 then (if l1 = 0 then (F_X8_set_J20 l1 l2 l2 (30 : Int32) s) else (F_X8_set_J20 l1 l2 l2 (20 : Int32) s)) else (some ((-2 : Int32), s)))
set_option maxRecDepth 100000 in
theorem F_X8_set_J52_ok (l1 : Int32) (l2 : Int32) (t0 : Int32) (js : xS) : xTr xMs xFL xR_X8_set (Sum.inl (52, [(0, .ref 0), (1, .int l1), (2, .int l2)], [.int t0], js)) (F_X8_set_J52 l1 l2 t0 js) (fun (y : Int32 × xS) => Sum.inr (some (.int y.1), y.2)) := by
  unfold F_X8_set_J52
  refine xTr.ms 2 (g := (54, [(0, .ref 0), (1, .int l1), (2, .int l2), (3, .int t0)], [.int l1], js)) rfl ?_
  refine xTr.br (g1 := (57, [(0, .ref 0), (1, .int l1), (2, .int l2), (3, .int t0)], [], js)) (g2 := (68, [(0, .ref 0), (1, .int l1), (2, .int l2), (3, .int t0)], [], js)) rfl (fun h7 => ?_) (fun h7 => ?_)
  · refine xTr.ms 6 (g := (77, [(0, .ref 0), (3, .int t0)], [.ref 0], (xu js 12 1 l2))) rfl ?_
    refine xTr.callv (R' := xR_X8_sleepAnew) (as := [.ref 0]) (lv := [(0, .ref 0), (3, .int t0)]) (rest := []) (ok_X8_sleepAnew (xu js 12 1 l2)) rfl rfl rfl rfl rfl (fun s9 => ?_)
    refine xTr.ms 1 (g := (81, [(0, .ref 0), (3, .int t0)], [.int t0], s9)) rfl ?_
    exact xTr.ret rfl rfl rfl
  · refine xTr.ms 5 (g := (77, [(0, .ref 0), (3, .int t0)], [.ref 0], (xu js 12 2 l2))) rfl ?_
    refine xTr.callv (R' := xR_X8_sleepAnew) (as := [.ref 0]) (lv := [(0, .ref 0), (3, .int t0)]) (rest := []) (ok_X8_sleepAnew (xu js 12 2 l2)) rfl rfl rfl rfl rfl (fun s11 => ?_)
    refine xTr.ms 1 (g := (81, [(0, .ref 0), (3, .int t0)], [.int t0], s11)) rfl ?_
    exact xTr.ret rfl rfl rfl
set_option maxRecDepth 100000 in
theorem F_X8_set_J20_ok (l1 : Int32) (l2 : Int32) (t0 : Int32) (t1 : Int32) (js : xS) : xTr xMs xFL xR_X8_set (Sum.inl (20, [(0, .ref 0), (1, .int l1), (2, .int l2)], [.int t1, .int t0], js)) (F_X8_set_J20 l1 l2 t0 t1 js) (fun (y : Int32 × xS) => Sum.inr (some (.int y.1), y.2)) := by
  unfold F_X8_set_J20
  refine xTr.ms 2 (g := (22, [(0, .ref 0), (1, .int l1), (2, .int l2)], [.int (t1 + (1 : Int32)), .int t0], js)) rfl ?_
  refine xTr.callip (R' := xR_X8_isOutside) (as := [.int t0, .int (t1 + (1 : Int32))]) (lv := [(0, .ref 0), (1, .int l1), (2, .int l2)]) (rest := []) (ok_X8_isOutside t0 (t1 + (1 : Int32)) js) rfl rfl rfl rfl rfl (fun v4 => ?_)
  refine xTr.br (g1 := (31, [(0, .ref 0), (1, .int l1), (2, .int l2)], [], js)) (g2 := (28, [(0, .ref 0), (1, .int l1), (2, .int l2)], [], js)) rfl (fun h5 => ?_) (fun h5 => ?_)
  · refine xTr.ms 1 (g := (32, [(0, .ref 0), (1, .int l1), (2, .int l2)], [.int l1], js)) rfl ?_
    refine xTr.br (g1 := (35, [(0, .ref 0), (1, .int l1), (2, .int l2)], [], js)) (g2 := (45, [(0, .ref 0), (1, .int l1), (2, .int l2)], [], js)) rfl (fun h6 => ?_) (fun h6 => ?_)
    · refine xTr.ms 4 (g := (52, [(0, .ref 0), (1, .int l1), (2, .int l2)], [.int (js.1 12 1)], js)) rfl ?_
      exact F_X8_set_J52_ok l1 l2 (js.1 12 1) js
    · refine xTr.ms 3 (g := (52, [(0, .ref 0), (1, .int l1), (2, .int l2)], [.int (js.1 12 2)], js)) rfl ?_
      exact F_X8_set_J52_ok l1 l2 (js.1 12 2) js
  · refine xTr.ms 1 (g := (30, [], [.int (-2 : Int32)], js)) rfl ?_
    exact xTr.ret rfl rfl rfl
set_option maxRecDepth 100000 in
theorem ok_X8_set (l1 : Int32) (l2 : Int32) (s : xS) : xTr xMs xFL xR_X8_set (Sum.inl (0, [(0, .ref 0), (1, .int l1), (2, .int l2)], [], s)) (F_X8_set l1 l2 s) (fun (y : Int32 × xS) => Sum.inr (some (.int y.1), y.2)) := by
  unfold F_X8_set
  refine xTr.ms 2 (g := (2, [(0, .ref 0), (1, .int l1), (2, .int l2)], [.int (2 : Int32), .int l1], s)) rfl ?_
  refine xTr.callip (R' := xR_X8_isOutside) (as := [.int l1, .int (2 : Int32)]) (lv := [(0, .ref 0), (1, .int l1), (2, .int l2)]) (rest := []) (ok_X8_isOutside l1 (2 : Int32) s) rfl rfl rfl rfl rfl (fun v1 => ?_)
  refine xTr.br (g1 := (8, [(0, .ref 0), (1, .int l1), (2, .int l2)], [], s)) (g2 := (28, [(0, .ref 0), (1, .int l1), (2, .int l2)], [], s)) rfl (fun h2 => ?_) (fun h2 => ?_)
  · refine xTr.ms 2 (g := (10, [(0, .ref 0), (1, .int l1), (2, .int l2)], [.int l1, .int l2], s)) rfl ?_
    refine xTr.br (g1 := (13, [(0, .ref 0), (1, .int l1), (2, .int l2)], [.int l2], s)) (g2 := (18, [(0, .ref 0), (1, .int l1), (2, .int l2)], [.int l2], s)) rfl (fun h3 => ?_) (fun h3 => ?_)
    · refine xTr.ms 2 (g := (20, [(0, .ref 0), (1, .int l1), (2, .int l2)], [.int (30 : Int32), .int l2], s)) rfl ?_
      exact F_X8_set_J20_ok l1 l2 l2 (30 : Int32) s
    · refine xTr.ms 1 (g := (20, [(0, .ref 0), (1, .int l1), (2, .int l2)], [.int (20 : Int32), .int l2], s)) rfl ?_
      exact F_X8_set_J20_ok l1 l2 l2 (20 : Int32) s
  · refine xTr.ms 1 (g := (30, [], [.int (-2 : Int32)], s)) rfl ?_
    exact xTr.ret rfl rfl rfl
-- X8_isNoThunder
def F_X8_isNoThunder (l0 : Int32) (l1 : Int32) (s : xS) : Option (Int32) := (F_X8_isOutside l0 (10 : Int32) s).bind fun v1 => (if v1 = 0 then (if l1 < (1 : Int32) then (some (1 : Int32)) else (if l1 ≤ (9 : Int32) then (some (0 : Int32)) else (some (1 : Int32)))) else (some (1 : Int32)))
set_option maxRecDepth 100000 in
theorem ok_X8_isNoThunder (l0 : Int32) (l1 : Int32) (s : xS) : xTr xMs xFL xR_X8_isNoThunder (Sum.inl (0, [(0, .int l0), (1, .int l1)], [], s)) (F_X8_isNoThunder l0 l1 s) (fun (y : Int32) => Sum.inr (some (.int y), s)) := by
  unfold F_X8_isNoThunder
  refine xTr.ms 2 (g := (3, [(0, .int l0), (1, .int l1)], [.int (10 : Int32), .int l0], s)) rfl ?_
  refine xTr.callip (R' := xR_X8_isOutside) (as := [.int l0, .int (10 : Int32)]) (lv := [(0, .int l0), (1, .int l1)]) (rest := []) (ok_X8_isOutside l0 (10 : Int32) s) rfl rfl rfl rfl rfl (fun v1 => ?_)
  refine xTr.br (g1 := (9, [(0, .int l0), (1, .int l1)], [], s)) (g2 := (20, [(0, .int l0), (1, .int l1)], [], s)) rfl (fun h2 => ?_) (fun h2 => ?_)
  · refine xTr.ms 2 (g := (11, [(1, .int l1)], [.int (1 : Int32), .int l1], s)) rfl ?_
    refine xTr.br (g1 := (20, [(1, .int l1)], [], s)) (g2 := (14, [(1, .int l1)], [], s)) rfl (fun h3 => ?_) (fun h3 => ?_)
    · refine xTr.ms 2 (g := (25, [], [.int (1 : Int32)], s)) rfl ?_
      exact xTr.ret rfl rfl rfl
    · refine xTr.ms 2 (g := (17, [(1, .int l1)], [.int (9 : Int32), .int l1], s)) rfl ?_
      refine xTr.br (g1 := (24, [(1, .int l1)], [], s)) (g2 := (20, [(1, .int l1)], [], s)) rfl (fun h4 => ?_) (fun h4 => ?_)
      · refine xTr.ms 1 (g := (25, [], [.int (0 : Int32)], s)) rfl ?_
        exact xTr.ret rfl rfl rfl
      · refine xTr.ms 2 (g := (25, [], [.int (1 : Int32)], s)) rfl ?_
        exact xTr.ret rfl rfl rfl
  · refine xTr.ms 2 (g := (25, [], [.int (1 : Int32)], s)) rfl ?_
    exact xTr.ret rfl rfl rfl
-- X2_isFull
def F_X2_isFull (p0 : Nat) (s : xS) : Option (Int32) := if (s.1 p0 3) < (s.1 p0 2) then (some (0 : Int32)) else (some (1 : Int32))
set_option maxRecDepth 100000 in
theorem ok_X2_isFull_13 (s : xS) : xTr xMs xFL xR_X2_isFull (Sum.inl (0, [(0, .ref 13)], [], s)) (F_X2_isFull 13 s) (fun (y : Int32) => Sum.inr (some (.int y), s)) := by
  unfold F_X2_isFull
  refine xTr.ms 4 (g := (8, [(0, .ref 13)], [.int (s.1 13 2), .int (s.1 13 3)], s)) rfl ?_
  refine xTr.br (g1 := (15, [(0, .ref 13)], [], s)) (g2 := (11, [(0, .ref 13)], [], s)) rfl (fun h1 => ?_) (fun h1 => ?_)
  · refine xTr.ms 1 (g := (16, [], [.int (0 : Int32)], s)) rfl ?_
    exact xTr.ret rfl rfl rfl
  · refine xTr.ms 2 (g := (16, [], [.int (1 : Int32)], s)) rfl ?_
    exact xTr.ret rfl rfl rfl
set_option maxRecDepth 100000 in
theorem ok_X2_isFull_16 (s : xS) : xTr xMs xFL xR_X2_isFull (Sum.inl (0, [(0, .ref 16)], [], s)) (F_X2_isFull 16 s) (fun (y : Int32) => Sum.inr (some (.int y), s)) := by
  unfold F_X2_isFull
  refine xTr.ms 4 (g := (8, [(0, .ref 16)], [.int (s.1 16 2), .int (s.1 16 3)], s)) rfl ?_
  refine xTr.br (g1 := (15, [(0, .ref 16)], [], s)) (g2 := (11, [(0, .ref 16)], [], s)) rfl (fun h1 => ?_) (fun h1 => ?_)
  · refine xTr.ms 1 (g := (16, [], [.int (0 : Int32)], s)) rfl ?_
    exact xTr.ret rfl rfl rfl
  · refine xTr.ms 2 (g := (16, [], [.int (1 : Int32)], s)) rfl ?_
    exact xTr.ret rfl rfl rfl
-- X2_add
def F_X2_add (p0 : Nat) (l1 : Int32) (l2 : Int32) (s : xS) : Option (xS) := (F_X2_isFull p0 s).bind fun v1 => (if v1 = 0 then (if (s.1 p0 3) < 0 ∨ 8 ≤ ((s.1 p0 3)).toNatClampNeg then none else (if (s.1 p0 3) < 0 ∨ 8 ≤ ((s.1 p0 3)).toNatClampNeg then none else (some (xu (xu (xu s (p0 + 1) ((s.1 p0 3)).toNatClampNeg l1) (p0 + 2) ((s.1 p0 3)).toNatClampNeg l2) p0 3 ((s.1 p0 3) + (1 : Int32)))))) else (some s))
set_option maxRecDepth 100000 in
theorem ok_X2_add_13 (l1 : Int32) (l2 : Int32) (s : xS) : xTr xMs xFL xR_X2_add (Sum.inl (0, [(0, .ref 13), (1, .int l1), (2, .int l2)], [], s)) (F_X2_add 13 l1 l2 s) (fun (y : xS) => Sum.inr (none, y)) := by
  unfold F_X2_add
  refine xTr.ms 1 (g := (1, [(0, .ref 13), (1, .int l1), (2, .int l2)], [.ref 13], s)) rfl ?_
  refine xTr.callip (R' := xR_X2_isFull) (as := [.ref 13]) (lv := [(0, .ref 13), (1, .int l1), (2, .int l2)]) (rest := []) (ok_X2_isFull_13 s) rfl rfl rfl rfl rfl (fun v1 => ?_)
  refine xTr.br (g1 := (7, [(0, .ref 13), (1, .int l1), (2, .int l2)], [], s)) (g2 := (37, [(0, .ref 13), (1, .int l1), (2, .int l2)], [], s)) rfl (fun h2 => ?_) (fun h2 => ?_)
  · refine xTr.ms 5 (g := (16, [(0, .ref 13), (1, .int l1), (2, .int l2)], [.int l1, .int (s.1 13 3), .ref 14], s)) rfl ?_
    refine xTr.ck (g := (17, [(0, .ref 13), (1, .int l1), (2, .int l2)], [], (xu s 14 ((s.1 13 3)).toNatClampNeg l1))) rfl (fun h3 => ?_)
    refine xTr.ms 5 (g := (26, [(0, .ref 13), (1, .int l1), (2, .int l2)], [.int l2, .int (s.1 13 3), .ref 15], (xu s 14 ((s.1 13 3)).toNatClampNeg l1))) rfl ?_
    refine xTr.ck (g := (27, [(0, .ref 13), (1, .int l1), (2, .int l2)], [], (xu (xu s 14 ((s.1 13 3)).toNatClampNeg l1) 15 ((s.1 13 3)).toNatClampNeg l2))) rfl (fun h4 => ?_)
    refine xTr.ms 6 (g := (37, [(0, .ref 13), (1, .int l1), (2, .int l2)], [], (xu (xu (xu s 14 ((s.1 13 3)).toNatClampNeg l1) 15 ((s.1 13 3)).toNatClampNeg l2) 13 3 ((s.1 13 3) + (1 : Int32))))) rfl ?_
    exact xTr.ret rfl rfl rfl
  · exact xTr.ret rfl rfl rfl
set_option maxRecDepth 100000 in
theorem ok_X2_add_16 (l1 : Int32) (l2 : Int32) (s : xS) : xTr xMs xFL xR_X2_add (Sum.inl (0, [(0, .ref 16), (1, .int l1), (2, .int l2)], [], s)) (F_X2_add 16 l1 l2 s) (fun (y : xS) => Sum.inr (none, y)) := by
  unfold F_X2_add
  refine xTr.ms 1 (g := (1, [(0, .ref 16), (1, .int l1), (2, .int l2)], [.ref 16], s)) rfl ?_
  refine xTr.callip (R' := xR_X2_isFull) (as := [.ref 16]) (lv := [(0, .ref 16), (1, .int l1), (2, .int l2)]) (rest := []) (ok_X2_isFull_16 s) rfl rfl rfl rfl rfl (fun v1 => ?_)
  refine xTr.br (g1 := (7, [(0, .ref 16), (1, .int l1), (2, .int l2)], [], s)) (g2 := (37, [(0, .ref 16), (1, .int l1), (2, .int l2)], [], s)) rfl (fun h2 => ?_) (fun h2 => ?_)
  · refine xTr.ms 5 (g := (16, [(0, .ref 16), (1, .int l1), (2, .int l2)], [.int l1, .int (s.1 16 3), .ref 17], s)) rfl ?_
    refine xTr.ck (g := (17, [(0, .ref 16), (1, .int l1), (2, .int l2)], [], (xu s 17 ((s.1 16 3)).toNatClampNeg l1))) rfl (fun h3 => ?_)
    refine xTr.ms 5 (g := (26, [(0, .ref 16), (1, .int l1), (2, .int l2)], [.int l2, .int (s.1 16 3), .ref 18], (xu s 17 ((s.1 16 3)).toNatClampNeg l1))) rfl ?_
    refine xTr.ck (g := (27, [(0, .ref 16), (1, .int l1), (2, .int l2)], [], (xu (xu s 17 ((s.1 16 3)).toNatClampNeg l1) 18 ((s.1 16 3)).toNatClampNeg l2))) rfl (fun h4 => ?_)
    refine xTr.ms 6 (g := (37, [(0, .ref 16), (1, .int l1), (2, .int l2)], [], (xu (xu (xu s 17 ((s.1 16 3)).toNatClampNeg l1) 18 ((s.1 16 3)).toNatClampNeg l2) 16 3 ((s.1 16 3) + (1 : Int32))))) rfl ?_
    exact xTr.ret rfl rfl rfl
  · exact xTr.ret rfl rfl rfl
-- X8_thunder
def F_X8_thunder (l1 : Int32) (l2 : Int32) (s : xS) : Option (Int32 × xS) := (F_X8_isNoThunder l1 l2 s).bind fun v1 => (if v1 = 0 then ((F_X2_isFull 13 s).bind fun v3 => (if v3 = 0 then ((F_X2_add 13 l1 l2 s).bind fun s6 => ((F_X8_sleepAnew s6).bind fun s8 => (some ((s8.1 13 3), s8)))) else (some ((-4 : Int32), s)))) else (some ((-2 : Int32), s)))
set_option maxRecDepth 100000 in
theorem ok_X8_thunder (l1 : Int32) (l2 : Int32) (s : xS) : xTr xMs xFL xR_X8_thunder (Sum.inl (0, [(0, .ref 0), (1, .int l1), (2, .int l2)], [], s)) (F_X8_thunder l1 l2 s) (fun (y : Int32 × xS) => Sum.inr (some (.int y.1), y.2)) := by
  unfold F_X8_thunder
  refine xTr.ms 2 (g := (2, [(0, .ref 0), (1, .int l1), (2, .int l2)], [.int l2, .int l1], s)) rfl ?_
  refine xTr.callip (R' := xR_X8_isNoThunder) (as := [.int l1, .int l2]) (lv := [(0, .ref 0), (1, .int l1), (2, .int l2)]) (rest := []) (ok_X8_isNoThunder l1 l2 s) rfl rfl rfl rfl rfl (fun v1 => ?_)
  refine xTr.br (g1 := (11, [(0, .ref 0), (1, .int l1), (2, .int l2)], [], s)) (g2 := (8, [(0, .ref 0), (1, .int l1), (2, .int l2)], [], s)) rfl (fun h2 => ?_) (fun h2 => ?_)
  · refine xTr.ms 3 (g := (18, [(0, .ref 0), (1, .int l1), (2, .int l2)], [.ref 13], s)) rfl ?_
    refine xTr.callip (R' := xR_X2_isFull) (as := [.ref 13]) (lv := [(0, .ref 0), (1, .int l1), (2, .int l2)]) (rest := []) (ok_X2_isFull_13 s) rfl rfl rfl rfl rfl (fun v3 => ?_)
    refine xTr.br (g1 := (27, [(0, .ref 0), (1, .int l1), (2, .int l2)], [], s)) (g2 := (24, [(0, .ref 0), (1, .int l1), (2, .int l2)], [], s)) rfl (fun h4 => ?_) (fun h4 => ?_)
    · refine xTr.ms 5 (g := (36, [(0, .ref 0), (1, .int l1), (2, .int l2)], [.int l2, .int l1, .ref 13], s)) rfl ?_
      refine xTr.callv (R' := xR_X2_add) (as := [.ref 13, .int l1, .int l2]) (lv := [(0, .ref 0), (1, .int l1), (2, .int l2)]) (rest := []) (ok_X2_add_13 l1 l2 s) rfl rfl rfl rfl rfl (fun s6 => ?_)
      refine xTr.ms 1 (g := (40, [(0, .ref 0), (1, .int l1), (2, .int l2)], [.ref 0], s6)) rfl ?_
      refine xTr.callv (R' := xR_X8_sleepAnew) (as := [.ref 0]) (lv := [(0, .ref 0), (1, .int l1), (2, .int l2)]) (rest := []) (ok_X8_sleepAnew s6) rfl rfl rfl rfl rfl (fun s8 => ?_)
      refine xTr.ms 4 (g := (53, [(0, .ref 0), (1, .int l1), (2, .int l2)], [.int (s8.1 13 3)], s8)) rfl ?_
      exact xTr.ret rfl rfl rfl
    · refine xTr.ms 1 (g := (26, [], [.int (-4 : Int32)], s)) rfl ?_
      exact xTr.ret rfl rfl rfl
  · refine xTr.ms 1 (g := (10, [], [.int (-2 : Int32)], s)) rfl ?_
    exact xTr.ret rfl rfl rfl
-- X8_back
def F_X8_back (s : xS) : Option (Int32 × xS) := if (s.1 13 3) = 0 then (some ((-3 : Int32), s)) else ((F_X8_sleepAnew (xu s 13 3 ((s.1 13 3) - (1 : Int32)))).bind fun s3 => (some ((s3.1 13 3), s3)))
set_option maxRecDepth 100000 in
theorem ok_X8_back (s : xS) : xTr xMs xFL xR_X8_back (Sum.inl (0, [(0, .ref 0)], [], s)) (F_X8_back s) (fun (y : Int32 × xS) => Sum.inr (some (.int y.1), y.2)) := by
  unfold F_X8_back
  refine xTr.ms 4 (g := (10, [(0, .ref 0)], [.int (s.1 13 3)], s)) rfl ?_
  refine xTr.br (g1 := (13, [(0, .ref 0)], [], s)) (g2 := (16, [(0, .ref 0)], [], s)) rfl (fun h1 => ?_) (fun h1 => ?_)
  · refine xTr.ms 1 (g := (15, [], [.int (-3 : Int32)], s)) rfl ?_
    exact xTr.ret rfl rfl rfl
  · refine xTr.ms 9 (g := (33, [(0, .ref 0)], [.ref 0], (xu s 13 3 ((s.1 13 3) - (1 : Int32))))) rfl ?_
    refine xTr.callv (R' := xR_X8_sleepAnew) (as := [.ref 0]) (lv := [(0, .ref 0)]) (rest := []) (ok_X8_sleepAnew (xu s 13 3 ((s.1 13 3) - (1 : Int32)))) rfl rfl rfl rfl rfl (fun s3 => ?_)
    refine xTr.ms 4 (g := (46, [(0, .ref 0)], [.int (s3.1 13 3)], s3)) rfl ?_
    exact xTr.ret rfl rfl rfl
-- X5_isLost
def F_X5_isLost (l1 : Int32) (s : xS) : Option (Int32) := if l1 < 0 ∨ 4 ≤ l1.toNatClampNeg then none else (if (s.1 43 l1.toNatClampNeg) = (-1 : Int32) then (some (1 : Int32)) else (some (0 : Int32)))
set_option maxRecDepth 100000 in
theorem ok_X5_isLost (l1 : Int32) (s : xS) : xTr xMs xFL xR_X5_isLost (Sum.inl (0, [(0, .ref 42), (1, .int l1)], [], s)) (F_X5_isLost l1 s) (fun (y : Int32) => Sum.inr (some (.int y), s)) := by
  unfold F_X5_isLost
  refine xTr.ms 3 (g := (5, [(0, .ref 42), (1, .int l1)], [.int l1, .ref 43], s)) rfl ?_
  refine xTr.ck (g := (6, [(0, .ref 42), (1, .int l1)], [.int (s.1 43 l1.toNatClampNeg)], s)) rfl (fun h1 => ?_)
  refine xTr.ms 1 (g := (7, [(0, .ref 42), (1, .int l1)], [.int (-1 : Int32), .int (s.1 43 l1.toNatClampNeg)], s)) rfl ?_
  refine xTr.br (g1 := (10, [(0, .ref 42), (1, .int l1)], [], s)) (g2 := (14, [(0, .ref 42), (1, .int l1)], [], s)) rfl (fun h2 => ?_) (fun h2 => ?_)
  · refine xTr.ms 2 (g := (15, [], [.int (1 : Int32)], s)) rfl ?_
    exact xTr.ret rfl rfl rfl
  · refine xTr.ms 1 (g := (15, [], [.int (0 : Int32)], s)) rfl ?_
    exact xTr.ret rfl rfl rfl
-- X8_find
def F_X8_find (l1 : Int32) (s : xS) : Option (Int32 × xS) := some (((-10 : Int32) - l1), (xu s 0 17 l1))
set_option maxRecDepth 100000 in
theorem ok_X8_find (l1 : Int32) (s : xS) : xTr xMs xFL xR_X8_find (Sum.inl (0, [(0, .ref 0), (1, .int l1)], [], s)) (F_X8_find l1 s) (fun (y : Int32 × xS) => Sum.inr (some (.int y.1), y.2)) := by
  unfold F_X8_find
  refine xTr.ms 6 (g := (9, [(0, .ref 0), (1, .int l1)], [.int ((-10 : Int32) - l1)], (xu s 0 17 l1))) rfl ?_
  exact xTr.ret rfl rfl rfl
-- X5_hasItem
def F_X5_hasItem (l1 : Int32) (l2 : Int32) (s : xS) : Option (Int32) := if l2 < 0 then (some (0 : Int32)) else (if l1 < 0 ∨ 4 ≤ l1.toNatClampNeg then none else (if (s.1 44 l1.toNatClampNeg) ≤ l2 then (some (0 : Int32)) else (some (1 : Int32))))
set_option maxRecDepth 100000 in
theorem ok_X5_hasItem (l1 : Int32) (l2 : Int32) (s : xS) : xTr xMs xFL xR_X5_hasItem (Sum.inl (0, [(0, .ref 42), (1, .int l1), (2, .int l2)], [], s)) (F_X5_hasItem l1 l2 s) (fun (y : Int32) => Sum.inr (some (.int y), s)) := by
  unfold F_X5_hasItem
  refine xTr.ms 1 (g := (1, [(0, .ref 42), (1, .int l1), (2, .int l2)], [.int l2], s)) rfl ?_
  refine xTr.br (g1 := (18, [(0, .ref 42), (1, .int l1), (2, .int l2)], [], s)) (g2 := (4, [(0, .ref 42), (1, .int l1), (2, .int l2)], [], s)) rfl (fun h1 => ?_) (fun h1 => ?_)
  · refine xTr.ms 1 (g := (19, [], [.int (0 : Int32)], s)) rfl ?_
    exact xTr.ret rfl rfl rfl
  · refine xTr.ms 4 (g := (10, [(0, .ref 42), (1, .int l1), (2, .int l2)], [.int l1, .ref 44, .int l2], s)) rfl ?_
    refine xTr.ck (g := (11, [(0, .ref 42), (1, .int l1), (2, .int l2)], [.int (s.1 44 l1.toNatClampNeg), .int l2], s)) rfl (fun h2 => ?_)
    refine xTr.br (g1 := (18, [(0, .ref 42), (1, .int l1), (2, .int l2)], [], s)) (g2 := (14, [(0, .ref 42), (1, .int l1), (2, .int l2)], [], s)) rfl (fun h3 => ?_) (fun h3 => ?_)
    · refine xTr.ms 1 (g := (19, [], [.int (0 : Int32)], s)) rfl ?_
      exact xTr.ret rfl rfl rfl
    · refine xTr.ms 2 (g := (19, [], [.int (1 : Int32)], s)) rfl ?_
      exact xTr.ret rfl rfl rfl
-- X5_item
def F_X5_item (l1 : Int32) (l2 : Int32) (s : xS) : Option (Int32) := (F_X5_hasItem l1 l2 s).bind fun v1 => (if v1 = 0 then (some (0 : Int32)) else (if ((l1 * (60 : Int32)) + l2) < 0 ∨ 240 ≤ (((l1 * (60 : Int32)) + l2)).toNatClampNeg then none else (some (s.1 45 (((l1 * (60 : Int32)) + l2)).toNatClampNeg))))
set_option maxRecDepth 100000 in
theorem ok_X5_item (l1 : Int32) (l2 : Int32) (s : xS) : xTr xMs xFL xR_X5_item (Sum.inl (0, [(0, .ref 42), (1, .int l1), (2, .int l2)], [], s)) (F_X5_item l1 l2 s) (fun (y : Int32) => Sum.inr (some (.int y), s)) := by
  unfold F_X5_item
  refine xTr.ms 3 (g := (3, [(0, .ref 42), (1, .int l1), (2, .int l2)], [.int l2, .int l1, .ref 42], s)) rfl ?_
  refine xTr.callip (R' := xR_X5_hasItem) (as := [.ref 42, .int l1, .int l2]) (lv := [(0, .ref 42), (1, .int l1), (2, .int l2)]) (rest := []) (ok_X5_hasItem l1 l2 s) rfl rfl rfl rfl rfl (fun v1 => ?_)
  refine xTr.br (g1 := (23, [(0, .ref 42), (1, .int l1), (2, .int l2)], [], s)) (g2 := (9, [(0, .ref 42), (1, .int l1), (2, .int l2)], [], s)) rfl (fun h2 => ?_) (fun h2 => ?_)
  · refine xTr.ms 1 (g := (24, [], [.int (0 : Int32)], s)) rfl ?_
    exact xTr.ret rfl rfl rfl
  · refine xTr.ms 7 (g := (19, [(0, .ref 42), (1, .int l1), (2, .int l2)], [.int ((l1 * (60 : Int32)) + l2), .ref 45], s)) rfl ?_
    refine xTr.ck (g := (20, [(0, .ref 42), (1, .int l1), (2, .int l2)], [.int (s.1 45 (((l1 * (60 : Int32)) + l2)).toNatClampNeg)], s)) rfl (fun h3 => ?_)
    refine xTr.ms 1 (g := (24, [(0, .ref 42), (1, .int l1), (2, .int l2)], [.int (s.1 45 (((l1 * (60 : Int32)) + l2)).toNatClampNeg)], s)) rfl ?_
    exact xTr.ret rfl rfl rfl
-- X8_read
def F_X8_read_L41 (l1 : Int32) (l2 : Int32) (a : Int32 × xS) : Option ((Int32 × xS) ⊕ ((xS) ⊕ (xS))) := if l1 < 0 ∨ 4 ≤ l1.toNatClampNeg then none else (if (a.2.1 44 l1.toNatClampNeg) ≤ (a.1 + (1 : Int32)) then (some (Sum.inr (Sum.inr a.2))) else ((F_X2_isFull 13 a.2).bind fun v7 => (if v7 = 0 then ((F_X5_item l1 a.1 a.2).bind fun v9 => ((F_X5_item l1 (a.1 + (1 : Int32)) a.2).bind fun v10 => ((F_X8_isNoThunder v9 v10 a.2).bind fun v11 => (if v11 = 0 then ((F_X2_add 13 v9 v10 a.2).bind fun s14 => (some (Sum.inl ((a.1 + (2 : Int32)), s14)))) else (some (Sum.inr (Sum.inl a.2))))))) else (some (Sum.inr (Sum.inr a.2))))))
def F_X8_read (l1 : Int32) (s : xS) : Option (Int32 × xS) := (F_X8_isOutside l1 (4 : Int32) s).bind fun v1 => (if v1 = 0 then ((F_X5_isLost l1 s).bind fun v3 => (if v3 = 0 then ((xlp (F_X8_read_L41 l1 (s.1 13 3)) 100000 ((0 : Int32), s)).bind (Sum.elim (fun b15_0 => ((F_X8_sleepAnew b15_0).bind fun s17 => (some (((s17.1 13 3) - (s.1 13 3)), s17)))) (fun b15_1 => ((F_X8_sleepAnew b15_1).bind fun s19 => (some (((s19.1 13 3) - (s.1 13 3)), s19)))))) else ((F_X8_find (1 : Int32) s).bind fun q21 => (some (q21.1, q21.2))))) else (some ((-2 : Int32), s)))
def F_X8_read_L41_hd (l1 : Int32) (l2 : Int32) (a : Int32 × xS) : xT := Sum.inl (41, [(0, .ref 0), (1, .int l1), (2, .int l2), (3, .int a.1)], [], a.2)
def F_X8_read_L41_ex (l1 : Int32) (l2 : Int32) : ((xS) ⊕ (xS)) → xT := (Sum.elim (fun (z : xS) => Sum.inl (103, [(0, .ref 0), (2, .int l2)], [], z)) (fun (z : xS) => Sum.inl (126, [(0, .ref 0), (2, .int l2)], [], z)))
set_option maxRecDepth 100000 in
theorem F_X8_read_L41_ok (l1 : Int32) (l2 : Int32) (a : Int32 × xS) : xTr xMs xFL xR_X8_read (F_X8_read_L41_hd l1 l2 a) (F_X8_read_L41 l1 l2 a) (xhx (F_X8_read_L41_hd l1 l2) (F_X8_read_L41_ex l1 l2)) := by
  unfold F_X8_read_L41
  refine xTr.ms 7 (g := (52, [(0, .ref 0), (1, .int l1), (2, .int l2), (3, .int a.1)], [.int l1, .ref 44, .int (a.1 + (1 : Int32))], a.2)) rfl ?_
  refine xTr.ck (g := (53, [(0, .ref 0), (1, .int l1), (2, .int l2), (3, .int a.1)], [.int (a.2.1 44 l1.toNatClampNeg), .int (a.1 + (1 : Int32))], a.2)) rfl (fun h5 => ?_)
  refine xTr.br (g1 := (126, [(0, .ref 0), (1, .int l1), (2, .int l2), (3, .int a.1)], [], a.2)) (g2 := (56, [(0, .ref 0), (1, .int l1), (2, .int l2), (3, .int a.1)], [], a.2)) rfl (fun h6 => ?_) (fun h6 => ?_)
  · refine xTr.mk (lv1 := [(0, .ref 0), (2, .int l2)]) rfl rfl ?_
    exact xTr.leaf rfl
  · refine xTr.ms 3 (g := (63, [(0, .ref 0), (1, .int l1), (2, .int l2), (3, .int a.1)], [.ref 13], a.2)) rfl ?_
    refine xTr.callip (R' := xR_X2_isFull) (as := [.ref 13]) (lv := [(0, .ref 0), (1, .int l1), (2, .int l2), (3, .int a.1)]) (rest := []) (ok_X2_isFull_13 a.2) rfl rfl rfl rfl rfl (fun v7 => ?_)
    refine xTr.br (g1 := (69, [(0, .ref 0), (1, .int l1), (2, .int l2), (3, .int a.1)], [], a.2)) (g2 := (126, [(0, .ref 0), (1, .int l1), (2, .int l2), (3, .int a.1)], [], a.2)) rfl (fun h8 => ?_) (fun h8 => ?_)
    · refine xTr.ms 4 (g := (75, [(0, .ref 0), (1, .int l1), (2, .int l2), (3, .int a.1)], [.int a.1, .int l1, .ref 42], a.2)) rfl ?_
      refine xTr.callip (R' := xR_X5_item) (as := [.ref 42, .int l1, .int a.1]) (lv := [(0, .ref 0), (1, .int l1), (2, .int l2), (3, .int a.1)]) (rest := []) (ok_X5_item l1 a.1 a.2) rfl rfl rfl rfl rfl (fun v9 => ?_)
      refine xTr.ms 7 (g := (88, [(0, .ref 0), (1, .int l1), (2, .int l2), (3, .int a.1), (4, .int v9)], [.int (a.1 + (1 : Int32)), .int l1, .ref 42], a.2)) rfl ?_
      refine xTr.callip (R' := xR_X5_item) (as := [.ref 42, .int l1, .int (a.1 + (1 : Int32))]) (lv := [(0, .ref 0), (1, .int l1), (2, .int l2), (3, .int a.1), (4, .int v9)]) (rest := []) (ok_X5_item l1 (a.1 + (1 : Int32)) a.2) rfl rfl rfl rfl rfl (fun v10 => ?_)
      refine xTr.ms 3 (g := (97, [(0, .ref 0), (1, .int l1), (2, .int l2), (3, .int a.1), (4, .int v9), (5, .int v10)], [.int v10, .int v9], a.2)) rfl ?_
      refine xTr.callip (R' := xR_X8_isNoThunder) (as := [.int v9, .int v10]) (lv := [(0, .ref 0), (1, .int l1), (2, .int l2), (3, .int a.1), (4, .int v9), (5, .int v10)]) (rest := []) (ok_X8_isNoThunder v9 v10 a.2) rfl rfl rfl rfl rfl (fun v11 => ?_)
      refine xTr.br (g1 := (106, [(0, .ref 0), (1, .int l1), (2, .int l2), (3, .int a.1), (4, .int v9), (5, .int v10)], [], a.2)) (g2 := (103, [(0, .ref 0), (1, .int l1), (2, .int l2), (3, .int a.1), (4, .int v9), (5, .int v10)], [], a.2)) rfl (fun h12 => ?_) (fun h12 => ?_)
      · refine xTr.ms 5 (g := (117, [(0, .ref 0), (1, .int l1), (2, .int l2), (3, .int a.1), (4, .int v9), (5, .int v10)], [.int v10, .int v9, .ref 13], a.2)) rfl ?_
        refine xTr.callv (R' := xR_X2_add) (as := [.ref 13, .int v9, .int v10]) (lv := [(0, .ref 0), (1, .int l1), (2, .int l2), (3, .int a.1), (4, .int v9), (5, .int v10)]) (rest := []) (ok_X2_add_13 v9 v10 a.2) rfl rfl rfl rfl rfl (fun s14 => ?_)
        refine xTr.ms 2 (g := (41, [(0, .ref 0), (1, .int l1), (2, .int l2), (3, .int (a.1 + (2 : Int32))), (4, .int v9), (5, .int v10)], [], s14)) rfl ?_
        refine xTr.mk (lv1 := [(0, .ref 0), (1, .int l1), (2, .int l2), (3, .int (a.1 + (2 : Int32)))]) rfl rfl ?_
        exact xTr.leaf rfl
      · refine xTr.mk (lv1 := [(0, .ref 0), (2, .int l2)]) rfl rfl ?_
        exact xTr.leaf rfl
    · refine xTr.mk (lv1 := [(0, .ref 0), (2, .int l2)]) rfl rfl ?_
      exact xTr.leaf rfl
set_option maxRecDepth 100000 in
theorem ok_X8_read (l1 : Int32) (s : xS) : xTr xMs xFL xR_X8_read (Sum.inl (0, [(0, .ref 0), (1, .int l1)], [], s)) (F_X8_read l1 s) (fun (y : Int32 × xS) => Sum.inr (some (.int y.1), y.2)) := by
  unfold F_X8_read
  refine xTr.ms 2 (g := (2, [(0, .ref 0), (1, .int l1)], [.int (4 : Int32), .int l1], s)) rfl ?_
  refine xTr.callip (R' := xR_X8_isOutside) (as := [.int l1, .int (4 : Int32)]) (lv := [(0, .ref 0), (1, .int l1)]) (rest := []) (ok_X8_isOutside l1 (4 : Int32) s) rfl rfl rfl rfl rfl (fun v1 => ?_)
  refine xTr.br (g1 := (11, [(0, .ref 0), (1, .int l1)], [], s)) (g2 := (8, [(0, .ref 0), (1, .int l1)], [], s)) rfl (fun h2 => ?_) (fun h2 => ?_)
  · refine xTr.ms 3 (g := (16, [(0, .ref 0), (1, .int l1)], [.int l1, .ref 42], s)) rfl ?_
    refine xTr.callip (R' := xR_X5_isLost) (as := [.ref 42, .int l1]) (lv := [(0, .ref 0), (1, .int l1)]) (rest := []) (ok_X5_isLost l1 s) rfl rfl rfl rfl rfl (fun v3 => ?_)
    refine xTr.br (g1 := (28, [(0, .ref 0), (1, .int l1)], [], s)) (g2 := (22, [(0, .ref 0), (1, .int l1)], [], s)) rfl (fun h4 => ?_) (fun h4 => ?_)
    · refine xTr.ms 7 (g := (41, [(0, .ref 0), (1, .int l1), (2, .int (s.1 13 3)), (3, .int (0 : Int32))], [], s)) rfl ?_
      refine xTr.bind (J := F_X8_read_L41_ex l1 (s.1 13 3)) (xTr.loop (hd := F_X8_read_L41_hd l1 (s.1 13 3)) (fun aa => F_X8_read_L41_ok l1 (s.1 13 3) aa) 100000 ((0 : Int32), s)) (fun b15 => ?_)
      rcases b15 with b15_0 | b15_1
      · refine xTr.ms 2 (g := (127, [(0, .ref 0), (2, .int (s.1 13 3))], [.ref 0], b15_0)) rfl ?_
        refine xTr.callv (R' := xR_X8_sleepAnew) (as := [.ref 0]) (lv := [(0, .ref 0), (2, .int (s.1 13 3))]) (rest := []) (ok_X8_sleepAnew b15_0) rfl rfl rfl rfl rfl (fun s17 => ?_)
        refine xTr.ms 6 (g := (142, [(0, .ref 0), (2, .int (s.1 13 3))], [.int ((s17.1 13 3) - (s.1 13 3))], s17)) rfl ?_
        exact xTr.ret rfl rfl rfl
      · refine xTr.ms 1 (g := (127, [(0, .ref 0), (2, .int (s.1 13 3))], [.ref 0], b15_1)) rfl ?_
        refine xTr.callv (R' := xR_X8_sleepAnew) (as := [.ref 0]) (lv := [(0, .ref 0), (2, .int (s.1 13 3))]) (rest := []) (ok_X8_sleepAnew b15_1) rfl rfl rfl rfl rfl (fun s19 => ?_)
        refine xTr.ms 6 (g := (142, [(0, .ref 0), (2, .int (s.1 13 3))], [.int ((s19.1 13 3) - (s.1 13 3))], s19)) rfl ?_
        exact xTr.ret rfl rfl rfl
    · refine xTr.ms 2 (g := (24, [(0, .ref 0)], [.int (1 : Int32), .ref 0], s)) rfl ?_
      refine xTr.calli (R' := xR_X8_find) (as := [.ref 0, .int (1 : Int32)]) (lv := [(0, .ref 0)]) (rest := []) (ok_X8_find (1 : Int32) s) rfl rfl rfl rfl rfl (fun v20 s20 => ?_)
      exact xTr.ret rfl rfl rfl
  · refine xTr.ms 1 (g := (10, [], [.int (-2 : Int32)], s)) rfl ?_
    exact xTr.ret rfl rfl rfl
