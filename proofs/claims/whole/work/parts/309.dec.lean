-- X3_doneOf
def F_X3_doneOf_L4 (s : xS) (a : Int32 × Int32) : Option ((Int32 × Int32) ⊕ (Int32)) := if (s.1 8 3) ≤ a.2 then (some (Sum.inr a.1)) else (if a.2 < 0 ∨ 8 ≤ a.2.toNatClampNeg then none else (if (s.1 26 a.2.toNatClampNeg) = 0 then (some (Sum.inl ((a.1 + (1 : Int32)), (a.2 + (1 : Int32))))) else (some (Sum.inl ((a.1 + (0 : Int32)), (a.2 + (1 : Int32)))))))
def F_X3_doneOf (s : xS) : Option (Int32) := (xlp (F_X3_doneOf_L4 s) 100000 ((0 : Int32), (0 : Int32))).bind (fun b4 => (some b4))
def F_X3_doneOf_L4_hd (s : xS) (a : Int32 × Int32) : xT := Sum.inl (4, [(0, .ref 22), (1, .ref 8), (2, .int a.1), (3, .int a.2)], [], s)
def F_X3_doneOf_L4_ex (s : xS) : (Int32) → xT := (fun (z : Int32) => Sum.inl (35, [(2, .int z)], [], s))
set_option maxRecDepth 100000 in
theorem F_X3_doneOf_L4_ok (s : xS) (a : Int32 × Int32) : xTr xMs xFL xR_X3_doneOf (F_X3_doneOf_L4_hd s a) (F_X3_doneOf_L4 s a) (xhx (F_X3_doneOf_L4_hd s) (F_X3_doneOf_L4_ex s)) := by
  unfold F_X3_doneOf_L4
  refine xTr.ms 3 (g := (9, [(0, .ref 22), (1, .ref 8), (2, .int a.1), (3, .int a.2)], [.int (s.1 8 3), .int a.2], s)) rfl ?_
  refine xTr.br (g1 := (35, [(0, .ref 22), (1, .ref 8), (2, .int a.1), (3, .int a.2)], [], s)) (g2 := (12, [(0, .ref 22), (1, .ref 8), (2, .int a.1), (3, .int a.2)], [], s)) rfl (fun h1 => ?_) (fun h1 => ?_)
  · refine xTr.mk (lv1 := [(2, .int a.1)]) rfl rfl ?_
    exact xTr.leaf rfl
  · refine xTr.ms 4 (g := (18, [(0, .ref 22), (1, .ref 8), (2, .int a.1), (3, .int a.2)], [.int a.2, .ref 26, .int a.1], s)) rfl ?_
    refine xTr.ck (g := (19, [(0, .ref 22), (1, .ref 8), (2, .int a.1), (3, .int a.2)], [.int (s.1 26 a.2.toNatClampNeg), .int a.1], s)) rfl (fun h2 => ?_)
    refine xTr.br (g1 := (22, [(0, .ref 22), (1, .ref 8), (2, .int a.1), (3, .int a.2)], [.int a.1], s)) (g2 := (26, [(0, .ref 22), (1, .ref 8), (2, .int a.1), (3, .int a.2)], [.int a.1], s)) rfl (fun h3 => ?_) (fun h3 => ?_)
    · refine xTr.ms 6 (g := (4, [(0, .ref 22), (1, .ref 8), (2, .int (a.1 + (1 : Int32))), (3, .int (a.2 + (1 : Int32)))], [], s)) rfl ?_
      exact xTr.leaf rfl
    · refine xTr.ms 5 (g := (4, [(0, .ref 22), (1, .ref 8), (2, .int (a.1 + (0 : Int32))), (3, .int (a.2 + (1 : Int32)))], [], s)) rfl ?_
      exact xTr.leaf rfl
set_option maxRecDepth 100000 in
theorem ok_X3_doneOf (s : xS) : xTr xMs xFL xR_X3_doneOf (Sum.inl (0, [(0, .ref 22), (1, .ref 8)], [], s)) (F_X3_doneOf s) (fun (y : Int32) => Sum.inr (some (.int y), s)) := by
  unfold F_X3_doneOf
  refine xTr.ms 4 (g := (4, [(0, .ref 22), (1, .ref 8), (2, .int (0 : Int32)), (3, .int (0 : Int32))], [], s)) rfl ?_
  refine xTr.bind (J := F_X3_doneOf_L4_ex s) (xTr.loop (hd := F_X3_doneOf_L4_hd s) (fun aa => F_X3_doneOf_L4_ok s aa) 100000 ((0 : Int32), (0 : Int32))) (fun b4 => ?_)
  refine xTr.ms 1 (g := (36, [(2, .int b4)], [.int b4], s)) rfl ?_
  exact xTr.ret rfl rfl rfl
-- X8_count
def F_X8_count (l1 : Int32) (s : xS) : Option (Int32) := if l1 = (0 : Int32) then (some (s.1 5 2)) else (if l1 = (1 : Int32) then (some (s.1 8 3)) else (if l1 = (2 : Int32) then (some (s.1 1 2)) else (if l1 = (3 : Int32) then (some (s.1 3 2)) else (if l1 = (4 : Int32) then (some (s.1 13 3)) else (if l1 = (5 : Int32) then ((F_X3_doneOf s).bind fun v7 => (some v7)) else (if l1 = (6 : Int32) then ((F_J13_bitCount_95d88 (s.2 22 6) s).bind fun v9 => (some v9)) else (if l1 = (7 : Int32) then (some (s.1 16 3)) else (if l1 = (8 : Int32) then (some (s.1 0 17)) else (some (-2 : Int32))))))))))
set_option maxRecDepth 100000 in
theorem ok_X8_count (l1 : Int32) (s : xS) : xTr xMs xFL xR_X8_count (Sum.inl (0, [(0, .ref 0), (1, .int l1)], [], s)) (F_X8_count l1 s) (fun (y : Int32) => Sum.inr (some (.int y), s)) := by
  unfold F_X8_count
  refine xTr.ms 1 (g := (1, [(0, .ref 0), (1, .int l1)], [.int l1], s)) rfl ?_
  refine xTr.cs (fun h1 => ?_) (fun h1 => ?_)
  · refine xTr.sw (n := (if l1 = (0 : Int32) then 52 else if l1 = (1 : Int32) then 60 else if l1 = (2 : Int32) then 68 else if l1 = (3 : Int32) then 76 else if l1 = (4 : Int32) then 84 else if l1 = (5 : Int32) then 95 else if l1 = (6 : Int32) then 107 else if l1 = (7 : Int32) then 118 else if l1 = (8 : Int32) then 126 else 131)) (m := 52) (lv := [(0, .ref 0), (1, .int l1)]) (st := []) (s := s) rfl (by rw [if_pos h1]) ?_
    refine xTr.ms 3 (g := (59, [(0, .ref 0)], [.int (s.1 5 2)], s)) rfl ?_
    exact xTr.ret rfl rfl rfl
  refine xTr.cs (fun h2 => ?_) (fun h2 => ?_)
  · refine xTr.sw (n := (if l1 = (0 : Int32) then 52 else if l1 = (1 : Int32) then 60 else if l1 = (2 : Int32) then 68 else if l1 = (3 : Int32) then 76 else if l1 = (4 : Int32) then 84 else if l1 = (5 : Int32) then 95 else if l1 = (6 : Int32) then 107 else if l1 = (7 : Int32) then 118 else if l1 = (8 : Int32) then 126 else 131)) (m := 60) (lv := [(0, .ref 0), (1, .int l1)]) (st := []) (s := s) rfl (by rw [if_neg h1, if_pos h2]) ?_
    refine xTr.ms 3 (g := (67, [(0, .ref 0)], [.int (s.1 8 3)], s)) rfl ?_
    exact xTr.ret rfl rfl rfl
  refine xTr.cs (fun h3 => ?_) (fun h3 => ?_)
  · refine xTr.sw (n := (if l1 = (0 : Int32) then 52 else if l1 = (1 : Int32) then 60 else if l1 = (2 : Int32) then 68 else if l1 = (3 : Int32) then 76 else if l1 = (4 : Int32) then 84 else if l1 = (5 : Int32) then 95 else if l1 = (6 : Int32) then 107 else if l1 = (7 : Int32) then 118 else if l1 = (8 : Int32) then 126 else 131)) (m := 68) (lv := [(0, .ref 0), (1, .int l1)]) (st := []) (s := s) rfl (by rw [if_neg h1, if_neg h2, if_pos h3]) ?_
    refine xTr.ms 3 (g := (75, [(0, .ref 0)], [.int (s.1 1 2)], s)) rfl ?_
    exact xTr.ret rfl rfl rfl
  refine xTr.cs (fun h4 => ?_) (fun h4 => ?_)
  · refine xTr.sw (n := (if l1 = (0 : Int32) then 52 else if l1 = (1 : Int32) then 60 else if l1 = (2 : Int32) then 68 else if l1 = (3 : Int32) then 76 else if l1 = (4 : Int32) then 84 else if l1 = (5 : Int32) then 95 else if l1 = (6 : Int32) then 107 else if l1 = (7 : Int32) then 118 else if l1 = (8 : Int32) then 126 else 131)) (m := 76) (lv := [(0, .ref 0), (1, .int l1)]) (st := []) (s := s) rfl (by rw [if_neg h1, if_neg h2, if_neg h3, if_pos h4]) ?_
    refine xTr.ms 3 (g := (83, [(0, .ref 0)], [.int (s.1 3 2)], s)) rfl ?_
    exact xTr.ret rfl rfl rfl
  refine xTr.cs (fun h5 => ?_) (fun h5 => ?_)
  · refine xTr.sw (n := (if l1 = (0 : Int32) then 52 else if l1 = (1 : Int32) then 60 else if l1 = (2 : Int32) then 68 else if l1 = (3 : Int32) then 76 else if l1 = (4 : Int32) then 84 else if l1 = (5 : Int32) then 95 else if l1 = (6 : Int32) then 107 else if l1 = (7 : Int32) then 118 else if l1 = (8 : Int32) then 126 else 131)) (m := 84) (lv := [(0, .ref 0), (1, .int l1)]) (st := []) (s := s) rfl (by rw [if_neg h1, if_neg h2, if_neg h3, if_neg h4, if_pos h5]) ?_
    refine xTr.ms 4 (g := (94, [(0, .ref 0)], [.int (s.1 13 3)], s)) rfl ?_
    exact xTr.ret rfl rfl rfl
  refine xTr.cs (fun h6 => ?_) (fun h6 => ?_)
  · refine xTr.sw (n := (if l1 = (0 : Int32) then 52 else if l1 = (1 : Int32) then 60 else if l1 = (2 : Int32) then 68 else if l1 = (3 : Int32) then 76 else if l1 = (4 : Int32) then 84 else if l1 = (5 : Int32) then 95 else if l1 = (6 : Int32) then 107 else if l1 = (7 : Int32) then 118 else if l1 = (8 : Int32) then 126 else 131)) (m := 95) (lv := [(0, .ref 0), (1, .int l1)]) (st := []) (s := s) rfl (by rw [if_neg h1, if_neg h2, if_neg h3, if_neg h4, if_neg h5, if_pos h6]) ?_
    refine xTr.ms 4 (g := (103, [(0, .ref 0)], [.ref 8, .ref 22], s)) rfl ?_
    refine xTr.callip (R' := xR_X3_doneOf) (as := [.ref 22, .ref 8]) (lv := [(0, .ref 0)]) (rest := []) (ok_X3_doneOf s) rfl rfl rfl rfl rfl (fun v7 => ?_)
    exact xTr.ret rfl rfl rfl
  refine xTr.cs (fun h8 => ?_) (fun h8 => ?_)
  · refine xTr.sw (n := (if l1 = (0 : Int32) then 52 else if l1 = (1 : Int32) then 60 else if l1 = (2 : Int32) then 68 else if l1 = (3 : Int32) then 76 else if l1 = (4 : Int32) then 84 else if l1 = (5 : Int32) then 95 else if l1 = (6 : Int32) then 107 else if l1 = (7 : Int32) then 118 else if l1 = (8 : Int32) then 126 else 131)) (m := 107) (lv := [(0, .ref 0), (1, .int l1)]) (st := []) (s := s) rfl (by rw [if_neg h1, if_neg h2, if_neg h3, if_neg h4, if_neg h5, if_neg h6, if_pos h8]) ?_
    refine xTr.ms 3 (g := (114, [(0, .ref 0)], [.long (s.2 22 6)], s)) rfl ?_
    refine xTr.callip (R' := xR_J13_bitCount_95d88) (as := [.long (s.2 22 6)]) (lv := [(0, .ref 0)]) (rest := []) (ok_J13_bitCount_95d88 (s.2 22 6) s) rfl rfl rfl rfl rfl (fun v9 => ?_)
    exact xTr.ret rfl rfl rfl
  refine xTr.cs (fun h10 => ?_) (fun h10 => ?_)
  · refine xTr.sw (n := (if l1 = (0 : Int32) then 52 else if l1 = (1 : Int32) then 60 else if l1 = (2 : Int32) then 68 else if l1 = (3 : Int32) then 76 else if l1 = (4 : Int32) then 84 else if l1 = (5 : Int32) then 95 else if l1 = (6 : Int32) then 107 else if l1 = (7 : Int32) then 118 else if l1 = (8 : Int32) then 126 else 131)) (m := 118) (lv := [(0, .ref 0), (1, .int l1)]) (st := []) (s := s) rfl (by rw [if_neg h1, if_neg h2, if_neg h3, if_neg h4, if_neg h5, if_neg h6, if_neg h8, if_pos h10]) ?_
    refine xTr.ms 3 (g := (125, [(0, .ref 0)], [.int (s.1 16 3)], s)) rfl ?_
    exact xTr.ret rfl rfl rfl
  refine xTr.cs (fun h11 => ?_) (fun h11 => ?_)
  · refine xTr.sw (n := (if l1 = (0 : Int32) then 52 else if l1 = (1 : Int32) then 60 else if l1 = (2 : Int32) then 68 else if l1 = (3 : Int32) then 76 else if l1 = (4 : Int32) then 84 else if l1 = (5 : Int32) then 95 else if l1 = (6 : Int32) then 107 else if l1 = (7 : Int32) then 118 else if l1 = (8 : Int32) then 126 else 131)) (m := 126) (lv := [(0, .ref 0), (1, .int l1)]) (st := []) (s := s) rfl (by rw [if_neg h1, if_neg h2, if_neg h3, if_neg h4, if_neg h5, if_neg h6, if_neg h8, if_neg h10, if_pos h11]) ?_
    refine xTr.ms 2 (g := (130, [(0, .ref 0)], [.int (s.1 0 17)], s)) rfl ?_
    exact xTr.ret rfl rfl rfl
  refine xTr.sw (n := (if l1 = (0 : Int32) then 52 else if l1 = (1 : Int32) then 60 else if l1 = (2 : Int32) then 68 else if l1 = (3 : Int32) then 76 else if l1 = (4 : Int32) then 84 else if l1 = (5 : Int32) then 95 else if l1 = (6 : Int32) then 107 else if l1 = (7 : Int32) then 118 else if l1 = (8 : Int32) then 126 else 131)) (m := 131) (lv := [(0, .ref 0), (1, .int l1)]) (st := []) (s := s) rfl (by rw [if_neg h1, if_neg h2, if_neg h3, if_neg h4, if_neg h5, if_neg h6, if_neg h8, if_neg h10, if_neg h11]) ?_
  refine xTr.ms 1 (g := (133, [], [.int (-2 : Int32)], s)) rfl ?_
  exact xTr.ret rfl rfl rfl
-- X8_mix
def F_X8_mix (l0 : Int64) (l2 : Int64) (s : xS) : Option (Int64) := some (((31 : Int64) * l0) + l2)
set_option maxRecDepth 100000 in
theorem ok_X8_mix (l0 : Int64) (l2 : Int64) (s : xS) : xTr xMs xFL xR_X8_mix (Sum.inl (0, [(0, .long l0), (2, .long l2)], [], s)) (F_X8_mix l0 l2 s) (fun (y : Int64) => Sum.inr (some (.long y), s)) := by
  unfold F_X8_mix
  refine xTr.ms 5 (g := (7, [(0, .long l0), (2, .long l2)], [.long (((31 : Int64) * l0) + l2)], s)) rfl ?_
  exact xTr.ret rfl rfl rfl
-- X8_mixDeed
def F_X8_mixDeed (l1 : Int64) (l3 : Int32) (s : xS) : Option (Int64 × xS) := (F_X8_deed l3 (0 : Int32) s).bind fun v1 => ((F_X8_mix l1 (v1).toInt64 s).bind fun v2 => ((F_X8_deed l3 (1 : Int32) s).bind fun v3 => ((F_X8_mix v2 (v3).toInt64 s).bind fun v4 => ((F_X8_deed l3 (2 : Int32) s).bind fun v5 => ((F_X8_mix v4 (v5).toInt64 s).bind fun v6 => ((F_X8_heard l3 (0 : Int32) s).bind fun v7 => ((F_X8_mix v6 (v7).toInt64 s).bind fun v8 => ((F_X8_heard l3 (1 : Int32) s).bind fun v9 => ((F_X8_mix v8 (v9).toInt64 s).bind fun v10 => ((F_X8_hour l3 (0 : Int32) s).bind fun q12 => ((F_X8_mix v10 (q12.1).toInt64 q12.2).bind fun v13 => ((F_X8_hour l3 (1 : Int32) q12.2).bind fun q15 => ((F_X8_mix v13 (q15.1).toInt64 q15.2).bind fun v16 => ((F_X8_whence l3 (-1 : Int32) q15.2).bind fun q18 => ((F_X8_mix v16 (q18.1).toInt64 q18.2).bind fun v19 => ((F_X8_whence l3 (0 : Int32) q18.2).bind fun q21 => ((F_X8_mix v19 (q21.1).toInt64 q21.2).bind fun v22 => ((F_X8_what l3 q21.2).bind fun q24 => ((F_X8_mix v22 (q24.1).toInt64 q24.2).bind fun v25 => ((F_X8_ask l3 q24.2).bind fun q27 => ((F_X8_mix v25 (q27.1).toInt64 q27.2).bind fun v28 => (some (v28, q27.2)))))))))))))))))))))))
set_option maxRecDepth 100000 in
theorem ok_X8_mixDeed (l1 : Int64) (l3 : Int32) (s : xS) : xTr xMs xFL xR_X8_mixDeed (Sum.inl (0, [(0, .ref 0), (1, .long l1), (3, .int l3)], [], s)) (F_X8_mixDeed l1 l3 s) (fun (y : Int64 × xS) => Sum.inr (some (.long y.1), y.2)) := by
  unfold F_X8_mixDeed
  refine xTr.ms 4 (g := (4, [(0, .ref 0), (1, .long l1), (3, .int l3)], [.int (0 : Int32), .int l3, .ref 0, .long l1], s)) rfl ?_
  refine xTr.callip (R' := xR_X8_deed) (as := [.ref 0, .int l3, .int (0 : Int32)]) (lv := [(0, .ref 0), (1, .long l1), (3, .int l3)]) (rest := [.long l1]) (ok_X8_deed l3 (0 : Int32) s) rfl rfl rfl rfl rfl (fun v1 => ?_)
  refine xTr.ms 1 (g := (8, [(0, .ref 0), (1, .long l1), (3, .int l3)], [.long (v1).toInt64, .long l1], s)) rfl ?_
  refine xTr.calllp (R' := xR_X8_mix) (as := [.long l1, .long (v1).toInt64]) (lv := [(0, .ref 0), (1, .long l1), (3, .int l3)]) (rest := []) (ok_X8_mix l1 (v1).toInt64 s) rfl rfl rfl rfl rfl (fun v2 => ?_)
  refine xTr.ms 3 (g := (14, [(0, .ref 0), (1, .long l1), (3, .int l3)], [.int (1 : Int32), .int l3, .ref 0, .long v2], s)) rfl ?_
  refine xTr.callip (R' := xR_X8_deed) (as := [.ref 0, .int l3, .int (1 : Int32)]) (lv := [(0, .ref 0), (1, .long l1), (3, .int l3)]) (rest := [.long v2]) (ok_X8_deed l3 (1 : Int32) s) rfl rfl rfl rfl rfl (fun v3 => ?_)
  refine xTr.ms 1 (g := (18, [(0, .ref 0), (1, .long l1), (3, .int l3)], [.long (v3).toInt64, .long v2], s)) rfl ?_
  refine xTr.calllp (R' := xR_X8_mix) (as := [.long v2, .long (v3).toInt64]) (lv := [(0, .ref 0), (1, .long l1), (3, .int l3)]) (rest := []) (ok_X8_mix v2 (v3).toInt64 s) rfl rfl rfl rfl rfl (fun v4 => ?_)
  refine xTr.ms 3 (g := (24, [(0, .ref 0), (1, .long l1), (3, .int l3)], [.int (2 : Int32), .int l3, .ref 0, .long v4], s)) rfl ?_
  refine xTr.callip (R' := xR_X8_deed) (as := [.ref 0, .int l3, .int (2 : Int32)]) (lv := [(0, .ref 0), (1, .long l1), (3, .int l3)]) (rest := [.long v4]) (ok_X8_deed l3 (2 : Int32) s) rfl rfl rfl rfl rfl (fun v5 => ?_)
  refine xTr.ms 1 (g := (28, [(0, .ref 0), (1, .long l1), (3, .int l3)], [.long (v5).toInt64, .long v4], s)) rfl ?_
  refine xTr.calllp (R' := xR_X8_mix) (as := [.long v4, .long (v5).toInt64]) (lv := [(0, .ref 0), (1, .long l1), (3, .int l3)]) (rest := []) (ok_X8_mix v4 (v5).toInt64 s) rfl rfl rfl rfl rfl (fun v6 => ?_)
  refine xTr.ms 5 (g := (38, [(0, .ref 0), (1, .long l1), (3, .int l3), (4, .long v6)], [.int (0 : Int32), .int l3, .ref 0, .long v6], s)) rfl ?_
  refine xTr.callip (R' := xR_X8_heard) (as := [.ref 0, .int l3, .int (0 : Int32)]) (lv := [(0, .ref 0), (1, .long l1), (3, .int l3), (4, .long v6)]) (rest := [.long v6]) (ok_X8_heard l3 (0 : Int32) s) rfl rfl rfl rfl rfl (fun v7 => ?_)
  refine xTr.ms 1 (g := (42, [(0, .ref 0), (1, .long l1), (3, .int l3), (4, .long v6)], [.long (v7).toInt64, .long v6], s)) rfl ?_
  refine xTr.calllp (R' := xR_X8_mix) (as := [.long v6, .long (v7).toInt64]) (lv := [(0, .ref 0), (1, .long l1), (3, .int l3), (4, .long v6)]) (rest := []) (ok_X8_mix v6 (v7).toInt64 s) rfl rfl rfl rfl rfl (fun v8 => ?_)
  refine xTr.ms 3 (g := (48, [(0, .ref 0), (1, .long l1), (3, .int l3), (4, .long v6)], [.int (1 : Int32), .int l3, .ref 0, .long v8], s)) rfl ?_
  refine xTr.callip (R' := xR_X8_heard) (as := [.ref 0, .int l3, .int (1 : Int32)]) (lv := [(0, .ref 0), (1, .long l1), (3, .int l3), (4, .long v6)]) (rest := [.long v8]) (ok_X8_heard l3 (1 : Int32) s) rfl rfl rfl rfl rfl (fun v9 => ?_)
  refine xTr.ms 1 (g := (52, [(0, .ref 0), (1, .long l1), (3, .int l3), (4, .long v6)], [.long (v9).toInt64, .long v8], s)) rfl ?_
  refine xTr.calllp (R' := xR_X8_mix) (as := [.long v8, .long (v9).toInt64]) (lv := [(0, .ref 0), (1, .long l1), (3, .int l3), (4, .long v6)]) (rest := []) (ok_X8_mix v8 (v9).toInt64 s) rfl rfl rfl rfl rfl (fun v10 => ?_)
  refine xTr.ms 5 (g := (62, [(0, .ref 0), (1, .long l1), (3, .int l3), (4, .long v10)], [.int (0 : Int32), .int l3, .ref 0, .long v10], s)) rfl ?_
  refine xTr.calli (R' := xR_X8_hour) (as := [.ref 0, .int l3, .int (0 : Int32)]) (lv := [(0, .ref 0), (1, .long l1), (3, .int l3), (4, .long v10)]) (rest := [.long v10]) (ok_X8_hour l3 (0 : Int32) s) rfl rfl rfl rfl rfl (fun v11 s11 => ?_)
  refine xTr.ms 1 (g := (66, [(0, .ref 0), (1, .long l1), (3, .int l3), (4, .long v10)], [.long (v11).toInt64, .long v10], s11)) rfl ?_
  refine xTr.calllp (R' := xR_X8_mix) (as := [.long v10, .long (v11).toInt64]) (lv := [(0, .ref 0), (1, .long l1), (3, .int l3), (4, .long v10)]) (rest := []) (ok_X8_mix v10 (v11).toInt64 s11) rfl rfl rfl rfl rfl (fun v13 => ?_)
  refine xTr.ms 3 (g := (72, [(0, .ref 0), (1, .long l1), (3, .int l3), (4, .long v10)], [.int (1 : Int32), .int l3, .ref 0, .long v13], s11)) rfl ?_
  refine xTr.calli (R' := xR_X8_hour) (as := [.ref 0, .int l3, .int (1 : Int32)]) (lv := [(0, .ref 0), (1, .long l1), (3, .int l3), (4, .long v10)]) (rest := [.long v13]) (ok_X8_hour l3 (1 : Int32) s11) rfl rfl rfl rfl rfl (fun v14 s14 => ?_)
  refine xTr.ms 1 (g := (76, [(0, .ref 0), (1, .long l1), (3, .int l3), (4, .long v10)], [.long (v14).toInt64, .long v13], s14)) rfl ?_
  refine xTr.calllp (R' := xR_X8_mix) (as := [.long v13, .long (v14).toInt64]) (lv := [(0, .ref 0), (1, .long l1), (3, .int l3), (4, .long v10)]) (rest := []) (ok_X8_mix v13 (v14).toInt64 s14) rfl rfl rfl rfl rfl (fun v16 => ?_)
  refine xTr.ms 5 (g := (86, [(0, .ref 0), (1, .long l1), (3, .int l3), (4, .long v16)], [.int (-1 : Int32), .int l3, .ref 0, .long v16], s14)) rfl ?_
  refine xTr.calli (R' := xR_X8_whence) (as := [.ref 0, .int l3, .int (-1 : Int32)]) (lv := [(0, .ref 0), (1, .long l1), (3, .int l3), (4, .long v16)]) (rest := [.long v16]) (ok_X8_whence l3 (-1 : Int32) s14) rfl rfl rfl rfl rfl (fun v17 s17 => ?_)
  refine xTr.ms 1 (g := (90, [(0, .ref 0), (1, .long l1), (3, .int l3), (4, .long v16)], [.long (v17).toInt64, .long v16], s17)) rfl ?_
  refine xTr.calllp (R' := xR_X8_mix) (as := [.long v16, .long (v17).toInt64]) (lv := [(0, .ref 0), (1, .long l1), (3, .int l3), (4, .long v16)]) (rest := []) (ok_X8_mix v16 (v17).toInt64 s17) rfl rfl rfl rfl rfl (fun v19 => ?_)
  refine xTr.ms 3 (g := (96, [(0, .ref 0), (1, .long l1), (3, .int l3), (4, .long v16)], [.int (0 : Int32), .int l3, .ref 0, .long v19], s17)) rfl ?_
  refine xTr.calli (R' := xR_X8_whence) (as := [.ref 0, .int l3, .int (0 : Int32)]) (lv := [(0, .ref 0), (1, .long l1), (3, .int l3), (4, .long v16)]) (rest := [.long v19]) (ok_X8_whence l3 (0 : Int32) s17) rfl rfl rfl rfl rfl (fun v20 s20 => ?_)
  refine xTr.ms 1 (g := (100, [(0, .ref 0), (1, .long l1), (3, .int l3), (4, .long v16)], [.long (v20).toInt64, .long v19], s20)) rfl ?_
  refine xTr.calllp (R' := xR_X8_mix) (as := [.long v19, .long (v20).toInt64]) (lv := [(0, .ref 0), (1, .long l1), (3, .int l3), (4, .long v16)]) (rest := []) (ok_X8_mix v19 (v20).toInt64 s20) rfl rfl rfl rfl rfl (fun v22 => ?_)
  refine xTr.ms 4 (g := (109, [(0, .ref 0), (1, .long l1), (3, .int l3), (4, .long v22)], [.int l3, .ref 0, .long v22], s20)) rfl ?_
  refine xTr.calli (R' := xR_X8_what) (as := [.ref 0, .int l3]) (lv := [(0, .ref 0), (1, .long l1), (3, .int l3), (4, .long v22)]) (rest := [.long v22]) (ok_X8_what l3 s20) rfl rfl rfl rfl rfl (fun v23 s23 => ?_)
  refine xTr.ms 1 (g := (113, [(0, .ref 0), (1, .long l1), (3, .int l3), (4, .long v22)], [.long (v23).toInt64, .long v22], s23)) rfl ?_
  refine xTr.calllp (R' := xR_X8_mix) (as := [.long v22, .long (v23).toInt64]) (lv := [(0, .ref 0), (1, .long l1), (3, .int l3), (4, .long v22)]) (rest := []) (ok_X8_mix v22 (v23).toInt64 s23) rfl rfl rfl rfl rfl (fun v25 => ?_)
  refine xTr.ms 2 (g := (118, [(0, .ref 0), (1, .long l1), (3, .int l3), (4, .long v22)], [.int l3, .ref 0, .long v25], s23)) rfl ?_
  refine xTr.calli (R' := xR_X8_ask) (as := [.ref 0, .int l3]) (lv := [(0, .ref 0), (1, .long l1), (3, .int l3), (4, .long v22)]) (rest := [.long v25]) (ok_X8_ask l3 s23) rfl rfl rfl rfl rfl (fun v26 s26 => ?_)
  refine xTr.ms 1 (g := (122, [(0, .ref 0), (1, .long l1), (3, .int l3), (4, .long v22)], [.long (v26).toInt64, .long v25], s26)) rfl ?_
  refine xTr.calllp (R' := xR_X8_mix) (as := [.long v25, .long (v26).toInt64]) (lv := [(0, .ref 0), (1, .long l1), (3, .int l3), (4, .long v22)]) (rest := []) (ok_X8_mix v25 (v26).toInt64 s26) rfl rfl rfl rfl rfl (fun v28 => ?_)
  exact xTr.ret rfl rfl rfl
-- X8_digest
def F_X8_digest_L6 (s : xS) (a : Int64 × Int32) : Option ((Int64 × Int32) ⊕ (Int64)) := if (7 : Int32) < a.2 then (some (Sum.inr a.1)) else ((F_X8_count a.2 s).bind fun v2 => ((F_X8_mix a.1 (v2).toInt64 s).bind fun v3 => (some (Sum.inl (v3, (a.2 + (1 : Int32)))))))
def F_X8_digest_L51 (a : Int64 × Int32 × xS) : Option ((Int64 × Int32 × xS) ⊕ (Int64 × xS)) := if (a.2.2.1 5 2) ≤ a.2.1 then (some (Sum.inr (a.1, a.2.2))) else ((F_X8_cell a.2.1 a.2.2).bind fun v10 => ((F_X8_mix a.1 (v10).toInt64 a.2.2).bind fun v11 => ((F_X8_carry (20 : Int32) (0 : Int32) a.2.1 a.2.2).bind fun q13 => ((F_X8_mix v11 (q13.1).toInt64 q13.2).bind fun v14 => ((F_X8_way (0 : Int32) a.2.1 q13.2).bind fun q16 => ((F_X8_mix v14 (q16.1).toInt64 q16.2).bind fun v17 => (some (Sum.inl (v17, (a.2.1 + (1 : Int32)), q16.2)))))))))
def F_X8_digest_L113 (a : Int64 × Int32 × xS) : Option ((Int64 × Int32 × xS) ⊕ (Int64 × xS)) := if (a.2.2.1 8 3) ≤ a.2.1 then (some (Sum.inr (a.1, a.2.2))) else ((F_X8_mixDeed a.1 a.2.1 a.2.2).bind fun q23 => (some (Sum.inl (q23.1, (a.2.1 + (1 : Int32)), q23.2))))
def F_X8_digest_L139 (s : xS) (a : Int64 × Int32) : Option ((Int64 × Int32) ⊕ (Int64)) := if (10 : Int32) ≤ a.2 then (some (Sum.inr a.1)) else ((F_X8_noise a.2 s).bind fun v26 => ((F_X8_mix a.1 (v26).toInt64 s).bind fun v27 => ((F_X8_depth a.2 s).bind fun v28 => ((F_X8_mix v27 (v28).toInt64 s).bind fun v29 => (some (Sum.inl (v29, (a.2 + (1 : Int32)))))))))
def F_X8_digest (s : xS) : Option (Int64 × xS) := (xlp (F_X8_digest_L6 s) 100000 ((17 : Int64), (0 : Int32))).bind (fun b4 => ((F_X8_fault (0 : Int32) s).bind fun v5 => ((F_X8_mix b4 (v5).toInt64 s).bind fun v6 => ((F_X8_fault (1 : Int32) s).bind fun v7 => ((F_X8_mix v6 (v7).toInt64 s).bind fun v8 => ((xlp (F_X8_digest_L51) 100000 (v8, (0 : Int32), s)).bind (fun b18 => ((F_X8_bed b18.2).bind fun v19 => ((F_X8_mix b18.1 (v19).toInt64 b18.2).bind fun v20 => ((xlp (F_X8_digest_L113) 100000 (v20, (0 : Int32), b18.2)).bind (fun b24 => ((xlp (F_X8_digest_L139 b24.2) 100000 (b24.1, (0 : Int32))).bind (fun b30 => ((F_X8_wakes b24.2).bind fun v31 => ((F_X8_mix b30 (v31).toInt64 b24.2).bind fun v32 => ((F_X8_exiled (0 : Int32) b24.2).bind fun v33 => ((F_X8_mix v32 (v33).toInt64 b24.2).bind fun v34 => ((F_X8_exiled (1 : Int32) b24.2).bind fun v35 => ((F_X8_mix v34 (v35).toInt64 b24.2).bind fun v36 => ((F_X8_loudest b24.2).bind fun v37 => ((F_X8_mix v36 (v37).toInt64 b24.2).bind fun v38 => ((F_X8_felt (-1 : Int32) b24.2).bind fun q40 => ((F_X8_mix v38 (q40.1).toInt64 q40.2).bind fun v41 => ((F_X8_felt (0 : Int32) q40.2).bind fun q43 => ((F_X8_mix v41 (q43.1).toInt64 q43.2).bind fun v44 => ((F_X8_lay (0 : Int32) q43.2).bind fun q46 => ((F_X8_mix v44 (q46.1).toInt64 q46.2).bind fun v47 => ((F_X8_lay (1 : Int32) q46.2).bind fun q49 => ((F_X8_mix v47 (q49.1).toInt64 q49.2).bind fun v50 => ((F_X8_never q49.2).bind fun q52 => ((F_X8_mix v50 (q52.1).toInt64 q52.2).bind fun v53 => ((F_X8_sleeps (5 : Int32) (0 : Int32) q52.2).bind fun q55 => ((F_X8_mix v53 q55.1 q55.2).bind fun v56 => ((F_X8_sleeps (5 : Int32) (1 : Int32) q55.2).bind fun q58 => ((F_X8_mix v56 q58.1 q58.2).bind fun v59 => ((F_X8_day (7 : Int32) (8 : Int32) (0 : Int32) q58.2).bind fun q61 => ((F_X8_mix v59 (q61.1).toInt64 q61.2).bind fun v62 => ((F_X8_day (7 : Int32) (8 : Int32) (1 : Int32) q61.2).bind fun q64 => ((F_X8_mix v62 (q64.1).toInt64 q64.2).bind fun v65 => (some (v65, q64.2)))))))))))))))))))))))))))))))))))))))))
def F_X8_digest_L6_hd (s : xS) (a : Int64 × Int32) : xT := Sum.inl (6, [(0, .ref 0), (1, .long a.1), (3, .int a.2)], [], s)
def F_X8_digest_L6_ex (s : xS) : (Int64) → xT := (fun (z : Int64) => Sum.inl (29, [(0, .ref 0), (1, .long z)], [], s))
set_option maxRecDepth 100000 in
theorem F_X8_digest_L6_ok (s : xS) (a : Int64 × Int32) : xTr xMs xFL xR_X8_digest (F_X8_digest_L6_hd s a) (F_X8_digest_L6 s a) (xhx (F_X8_digest_L6_hd s) (F_X8_digest_L6_ex s)) := by
  unfold F_X8_digest_L6
  refine xTr.ms 2 (g := (9, [(0, .ref 0), (1, .long a.1), (3, .int a.2)], [.int (7 : Int32), .int a.2], s)) rfl ?_
  refine xTr.br (g1 := (29, [(0, .ref 0), (1, .long a.1), (3, .int a.2)], [], s)) (g2 := (12, [(0, .ref 0), (1, .long a.1), (3, .int a.2)], [], s)) rfl (fun h1 => ?_) (fun h1 => ?_)
  · refine xTr.mk (lv1 := [(0, .ref 0), (1, .long a.1)]) rfl rfl ?_
    exact xTr.leaf rfl
  · refine xTr.ms 3 (g := (15, [(0, .ref 0), (1, .long a.1), (3, .int a.2)], [.int a.2, .ref 0, .long a.1], s)) rfl ?_
    refine xTr.callip (R' := xR_X8_count) (as := [.ref 0, .int a.2]) (lv := [(0, .ref 0), (1, .long a.1), (3, .int a.2)]) (rest := [.long a.1]) (ok_X8_count a.2 s) rfl rfl rfl rfl rfl (fun v2 => ?_)
    refine xTr.ms 1 (g := (19, [(0, .ref 0), (1, .long a.1), (3, .int a.2)], [.long (v2).toInt64, .long a.1], s)) rfl ?_
    refine xTr.calllp (R' := xR_X8_mix) (as := [.long a.1, .long (v2).toInt64]) (lv := [(0, .ref 0), (1, .long a.1), (3, .int a.2)]) (rest := []) (ok_X8_mix a.1 (v2).toInt64 s) rfl rfl rfl rfl rfl (fun v3 => ?_)
    refine xTr.ms 3 (g := (6, [(0, .ref 0), (1, .long v3), (3, .int (a.2 + (1 : Int32)))], [], s)) rfl ?_
    exact xTr.leaf rfl
def F_X8_digest_L51_hd (a : Int64 × Int32 × xS) : xT := Sum.inl (51, [(0, .ref 0), (1, .long a.1), (3, .int a.2.1)], [], a.2.2)
def F_X8_digest_L51_ex : (Int64 × xS) → xT := (fun (z : Int64 × xS) => Sum.inl (101, [(0, .ref 0), (1, .long z.1)], [], z.2))
set_option maxRecDepth 100000 in
theorem F_X8_digest_L51_ok (a : Int64 × Int32 × xS) : xTr xMs xFL xR_X8_digest (F_X8_digest_L51_hd a) (F_X8_digest_L51 a) (xhx (F_X8_digest_L51_hd) (F_X8_digest_L51_ex)) := by
  unfold F_X8_digest_L51
  refine xTr.ms 4 (g := (59, [(0, .ref 0), (1, .long a.1), (3, .int a.2.1)], [.int (a.2.2.1 5 2), .int a.2.1], a.2.2)) rfl ?_
  refine xTr.br (g1 := (101, [(0, .ref 0), (1, .long a.1), (3, .int a.2.1)], [], a.2.2)) (g2 := (62, [(0, .ref 0), (1, .long a.1), (3, .int a.2.1)], [], a.2.2)) rfl (fun h9 => ?_) (fun h9 => ?_)
  · refine xTr.mk (lv1 := [(0, .ref 0), (1, .long a.1)]) rfl rfl ?_
    exact xTr.leaf rfl
  · refine xTr.ms 3 (g := (65, [(0, .ref 0), (1, .long a.1), (3, .int a.2.1)], [.int a.2.1, .ref 0, .long a.1], a.2.2)) rfl ?_
    refine xTr.callip (R' := xR_X8_cell) (as := [.ref 0, .int a.2.1]) (lv := [(0, .ref 0), (1, .long a.1), (3, .int a.2.1)]) (rest := [.long a.1]) (ok_X8_cell a.2.1 a.2.2) rfl rfl rfl rfl rfl (fun v10 => ?_)
    refine xTr.ms 1 (g := (69, [(0, .ref 0), (1, .long a.1), (3, .int a.2.1)], [.long (v10).toInt64, .long a.1], a.2.2)) rfl ?_
    refine xTr.calllp (R' := xR_X8_mix) (as := [.long a.1, .long (v10).toInt64]) (lv := [(0, .ref 0), (1, .long a.1), (3, .int a.2.1)]) (rest := []) (ok_X8_mix a.1 (v10).toInt64 a.2.2) rfl rfl rfl rfl rfl (fun v11 => ?_)
    refine xTr.ms 4 (g := (77, [(0, .ref 0), (1, .long a.1), (3, .int a.2.1)], [.int a.2.1, .int (0 : Int32), .int (20 : Int32), .ref 0, .long v11], a.2.2)) rfl ?_
    refine xTr.calli (R' := xR_X8_carry) (as := [.ref 0, .int (20 : Int32), .int (0 : Int32), .int a.2.1]) (lv := [(0, .ref 0), (1, .long a.1), (3, .int a.2.1)]) (rest := [.long v11]) (ok_X8_carry (20 : Int32) (0 : Int32) a.2.1 a.2.2) rfl rfl rfl rfl rfl (fun v12 s12 => ?_)
    refine xTr.ms 1 (g := (81, [(0, .ref 0), (1, .long a.1), (3, .int a.2.1)], [.long (v12).toInt64, .long v11], s12)) rfl ?_
    refine xTr.calllp (R' := xR_X8_mix) (as := [.long v11, .long (v12).toInt64]) (lv := [(0, .ref 0), (1, .long a.1), (3, .int a.2.1)]) (rest := []) (ok_X8_mix v11 (v12).toInt64 s12) rfl rfl rfl rfl rfl (fun v14 => ?_)
    refine xTr.ms 3 (g := (87, [(0, .ref 0), (1, .long a.1), (3, .int a.2.1)], [.int a.2.1, .int (0 : Int32), .ref 0, .long v14], s12)) rfl ?_
    refine xTr.calli (R' := xR_X8_way) (as := [.ref 0, .int (0 : Int32), .int a.2.1]) (lv := [(0, .ref 0), (1, .long a.1), (3, .int a.2.1)]) (rest := [.long v14]) (ok_X8_way (0 : Int32) a.2.1 s12) rfl rfl rfl rfl rfl (fun v15 s15 => ?_)
    refine xTr.ms 1 (g := (91, [(0, .ref 0), (1, .long a.1), (3, .int a.2.1)], [.long (v15).toInt64, .long v14], s15)) rfl ?_
    refine xTr.calllp (R' := xR_X8_mix) (as := [.long v14, .long (v15).toInt64]) (lv := [(0, .ref 0), (1, .long a.1), (3, .int a.2.1)]) (rest := []) (ok_X8_mix v14 (v15).toInt64 s15) rfl rfl rfl rfl rfl (fun v17 => ?_)
    refine xTr.ms 3 (g := (51, [(0, .ref 0), (1, .long v17), (3, .int (a.2.1 + (1 : Int32)))], [], s15)) rfl ?_
    exact xTr.leaf rfl
def F_X8_digest_L113_hd (a : Int64 × Int32 × xS) : xT := Sum.inl (113, [(0, .ref 0), (1, .long a.1), (3, .int a.2.1)], [], a.2.2)
def F_X8_digest_L113_ex : (Int64 × xS) → xT := (fun (z : Int64 × xS) => Sum.inl (137, [(0, .ref 0), (1, .long z.1)], [], z.2))
set_option maxRecDepth 100000 in
theorem F_X8_digest_L113_ok (a : Int64 × Int32 × xS) : xTr xMs xFL xR_X8_digest (F_X8_digest_L113_hd a) (F_X8_digest_L113 a) (xhx (F_X8_digest_L113_hd) (F_X8_digest_L113_ex)) := by
  unfold F_X8_digest_L113
  refine xTr.ms 4 (g := (121, [(0, .ref 0), (1, .long a.1), (3, .int a.2.1)], [.int (a.2.2.1 8 3), .int a.2.1], a.2.2)) rfl ?_
  refine xTr.br (g1 := (137, [(0, .ref 0), (1, .long a.1), (3, .int a.2.1)], [], a.2.2)) (g2 := (124, [(0, .ref 0), (1, .long a.1), (3, .int a.2.1)], [], a.2.2)) rfl (fun h21 => ?_) (fun h21 => ?_)
  · refine xTr.mk (lv1 := [(0, .ref 0), (1, .long a.1)]) rfl rfl ?_
    exact xTr.leaf rfl
  · refine xTr.ms 3 (g := (127, [(0, .ref 0), (1, .long a.1), (3, .int a.2.1)], [.int a.2.1, .long a.1, .ref 0], a.2.2)) rfl ?_
    refine xTr.calll (R' := xR_X8_mixDeed) (as := [.ref 0, .long a.1, .int a.2.1]) (lv := [(0, .ref 0), (1, .long a.1), (3, .int a.2.1)]) (rest := []) (ok_X8_mixDeed a.1 a.2.1 a.2.2) rfl rfl rfl rfl rfl (fun v22 s22 => ?_)
    refine xTr.ms 3 (g := (113, [(0, .ref 0), (1, .long v22), (3, .int (a.2.1 + (1 : Int32)))], [], s22)) rfl ?_
    exact xTr.leaf rfl
def F_X8_digest_L139_hd (s : xS) (a : Int64 × Int32) : xT := Sum.inl (139, [(0, .ref 0), (1, .long a.1), (3, .int a.2)], [], s)
def F_X8_digest_L139_ex (s : xS) : (Int64) → xT := (fun (z : Int64) => Sum.inl (171, [(0, .ref 0), (1, .long z)], [], s))
set_option maxRecDepth 100000 in
theorem F_X8_digest_L139_ok (s : xS) (a : Int64 × Int32) : xTr xMs xFL xR_X8_digest (F_X8_digest_L139_hd s a) (F_X8_digest_L139 s a) (xhx (F_X8_digest_L139_hd s) (F_X8_digest_L139_ex s)) := by
  unfold F_X8_digest_L139
  refine xTr.ms 2 (g := (142, [(0, .ref 0), (1, .long a.1), (3, .int a.2)], [.int (10 : Int32), .int a.2], s)) rfl ?_
  refine xTr.br (g1 := (171, [(0, .ref 0), (1, .long a.1), (3, .int a.2)], [], s)) (g2 := (145, [(0, .ref 0), (1, .long a.1), (3, .int a.2)], [], s)) rfl (fun h25 => ?_) (fun h25 => ?_)
  · refine xTr.mk (lv1 := [(0, .ref 0), (1, .long a.1)]) rfl rfl ?_
    exact xTr.leaf rfl
  · refine xTr.ms 3 (g := (148, [(0, .ref 0), (1, .long a.1), (3, .int a.2)], [.int a.2, .ref 0, .long a.1], s)) rfl ?_
    refine xTr.callip (R' := xR_X8_noise) (as := [.ref 0, .int a.2]) (lv := [(0, .ref 0), (1, .long a.1), (3, .int a.2)]) (rest := [.long a.1]) (ok_X8_noise a.2 s) rfl rfl rfl rfl rfl (fun v26 => ?_)
    refine xTr.ms 1 (g := (152, [(0, .ref 0), (1, .long a.1), (3, .int a.2)], [.long (v26).toInt64, .long a.1], s)) rfl ?_
    refine xTr.calllp (R' := xR_X8_mix) (as := [.long a.1, .long (v26).toInt64]) (lv := [(0, .ref 0), (1, .long a.1), (3, .int a.2)]) (rest := []) (ok_X8_mix a.1 (v26).toInt64 s) rfl rfl rfl rfl rfl (fun v27 => ?_)
    refine xTr.ms 2 (g := (157, [(0, .ref 0), (1, .long a.1), (3, .int a.2)], [.int a.2, .ref 0, .long v27], s)) rfl ?_
    refine xTr.callip (R' := xR_X8_depth) (as := [.ref 0, .int a.2]) (lv := [(0, .ref 0), (1, .long a.1), (3, .int a.2)]) (rest := [.long v27]) (ok_X8_depth a.2 s) rfl rfl rfl rfl rfl (fun v28 => ?_)
    refine xTr.ms 1 (g := (161, [(0, .ref 0), (1, .long a.1), (3, .int a.2)], [.long (v28).toInt64, .long v27], s)) rfl ?_
    refine xTr.calllp (R' := xR_X8_mix) (as := [.long v27, .long (v28).toInt64]) (lv := [(0, .ref 0), (1, .long a.1), (3, .int a.2)]) (rest := []) (ok_X8_mix v27 (v28).toInt64 s) rfl rfl rfl rfl rfl (fun v29 => ?_)
    refine xTr.ms 3 (g := (139, [(0, .ref 0), (1, .long v29), (3, .int (a.2 + (1 : Int32)))], [], s)) rfl ?_
    exact xTr.leaf rfl
set_option maxRecDepth 100000 in
theorem ok_X8_digest (s : xS) : xTr xMs xFL xR_X8_digest (Sum.inl (0, [(0, .ref 0)], [], s)) (F_X8_digest s) (fun (y : Int64 × xS) => Sum.inr (some (.long y.1), y.2)) := by
  unfold F_X8_digest
  refine xTr.ms 4 (g := (6, [(0, .ref 0), (1, .long (17 : Int64)), (3, .int (0 : Int32))], [], s)) rfl ?_
  refine xTr.bind (J := F_X8_digest_L6_ex s) (xTr.loop (hd := F_X8_digest_L6_hd s) (fun aa => F_X8_digest_L6_ok s aa) 100000 ((17 : Int64), (0 : Int32))) (fun b4 => ?_)
  refine xTr.ms 3 (g := (32, [(0, .ref 0), (1, .long b4)], [.int (0 : Int32), .ref 0, .long b4], s)) rfl ?_
  refine xTr.callip (R' := xR_X8_fault) (as := [.ref 0, .int (0 : Int32)]) (lv := [(0, .ref 0), (1, .long b4)]) (rest := [.long b4]) (ok_X8_fault (0 : Int32) s) rfl rfl rfl rfl rfl (fun v5 => ?_)
  refine xTr.ms 1 (g := (36, [(0, .ref 0), (1, .long b4)], [.long (v5).toInt64, .long b4], s)) rfl ?_
  refine xTr.calllp (R' := xR_X8_mix) (as := [.long b4, .long (v5).toInt64]) (lv := [(0, .ref 0), (1, .long b4)]) (rest := []) (ok_X8_mix b4 (v5).toInt64 s) rfl rfl rfl rfl rfl (fun v6 => ?_)
  refine xTr.ms 2 (g := (41, [(0, .ref 0), (1, .long b4)], [.int (1 : Int32), .ref 0, .long v6], s)) rfl ?_
  refine xTr.callip (R' := xR_X8_fault) (as := [.ref 0, .int (1 : Int32)]) (lv := [(0, .ref 0), (1, .long b4)]) (rest := [.long v6]) (ok_X8_fault (1 : Int32) s) rfl rfl rfl rfl rfl (fun v7 => ?_)
  refine xTr.ms 1 (g := (45, [(0, .ref 0), (1, .long b4)], [.long (v7).toInt64, .long v6], s)) rfl ?_
  refine xTr.calllp (R' := xR_X8_mix) (as := [.long v6, .long (v7).toInt64]) (lv := [(0, .ref 0), (1, .long b4)]) (rest := []) (ok_X8_mix v6 (v7).toInt64 s) rfl rfl rfl rfl rfl (fun v8 => ?_)
  refine xTr.ms 3 (g := (51, [(0, .ref 0), (1, .long v8), (3, .int (0 : Int32))], [], s)) rfl ?_
  refine xTr.bind (J := F_X8_digest_L51_ex) (xTr.loop (hd := F_X8_digest_L51_hd) (fun aa => F_X8_digest_L51_ok aa) 100000 (v8, (0 : Int32), s)) (fun b18 => ?_)
  refine xTr.ms 2 (g := (103, [(0, .ref 0), (1, .long b18.1)], [.ref 0, .long b18.1], b18.2)) rfl ?_
  refine xTr.callip (R' := xR_X8_bed) (as := [.ref 0]) (lv := [(0, .ref 0), (1, .long b18.1)]) (rest := [.long b18.1]) (ok_X8_bed b18.2) rfl rfl rfl rfl rfl (fun v19 => ?_)
  refine xTr.ms 1 (g := (107, [(0, .ref 0), (1, .long b18.1)], [.long (v19).toInt64, .long b18.1], b18.2)) rfl ?_
  refine xTr.calllp (R' := xR_X8_mix) (as := [.long b18.1, .long (v19).toInt64]) (lv := [(0, .ref 0), (1, .long b18.1)]) (rest := []) (ok_X8_mix b18.1 (v19).toInt64 b18.2) rfl rfl rfl rfl rfl (fun v20 => ?_)
  refine xTr.ms 3 (g := (113, [(0, .ref 0), (1, .long v20), (3, .int (0 : Int32))], [], b18.2)) rfl ?_
  refine xTr.bind (J := F_X8_digest_L113_ex) (xTr.loop (hd := F_X8_digest_L113_hd) (fun aa => F_X8_digest_L113_ok aa) 100000 (v20, (0 : Int32), b18.2)) (fun b24 => ?_)
  refine xTr.ms 2 (g := (139, [(0, .ref 0), (1, .long b24.1), (3, .int (0 : Int32))], [], b24.2)) rfl ?_
  refine xTr.bind (J := F_X8_digest_L139_ex b24.2) (xTr.loop (hd := F_X8_digest_L139_hd b24.2) (fun aa => F_X8_digest_L139_ok b24.2 aa) 100000 (b24.1, (0 : Int32))) (fun b30 => ?_)
  refine xTr.ms 2 (g := (173, [(0, .ref 0), (1, .long b30)], [.ref 0, .long b30], b24.2)) rfl ?_
  refine xTr.callip (R' := xR_X8_wakes) (as := [.ref 0]) (lv := [(0, .ref 0), (1, .long b30)]) (rest := [.long b30]) (ok_X8_wakes b24.2) rfl rfl rfl rfl rfl (fun v31 => ?_)
  refine xTr.ms 1 (g := (177, [(0, .ref 0), (1, .long b30)], [.long (v31).toInt64, .long b30], b24.2)) rfl ?_
  refine xTr.calllp (R' := xR_X8_mix) (as := [.long b30, .long (v31).toInt64]) (lv := [(0, .ref 0), (1, .long b30)]) (rest := []) (ok_X8_mix b30 (v31).toInt64 b24.2) rfl rfl rfl rfl rfl (fun v32 => ?_)
  refine xTr.ms 2 (g := (182, [(0, .ref 0), (1, .long b30)], [.int (0 : Int32), .ref 0, .long v32], b24.2)) rfl ?_
  refine xTr.callip (R' := xR_X8_exiled) (as := [.ref 0, .int (0 : Int32)]) (lv := [(0, .ref 0), (1, .long b30)]) (rest := [.long v32]) (ok_X8_exiled (0 : Int32) b24.2) rfl rfl rfl rfl rfl (fun v33 => ?_)
  refine xTr.ms 1 (g := (186, [(0, .ref 0), (1, .long b30)], [.long (v33).toInt64, .long v32], b24.2)) rfl ?_
  refine xTr.calllp (R' := xR_X8_mix) (as := [.long v32, .long (v33).toInt64]) (lv := [(0, .ref 0), (1, .long b30)]) (rest := []) (ok_X8_mix v32 (v33).toInt64 b24.2) rfl rfl rfl rfl rfl (fun v34 => ?_)
  refine xTr.ms 2 (g := (191, [(0, .ref 0), (1, .long b30)], [.int (1 : Int32), .ref 0, .long v34], b24.2)) rfl ?_
  refine xTr.callip (R' := xR_X8_exiled) (as := [.ref 0, .int (1 : Int32)]) (lv := [(0, .ref 0), (1, .long b30)]) (rest := [.long v34]) (ok_X8_exiled (1 : Int32) b24.2) rfl rfl rfl rfl rfl (fun v35 => ?_)
  refine xTr.ms 1 (g := (195, [(0, .ref 0), (1, .long b30)], [.long (v35).toInt64, .long v34], b24.2)) rfl ?_
  refine xTr.calllp (R' := xR_X8_mix) (as := [.long v34, .long (v35).toInt64]) (lv := [(0, .ref 0), (1, .long b30)]) (rest := []) (ok_X8_mix v34 (v35).toInt64 b24.2) rfl rfl rfl rfl rfl (fun v36 => ?_)
  refine xTr.ms 3 (g := (201, [(0, .ref 0), (1, .long v36)], [.ref 0, .long v36], b24.2)) rfl ?_
  refine xTr.callip (R' := xR_X8_loudest) (as := [.ref 0]) (lv := [(0, .ref 0), (1, .long v36)]) (rest := [.long v36]) (ok_X8_loudest b24.2) rfl rfl rfl rfl rfl (fun v37 => ?_)
  refine xTr.ms 1 (g := (205, [(0, .ref 0), (1, .long v36)], [.long (v37).toInt64, .long v36], b24.2)) rfl ?_
  refine xTr.calllp (R' := xR_X8_mix) (as := [.long v36, .long (v37).toInt64]) (lv := [(0, .ref 0), (1, .long v36)]) (rest := []) (ok_X8_mix v36 (v37).toInt64 b24.2) rfl rfl rfl rfl rfl (fun v38 => ?_)
  refine xTr.ms 2 (g := (210, [(0, .ref 0), (1, .long v36)], [.int (-1 : Int32), .ref 0, .long v38], b24.2)) rfl ?_
  refine xTr.calli (R' := xR_X8_felt) (as := [.ref 0, .int (-1 : Int32)]) (lv := [(0, .ref 0), (1, .long v36)]) (rest := [.long v38]) (ok_X8_felt (-1 : Int32) b24.2) rfl rfl rfl rfl rfl (fun v39 s39 => ?_)
  refine xTr.ms 1 (g := (214, [(0, .ref 0), (1, .long v36)], [.long (v39).toInt64, .long v38], s39)) rfl ?_
  refine xTr.calllp (R' := xR_X8_mix) (as := [.long v38, .long (v39).toInt64]) (lv := [(0, .ref 0), (1, .long v36)]) (rest := []) (ok_X8_mix v38 (v39).toInt64 s39) rfl rfl rfl rfl rfl (fun v41 => ?_)
  refine xTr.ms 2 (g := (219, [(0, .ref 0), (1, .long v36)], [.int (0 : Int32), .ref 0, .long v41], s39)) rfl ?_
  refine xTr.calli (R' := xR_X8_felt) (as := [.ref 0, .int (0 : Int32)]) (lv := [(0, .ref 0), (1, .long v36)]) (rest := [.long v41]) (ok_X8_felt (0 : Int32) s39) rfl rfl rfl rfl rfl (fun v42 s42 => ?_)
  refine xTr.ms 1 (g := (223, [(0, .ref 0), (1, .long v36)], [.long (v42).toInt64, .long v41], s42)) rfl ?_
  refine xTr.calllp (R' := xR_X8_mix) (as := [.long v41, .long (v42).toInt64]) (lv := [(0, .ref 0), (1, .long v36)]) (rest := []) (ok_X8_mix v41 (v42).toInt64 s42) rfl rfl rfl rfl rfl (fun v44 => ?_)
  refine xTr.ms 4 (g := (230, [(0, .ref 0), (1, .long v44)], [.int (0 : Int32), .ref 0, .long v44], s42)) rfl ?_
  refine xTr.calli (R' := xR_X8_lay) (as := [.ref 0, .int (0 : Int32)]) (lv := [(0, .ref 0), (1, .long v44)]) (rest := [.long v44]) (ok_X8_lay (0 : Int32) s42) rfl rfl rfl rfl rfl (fun v45 s45 => ?_)
  refine xTr.ms 1 (g := (234, [(0, .ref 0), (1, .long v44)], [.long (v45).toInt64, .long v44], s45)) rfl ?_
  refine xTr.calllp (R' := xR_X8_mix) (as := [.long v44, .long (v45).toInt64]) (lv := [(0, .ref 0), (1, .long v44)]) (rest := []) (ok_X8_mix v44 (v45).toInt64 s45) rfl rfl rfl rfl rfl (fun v47 => ?_)
  refine xTr.ms 2 (g := (239, [(0, .ref 0), (1, .long v44)], [.int (1 : Int32), .ref 0, .long v47], s45)) rfl ?_
  refine xTr.calli (R' := xR_X8_lay) (as := [.ref 0, .int (1 : Int32)]) (lv := [(0, .ref 0), (1, .long v44)]) (rest := [.long v47]) (ok_X8_lay (1 : Int32) s45) rfl rfl rfl rfl rfl (fun v48 s48 => ?_)
  refine xTr.ms 1 (g := (243, [(0, .ref 0), (1, .long v44)], [.long (v48).toInt64, .long v47], s48)) rfl ?_
  refine xTr.calllp (R' := xR_X8_mix) (as := [.long v47, .long (v48).toInt64]) (lv := [(0, .ref 0), (1, .long v44)]) (rest := []) (ok_X8_mix v47 (v48).toInt64 s48) rfl rfl rfl rfl rfl (fun v50 => ?_)
  refine xTr.ms 1 (g := (247, [(0, .ref 0), (1, .long v44)], [.ref 0, .long v50], s48)) rfl ?_
  refine xTr.calli (R' := xR_X8_never) (as := [.ref 0]) (lv := [(0, .ref 0), (1, .long v44)]) (rest := [.long v50]) (ok_X8_never s48) rfl rfl rfl rfl rfl (fun v51 s51 => ?_)
  refine xTr.ms 1 (g := (251, [(0, .ref 0), (1, .long v44)], [.long (v51).toInt64, .long v50], s51)) rfl ?_
  refine xTr.calllp (R' := xR_X8_mix) (as := [.long v50, .long (v51).toInt64]) (lv := [(0, .ref 0), (1, .long v44)]) (rest := []) (ok_X8_mix v50 (v51).toInt64 s51) rfl rfl rfl rfl rfl (fun v53 => ?_)
  refine xTr.ms 5 (g := (259, [(0, .ref 0), (1, .long v53)], [.int (0 : Int32), .int (5 : Int32), .ref 0, .long v53], s51)) rfl ?_
  refine xTr.calll (R' := xR_X8_sleeps) (as := [.ref 0, .int (5 : Int32), .int (0 : Int32)]) (lv := [(0, .ref 0), (1, .long v53)]) (rest := [.long v53]) (ok_X8_sleeps (5 : Int32) (0 : Int32) s51) rfl rfl rfl rfl rfl (fun v54 s54 => ?_)
  refine xTr.calllp (R' := xR_X8_mix) (as := [.long v53, .long v54]) (lv := [(0, .ref 0), (1, .long v53)]) (rest := []) (ok_X8_mix v53 v54 s54) rfl rfl rfl rfl rfl (fun v56 => ?_)
  refine xTr.ms 3 (g := (268, [(0, .ref 0), (1, .long v53)], [.int (1 : Int32), .int (5 : Int32), .ref 0, .long v56], s54)) rfl ?_
  refine xTr.calll (R' := xR_X8_sleeps) (as := [.ref 0, .int (5 : Int32), .int (1 : Int32)]) (lv := [(0, .ref 0), (1, .long v53)]) (rest := [.long v56]) (ok_X8_sleeps (5 : Int32) (1 : Int32) s54) rfl rfl rfl rfl rfl (fun v57 s57 => ?_)
  refine xTr.calllp (R' := xR_X8_mix) (as := [.long v56, .long v57]) (lv := [(0, .ref 0), (1, .long v53)]) (rest := []) (ok_X8_mix v56 v57 s57) rfl rfl rfl rfl rfl (fun v59 => ?_)
  refine xTr.ms 6 (g := (282, [(0, .ref 0), (1, .long v59)], [.int (0 : Int32), .int (8 : Int32), .int (7 : Int32), .ref 0, .long v59], s57)) rfl ?_
  refine xTr.calli (R' := xR_X8_day) (as := [.ref 0, .int (7 : Int32), .int (8 : Int32), .int (0 : Int32)]) (lv := [(0, .ref 0), (1, .long v59)]) (rest := [.long v59]) (ok_X8_day (7 : Int32) (8 : Int32) (0 : Int32) s57) rfl rfl rfl rfl rfl (fun v60 s60 => ?_)
  refine xTr.ms 1 (g := (286, [(0, .ref 0), (1, .long v59)], [.long (v60).toInt64, .long v59], s60)) rfl ?_
  refine xTr.calllp (R' := xR_X8_mix) (as := [.long v59, .long (v60).toInt64]) (lv := [(0, .ref 0), (1, .long v59)]) (rest := []) (ok_X8_mix v59 (v60).toInt64 s60) rfl rfl rfl rfl rfl (fun v62 => ?_)
  refine xTr.ms 4 (g := (295, [(0, .ref 0), (1, .long v59)], [.int (1 : Int32), .int (8 : Int32), .int (7 : Int32), .ref 0, .long v62], s60)) rfl ?_
  refine xTr.calli (R' := xR_X8_day) (as := [.ref 0, .int (7 : Int32), .int (8 : Int32), .int (1 : Int32)]) (lv := [(0, .ref 0), (1, .long v59)]) (rest := [.long v62]) (ok_X8_day (7 : Int32) (8 : Int32) (1 : Int32) s60) rfl rfl rfl rfl rfl (fun v63 s63 => ?_)
  refine xTr.ms 1 (g := (299, [(0, .ref 0), (1, .long v59)], [.long (v63).toInt64, .long v62], s63)) rfl ?_
  refine xTr.calllp (R' := xR_X8_mix) (as := [.long v62, .long (v63).toInt64]) (lv := [(0, .ref 0), (1, .long v59)]) (rest := []) (ok_X8_mix v62 (v63).toInt64 s63) rfl rfl rfl rfl rfl (fun v65 => ?_)
  exact xTr.ret rfl rfl rfl
-- X9_in
def F_X9_in (l0 : Int32) (l1 : Int32) (l2 : Int32) (s : xS) : Option (Int32) := if l0 < l1 then (some (0 : Int32)) else (if l2 < l0 then (some (0 : Int32)) else (some (1 : Int32)))
set_option maxRecDepth 100000 in
theorem ok_X9_in (l0 : Int32) (l1 : Int32) (l2 : Int32) (s : xS) : xTr xMs xML xR_X9_in (Sum.inl (0, [(0, .int l0), (1, .int l1), (2, .int l2)], [], s)) (F_X9_in l0 l1 l2 s) (fun (y : Int32) => Sum.inr (some (.int y), s)) := by
  unfold F_X9_in
  refine xTr.ms 2 (g := (2, [(0, .int l0), (1, .int l1), (2, .int l2)], [.int l1, .int l0], s)) rfl ?_
  refine xTr.br (g1 := (14, [(0, .int l0), (1, .int l1), (2, .int l2)], [], s)) (g2 := (5, [(0, .int l0), (1, .int l1), (2, .int l2)], [], s)) rfl (fun h1 => ?_) (fun h1 => ?_)
  · refine xTr.ms 1 (g := (15, [], [.int (0 : Int32)], s)) rfl ?_
    exact xTr.ret rfl rfl rfl
  · refine xTr.ms 2 (g := (7, [(0, .int l0), (2, .int l2)], [.int l2, .int l0], s)) rfl ?_
    refine xTr.br (g1 := (14, [(0, .int l0), (2, .int l2)], [], s)) (g2 := (10, [(0, .int l0), (2, .int l2)], [], s)) rfl (fun h2 => ?_) (fun h2 => ?_)
    · refine xTr.ms 1 (g := (15, [], [.int (0 : Int32)], s)) rfl ?_
      exact xTr.ret rfl rfl rfl
    · refine xTr.ms 2 (g := (15, [], [.int (1 : Int32)], s)) rfl ?_
      exact xTr.ret rfl rfl rfl
-- X9_isText
def F_X9_isText (l0 : Int32) (s : xS) : Option (Int32) := (F_X9_in l0 (0 : Int32) (1 : Int32) s).bind fun v1 => (if v1 = 0 ∨ v1 = 1 then some v1 else none)
set_option maxRecDepth 100000 in
theorem ok_X9_isText (l0 : Int32) (s : xS) : xTr xMs xML xR_X9_isText (Sum.inl (0, [(0, .int l0)], [], s)) (F_X9_isText l0 s) (fun (y : Int32) => Sum.inr (some (.int y), s)) := by
  unfold F_X9_isText
  refine xTr.ms 3 (g := (3, [(0, .int l0)], [.int (1 : Int32), .int (0 : Int32), .int l0], s)) rfl ?_
  refine xTr.callip (R' := xR_X9_in) (as := [.int l0, .int (0 : Int32), .int (1 : Int32)]) (lv := [(0, .int l0)]) (rest := []) (ok_X9_in l0 (0 : Int32) (1 : Int32) s) rfl rfl rfl rfl rfl (fun v1 => ?_)
  exact xTr.rtz rfl rfl rfl
