-- X9_ask
def F_X9_ask (l1 : Int32) (s : xS) : Option (Int32 × xS) := (F_X9_isDeed l1 s).bind fun q2 => (if q2.1 = 0 then (some ((-2 : Int32), q2.2)) else ((F_X9_askOf l1 q2.2).bind fun q5 => (some (q5.1, q5.2))))
set_option maxRecDepth 100000 in
theorem ok_X9_ask (l1 : Int32) (s : xS) : xTr xMs xML xR_X9_ask (Sum.inl (0, [(0, .ref 0), (1, .int l1)], [], s)) (F_X9_ask l1 s) (fun (y : Int32 × xS) => Sum.inr (some (.int y.1), y.2)) := by
  unfold F_X9_ask
  refine xTr.ms 2 (g := (2, [(0, .ref 0), (1, .int l1)], [.int l1, .ref 0], s)) rfl ?_
  refine xTr.calli (R' := xR_X9_isDeed) (as := [.ref 0, .int l1]) (lv := [(0, .ref 0), (1, .int l1)]) (rest := []) (ok_X9_isDeed l1 s) rfl rfl rfl rfl rfl (fun v1 s1 => ?_)
  refine xTr.br (g1 := (16, [(0, .ref 0), (1, .int l1)], [], s1)) (g2 := (8, [(0, .ref 0), (1, .int l1)], [], s1)) rfl (fun h3 => ?_) (fun h3 => ?_)
  · refine xTr.ms 1 (g := (18, [], [.int (-2 : Int32)], s1)) rfl ?_
    exact xTr.ret rfl rfl rfl
  · refine xTr.ms 2 (g := (10, [(0, .ref 0), (1, .int l1)], [.int l1, .ref 0], s1)) rfl ?_
    refine xTr.calli (R' := xR_X9_askOf) (as := [.ref 0, .int l1]) (lv := [(0, .ref 0), (1, .int l1)]) (rest := []) (ok_X9_askOf l1 s1) rfl rfl rfl rfl rfl (fun v4 s4 => ?_)
    refine xTr.ms 1 (g := (18, [(0, .ref 0), (1, .int l1)], [.int v4], s4)) rfl ?_
    exact xTr.ret rfl rfl rfl
-- X9_lowest
def F_X9_lowest_L6 (l0 : Int64) (l2 : Int64) (l4 : Int32) (s : xS) (a : Int64 × Int64) : Option ((Int64 × Int64) ⊕ (Int64)) := if (lg_cmp a.2 (0 : Int64)) = 0 then (some (Sum.inr a.1)) else (if a.2 = 0 then none else (some (Sum.inl (a.2, (xlrem a.1 a.2)))))
def F_X9_lowest (l0 : Int64) (l2 : Int64) (l4 : Int32) (s : xS) : Option (Int64) := (xlp (F_X9_lowest_L6 l0 l2 l4 s) 100000 (l0, l2)).bind (fun b3 => (if l4 = 0 then (if b3 = 0 then none else (some (l0 / b3))) else (if b3 = 0 then none else (some (l2 / b3)))))
def F_X9_lowest_L6_hd (l0 : Int64) (l2 : Int64) (l4 : Int32) (s : xS) (a : Int64 × Int64) : xT := Sum.inl (6, [(0, .long l0), (2, .long l2), (4, .int l4), (5, .long a.1), (7, .long a.2)], [], s)
def F_X9_lowest_L6_ex (l0 : Int64) (l2 : Int64) (l4 : Int32) (s : xS) : (Int64) → xT := (fun (z : Int64) => Sum.inl (31, [(0, .long l0), (2, .long l2), (4, .int l4), (5, .long z)], [], s))
set_option maxRecDepth 100000 in
theorem F_X9_lowest_L6_ok (l0 : Int64) (l2 : Int64) (l4 : Int32) (s : xS) (a : Int64 × Int64) : xTr xMs xML xR_X9_lowest (F_X9_lowest_L6_hd l0 l2 l4 s a) (F_X9_lowest_L6 l0 l2 l4 s a) (xhx (F_X9_lowest_L6_hd l0 l2 l4 s) (F_X9_lowest_L6_ex l0 l2 l4 s)) := by
  unfold F_X9_lowest_L6
  refine xTr.ms 3 (g := (10, [(0, .long l0), (2, .long l2), (4, .int l4), (5, .long a.1), (7, .long a.2)], [.int (lg_cmp a.2 (0 : Int64))], s)) rfl ?_
  refine xTr.br (g1 := (31, [(0, .long l0), (2, .long l2), (4, .int l4), (5, .long a.1), (7, .long a.2)], [], s)) (g2 := (13, [(0, .long l0), (2, .long l2), (4, .int l4), (5, .long a.1), (7, .long a.2)], [], s)) rfl (fun h1 => ?_) (fun h1 => ?_)
  · refine xTr.mk (lv1 := [(0, .long l0), (2, .long l2), (4, .int l4), (5, .long a.1)]) rfl rfl ?_
    exact xTr.leaf rfl
  · refine xTr.ms 2 (g := (17, [(0, .long l0), (2, .long l2), (4, .int l4), (5, .long a.1), (7, .long a.2)], [.long a.2, .long a.1], s)) rfl ?_
    refine xTr.ck (g := (18, [(0, .long l0), (2, .long l2), (4, .int l4), (5, .long a.1), (7, .long a.2)], [.long (xlrem a.1 a.2)], s)) rfl (fun h2 => ?_)
    refine xTr.ms 6 (g := (6, [(0, .long l0), (2, .long l2), (4, .int l4), (5, .long a.2), (7, .long (xlrem a.1 a.2)), (9, .long (xlrem a.1 a.2))], [], s)) rfl ?_
    refine xTr.mk (lv1 := [(0, .long l0), (2, .long l2), (4, .int l4), (5, .long a.2), (7, .long (xlrem a.1 a.2))]) rfl rfl ?_
    exact xTr.leaf rfl
set_option maxRecDepth 100000 in
theorem ok_X9_lowest (l0 : Int64) (l2 : Int64) (l4 : Int32) (s : xS) : xTr xMs xML xR_X9_lowest (Sum.inl (0, [(0, .long l0), (2, .long l2), (4, .int l4)], [], s)) (F_X9_lowest l0 l2 l4 s) (fun (y : Int64) => Sum.inr (some (.long y), s)) := by
  unfold F_X9_lowest
  refine xTr.ms 4 (g := (6, [(0, .long l0), (2, .long l2), (4, .int l4), (5, .long l0), (7, .long l2)], [], s)) rfl ?_
  refine xTr.bind (J := F_X9_lowest_L6_ex l0 l2 l4 s) (xTr.loop (hd := F_X9_lowest_L6_hd l0 l2 l4 s) (fun aa => F_X9_lowest_L6_ok l0 l2 l4 s aa) 100000 (l0, l2)) (fun b3 => ?_)
  refine xTr.ms 1 (g := (33, [(0, .long l0), (2, .long l2), (4, .int l4), (5, .long b3)], [.int l4], s)) rfl ?_
  refine xTr.br (g1 := (36, [(0, .long l0), (2, .long l2), (4, .int l4), (5, .long b3)], [], s)) (g2 := (43, [(0, .long l0), (2, .long l2), (4, .int l4), (5, .long b3)], [], s)) rfl (fun h4 => ?_) (fun h4 => ?_)
  · refine xTr.ms 2 (g := (39, [(0, .long l0), (5, .long b3)], [.long b3, .long l0], s)) rfl ?_
    refine xTr.ck (g := (40, [(0, .long l0), (5, .long b3)], [.long (l0 / b3)], s)) rfl (fun h5 => ?_)
    refine xTr.ms 1 (g := (47, [(0, .long l0), (5, .long b3)], [.long (l0 / b3)], s)) rfl ?_
    exact xTr.ret rfl rfl rfl
  · refine xTr.ms 2 (g := (46, [(2, .long l2), (5, .long b3)], [.long b3, .long l2], s)) rfl ?_
    refine xTr.ck (g := (47, [(2, .long l2), (5, .long b3)], [.long (l2 / b3)], s)) rfl (fun h6 => ?_)
    exact xTr.ret rfl rfl rfl
-- X9_sleepsBy
def F_X9_sleepsBy_L30 (l1 : Int32) (l2 : Int32) (l3 : Int64) (l5 : Int32) (s : xS) (a : Int64 × Int32) : Option ((Int64 × Int32) ⊕ (Int64)) := if (s.1 0 5) ≤ a.2 then (some (Sum.inr a.1)) else ((F_X9_isIn l5 a.2 s).bind fun v7 => (if v7 = 0 then (some (Sum.inl ((a.1 * (l1).toInt64), (a.2 + (1 : Int32))))) else (some (Sum.inl ((a.1 * (((16 : Int32) - l1)).toInt64), (a.2 + (1 : Int32)))))))
def F_X9_sleepsBy_L13 (l1 : Int32) (l2 : Int32) (a : Int64 × Int32 × xS) : Option ((Int64 × Int32 × xS) ⊕ (Int64 × xS)) := if (xshl (1 : Int32) (a.2.2.1 0 5)) ≤ a.2.1 then (some (Sum.inr (a.1, a.2.2))) else ((xlp (F_X9_sleepsBy_L30 l1 l2 a.1 a.2.1 a.2.2) 100000 ((1 : Int64), (0 : Int32))).bind (fun b9 => ((F_X9_sleepsOn (xu a.2.2 0 15 a.2.1)).bind fun s11 => (if (s11.1 0 20) = (-1 : Int32) then (some (Sum.inl ((a.1 + b9), (a.2.1 + (1 : Int32)), s11))) else (some (Sum.inl ((a.1 + (0 : Int64)), (a.2.1 + (1 : Int32)), s11)))))))
def F_X9_sleepsBy (l1 : Int32) (l2 : Int32) (s : xS) : Option (Int64 × xS) := (F_X9_asTold s).bind fun s2 => ((F_X9_lays s2).bind fun s4 => ((xlp (F_X9_sleepsBy_L13 l1 l2) 100000 ((0 : Int64), (0 : Int32), s4)).bind (fun b13 => ((F_X9_lowest b13.1 (xlshl (1 : Int64) ((4 : Int32) * (b13.2.1 0 5))) l2 b13.2).bind fun v14 => (some (v14, b13.2))))))
def F_X9_sleepsBy_L13_hd (l1 : Int32) (l2 : Int32) (a : Int64 × Int32 × xS) : xT := Sum.inl (13, [(0, .ref 0), (1, .int l1), (2, .int l2), (3, .long a.1), (5, .int a.2.1)], [], a.2.2)
def F_X9_sleepsBy_L13_ex (l1 : Int32) (l2 : Int32) : (Int64 × xS) → xT := (fun (z : Int64 × xS) => Sum.inl (103, [(0, .ref 0), (2, .int l2), (3, .long z.1)], [], z.2))
def F_X9_sleepsBy_L30_hd (l1 : Int32) (l2 : Int32) (l3 : Int64) (l5 : Int32) (s : xS) (a : Int64 × Int32) : xT := Sum.inl (30, [(0, .ref 0), (1, .int l1), (2, .int l2), (3, .long l3), (5, .int l5), (6, .long a.1), (8, .int a.2)], [], s)
def F_X9_sleepsBy_L30_ex (l1 : Int32) (l2 : Int32) (l3 : Int64) (l5 : Int32) (s : xS) : (Int64) → xT := (fun (z : Int64) => Sum.inl (70, [(0, .ref 0), (1, .int l1), (2, .int l2), (3, .long l3), (5, .int l5), (6, .long z)], [], s))
set_option maxRecDepth 100000 in
theorem F_X9_sleepsBy_L30_ok (l1 : Int32) (l2 : Int32) (l3 : Int64) (l5 : Int32) (s : xS) (a : Int64 × Int32) : xTr xMs xML xR_X9_sleepsBy (F_X9_sleepsBy_L30_hd l1 l2 l3 l5 s a) (F_X9_sleepsBy_L30 l1 l2 l3 l5 s a) (xhx (F_X9_sleepsBy_L30_hd l1 l2 l3 l5 s) (F_X9_sleepsBy_L30_ex l1 l2 l3 l5 s)) := by
  unfold F_X9_sleepsBy_L30
  refine xTr.ms 3 (g := (36, [(0, .ref 0), (1, .int l1), (2, .int l2), (3, .long l3), (5, .int l5), (6, .long a.1), (8, .int a.2)], [.int (s.1 0 5), .int a.2], s)) rfl ?_
  refine xTr.br (g1 := (70, [(0, .ref 0), (1, .int l1), (2, .int l2), (3, .long l3), (5, .int l5), (6, .long a.1), (8, .int a.2)], [], s)) (g2 := (39, [(0, .ref 0), (1, .int l1), (2, .int l2), (3, .long l3), (5, .int l5), (6, .long a.1), (8, .int a.2)], [], s)) rfl (fun h6 => ?_) (fun h6 => ?_)
  · refine xTr.mk (lv1 := [(0, .ref 0), (1, .int l1), (2, .int l2), (3, .long l3), (5, .int l5), (6, .long a.1)]) rfl rfl ?_
    exact xTr.leaf rfl
  · refine xTr.ms 3 (g := (45, [(0, .ref 0), (1, .int l1), (2, .int l2), (3, .long l3), (5, .int l5), (6, .long a.1), (8, .int a.2)], [.int a.2, .int l5, .long a.1], s)) rfl ?_
    refine xTr.callip (R' := xR_X9_isIn) (as := [.int l5, .int a.2]) (lv := [(0, .ref 0), (1, .int l1), (2, .int l2), (3, .long l3), (5, .int l5), (6, .long a.1), (8, .int a.2)]) (rest := [.long a.1]) (ok_X9_isIn l5 a.2 s) rfl rfl rfl rfl rfl (fun v7 => ?_)
    refine xTr.br (g1 := (59, [(0, .ref 0), (1, .int l1), (2, .int l2), (3, .long l3), (5, .int l5), (6, .long a.1), (8, .int a.2)], [.long a.1], s)) (g2 := (51, [(0, .ref 0), (1, .int l1), (2, .int l2), (3, .long l3), (5, .int l5), (6, .long a.1), (8, .int a.2)], [.long a.1], s)) rfl (fun h8 => ?_) (fun h8 => ?_)
    · refine xTr.ms 6 (g := (30, [(0, .ref 0), (1, .int l1), (2, .int l2), (3, .long l3), (5, .int l5), (6, .long (a.1 * (l1).toInt64)), (8, .int (a.2 + (1 : Int32)))], [], s)) rfl ?_
      exact xTr.leaf rfl
    · refine xTr.ms 9 (g := (30, [(0, .ref 0), (1, .int l1), (2, .int l2), (3, .long l3), (5, .int l5), (6, .long (a.1 * (((16 : Int32) - l1)).toInt64)), (8, .int (a.2 + (1 : Int32)))], [], s)) rfl ?_
      exact xTr.leaf rfl
set_option maxRecDepth 100000 in
theorem F_X9_sleepsBy_L13_ok (l1 : Int32) (l2 : Int32) (a : Int64 × Int32 × xS) : xTr xMs xML xR_X9_sleepsBy (F_X9_sleepsBy_L13_hd l1 l2 a) (F_X9_sleepsBy_L13 l1 l2 a) (xhx (F_X9_sleepsBy_L13_hd l1 l2) (F_X9_sleepsBy_L13_ex l1 l2)) := by
  unfold F_X9_sleepsBy_L13
  refine xTr.ms 5 (g := (21, [(0, .ref 0), (1, .int l1), (2, .int l2), (3, .long a.1), (5, .int a.2.1)], [.int (xshl (1 : Int32) (a.2.2.1 0 5)), .int a.2.1], a.2.2)) rfl ?_
  refine xTr.br (g1 := (103, [(0, .ref 0), (1, .int l1), (2, .int l2), (3, .long a.1), (5, .int a.2.1)], [], a.2.2)) (g2 := (24, [(0, .ref 0), (1, .int l1), (2, .int l2), (3, .long a.1), (5, .int a.2.1)], [], a.2.2)) rfl (fun h5 => ?_) (fun h5 => ?_)
  · refine xTr.mk (lv1 := [(0, .ref 0), (2, .int l2), (3, .long a.1)]) rfl rfl ?_
    exact xTr.leaf rfl
  · refine xTr.ms 4 (g := (30, [(0, .ref 0), (1, .int l1), (2, .int l2), (3, .long a.1), (5, .int a.2.1), (6, .long (1 : Int64)), (8, .int (0 : Int32))], [], a.2.2)) rfl ?_
    refine xTr.bind (J := F_X9_sleepsBy_L30_ex l1 l2 a.1 a.2.1 a.2.2) (xTr.loop (hd := F_X9_sleepsBy_L30_hd l1 l2 a.1 a.2.1 a.2.2) (fun aa => F_X9_sleepsBy_L30_ok l1 l2 a.1 a.2.1 a.2.2 aa) 100000 ((1 : Int64), (0 : Int32))) (fun b9 => ?_)
    refine xTr.ms 4 (g := (77, [(0, .ref 0), (1, .int l1), (2, .int l2), (3, .long a.1), (5, .int a.2.1), (6, .long b9)], [.ref 0], (xu a.2.2 0 15 a.2.1))) rfl ?_
    refine xTr.callv (R' := xR_X9_sleepsOn) (as := [.ref 0]) (lv := [(0, .ref 0), (1, .int l1), (2, .int l2), (3, .long a.1), (5, .int a.2.1), (6, .long b9)]) (rest := []) (ok_X9_sleepsOn (xu a.2.2 0 15 a.2.1)) rfl rfl rfl rfl rfl (fun s11 => ?_)
    refine xTr.ms 4 (g := (86, [(0, .ref 0), (1, .int l1), (2, .int l2), (3, .long a.1), (5, .int a.2.1), (6, .long b9)], [.int (-1 : Int32), .int (s11.1 0 20), .long a.1], s11)) rfl ?_
    refine xTr.br (g1 := (89, [(0, .ref 0), (1, .int l1), (2, .int l2), (3, .long a.1), (5, .int a.2.1), (6, .long b9)], [.long a.1], s11)) (g2 := (94, [(0, .ref 0), (1, .int l1), (2, .int l2), (3, .long a.1), (5, .int a.2.1), (6, .long b9)], [.long a.1], s11)) rfl (fun h12 => ?_) (fun h12 => ?_)
    · refine xTr.ms 6 (g := (13, [(0, .ref 0), (1, .int l1), (2, .int l2), (3, .long (a.1 + b9)), (5, .int (a.2.1 + (1 : Int32)))], [], s11)) rfl ?_
      exact xTr.leaf rfl
    · refine xTr.ms 5 (g := (13, [(0, .ref 0), (1, .int l1), (2, .int l2), (3, .long (a.1 + (0 : Int64))), (5, .int (a.2.1 + (1 : Int32)))], [], s11)) rfl ?_
      exact xTr.leaf rfl
set_option maxRecDepth 100000 in
theorem ok_X9_sleepsBy (l1 : Int32) (l2 : Int32) (s : xS) : xTr xMs xML xR_X9_sleepsBy (Sum.inl (0, [(0, .ref 0), (1, .int l1), (2, .int l2)], [], s)) (F_X9_sleepsBy l1 l2 s) (fun (y : Int64 × xS) => Sum.inr (some (.long y.1), y.2)) := by
  unfold F_X9_sleepsBy
  refine xTr.ms 1 (g := (1, [(0, .ref 0), (1, .int l1), (2, .int l2)], [.ref 0], s)) rfl ?_
  refine xTr.callv (R' := xR_X9_asTold) (as := [.ref 0]) (lv := [(0, .ref 0), (1, .int l1), (2, .int l2)]) (rest := []) (ok_X9_asTold s) rfl rfl rfl rfl rfl (fun s2 => ?_)
  refine xTr.ms 1 (g := (5, [(0, .ref 0), (1, .int l1), (2, .int l2)], [.ref 0], s2)) rfl ?_
  refine xTr.callv (R' := xR_X9_lays) (as := [.ref 0]) (lv := [(0, .ref 0), (1, .int l1), (2, .int l2)]) (rest := []) (ok_X9_lays s2) rfl rfl rfl rfl rfl (fun s4 => ?_)
  refine xTr.ms 4 (g := (13, [(0, .ref 0), (1, .int l1), (2, .int l2), (3, .long (0 : Int64)), (5, .int (0 : Int32))], [], s4)) rfl ?_
  refine xTr.bind (J := F_X9_sleepsBy_L13_ex l1 l2) (xTr.loop (hd := F_X9_sleepsBy_L13_hd l1 l2) (fun aa => F_X9_sleepsBy_L13_ok l1 l2 aa) 100000 ((0 : Int64), (0 : Int32), s4)) (fun b13 => ?_)
  refine xTr.ms 8 (g := (113, [(0, .ref 0), (2, .int l2), (3, .long b13.1)], [.int l2, .long (xlshl (1 : Int64) ((4 : Int32) * (b13.2.1 0 5))), .long b13.1], b13.2)) rfl ?_
  refine xTr.calllp (R' := xR_X9_lowest) (as := [.long b13.1, .long (xlshl (1 : Int64) ((4 : Int32) * (b13.2.1 0 5))), .int l2]) (lv := [(0, .ref 0), (2, .int l2), (3, .long b13.1)]) (rest := []) (ok_X9_lowest b13.1 (xlshl (1 : Int64) ((4 : Int32) * (b13.2.1 0 5))) l2 b13.2) rfl rfl rfl rfl rfl (fun v14 => ?_)
  exact xTr.ret rfl rfl rfl
-- X9_no
def F_X9_no (l0 : Int32) (s : xS) : Option (Int64) := some ((-9223372036854775808 : Int64) - (l0).toInt64)
set_option maxRecDepth 100000 in
theorem ok_X9_no (l0 : Int32) (s : xS) : xTr xMs xML xR_X9_no (Sum.inl (0, [(0, .int l0)], [], s)) (F_X9_no l0 s) (fun (y : Int64) => Sum.inr (some (.long y), s)) := by
  unfold F_X9_no
  refine xTr.ms 4 (g := (6, [(0, .int l0)], [.long ((-9223372036854775808 : Int64) - (l0).toInt64)], s)) rfl ?_
  exact xTr.ret rfl rfl rfl
-- X9_sleeps
def F_X9_sleeps (l1 : Int32) (l2 : Int32) (s : xS) : Option (Int64 × xS) := (F_X9_in l1 (0 : Int32) (16 : Int32) s).bind fun v1 => (if v1 = 0 then ((F_X9_no (-2 : Int32) s).bind fun v3 => (some (v3, s))) else ((F_X9_in l2 (0 : Int32) (1 : Int32) s).bind fun v4 => (if v4 = 0 then ((F_X9_no (-2 : Int32) s).bind fun v6 => (some (v6, s))) else ((F_X9_sleepsBy l1 l2 s).bind fun q8 => (some (q8.1, q8.2))))))
set_option maxRecDepth 100000 in
theorem ok_X9_sleeps (l1 : Int32) (l2 : Int32) (s : xS) : xTr xMs xML xR_X9_sleeps (Sum.inl (0, [(0, .ref 0), (1, .int l1), (2, .int l2)], [], s)) (F_X9_sleeps l1 l2 s) (fun (y : Int64 × xS) => Sum.inr (some (.long y.1), y.2)) := by
  unfold F_X9_sleeps
  refine xTr.ms 3 (g := (4, [(0, .ref 0), (1, .int l1), (2, .int l2)], [.int (16 : Int32), .int (0 : Int32), .int l1], s)) rfl ?_
  refine xTr.callip (R' := xR_X9_in) (as := [.int l1, .int (0 : Int32), .int (16 : Int32)]) (lv := [(0, .ref 0), (1, .int l1), (2, .int l2)]) (rest := []) (ok_X9_in l1 (0 : Int32) (16 : Int32) s) rfl rfl rfl rfl rfl (fun v1 => ?_)
  refine xTr.br (g1 := (28, [(0, .ref 0), (1, .int l1), (2, .int l2)], [], s)) (g2 := (10, [(0, .ref 0), (1, .int l1), (2, .int l2)], [], s)) rfl (fun h2 => ?_) (fun h2 => ?_)
  · refine xTr.ms 1 (g := (30, [], [.int (-2 : Int32)], s)) rfl ?_
    refine xTr.calllp (R' := xR_X9_no) (as := [.int (-2 : Int32)]) (lv := []) (rest := []) (ok_X9_no (-2 : Int32) s) rfl rfl rfl rfl rfl (fun v3 => ?_)
    exact xTr.ret rfl rfl rfl
  · refine xTr.ms 3 (g := (13, [(0, .ref 0), (1, .int l1), (2, .int l2)], [.int (1 : Int32), .int (0 : Int32), .int l2], s)) rfl ?_
    refine xTr.callip (R' := xR_X9_in) (as := [.int l2, .int (0 : Int32), .int (1 : Int32)]) (lv := [(0, .ref 0), (1, .int l1), (2, .int l2)]) (rest := []) (ok_X9_in l2 (0 : Int32) (1 : Int32) s) rfl rfl rfl rfl rfl (fun v4 => ?_)
    refine xTr.br (g1 := (28, [(0, .ref 0), (1, .int l1), (2, .int l2)], [], s)) (g2 := (19, [(0, .ref 0), (1, .int l1), (2, .int l2)], [], s)) rfl (fun h5 => ?_) (fun h5 => ?_)
    · refine xTr.ms 1 (g := (30, [], [.int (-2 : Int32)], s)) rfl ?_
      refine xTr.calllp (R' := xR_X9_no) (as := [.int (-2 : Int32)]) (lv := []) (rest := []) (ok_X9_no (-2 : Int32) s) rfl rfl rfl rfl rfl (fun v6 => ?_)
      exact xTr.ret rfl rfl rfl
    · refine xTr.ms 3 (g := (22, [(0, .ref 0), (1, .int l1), (2, .int l2)], [.int l2, .int l1, .ref 0], s)) rfl ?_
      refine xTr.calll (R' := xR_X9_sleepsBy) (as := [.ref 0, .int l1, .int l2]) (lv := [(0, .ref 0), (1, .int l1), (2, .int l2)]) (rest := []) (ok_X9_sleepsBy l1 l2 s) rfl rfl rfl rfl rfl (fun v7 s7 => ?_)
      refine xTr.ms 1 (g := (33, [(0, .ref 0), (1, .int l1), (2, .int l2)], [.long v7], s7)) rfl ?_
      exact xTr.ret rfl rfl rfl
-- X9_exiledMany
def F_X9_exiledMany_L4 (s : xS) (a : Int32 × Int32) : Option ((Int32 × Int32) ⊕ (Int32)) := if (s.1 0 3) ≤ a.2 then (some (Sum.inr a.1)) else (if a.2 < 0 ∨ 40 ≤ a.2.toNatClampNeg then none else (if (s.1 14 a.2.toNatClampNeg) = 0 then (some (Sum.inl ((a.1 + (0 : Int32)), (a.2 + (1 : Int32))))) else (some (Sum.inl ((a.1 + (1 : Int32)), (a.2 + (1 : Int32)))))))
def F_X9_exiledMany (s : xS) : Option (Int32) := (xlp (F_X9_exiledMany_L4 s) 100000 ((0 : Int32), (0 : Int32))).bind (fun b4 => (some b4))
def F_X9_exiledMany_L4_hd (s : xS) (a : Int32 × Int32) : xT := Sum.inl (4, [(0, .ref 0), (1, .int a.1), (2, .int a.2)], [], s)
def F_X9_exiledMany_L4_ex (s : xS) : (Int32) → xT := (fun (z : Int32) => Sum.inl (35, [(1, .int z)], [], s))
set_option maxRecDepth 100000 in
theorem F_X9_exiledMany_L4_ok (s : xS) (a : Int32 × Int32) : xTr xMs xML xR_X9_exiledMany (F_X9_exiledMany_L4_hd s a) (F_X9_exiledMany_L4 s a) (xhx (F_X9_exiledMany_L4_hd s) (F_X9_exiledMany_L4_ex s)) := by
  unfold F_X9_exiledMany_L4
  refine xTr.ms 3 (g := (9, [(0, .ref 0), (1, .int a.1), (2, .int a.2)], [.int (s.1 0 3), .int a.2], s)) rfl ?_
  refine xTr.br (g1 := (35, [(0, .ref 0), (1, .int a.1), (2, .int a.2)], [], s)) (g2 := (12, [(0, .ref 0), (1, .int a.1), (2, .int a.2)], [], s)) rfl (fun h1 => ?_) (fun h1 => ?_)
  · refine xTr.mk (lv1 := [(1, .int a.1)]) rfl rfl ?_
    exact xTr.leaf rfl
  · refine xTr.ms 4 (g := (18, [(0, .ref 0), (1, .int a.1), (2, .int a.2)], [.int a.2, .ref 14, .int a.1], s)) rfl ?_
    refine xTr.ck (g := (19, [(0, .ref 0), (1, .int a.1), (2, .int a.2)], [.int (s.1 14 a.2.toNatClampNeg), .int a.1], s)) rfl (fun h2 => ?_)
    refine xTr.br (g1 := (26, [(0, .ref 0), (1, .int a.1), (2, .int a.2)], [.int a.1], s)) (g2 := (22, [(0, .ref 0), (1, .int a.1), (2, .int a.2)], [.int a.1], s)) rfl (fun h3 => ?_) (fun h3 => ?_)
    · refine xTr.ms 5 (g := (4, [(0, .ref 0), (1, .int (a.1 + (0 : Int32))), (2, .int (a.2 + (1 : Int32)))], [], s)) rfl ?_
      exact xTr.leaf rfl
    · refine xTr.ms 6 (g := (4, [(0, .ref 0), (1, .int (a.1 + (1 : Int32))), (2, .int (a.2 + (1 : Int32)))], [], s)) rfl ?_
      exact xTr.leaf rfl
set_option maxRecDepth 100000 in
theorem ok_X9_exiledMany (s : xS) : xTr xMs xML xR_X9_exiledMany (Sum.inl (0, [(0, .ref 0)], [], s)) (F_X9_exiledMany s) (fun (y : Int32) => Sum.inr (some (.int y), s)) := by
  unfold F_X9_exiledMany
  refine xTr.ms 4 (g := (4, [(0, .ref 0), (1, .int (0 : Int32)), (2, .int (0 : Int32))], [], s)) rfl ?_
  refine xTr.bind (J := F_X9_exiledMany_L4_ex s) (xTr.loop (hd := F_X9_exiledMany_L4_hd s) (fun aa => F_X9_exiledMany_L4_ok s aa) 100000 ((0 : Int32), (0 : Int32))) (fun b4 => ?_)
  refine xTr.ms 1 (g := (36, [(1, .int b4)], [.int b4], s)) rfl ?_
  exact xTr.ret rfl rfl rfl
-- X9_dayOf
def F_X9_dayOf_L26 (l3 : Int32) (a : Int32 × Int32 × xS) : Option ((Int32 × Int32 × xS) ⊕ (xS)) := if (a.2.2.1 0 5) ≤ a.2.1 then (some (Sum.inr a.2.2)) else (if (a.2.2.1 0 3) = 0 then none else (if a.2.1 < 0 ∨ 9 ≤ a.2.1.toNatClampNeg then none else (if a.2.1 < 0 ∨ 9 ≤ a.2.1.toNatClampNeg then none else (if a.2.1 < 0 ∨ 9 ≤ a.2.1.toNatClampNeg then none else (some (Sum.inl ((((1103515245 : Int32) * (((1103515245 : Int32) * (((1103515245 : Int32) * a.1) + (12345 : Int32))) + (12345 : Int32))) + (12345 : Int32)), (a.2.1 + (1 : Int32)), (xu (xu (xu a.2.2 4 a.2.1.toNatClampNeg (xrem (xushr (((1103515245 : Int32) * a.1) + (12345 : Int32)) (16 : Int32)) (a.2.2.1 0 3))) 5 a.2.1.toNatClampNeg (xrem (xushr (((1103515245 : Int32) * (((1103515245 : Int32) * a.1) + (12345 : Int32))) + (12345 : Int32)) (16 : Int32)) (4 : Int32))) 6 a.2.1.toNatClampNeg (xrem (xushr (((1103515245 : Int32) * (((1103515245 : Int32) * (((1103515245 : Int32) * a.1) + (12345 : Int32))) + (12345 : Int32))) + (12345 : Int32)) (16 : Int32)) (10 : Int32))))))))))
def F_X9_dayOf (l1 : Int32) (l2 : Int32) (l3 : Int32) (s : xS) : Option (Int32 × xS) := (F_X9_asTold s).bind fun s2 => (if (s2.1 0 3) = 0 then ((xlp (F_X9_dayOf_L26 l3) 100000 (l1, (0 : Int32), (xu s2 0 5 (0 : Int32)))).bind (fun b9 => ((F_X9_runs b9).bind fun s11 => (if l3 = 0 then (some ((s11.1 0 20), s11)) else ((F_X9_exiledMany s11).bind fun v13 => (some (v13, s11))))))) else ((xlp (F_X9_dayOf_L26 l3) 100000 (l1, (0 : Int32), (xu s2 0 5 l2))).bind (fun b14 => ((F_X9_runs b14).bind fun s16 => (if l3 = 0 then (some ((s16.1 0 20), s16)) else ((F_X9_exiledMany s16).bind fun v18 => (some (v18, s16))))))))
def F_X9_dayOf_L26_hd (l3 : Int32) (a : Int32 × Int32 × xS) : xT := Sum.inl (26, [(0, .ref 0), (3, .int l3), (4, .int a.1), (5, .int a.2.1)], [], a.2.2)
def F_X9_dayOf_L26_ex (l3 : Int32) : (xS) → xT := (fun (z : xS) => Sum.inl (123, [(0, .ref 0), (3, .int l3)], [], z))
set_option maxRecDepth 100000 in
theorem F_X9_dayOf_L26_ok (l3 : Int32) (a : Int32 × Int32 × xS) : xTr xMs xML xR_X9_dayOf (F_X9_dayOf_L26_hd l3 a) (F_X9_dayOf_L26 l3 a) (xhx (F_X9_dayOf_L26_hd l3) (F_X9_dayOf_L26_ex l3)) := by
  unfold F_X9_dayOf_L26
  refine xTr.ms 3 (g := (32, [(0, .ref 0), (3, .int l3), (4, .int a.1), (5, .int a.2.1)], [.int (a.2.2.1 0 5), .int a.2.1], a.2.2)) rfl ?_
  refine xTr.br (g1 := (123, [(0, .ref 0), (3, .int l3), (4, .int a.1), (5, .int a.2.1)], [], a.2.2)) (g2 := (35, [(0, .ref 0), (3, .int l3), (4, .int a.1), (5, .int a.2.1)], [], a.2.2)) rfl (fun h4 => ?_) (fun h4 => ?_)
  · refine xTr.mk (lv1 := [(0, .ref 0), (3, .int l3)]) rfl rfl ?_
    exact xTr.leaf rfl
  · refine xTr.ms 14 (g := (62, [(0, .ref 0), (3, .int l3), (4, .int (((1103515245 : Int32) * a.1) + (12345 : Int32))), (5, .int a.2.1)], [.int (a.2.2.1 0 3), .int (xushr (((1103515245 : Int32) * a.1) + (12345 : Int32)) (16 : Int32)), .int a.2.1, .ref 4], a.2.2)) rfl ?_
    refine xTr.ck (g := (63, [(0, .ref 0), (3, .int l3), (4, .int (((1103515245 : Int32) * a.1) + (12345 : Int32))), (5, .int a.2.1)], [.int (xrem (xushr (((1103515245 : Int32) * a.1) + (12345 : Int32)) (16 : Int32)) (a.2.2.1 0 3)), .int a.2.1, .ref 4], a.2.2)) rfl (fun h5 => ?_)
    refine xTr.ck (g := (64, [(0, .ref 0), (3, .int l3), (4, .int (((1103515245 : Int32) * a.1) + (12345 : Int32))), (5, .int a.2.1)], [], (xu a.2.2 4 a.2.1.toNatClampNeg (xrem (xushr (((1103515245 : Int32) * a.1) + (12345 : Int32)) (16 : Int32)) (a.2.2.1 0 3))))) rfl (fun h6 => ?_)
    refine xTr.ms 14 (g := (89, [(0, .ref 0), (3, .int l3), (4, .int (((1103515245 : Int32) * (((1103515245 : Int32) * a.1) + (12345 : Int32))) + (12345 : Int32))), (5, .int a.2.1)], [.int (xrem (xushr (((1103515245 : Int32) * (((1103515245 : Int32) * a.1) + (12345 : Int32))) + (12345 : Int32)) (16 : Int32)) (4 : Int32)), .int a.2.1, .ref 5], (xu a.2.2 4 a.2.1.toNatClampNeg (xrem (xushr (((1103515245 : Int32) * a.1) + (12345 : Int32)) (16 : Int32)) (a.2.2.1 0 3))))) rfl ?_
    refine xTr.ck (g := (90, [(0, .ref 0), (3, .int l3), (4, .int (((1103515245 : Int32) * (((1103515245 : Int32) * a.1) + (12345 : Int32))) + (12345 : Int32))), (5, .int a.2.1)], [], (xu (xu a.2.2 4 a.2.1.toNatClampNeg (xrem (xushr (((1103515245 : Int32) * a.1) + (12345 : Int32)) (16 : Int32)) (a.2.2.1 0 3))) 5 a.2.1.toNatClampNeg (xrem (xushr (((1103515245 : Int32) * (((1103515245 : Int32) * a.1) + (12345 : Int32))) + (12345 : Int32)) (16 : Int32)) (4 : Int32))))) rfl (fun h7 => ?_)
    refine xTr.ms 14 (g := (116, [(0, .ref 0), (3, .int l3), (4, .int (((1103515245 : Int32) * (((1103515245 : Int32) * (((1103515245 : Int32) * a.1) + (12345 : Int32))) + (12345 : Int32))) + (12345 : Int32))), (5, .int a.2.1)], [.int (xrem (xushr (((1103515245 : Int32) * (((1103515245 : Int32) * (((1103515245 : Int32) * a.1) + (12345 : Int32))) + (12345 : Int32))) + (12345 : Int32)) (16 : Int32)) (10 : Int32)), .int a.2.1, .ref 6], (xu (xu a.2.2 4 a.2.1.toNatClampNeg (xrem (xushr (((1103515245 : Int32) * a.1) + (12345 : Int32)) (16 : Int32)) (a.2.2.1 0 3))) 5 a.2.1.toNatClampNeg (xrem (xushr (((1103515245 : Int32) * (((1103515245 : Int32) * a.1) + (12345 : Int32))) + (12345 : Int32)) (16 : Int32)) (4 : Int32))))) rfl ?_
    refine xTr.ck (g := (117, [(0, .ref 0), (3, .int l3), (4, .int (((1103515245 : Int32) * (((1103515245 : Int32) * (((1103515245 : Int32) * a.1) + (12345 : Int32))) + (12345 : Int32))) + (12345 : Int32))), (5, .int a.2.1)], [], (xu (xu (xu a.2.2 4 a.2.1.toNatClampNeg (xrem (xushr (((1103515245 : Int32) * a.1) + (12345 : Int32)) (16 : Int32)) (a.2.2.1 0 3))) 5 a.2.1.toNatClampNeg (xrem (xushr (((1103515245 : Int32) * (((1103515245 : Int32) * a.1) + (12345 : Int32))) + (12345 : Int32)) (16 : Int32)) (4 : Int32))) 6 a.2.1.toNatClampNeg (xrem (xushr (((1103515245 : Int32) * (((1103515245 : Int32) * (((1103515245 : Int32) * a.1) + (12345 : Int32))) + (12345 : Int32))) + (12345 : Int32)) (16 : Int32)) (10 : Int32))))) rfl (fun h8 => ?_)
    refine xTr.ms 2 (g := (26, [(0, .ref 0), (3, .int l3), (4, .int (((1103515245 : Int32) * (((1103515245 : Int32) * (((1103515245 : Int32) * a.1) + (12345 : Int32))) + (12345 : Int32))) + (12345 : Int32))), (5, .int (a.2.1 + (1 : Int32)))], [], (xu (xu (xu a.2.2 4 a.2.1.toNatClampNeg (xrem (xushr (((1103515245 : Int32) * a.1) + (12345 : Int32)) (16 : Int32)) (a.2.2.1 0 3))) 5 a.2.1.toNatClampNeg (xrem (xushr (((1103515245 : Int32) * (((1103515245 : Int32) * a.1) + (12345 : Int32))) + (12345 : Int32)) (16 : Int32)) (4 : Int32))) 6 a.2.1.toNatClampNeg (xrem (xushr (((1103515245 : Int32) * (((1103515245 : Int32) * (((1103515245 : Int32) * a.1) + (12345 : Int32))) + (12345 : Int32))) + (12345 : Int32)) (16 : Int32)) (10 : Int32))))) rfl ?_
    exact xTr.leaf rfl
set_option maxRecDepth 100000 in
theorem ok_X9_dayOf (l1 : Int32) (l2 : Int32) (l3 : Int32) (s : xS) : xTr xMs xML xR_X9_dayOf (Sum.inl (0, [(0, .ref 0), (1, .int l1), (2, .int l2), (3, .int l3)], [], s)) (F_X9_dayOf l1 l2 l3 s) (fun (y : Int32 × xS) => Sum.inr (some (.int y.1), y.2)) := by
  unfold F_X9_dayOf
  refine xTr.ms 1 (g := (1, [(0, .ref 0), (1, .int l1), (2, .int l2), (3, .int l3)], [.ref 0], s)) rfl ?_
  refine xTr.callv (R' := xR_X9_asTold) (as := [.ref 0]) (lv := [(0, .ref 0), (1, .int l1), (2, .int l2), (3, .int l3)]) (rest := []) (ok_X9_asTold s) rfl rfl rfl rfl rfl (fun s2 => ?_)
  refine xTr.ms 5 (g := (12, [(0, .ref 0), (1, .int l1), (2, .int l2), (3, .int l3), (4, .int l1)], [.int (s2.1 0 3), .ref 0], s2)) rfl ?_
  refine xTr.br (g1 := (15, [(0, .ref 0), (1, .int l1), (2, .int l2), (3, .int l3), (4, .int l1)], [.ref 0], s2)) (g2 := (19, [(0, .ref 0), (1, .int l1), (2, .int l2), (3, .int l3), (4, .int l1)], [.ref 0], s2)) rfl (fun h3 => ?_) (fun h3 => ?_)
  · refine xTr.ms 5 (g := (26, [(0, .ref 0), (3, .int l3), (4, .int l1), (5, .int (0 : Int32))], [], (xu s2 0 5 (0 : Int32)))) rfl ?_
    refine xTr.bind (J := F_X9_dayOf_L26_ex l3) (xTr.loop (hd := F_X9_dayOf_L26_hd l3) (fun aa => F_X9_dayOf_L26_ok l3 aa) 100000 (l1, (0 : Int32), (xu s2 0 5 (0 : Int32)))) (fun b9 => ?_)
    refine xTr.ms 1 (g := (124, [(0, .ref 0), (3, .int l3)], [.ref 0], b9)) rfl ?_
    refine xTr.callv (R' := xR_X9_runs) (as := [.ref 0]) (lv := [(0, .ref 0), (3, .int l3)]) (rest := []) (ok_X9_runs b9) rfl rfl rfl rfl rfl (fun s11 => ?_)
    refine xTr.ms 1 (g := (128, [(0, .ref 0), (3, .int l3)], [.int l3], s11)) rfl ?_
    refine xTr.br (g1 := (131, [(0, .ref 0), (3, .int l3)], [], s11)) (g2 := (138, [(0, .ref 0), (3, .int l3)], [], s11)) rfl (fun h12 => ?_) (fun h12 => ?_)
    · refine xTr.ms 3 (g := (142, [(0, .ref 0)], [.int (s11.1 0 20)], s11)) rfl ?_
      exact xTr.ret rfl rfl rfl
    · refine xTr.ms 1 (g := (139, [(0, .ref 0)], [.ref 0], s11)) rfl ?_
      refine xTr.callip (R' := xR_X9_exiledMany) (as := [.ref 0]) (lv := [(0, .ref 0)]) (rest := []) (ok_X9_exiledMany s11) rfl rfl rfl rfl rfl (fun v13 => ?_)
      exact xTr.ret rfl rfl rfl
  · refine xTr.ms 4 (g := (26, [(0, .ref 0), (3, .int l3), (4, .int l1), (5, .int (0 : Int32))], [], (xu s2 0 5 l2))) rfl ?_
    refine xTr.bind (J := F_X9_dayOf_L26_ex l3) (xTr.loop (hd := F_X9_dayOf_L26_hd l3) (fun aa => F_X9_dayOf_L26_ok l3 aa) 100000 (l1, (0 : Int32), (xu s2 0 5 l2))) (fun b14 => ?_)
    refine xTr.ms 1 (g := (124, [(0, .ref 0), (3, .int l3)], [.ref 0], b14)) rfl ?_
    refine xTr.callv (R' := xR_X9_runs) (as := [.ref 0]) (lv := [(0, .ref 0), (3, .int l3)]) (rest := []) (ok_X9_runs b14) rfl rfl rfl rfl rfl (fun s16 => ?_)
    refine xTr.ms 1 (g := (128, [(0, .ref 0), (3, .int l3)], [.int l3], s16)) rfl ?_
    refine xTr.br (g1 := (131, [(0, .ref 0), (3, .int l3)], [], s16)) (g2 := (138, [(0, .ref 0), (3, .int l3)], [], s16)) rfl (fun h17 => ?_) (fun h17 => ?_)
    · refine xTr.ms 3 (g := (142, [(0, .ref 0)], [.int (s16.1 0 20)], s16)) rfl ?_
      exact xTr.ret rfl rfl rfl
    · refine xTr.ms 1 (g := (139, [(0, .ref 0)], [.ref 0], s16)) rfl ?_
      refine xTr.callip (R' := xR_X9_exiledMany) (as := [.ref 0]) (lv := [(0, .ref 0)]) (rest := []) (ok_X9_exiledMany s16) rfl rfl rfl rfl rfl (fun v18 => ?_)
      exact xTr.ret rfl rfl rfl
-- X9_day
def F_X9_day (l1 : Int32) (l2 : Int32) (l3 : Int32) (s : xS) : Option (Int32 × xS) := (F_X9_in l2 (1 : Int32) (8 : Int32) s).bind fun v1 => (if v1 = 0 then (some ((-2 : Int32), s)) else ((F_X9_in l3 (0 : Int32) (1 : Int32) s).bind fun v3 => (if v3 = 0 then (some ((-2 : Int32), s)) else ((F_X9_dayOf l1 l2 l3 s).bind fun q6 => (some (q6.1, q6.2))))))
set_option maxRecDepth 100000 in
theorem ok_X9_day (l1 : Int32) (l2 : Int32) (l3 : Int32) (s : xS) : xTr xMs xML xR_X9_day (Sum.inl (0, [(0, .ref 0), (1, .int l1), (2, .int l2), (3, .int l3)], [], s)) (F_X9_day l1 l2 l3 s) (fun (y : Int32 × xS) => Sum.inr (some (.int y.1), y.2)) := by
  unfold F_X9_day
  refine xTr.ms 3 (g := (4, [(0, .ref 0), (1, .int l1), (2, .int l2), (3, .int l3)], [.int (8 : Int32), .int (1 : Int32), .int l2], s)) rfl ?_
  refine xTr.callip (R' := xR_X9_in) (as := [.int l2, .int (1 : Int32), .int (8 : Int32)]) (lv := [(0, .ref 0), (1, .int l1), (2, .int l2), (3, .int l3)]) (rest := []) (ok_X9_in l2 (1 : Int32) (8 : Int32) s) rfl rfl rfl rfl rfl (fun v1 => ?_)
  refine xTr.br (g1 := (29, [(0, .ref 0), (1, .int l1), (2, .int l2), (3, .int l3)], [], s)) (g2 := (10, [(0, .ref 0), (1, .int l1), (2, .int l2), (3, .int l3)], [], s)) rfl (fun h2 => ?_) (fun h2 => ?_)
  · refine xTr.ms 1 (g := (31, [], [.int (-2 : Int32)], s)) rfl ?_
    exact xTr.ret rfl rfl rfl
  · refine xTr.ms 3 (g := (13, [(0, .ref 0), (1, .int l1), (2, .int l2), (3, .int l3)], [.int (1 : Int32), .int (0 : Int32), .int l3], s)) rfl ?_
    refine xTr.callip (R' := xR_X9_in) (as := [.int l3, .int (0 : Int32), .int (1 : Int32)]) (lv := [(0, .ref 0), (1, .int l1), (2, .int l2), (3, .int l3)]) (rest := []) (ok_X9_in l3 (0 : Int32) (1 : Int32) s) rfl rfl rfl rfl rfl (fun v3 => ?_)
    refine xTr.br (g1 := (29, [(0, .ref 0), (1, .int l1), (2, .int l2), (3, .int l3)], [], s)) (g2 := (19, [(0, .ref 0), (1, .int l1), (2, .int l2), (3, .int l3)], [], s)) rfl (fun h4 => ?_) (fun h4 => ?_)
    · refine xTr.ms 1 (g := (31, [], [.int (-2 : Int32)], s)) rfl ?_
      exact xTr.ret rfl rfl rfl
    · refine xTr.ms 4 (g := (23, [(0, .ref 0), (1, .int l1), (2, .int l2), (3, .int l3)], [.int l3, .int l2, .int l1, .ref 0], s)) rfl ?_
      refine xTr.calli (R' := xR_X9_dayOf) (as := [.ref 0, .int l1, .int l2, .int l3]) (lv := [(0, .ref 0), (1, .int l1), (2, .int l2), (3, .int l3)]) (rest := []) (ok_X9_dayOf l1 l2 l3 s) rfl rfl rfl rfl rfl (fun v5 s5 => ?_)
      refine xTr.ms 1 (g := (31, [(0, .ref 0), (1, .int l1), (2, .int l2), (3, .int l3)], [.int v5], s5)) rfl ?_
      exact xTr.ret rfl rfl rfl
-- X9_sheet
def F_X9_sheet_L59 (l1 : Int32) (l3 : Int32) (a : Int32 × xS) : Option ((Int32 × xS) ⊕ (xS)) := if (60 : Int32) ≤ a.1 then (some (Sum.inr a.2)) else (if (((60 : Int32) * l1) + a.1) < 0 ∨ 240 ≤ ((((60 : Int32) * l1) + a.1)).toNatClampNeg then none else (some (Sum.inl ((a.1 + (1 : Int32)), (xu a.2 25 ((((60 : Int32) * l1) + a.1)).toNatClampNeg (0 : Int32))))))
def F_X9_sheet (l1 : Int32) (l2 : Int32) (l3 : Int32) (s : xS) : Option (Int32 × xS) := (F_X9_isSheet l1 s).bind fun v1 => (if v1 = 0 then (some ((-2 : Int32), s)) else ((F_X9_in l2 (0 : Int32) (2 : Int32) s).bind fun v3 => (if v3 = 0 then (some ((-2 : Int32), s)) else (if l3 ≤ (60 : Int32) then (if 0 ≤ l3 then (if l1 < 0 ∨ 4 ≤ l1.toNatClampNeg then none else (if l1 < 0 ∨ 4 ≤ l1.toNatClampNeg then none else (if l1 < 0 ∨ 4 ≤ l1.toNatClampNeg then none else ((xlp (F_X9_sheet_L59 l1 l3) 100000 ((0 : Int32), (xu (xu (xu s 22 l1.toNatClampNeg (vp_nar .boolean (1 : Int32))) 23 l1.toNatClampNeg l2) 24 l1.toNatClampNeg l3))).bind (fun b12 => (some (l3, b12))))))) else ((F_X9_meets (5 : Int32) s).bind fun q14 => (some (q14.1, q14.2)))) else (some ((-2 : Int32), s))))))
def F_X9_sheet_L59_hd (l1 : Int32) (l3 : Int32) (a : Int32 × xS) : xT := Sum.inl (59, [(0, .ref 0), (1, .int l1), (3, .int l3), (4, .int a.1)], [], a.2)
def F_X9_sheet_L59_ex (l1 : Int32) (l3 : Int32) : (xS) → xT := (fun (z : xS) => Sum.inl (85, [(3, .int l3)], [], z))
set_option maxRecDepth 100000 in
theorem F_X9_sheet_L59_ok (l1 : Int32) (l3 : Int32) (a : Int32 × xS) : xTr xMs xML xR_X9_sheet (F_X9_sheet_L59_hd l1 l3 a) (F_X9_sheet_L59 l1 l3 a) (xhx (F_X9_sheet_L59_hd l1 l3) (F_X9_sheet_L59_ex l1 l3)) := by
  unfold F_X9_sheet_L59
  refine xTr.ms 2 (g := (63, [(0, .ref 0), (1, .int l1), (3, .int l3), (4, .int a.1)], [.int (60 : Int32), .int a.1], a.2)) rfl ?_
  refine xTr.br (g1 := (85, [(0, .ref 0), (1, .int l1), (3, .int l3), (4, .int a.1)], [], a.2)) (g2 := (66, [(0, .ref 0), (1, .int l1), (3, .int l3), (4, .int a.1)], [], a.2)) rfl (fun h10 => ?_) (fun h10 => ?_)
  · refine xTr.mk (lv1 := [(3, .int l3)]) rfl rfl ?_
    exact xTr.leaf rfl
  · refine xTr.ms 8 (g := (78, [(0, .ref 0), (1, .int l1), (3, .int l3), (4, .int a.1)], [.int (0 : Int32), .int (((60 : Int32) * l1) + a.1), .ref 25], a.2)) rfl ?_
    refine xTr.ck (g := (79, [(0, .ref 0), (1, .int l1), (3, .int l3), (4, .int a.1)], [], (xu a.2 25 ((((60 : Int32) * l1) + a.1)).toNatClampNeg (0 : Int32)))) rfl (fun h11 => ?_)
    refine xTr.ms 2 (g := (59, [(0, .ref 0), (1, .int l1), (3, .int l3), (4, .int (a.1 + (1 : Int32)))], [], (xu a.2 25 ((((60 : Int32) * l1) + a.1)).toNatClampNeg (0 : Int32)))) rfl ?_
    exact xTr.leaf rfl
set_option maxRecDepth 100000 in
theorem ok_X9_sheet (l1 : Int32) (l2 : Int32) (l3 : Int32) (s : xS) : xTr xMs xML xR_X9_sheet (Sum.inl (0, [(0, .ref 0), (1, .int l1), (2, .int l2), (3, .int l3)], [], s)) (F_X9_sheet l1 l2 l3 s) (fun (y : Int32 × xS) => Sum.inr (some (.int y.1), y.2)) := by
  unfold F_X9_sheet
  refine xTr.ms 1 (g := (1, [(0, .ref 0), (1, .int l1), (2, .int l2), (3, .int l3)], [.int l1], s)) rfl ?_
  refine xTr.callip (R' := xR_X9_isSheet) (as := [.int l1]) (lv := [(0, .ref 0), (1, .int l1), (2, .int l2), (3, .int l3)]) (rest := []) (ok_X9_isSheet l1 s) rfl rfl rfl rfl rfl (fun v1 => ?_)
  refine xTr.br (g1 := (22, [(0, .ref 0), (1, .int l1), (2, .int l2), (3, .int l3)], [], s)) (g2 := (7, [(0, .ref 0), (1, .int l1), (2, .int l2), (3, .int l3)], [], s)) rfl (fun h2 => ?_) (fun h2 => ?_)
  · refine xTr.ms 1 (g := (24, [], [.int (-2 : Int32)], s)) rfl ?_
    exact xTr.ret rfl rfl rfl
  · refine xTr.ms 3 (g := (10, [(0, .ref 0), (1, .int l1), (2, .int l2), (3, .int l3)], [.int (2 : Int32), .int (0 : Int32), .int l2], s)) rfl ?_
    refine xTr.callip (R' := xR_X9_in) (as := [.int l2, .int (0 : Int32), .int (2 : Int32)]) (lv := [(0, .ref 0), (1, .int l1), (2, .int l2), (3, .int l3)]) (rest := []) (ok_X9_in l2 (0 : Int32) (2 : Int32) s) rfl rfl rfl rfl rfl (fun v3 => ?_)
    refine xTr.br (g1 := (22, [(0, .ref 0), (1, .int l1), (2, .int l2), (3, .int l3)], [], s)) (g2 := (16, [(0, .ref 0), (1, .int l1), (2, .int l2), (3, .int l3)], [], s)) rfl (fun h4 => ?_) (fun h4 => ?_)
    · refine xTr.ms 1 (g := (24, [], [.int (-2 : Int32)], s)) rfl ?_
      exact xTr.ret rfl rfl rfl
    · refine xTr.ms 2 (g := (19, [(0, .ref 0), (1, .int l1), (2, .int l2), (3, .int l3)], [.int (60 : Int32), .int l3], s)) rfl ?_
      refine xTr.br (g1 := (25, [(0, .ref 0), (1, .int l1), (2, .int l2), (3, .int l3)], [], s)) (g2 := (22, [(0, .ref 0), (1, .int l1), (2, .int l2), (3, .int l3)], [], s)) rfl (fun h5 => ?_) (fun h5 => ?_)
      · refine xTr.ms 1 (g := (26, [(0, .ref 0), (1, .int l1), (2, .int l2), (3, .int l3)], [.int l3], s)) rfl ?_
        refine xTr.br (g1 := (35, [(0, .ref 0), (1, .int l1), (2, .int l2), (3, .int l3)], [], s)) (g2 := (29, [(0, .ref 0), (1, .int l1), (2, .int l2), (3, .int l3)], [], s)) rfl (fun h6 => ?_) (fun h6 => ?_)
        · refine xTr.ms 4 (g := (41, [(0, .ref 0), (1, .int l1), (2, .int l2), (3, .int l3)], [.int (1 : Int32), .int l1, .ref 22], s)) rfl ?_
          refine xTr.ck (g := (42, [(0, .ref 0), (1, .int l1), (2, .int l2), (3, .int l3)], [], (xu s 22 l1.toNatClampNeg (vp_nar .boolean (1 : Int32))))) rfl (fun h7 => ?_)
          refine xTr.ms 4 (g := (48, [(0, .ref 0), (1, .int l1), (2, .int l2), (3, .int l3)], [.int l2, .int l1, .ref 23], (xu s 22 l1.toNatClampNeg (vp_nar .boolean (1 : Int32))))) rfl ?_
          refine xTr.ck (g := (49, [(0, .ref 0), (1, .int l1), (2, .int l2), (3, .int l3)], [], (xu (xu s 22 l1.toNatClampNeg (vp_nar .boolean (1 : Int32))) 23 l1.toNatClampNeg l2))) rfl (fun h8 => ?_)
          refine xTr.ms 4 (g := (55, [(0, .ref 0), (1, .int l1), (2, .int l2), (3, .int l3)], [.int l3, .int l1, .ref 24], (xu (xu s 22 l1.toNatClampNeg (vp_nar .boolean (1 : Int32))) 23 l1.toNatClampNeg l2))) rfl ?_
          refine xTr.ck (g := (56, [(0, .ref 0), (1, .int l1), (2, .int l2), (3, .int l3)], [], (xu (xu (xu s 22 l1.toNatClampNeg (vp_nar .boolean (1 : Int32))) 23 l1.toNatClampNeg l2) 24 l1.toNatClampNeg l3))) rfl (fun h9 => ?_)
          refine xTr.ms 2 (g := (59, [(0, .ref 0), (1, .int l1), (2, .int l2), (3, .int l3), (4, .int (0 : Int32))], [], (xu (xu (xu s 22 l1.toNatClampNeg (vp_nar .boolean (1 : Int32))) 23 l1.toNatClampNeg l2) 24 l1.toNatClampNeg l3))) rfl ?_
          refine xTr.mk (lv1 := [(0, .ref 0), (1, .int l1), (3, .int l3), (4, .int (0 : Int32))]) rfl rfl ?_
          refine xTr.bind (J := F_X9_sheet_L59_ex l1 l3) (xTr.loop (hd := F_X9_sheet_L59_hd l1 l3) (fun aa => F_X9_sheet_L59_ok l1 l3 aa) 100000 ((0 : Int32), (xu (xu (xu s 22 l1.toNatClampNeg (vp_nar .boolean (1 : Int32))) 23 l1.toNatClampNeg l2) 24 l1.toNatClampNeg l3))) (fun b12 => ?_)
          refine xTr.ms 1 (g := (86, [(3, .int l3)], [.int l3], b12)) rfl ?_
          exact xTr.ret rfl rfl rfl
        · refine xTr.ms 2 (g := (31, [(0, .ref 0)], [.int (5 : Int32), .ref 0], s)) rfl ?_
          refine xTr.calli (R' := xR_X9_meets) (as := [.ref 0, .int (5 : Int32)]) (lv := [(0, .ref 0)]) (rest := []) (ok_X9_meets (5 : Int32) s) rfl rfl rfl rfl rfl (fun v13 s13 => ?_)
          exact xTr.ret rfl rfl rfl
      · refine xTr.ms 1 (g := (24, [], [.int (-2 : Int32)], s)) rfl ?_
        exact xTr.ret rfl rfl rfl
-- X9_lose
def F_X9_lose (l1 : Int32) (s : xS) : Option (Int32 × xS) := (F_X9_isSheet l1 s).bind fun v1 => (if v1 = 0 then (some ((-2 : Int32), s)) else (if l1 < 0 ∨ 4 ≤ l1.toNatClampNeg then none else (if (s.1 22 l1.toNatClampNeg) = 0 then ((F_X9_meets (1 : Int32) s).bind fun q6 => (some (q6.1, q6.2))) else (if l1 < 0 ∨ 4 ≤ l1.toNatClampNeg then none else (if l1 < 0 ∨ 4 ≤ l1.toNatClampNeg then none else (some ((s.1 24 l1.toNatClampNeg), (xu s 22 l1.toNatClampNeg (vp_nar .boolean (0 : Int32))))))))))
set_option maxRecDepth 100000 in
theorem ok_X9_lose (l1 : Int32) (s : xS) : xTr xMs xML xR_X9_lose (Sum.inl (0, [(0, .ref 0), (1, .int l1)], [], s)) (F_X9_lose l1 s) (fun (y : Int32 × xS) => Sum.inr (some (.int y.1), y.2)) := by
  unfold F_X9_lose
  refine xTr.ms 1 (g := (1, [(0, .ref 0), (1, .int l1)], [.int l1], s)) rfl ?_
  refine xTr.callip (R' := xR_X9_isSheet) (as := [.int l1]) (lv := [(0, .ref 0), (1, .int l1)]) (rest := []) (ok_X9_isSheet l1 s) rfl rfl rfl rfl rfl (fun v1 => ?_)
  refine xTr.br (g1 := (7, [(0, .ref 0), (1, .int l1)], [], s)) (g2 := (10, [(0, .ref 0), (1, .int l1)], [], s)) rfl (fun h2 => ?_) (fun h2 => ?_)
  · refine xTr.ms 1 (g := (9, [], [.int (-2 : Int32)], s)) rfl ?_
    exact xTr.ret rfl rfl rfl
  · refine xTr.ms 3 (g := (15, [(0, .ref 0), (1, .int l1)], [.int l1, .ref 22], s)) rfl ?_
    refine xTr.ck (g := (16, [(0, .ref 0), (1, .int l1)], [.int (s.1 22 l1.toNatClampNeg)], s)) rfl (fun h3 => ?_)
    refine xTr.br (g1 := (19, [(0, .ref 0), (1, .int l1)], [], s)) (g2 := (25, [(0, .ref 0), (1, .int l1)], [], s)) rfl (fun h4 => ?_) (fun h4 => ?_)
    · refine xTr.ms 2 (g := (21, [(0, .ref 0)], [.int (1 : Int32), .ref 0], s)) rfl ?_
      refine xTr.calli (R' := xR_X9_meets) (as := [.ref 0, .int (1 : Int32)]) (lv := [(0, .ref 0)]) (rest := []) (ok_X9_meets (1 : Int32) s) rfl rfl rfl rfl rfl (fun v5 s5 => ?_)
      exact xTr.ret rfl rfl rfl
    · refine xTr.ms 4 (g := (31, [(0, .ref 0), (1, .int l1)], [.int (0 : Int32), .int l1, .ref 22], s)) rfl ?_
      refine xTr.ck (g := (32, [(0, .ref 0), (1, .int l1)], [], (xu s 22 l1.toNatClampNeg (vp_nar .boolean (0 : Int32))))) rfl (fun h7 => ?_)
      refine xTr.ms 3 (g := (37, [(0, .ref 0), (1, .int l1)], [.int l1, .ref 24], (xu s 22 l1.toNatClampNeg (vp_nar .boolean (0 : Int32))))) rfl ?_
      refine xTr.ck (g := (38, [(0, .ref 0), (1, .int l1)], [.int (s.1 24 l1.toNatClampNeg)], (xu s 22 l1.toNatClampNeg (vp_nar .boolean (0 : Int32))))) rfl (fun h8 => ?_)
      exact xTr.ret rfl rfl rfl
-- X9_lacks
def F_X9_lacks (l1 : Int32) (l2 : Int32) (l3 : Int32) (s : xS) : Option (Int32) := if l1 < 0 ∨ 4 ≤ l1.toNatClampNeg then none else (if (s.1 22 l1.toNatClampNeg) = 0 then (some (1 : Int32)) else (if l1 < 0 ∨ 4 ≤ l1.toNatClampNeg then none else (if (s.1 23 l1.toNatClampNeg) = l2 then (if l1 < 0 ∨ 4 ≤ l1.toNatClampNeg then none else ((F_X9_in l3 (0 : Int32) ((s.1 24 l1.toNatClampNeg) - (1 : Int32)) s).bind fun v6 => (if v6 = 0 then (some (2 : Int32)) else (some (0 : Int32))))) else (some (3 : Int32)))))
set_option maxRecDepth 100000 in
theorem ok_X9_lacks (l1 : Int32) (l2 : Int32) (l3 : Int32) (s : xS) : xTr xMs xML xR_X9_lacks (Sum.inl (0, [(0, .ref 0), (1, .int l1), (2, .int l2), (3, .int l3)], [], s)) (F_X9_lacks l1 l2 l3 s) (fun (y : Int32) => Sum.inr (some (.int y), s)) := by
  unfold F_X9_lacks
  refine xTr.ms 3 (g := (5, [(0, .ref 0), (1, .int l1), (2, .int l2), (3, .int l3)], [.int l1, .ref 22], s)) rfl ?_
  refine xTr.ck (g := (6, [(0, .ref 0), (1, .int l1), (2, .int l2), (3, .int l3)], [.int (s.1 22 l1.toNatClampNeg)], s)) rfl (fun h1 => ?_)
  refine xTr.br (g1 := (9, [(0, .ref 0), (1, .int l1), (2, .int l2), (3, .int l3)], [], s)) (g2 := (13, [(0, .ref 0), (1, .int l1), (2, .int l2), (3, .int l3)], [], s)) rfl (fun h2 => ?_) (fun h2 => ?_)
  · refine xTr.ms 2 (g := (48, [], [.int (1 : Int32)], s)) rfl ?_
    exact xTr.ret rfl rfl rfl
  · refine xTr.ms 3 (g := (18, [(0, .ref 0), (1, .int l1), (2, .int l2), (3, .int l3)], [.int l1, .ref 23], s)) rfl ?_
    refine xTr.ck (g := (19, [(0, .ref 0), (1, .int l1), (2, .int l2), (3, .int l3)], [.int (s.1 23 l1.toNatClampNeg)], s)) rfl (fun h3 => ?_)
    refine xTr.ms 1 (g := (20, [(0, .ref 0), (1, .int l1), (2, .int l2), (3, .int l3)], [.int l2, .int (s.1 23 l1.toNatClampNeg)], s)) rfl ?_
    refine xTr.br (g1 := (27, [(0, .ref 0), (1, .int l1), (2, .int l2), (3, .int l3)], [], s)) (g2 := (23, [(0, .ref 0), (1, .int l1), (2, .int l2), (3, .int l3)], [], s)) rfl (fun h4 => ?_) (fun h4 => ?_)
    · refine xTr.ms 5 (g := (34, [(0, .ref 0), (1, .int l1), (3, .int l3)], [.int l1, .ref 24, .int (0 : Int32), .int l3], s)) rfl ?_
      refine xTr.ck (g := (35, [(0, .ref 0), (1, .int l1), (3, .int l3)], [.int (s.1 24 l1.toNatClampNeg), .int (0 : Int32), .int l3], s)) rfl (fun h5 => ?_)
      refine xTr.ms 2 (g := (37, [(0, .ref 0), (1, .int l1), (3, .int l3)], [.int ((s.1 24 l1.toNatClampNeg) - (1 : Int32)), .int (0 : Int32), .int l3], s)) rfl ?_
      refine xTr.callip (R' := xR_X9_in) (as := [.int l3, .int (0 : Int32), .int ((s.1 24 l1.toNatClampNeg) - (1 : Int32))]) (lv := [(0, .ref 0), (1, .int l1), (3, .int l3)]) (rest := []) (ok_X9_in l3 (0 : Int32) ((s.1 24 l1.toNatClampNeg) - (1 : Int32)) s) rfl rfl rfl rfl rfl (fun v6 => ?_)
      refine xTr.br (g1 := (47, [(0, .ref 0), (1, .int l1), (3, .int l3)], [], s)) (g2 := (43, [(0, .ref 0), (1, .int l1), (3, .int l3)], [], s)) rfl (fun h7 => ?_) (fun h7 => ?_)
      · refine xTr.ms 1 (g := (48, [], [.int (2 : Int32)], s)) rfl ?_
        exact xTr.ret rfl rfl rfl
      · refine xTr.ms 2 (g := (48, [], [.int (0 : Int32)], s)) rfl ?_
        exact xTr.ret rfl rfl rfl
    · refine xTr.ms 2 (g := (48, [], [.int (3 : Int32)], s)) rfl ?_
      exact xTr.ret rfl rfl rfl
