-- X8_mostAlike
def F_X8_mostAlike_L17 (l1 : Int32) (l2 : Int32) (l3 : Int32) (l4 : Int32) (s : xS) (a : Int32 × Int32) : Option ((Int32 × Int32) ⊕ (Int32)) := if l2 ≤ a.2 then (some (Sum.inr a.1)) else (if ((l4 * (10 : Int32)) + l1) < 0 ∨ 360 ≤ (((l4 * (10 : Int32)) + l1)).toNatClampNeg then none else (if ((a.2 * (10 : Int32)) + l1) < 0 ∨ 360 ≤ (((a.2 * (10 : Int32)) + l1)).toNatClampNeg then none else (if (s.1 40 (((l4 * (10 : Int32)) + l1)).toNatClampNeg) = (s.1 40 (((a.2 * (10 : Int32)) + l1)).toNatClampNeg) then (some (Sum.inl ((a.1 + (1 : Int32)), (a.2 + (1 : Int32))))) else (some (Sum.inl ((a.1 + (0 : Int32)), (a.2 + (1 : Int32))))))))
def F_X8_mostAlike_L5 (l1 : Int32) (l2 : Int32) (s : xS) (a : Int32 × Int32) : Option ((Int32 × Int32) ⊕ (Int32)) := if l2 ≤ a.2 then (some (Sum.inr a.1)) else ((xlp (F_X8_mostAlike_L17 l1 l2 a.1 a.2 s) 100000 ((0 : Int32), (0 : Int32))).bind (fun b6 => (some (Sum.inl ((if a.1 < b6 then b6 else a.1), (a.2 + (1 : Int32)))))))
def F_X8_mostAlike (l1 : Int32) (l2 : Int32) (s : xS) : Option (Int32) := (xlp (F_X8_mostAlike_L5 l1 l2 s) 100000 ((0 : Int32), (0 : Int32))).bind (fun b7 => (some b7))
def F_X8_mostAlike_L5_hd (l1 : Int32) (l2 : Int32) (s : xS) (a : Int32 × Int32) : xT := Sum.inl (5, [(0, .ref 0), (1, .int l1), (2, .int l2), (3, .int a.1), (4, .int a.2)], [], s)
def F_X8_mostAlike_L5_ex (l1 : Int32) (l2 : Int32) (s : xS) : (Int32) → xT := (fun (z : Int32) => Sum.inl (79, [(3, .int z)], [], s))
def F_X8_mostAlike_L17_hd (l1 : Int32) (l2 : Int32) (l3 : Int32) (l4 : Int32) (s : xS) (a : Int32 × Int32) : xT := Sum.inl (17, [(0, .ref 0), (1, .int l1), (2, .int l2), (3, .int l3), (4, .int l4), (5, .int a.1), (6, .int a.2)], [], s)
def F_X8_mostAlike_L17_ex (l1 : Int32) (l2 : Int32) (l3 : Int32) (l4 : Int32) (s : xS) : (Int32) → xT := (fun (z : Int32) => Sum.inl (66, [(0, .ref 0), (1, .int l1), (2, .int l2), (3, .int l3), (4, .int l4), (5, .int z)], [], s))
set_option maxRecDepth 100000 in
theorem F_X8_mostAlike_L17_ok (l1 : Int32) (l2 : Int32) (l3 : Int32) (l4 : Int32) (s : xS) (a : Int32 × Int32) : xTr xMs xFL xR_X8_mostAlike (F_X8_mostAlike_L17_hd l1 l2 l3 l4 s a) (F_X8_mostAlike_L17 l1 l2 l3 l4 s a) (xhx (F_X8_mostAlike_L17_hd l1 l2 l3 l4 s) (F_X8_mostAlike_L17_ex l1 l2 l3 l4 s)) := by
  unfold F_X8_mostAlike_L17
  refine xTr.ms 2 (g := (20, [(0, .ref 0), (1, .int l1), (2, .int l2), (3, .int l3), (4, .int l4), (5, .int a.1), (6, .int a.2)], [.int l2, .int a.2], s)) rfl ?_
  refine xTr.br (g1 := (66, [(0, .ref 0), (1, .int l1), (2, .int l2), (3, .int l3), (4, .int l4), (5, .int a.1), (6, .int a.2)], [], s)) (g2 := (23, [(0, .ref 0), (1, .int l1), (2, .int l2), (3, .int l3), (4, .int l4), (5, .int a.1), (6, .int a.2)], [], s)) rfl (fun h2 => ?_) (fun h2 => ?_)
  · refine xTr.mk (lv1 := [(0, .ref 0), (1, .int l1), (2, .int l2), (3, .int l3), (4, .int l4), (5, .int a.1)]) rfl rfl ?_
    exact xTr.leaf rfl
  · refine xTr.ms 8 (g := (36, [(0, .ref 0), (1, .int l1), (2, .int l2), (3, .int l3), (4, .int l4), (5, .int a.1), (6, .int a.2)], [.int ((l4 * (10 : Int32)) + l1), .ref 40, .int a.1], s)) rfl ?_
    refine xTr.ck (g := (37, [(0, .ref 0), (1, .int l1), (2, .int l2), (3, .int l3), (4, .int l4), (5, .int a.1), (6, .int a.2)], [.int (s.1 40 (((l4 * (10 : Int32)) + l1)).toNatClampNeg), .int a.1], s)) rfl (fun h3 => ?_)
    refine xTr.ms 7 (g := (48, [(0, .ref 0), (1, .int l1), (2, .int l2), (3, .int l3), (4, .int l4), (5, .int a.1), (6, .int a.2)], [.int ((a.2 * (10 : Int32)) + l1), .ref 40, .int (s.1 40 (((l4 * (10 : Int32)) + l1)).toNatClampNeg), .int a.1], s)) rfl ?_
    refine xTr.ck (g := (49, [(0, .ref 0), (1, .int l1), (2, .int l2), (3, .int l3), (4, .int l4), (5, .int a.1), (6, .int a.2)], [.int (s.1 40 (((a.2 * (10 : Int32)) + l1)).toNatClampNeg), .int (s.1 40 (((l4 * (10 : Int32)) + l1)).toNatClampNeg), .int a.1], s)) rfl (fun h4 => ?_)
    refine xTr.br (g1 := (52, [(0, .ref 0), (1, .int l1), (2, .int l2), (3, .int l3), (4, .int l4), (5, .int a.1), (6, .int a.2)], [.int a.1], s)) (g2 := (56, [(0, .ref 0), (1, .int l1), (2, .int l2), (3, .int l3), (4, .int l4), (5, .int a.1), (6, .int a.2)], [.int a.1], s)) rfl (fun h5 => ?_) (fun h5 => ?_)
    · refine xTr.ms 6 (g := (17, [(0, .ref 0), (1, .int l1), (2, .int l2), (3, .int l3), (4, .int l4), (5, .int (a.1 + (1 : Int32))), (6, .int (a.2 + (1 : Int32)))], [], s)) rfl ?_
      exact xTr.leaf rfl
    · refine xTr.ms 5 (g := (17, [(0, .ref 0), (1, .int l1), (2, .int l2), (3, .int l3), (4, .int l4), (5, .int (a.1 + (0 : Int32))), (6, .int (a.2 + (1 : Int32)))], [], s)) rfl ?_
      exact xTr.leaf rfl
set_option maxRecDepth 100000 in
theorem F_X8_mostAlike_L5_ok (l1 : Int32) (l2 : Int32) (s : xS) (a : Int32 × Int32) : xTr xMs xFL xR_X8_mostAlike (F_X8_mostAlike_L5_hd l1 l2 s a) (F_X8_mostAlike_L5 l1 l2 s a) (xhx (F_X8_mostAlike_L5_hd l1 l2 s) (F_X8_mostAlike_L5_ex l1 l2 s)) := by
  unfold F_X8_mostAlike_L5
  refine xTr.ms 2 (g := (8, [(0, .ref 0), (1, .int l1), (2, .int l2), (3, .int a.1), (4, .int a.2)], [.int l2, .int a.2], s)) rfl ?_
  refine xTr.br (g1 := (79, [(0, .ref 0), (1, .int l1), (2, .int l2), (3, .int a.1), (4, .int a.2)], [], s)) (g2 := (11, [(0, .ref 0), (1, .int l1), (2, .int l2), (3, .int a.1), (4, .int a.2)], [], s)) rfl (fun h1 => ?_) (fun h1 => ?_)
  · refine xTr.mk (lv1 := [(3, .int a.1)]) rfl rfl ?_
    exact xTr.leaf rfl
  · refine xTr.ms 4 (g := (17, [(0, .ref 0), (1, .int l1), (2, .int l2), (3, .int a.1), (4, .int a.2), (5, .int (0 : Int32)), (6, .int (0 : Int32))], [], s)) rfl ?_
    refine xTr.bind (J := F_X8_mostAlike_L17_ex l1 l2 a.1 a.2 s) (xTr.loop (hd := F_X8_mostAlike_L17_hd l1 l2 a.1 a.2 s) (fun aa => F_X8_mostAlike_L17_ok l1 l2 a.1 a.2 s aa) 100000 ((0 : Int32), (0 : Int32))) (fun b6 => ?_)
    refine xTr.ms 6 (g := (5, [(0, .ref 0), (1, .int l1), (2, .int l2), (3, .int (if a.1 < b6 then b6 else a.1)), (4, .int (a.2 + (1 : Int32))), (5, .int b6)], [], s)) rfl ?_
    refine xTr.mk (lv1 := [(0, .ref 0), (1, .int l1), (2, .int l2), (3, .int (if a.1 < b6 then b6 else a.1)), (4, .int (a.2 + (1 : Int32)))]) rfl rfl ?_
    exact xTr.leaf rfl
set_option maxRecDepth 100000 in
theorem ok_X8_mostAlike (l1 : Int32) (l2 : Int32) (s : xS) : xTr xMs xFL xR_X8_mostAlike (Sum.inl (0, [(0, .ref 0), (1, .int l1), (2, .int l2)], [], s)) (F_X8_mostAlike l1 l2 s) (fun (y : Int32) => Sum.inr (some (.int y), s)) := by
  unfold F_X8_mostAlike
  refine xTr.ms 4 (g := (5, [(0, .ref 0), (1, .int l1), (2, .int l2), (3, .int (0 : Int32)), (4, .int (0 : Int32))], [], s)) rfl ?_
  refine xTr.bind (J := F_X8_mostAlike_L5_ex l1 l2 s) (xTr.loop (hd := F_X8_mostAlike_L5_hd l1 l2 s) (fun aa => F_X8_mostAlike_L5_ok l1 l2 s aa) 100000 ((0 : Int32), (0 : Int32))) (fun b7 => ?_)
  refine xTr.ms 1 (g := (80, [(3, .int b7)], [.int b7], s)) rfl ?_
  exact xTr.ret rfl rfl rfl
-- X8_ask
def F_X8_ask_L30 (l2 : Int32) (s : xS) (a : Int32 × Int32 × Int32) : Option ((Int32 × Int32 × Int32) ⊕ (Int32)) := if (10 : Int32) ≤ a.2.2 then (some (Sum.inr a.1)) else ((F_X8_mostAlike a.2.2 l2 s).bind fun v7 => (if a.2.1 ≤ v7 then (some (Sum.inl (a.1, a.2.1, (a.2.2 + (1 : Int32))))) else (some (Sum.inl (a.2.2, v7, (a.2.2 + (1 : Int32)))))))
def F_X8_ask (l1 : Int32) (s : xS) : Option (Int32 × xS) := (F_X8_isNoDeed l1 s).bind fun v1 => (if v1 = 0 then ((F_X8_findPlaces l1 s).bind fun q4 => ((F_X8_mostAlike (0 : Int32) q4.1 q4.2).bind fun v5 => ((xlp (F_X8_ask_L30 q4.1 q4.2) 100000 ((0 : Int32), v5, (1 : Int32))).bind (fun b9 => (some (b9, q4.2)))))) else (some ((-2 : Int32), s)))
def F_X8_ask_L30_hd (l2 : Int32) (s : xS) (a : Int32 × Int32 × Int32) : xT := Sum.inl (30, [(0, .ref 0), (2, .int l2), (3, .int a.1), (4, .int a.2.1), (5, .int a.2.2)], [], s)
def F_X8_ask_L30_ex (l2 : Int32) (s : xS) : (Int32) → xT := (fun (z : Int32) => Sum.inl (66, [(3, .int z)], [], s))
set_option maxRecDepth 100000 in
theorem F_X8_ask_L30_ok (l2 : Int32) (s : xS) (a : Int32 × Int32 × Int32) : xTr xMs xFL xR_X8_ask (F_X8_ask_L30_hd l2 s a) (F_X8_ask_L30 l2 s a) (xhx (F_X8_ask_L30_hd l2 s) (F_X8_ask_L30_ex l2 s)) := by
  unfold F_X8_ask_L30
  refine xTr.ms 2 (g := (34, [(0, .ref 0), (2, .int l2), (3, .int a.1), (4, .int a.2.1), (5, .int a.2.2)], [.int (10 : Int32), .int a.2.2], s)) rfl ?_
  refine xTr.br (g1 := (66, [(0, .ref 0), (2, .int l2), (3, .int a.1), (4, .int a.2.1), (5, .int a.2.2)], [], s)) (g2 := (37, [(0, .ref 0), (2, .int l2), (3, .int a.1), (4, .int a.2.1), (5, .int a.2.2)], [], s)) rfl (fun h6 => ?_) (fun h6 => ?_)
  · refine xTr.mk (lv1 := [(3, .int a.1)]) rfl rfl ?_
    exact xTr.leaf rfl
  · refine xTr.ms 3 (g := (41, [(0, .ref 0), (2, .int l2), (3, .int a.1), (4, .int a.2.1), (5, .int a.2.2)], [.int l2, .int a.2.2, .ref 0], s)) rfl ?_
    refine xTr.callip (R' := xR_X8_mostAlike) (as := [.ref 0, .int a.2.2, .int l2]) (lv := [(0, .ref 0), (2, .int l2), (3, .int a.1), (4, .int a.2.1), (5, .int a.2.2)]) (rest := []) (ok_X8_mostAlike a.2.2 l2 s) rfl rfl rfl rfl rfl (fun v7 => ?_)
    refine xTr.ms 3 (g := (50, [(0, .ref 0), (2, .int l2), (3, .int a.1), (4, .int a.2.1), (5, .int a.2.2), (6, .int v7)], [.int a.2.1, .int v7], s)) rfl ?_
    refine xTr.br (g1 := (60, [(0, .ref 0), (2, .int l2), (3, .int a.1), (4, .int a.2.1), (5, .int a.2.2), (6, .int v7)], [], s)) (g2 := (53, [(0, .ref 0), (2, .int l2), (3, .int a.1), (4, .int a.2.1), (5, .int a.2.2), (6, .int v7)], [], s)) rfl (fun h8 => ?_) (fun h8 => ?_)
    · refine xTr.ms 2 (g := (30, [(0, .ref 0), (2, .int l2), (3, .int a.1), (4, .int a.2.1), (5, .int (a.2.2 + (1 : Int32)))], [], s)) rfl ?_
      exact xTr.leaf rfl
    · refine xTr.ms 6 (g := (30, [(0, .ref 0), (2, .int l2), (3, .int a.2.2), (4, .int v7), (5, .int (a.2.2 + (1 : Int32)))], [], s)) rfl ?_
      exact xTr.leaf rfl
set_option maxRecDepth 100000 in
theorem ok_X8_ask (l1 : Int32) (s : xS) : xTr xMs xFL xR_X8_ask (Sum.inl (0, [(0, .ref 0), (1, .int l1)], [], s)) (F_X8_ask l1 s) (fun (y : Int32 × xS) => Sum.inr (some (.int y.1), y.2)) := by
  unfold F_X8_ask
  refine xTr.ms 2 (g := (2, [(0, .ref 0), (1, .int l1)], [.int l1, .ref 0], s)) rfl ?_
  refine xTr.callip (R' := xR_X8_isNoDeed) (as := [.ref 0, .int l1]) (lv := [(0, .ref 0), (1, .int l1)]) (rest := []) (ok_X8_isNoDeed l1 s) rfl rfl rfl rfl rfl (fun v1 => ?_)
  refine xTr.br (g1 := (11, [(0, .ref 0), (1, .int l1)], [], s)) (g2 := (8, [(0, .ref 0), (1, .int l1)], [], s)) rfl (fun h2 => ?_) (fun h2 => ?_)
  · refine xTr.ms 2 (g := (13, [(0, .ref 0), (1, .int l1)], [.int l1, .ref 0], s)) rfl ?_
    refine xTr.calli (R' := xR_X8_findPlaces) (as := [.ref 0, .int l1]) (lv := [(0, .ref 0), (1, .int l1)]) (rest := []) (ok_X8_findPlaces l1 s) rfl rfl rfl rfl rfl (fun v3 s3 => ?_)
    refine xTr.ms 6 (g := (22, [(0, .ref 0), (1, .int l1), (2, .int v3), (3, .int (0 : Int32))], [.int v3, .int (0 : Int32), .ref 0], s3)) rfl ?_
    refine xTr.callip (R' := xR_X8_mostAlike) (as := [.ref 0, .int (0 : Int32), .int v3]) (lv := [(0, .ref 0), (1, .int l1), (2, .int v3), (3, .int (0 : Int32))]) (rest := []) (ok_X8_mostAlike (0 : Int32) v3 s3) rfl rfl rfl rfl rfl (fun v5 => ?_)
    refine xTr.ms 3 (g := (30, [(0, .ref 0), (1, .int l1), (2, .int v3), (3, .int (0 : Int32)), (4, .int v5), (5, .int (1 : Int32))], [], s3)) rfl ?_
    refine xTr.mk (lv1 := [(0, .ref 0), (2, .int v3), (3, .int (0 : Int32)), (4, .int v5), (5, .int (1 : Int32))]) rfl rfl ?_
    refine xTr.bind (J := F_X8_ask_L30_ex v3 s3) (xTr.loop (hd := F_X8_ask_L30_hd v3 s3) (fun aa => F_X8_ask_L30_ok v3 s3 aa) 100000 ((0 : Int32), v5, (1 : Int32))) (fun b9 => ?_)
    refine xTr.ms 1 (g := (67, [(3, .int b9)], [.int b9], s3)) rfl ?_
    exact xTr.ret rfl rfl rfl
  · refine xTr.ms 1 (g := (10, [], [.int (-2 : Int32)], s)) rfl ?_
    exact xTr.ret rfl rfl rfl
-- X8_weightOf
def F_X8_weightOf_L5 (l1 : Int32) (l2 : Int32) (s : xS) (a : Int64 × Int32) : Option ((Int64 × Int32) ⊕ (Int64)) := if (s.1 8 3) ≤ a.2 then (some (Sum.inr a.1)) else (if ((xshr l1 a.2) &&& (1 : Int32)) = (1 : Int32) then (some (Sum.inl ((a.1 * (l2).toInt64), (a.2 + (1 : Int32))))) else (some (Sum.inl ((a.1 * (((16 : Int32) - l2)).toInt64), (a.2 + (1 : Int32))))))
def F_X8_weightOf (l1 : Int32) (l2 : Int32) (s : xS) : Option (Int64) := (xlp (F_X8_weightOf_L5 l1 l2 s) 100000 ((1 : Int64), (0 : Int32))).bind (fun b3 => (some b3))
def F_X8_weightOf_L5_hd (l1 : Int32) (l2 : Int32) (s : xS) (a : Int64 × Int32) : xT := Sum.inl (5, [(0, .ref 0), (1, .int l1), (2, .int l2), (3, .long a.1), (5, .int a.2)], [], s)
def F_X8_weightOf_L5_ex (l1 : Int32) (l2 : Int32) (s : xS) : (Int64) → xT := (fun (z : Int64) => Sum.inl (46, [(3, .long z)], [], s))
set_option maxRecDepth 100000 in
theorem F_X8_weightOf_L5_ok (l1 : Int32) (l2 : Int32) (s : xS) (a : Int64 × Int32) : xTr xMs xFL xR_X8_weightOf (F_X8_weightOf_L5_hd l1 l2 s a) (F_X8_weightOf_L5 l1 l2 s a) (xhx (F_X8_weightOf_L5_hd l1 l2 s) (F_X8_weightOf_L5_ex l1 l2 s)) := by
  unfold F_X8_weightOf_L5
  refine xTr.ms 4 (g := (14, [(0, .ref 0), (1, .int l1), (2, .int l2), (3, .long a.1), (5, .int a.2)], [.int (s.1 8 3), .int a.2], s)) rfl ?_
  refine xTr.br (g1 := (46, [(0, .ref 0), (1, .int l1), (2, .int l2), (3, .long a.1), (5, .int a.2)], [], s)) (g2 := (17, [(0, .ref 0), (1, .int l1), (2, .int l2), (3, .long a.1), (5, .int a.2)], [], s)) rfl (fun h1 => ?_) (fun h1 => ?_)
  · refine xTr.mk (lv1 := [(3, .long a.1)]) rfl rfl ?_
    exact xTr.leaf rfl
  · refine xTr.ms 7 (g := (25, [(0, .ref 0), (1, .int l1), (2, .int l2), (3, .long a.1), (5, .int a.2)], [.int (1 : Int32), .int ((xshr l1 a.2) &&& (1 : Int32)), .long a.1], s)) rfl ?_
    refine xTr.br (g1 := (28, [(0, .ref 0), (1, .int l1), (2, .int l2), (3, .long a.1), (5, .int a.2)], [.long a.1], s)) (g2 := (33, [(0, .ref 0), (1, .int l1), (2, .int l2), (3, .long a.1), (5, .int a.2)], [.long a.1], s)) rfl (fun h2 => ?_) (fun h2 => ?_)
    · refine xTr.ms 7 (g := (5, [(0, .ref 0), (1, .int l1), (2, .int l2), (3, .long (a.1 * (l2).toInt64)), (5, .int (a.2 + (1 : Int32)))], [], s)) rfl ?_
      exact xTr.leaf rfl
    · refine xTr.ms 8 (g := (5, [(0, .ref 0), (1, .int l1), (2, .int l2), (3, .long (a.1 * (((16 : Int32) - l2)).toInt64)), (5, .int (a.2 + (1 : Int32)))], [], s)) rfl ?_
      exact xTr.leaf rfl
set_option maxRecDepth 100000 in
theorem ok_X8_weightOf (l1 : Int32) (l2 : Int32) (s : xS) : xTr xMs xFL xR_X8_weightOf (Sum.inl (0, [(0, .ref 0), (1, .int l1), (2, .int l2)], [], s)) (F_X8_weightOf l1 l2 s) (fun (y : Int64) => Sum.inr (some (.long y), s)) := by
  unfold F_X8_weightOf
  refine xTr.ms 4 (g := (5, [(0, .ref 0), (1, .int l1), (2, .int l2), (3, .long (1 : Int64)), (5, .int (0 : Int32))], [], s)) rfl ?_
  refine xTr.bind (J := F_X8_weightOf_L5_ex l1 l2 s) (xTr.loop (hd := F_X8_weightOf_L5_hd l1 l2 s) (fun aa => F_X8_weightOf_L5_ok l1 l2 s aa) 100000 ((1 : Int64), (0 : Int32))) (fun b3 => ?_)
  refine xTr.ms 1 (g := (47, [(3, .long b3)], [.long b3], s)) rfl ?_
  exact xTr.ret rfl rfl rfl
-- X8_weightOfSleep
def F_X8_weightOfSleep_L5 (l1 : Int32) (a : Int64 × Int32 × xS) : Option ((Int64 × Int32 × xS) ⊕ (Int64 × xS)) := if (xshl (1 : Int32) (a.2.2.1 8 3)) ≤ a.2.1 then (some (Sum.inr (a.1, a.2.2))) else ((F_X3_pass 34 8 19 a.2.1 a.2.2).bind fun s3 => (if (s3.1 34 5) = (-1 : Int32) then ((F_X8_weightOf a.2.1 l1 s3).bind fun v5 => (some (Sum.inl ((a.1 + v5), (a.2.1 + (1 : Int32)), s3)))) else (some (Sum.inl (a.1, (a.2.1 + (1 : Int32)), s3)))))
def F_X8_weightOfSleep (l1 : Int32) (s : xS) : Option (Int64 × xS) := (xlp (F_X8_weightOfSleep_L5 l1) 100000 ((0 : Int64), (0 : Int32), s)).bind (fun b6 => (some (b6.1, b6.2)))
def F_X8_weightOfSleep_L5_hd (l1 : Int32) (a : Int64 × Int32 × xS) : xT := Sum.inl (5, [(0, .ref 0), (1, .int l1), (2, .long a.1), (4, .int a.2.1)], [], a.2.2)
def F_X8_weightOfSleep_L5_ex (l1 : Int32) : (Int64 × xS) → xT := (fun (z : Int64 × xS) => Sum.inl (63, [(2, .long z.1)], [], z.2))
set_option maxRecDepth 100000 in
theorem F_X8_weightOfSleep_L5_ok (l1 : Int32) (a : Int64 × Int32 × xS) : xTr xMs xFL xR_X8_weightOfSleep (F_X8_weightOfSleep_L5_hd l1 a) (F_X8_weightOfSleep_L5 l1 a) (xhx (F_X8_weightOfSleep_L5_hd l1) (F_X8_weightOfSleep_L5_ex l1)) := by
  unfold F_X8_weightOfSleep_L5
  refine xTr.ms 6 (g := (16, [(0, .ref 0), (1, .int l1), (2, .long a.1), (4, .int a.2.1)], [.int (xshl (1 : Int32) (a.2.2.1 8 3)), .int a.2.1], a.2.2)) rfl ?_
  refine xTr.br (g1 := (63, [(0, .ref 0), (1, .int l1), (2, .long a.1), (4, .int a.2.1)], [], a.2.2)) (g2 := (19, [(0, .ref 0), (1, .int l1), (2, .long a.1), (4, .int a.2.1)], [], a.2.2)) rfl (fun h1 => ?_) (fun h1 => ?_)
  · refine xTr.mk (lv1 := [(2, .long a.1)]) rfl rfl ?_
    exact xTr.leaf rfl
  · refine xTr.ms 7 (g := (33, [(0, .ref 0), (1, .int l1), (2, .long a.1), (4, .int a.2.1)], [.ref 19, .int a.2.1, .ref 8, .ref 34], a.2.2)) rfl ?_
    refine xTr.callv (R' := xR_X3_pass) (as := [.ref 34, .ref 8, .int a.2.1, .ref 19]) (lv := [(0, .ref 0), (1, .int l1), (2, .long a.1), (4, .int a.2.1)]) (rest := []) (ok_X3_pass_34_8_19 a.2.1 a.2.2) rfl rfl rfl rfl rfl (fun s3 => ?_)
    refine xTr.ms 4 (g := (44, [(0, .ref 0), (1, .int l1), (2, .long a.1), (4, .int a.2.1)], [.int (-1 : Int32), .int (s3.1 34 5)], s3)) rfl ?_
    refine xTr.br (g1 := (47, [(0, .ref 0), (1, .int l1), (2, .long a.1), (4, .int a.2.1)], [], s3)) (g2 := (57, [(0, .ref 0), (1, .int l1), (2, .long a.1), (4, .int a.2.1)], [], s3)) rfl (fun h4 => ?_) (fun h4 => ?_)
    · refine xTr.ms 4 (g := (52, [(0, .ref 0), (1, .int l1), (2, .long a.1), (4, .int a.2.1)], [.int l1, .int a.2.1, .ref 0, .long a.1], s3)) rfl ?_
      refine xTr.calllp (R' := xR_X8_weightOf) (as := [.ref 0, .int a.2.1, .int l1]) (lv := [(0, .ref 0), (1, .int l1), (2, .long a.1), (4, .int a.2.1)]) (rest := [.long a.1]) (ok_X8_weightOf a.2.1 l1 s3) rfl rfl rfl rfl rfl (fun v5 => ?_)
      refine xTr.ms 4 (g := (5, [(0, .ref 0), (1, .int l1), (2, .long (a.1 + v5)), (4, .int (a.2.1 + (1 : Int32)))], [], s3)) rfl ?_
      exact xTr.leaf rfl
    · refine xTr.ms 2 (g := (5, [(0, .ref 0), (1, .int l1), (2, .long a.1), (4, .int (a.2.1 + (1 : Int32)))], [], s3)) rfl ?_
      exact xTr.leaf rfl
set_option maxRecDepth 100000 in
theorem ok_X8_weightOfSleep (l1 : Int32) (s : xS) : xTr xMs xFL xR_X8_weightOfSleep (Sum.inl (0, [(0, .ref 0), (1, .int l1)], [], s)) (F_X8_weightOfSleep l1 s) (fun (y : Int64 × xS) => Sum.inr (some (.long y.1), y.2)) := by
  unfold F_X8_weightOfSleep
  refine xTr.ms 4 (g := (5, [(0, .ref 0), (1, .int l1), (2, .long (0 : Int64)), (4, .int (0 : Int32))], [], s)) rfl ?_
  refine xTr.bind (J := F_X8_weightOfSleep_L5_ex l1) (xTr.loop (hd := F_X8_weightOfSleep_L5_hd l1) (fun aa => F_X8_weightOfSleep_L5_ok l1 aa) 100000 ((0 : Int64), (0 : Int32), s)) (fun b6 => ?_)
  refine xTr.ms 1 (g := (64, [(2, .long b6.1)], [.long b6.1], b6.2)) rfl ?_
  exact xTr.ret rfl rfl rfl
-- X8_sleeps
def F_X8_sleeps_L33 (l2 : Int32) (l3 : Int64) (s : xS) (a : Int64 × Int32) : Option ((Int64 × Int32) ⊕ (Int64)) := if (s.1 8 3) ≤ a.2 then (some (Sum.inr a.1)) else (some (Sum.inl ((a.1 * (16 : Int64)), (a.2 + (1 : Int32)))))
def F_X8_sleeps_L62 (l2 : Int32) (s : xS) (a : Int64 × Int64 × Int32) : Option ((Int64 × Int64 × Int32) ⊕ (Int64 × Int64)) := if (64 : Int32) ≤ a.2.2 then (some (Sum.inr (a.1, a.2.1))) else (if (lg_cmp (xlrem a.1 (2 : Int64)) (0 : Int64)) = 0 then (if (lg_cmp (xlrem a.2.1 (2 : Int64)) (0 : Int64)) = 0 then (some (Sum.inl ((a.1 / (2 : Int64)), (a.2.1 / (2 : Int64)), (a.2.2 + (1 : Int32))))) else (some (Sum.inr (a.1, a.2.1)))) else (some (Sum.inr (a.1, a.2.1))))
def F_X8_sleeps (l1 : Int32) (l2 : Int32) (s : xS) : Option (Int64 × xS) := (F_X8_isOutside l1 (17 : Int32) s).bind fun v1 => (if v1 = 0 then ((F_X8_isOutside l2 (2 : Int32) s).bind fun v3 => (if v3 = 0 then ((F_X8_weightOfSleep l1 s).bind fun q6 => ((xlp (F_X8_sleeps_L33 l2 q6.1 q6.2) 100000 ((1 : Int64), (0 : Int32))).bind (fun b8 => ((xlp (F_X8_sleeps_L62 l2 q6.2) 100000 (q6.1, b8, (0 : Int32))).bind (fun b12 => (if l2 = 0 then (some (b12.1, q6.2)) else (some (b12.2, q6.2)))))))) else (some ((-9223372036854775806 : Int64), s)))) else (some ((-9223372036854775806 : Int64), s)))
def F_X8_sleeps_L33_hd (l2 : Int32) (l3 : Int64) (s : xS) (a : Int64 × Int32) : xT := Sum.inl (33, [(0, .ref 0), (2, .int l2), (3, .long l3), (5, .long a.1), (7, .int a.2)], [], s)
def F_X8_sleeps_L33_ex (l2 : Int32) (l3 : Int64) (s : xS) : (Int64) → xT := (fun (z : Int64) => Sum.inl (59, [(2, .int l2), (3, .long l3), (5, .long z)], [], s))
set_option maxRecDepth 100000 in
theorem F_X8_sleeps_L33_ok (l2 : Int32) (l3 : Int64) (s : xS) (a : Int64 × Int32) : xTr xMs xFL xR_X8_sleeps (F_X8_sleeps_L33_hd l2 l3 s a) (F_X8_sleeps_L33 l2 l3 s a) (xhx (F_X8_sleeps_L33_hd l2 l3 s) (F_X8_sleeps_L33_ex l2 l3 s)) := by
  unfold F_X8_sleeps_L33
  refine xTr.ms 4 (g := (42, [(0, .ref 0), (2, .int l2), (3, .long l3), (5, .long a.1), (7, .int a.2)], [.int (s.1 8 3), .int a.2], s)) rfl ?_
  refine xTr.br (g1 := (59, [(0, .ref 0), (2, .int l2), (3, .long l3), (5, .long a.1), (7, .int a.2)], [], s)) (g2 := (45, [(0, .ref 0), (2, .int l2), (3, .long l3), (5, .long a.1), (7, .int a.2)], [], s)) rfl (fun h7 => ?_) (fun h7 => ?_)
  · refine xTr.mk (lv1 := [(2, .int l2), (3, .long l3), (5, .long a.1)]) rfl rfl ?_
    exact xTr.leaf rfl
  · refine xTr.ms 6 (g := (33, [(0, .ref 0), (2, .int l2), (3, .long l3), (5, .long (a.1 * (16 : Int64))), (7, .int (a.2 + (1 : Int32)))], [], s)) rfl ?_
    exact xTr.leaf rfl
def F_X8_sleeps_L62_hd (l2 : Int32) (s : xS) (a : Int64 × Int64 × Int32) : xT := Sum.inl (62, [(2, .int l2), (3, .long a.1), (5, .long a.2.1), (7, .int a.2.2)], [], s)
def F_X8_sleeps_L62_ex (l2 : Int32) (s : xS) : (Int64 × Int64) → xT := (fun (z : Int64 × Int64) => Sum.inl (110, [(2, .int l2), (3, .long z.1), (5, .long z.2)], [], s))
set_option maxRecDepth 100000 in
theorem F_X8_sleeps_L62_ok (l2 : Int32) (s : xS) (a : Int64 × Int64 × Int32) : xTr xMs xFL xR_X8_sleeps (F_X8_sleeps_L62_hd l2 s a) (F_X8_sleeps_L62 l2 s a) (xhx (F_X8_sleeps_L62_hd l2 s) (F_X8_sleeps_L62_ex l2 s)) := by
  unfold F_X8_sleeps_L62
  refine xTr.ms 2 (g := (66, [(2, .int l2), (3, .long a.1), (5, .long a.2.1), (7, .int a.2.2)], [.int (64 : Int32), .int a.2.2], s)) rfl ?_
  refine xTr.br (g1 := (110, [(2, .int l2), (3, .long a.1), (5, .long a.2.1), (7, .int a.2.2)], [], s)) (g2 := (69, [(2, .int l2), (3, .long a.1), (5, .long a.2.1), (7, .int a.2.2)], [], s)) rfl (fun h9 => ?_) (fun h9 => ?_)
  · refine xTr.mk (lv1 := [(2, .int l2), (3, .long a.1), (5, .long a.2.1)]) rfl rfl ?_
    exact xTr.leaf rfl
  · refine xTr.ms 5 (g := (76, [(2, .int l2), (3, .long a.1), (5, .long a.2.1), (7, .int a.2.2)], [.int (lg_cmp (xlrem a.1 (2 : Int64)) (0 : Int64))], s)) rfl ?_
    refine xTr.br (g1 := (79, [(2, .int l2), (3, .long a.1), (5, .long a.2.1), (7, .int a.2.2)], [], s)) (g2 := (110, [(2, .int l2), (3, .long a.1), (5, .long a.2.1), (7, .int a.2.2)], [], s)) rfl (fun h10 => ?_) (fun h10 => ?_)
    · refine xTr.ms 5 (g := (87, [(2, .int l2), (3, .long a.1), (5, .long a.2.1), (7, .int a.2.2)], [.int (lg_cmp (xlrem a.2.1 (2 : Int64)) (0 : Int64))], s)) rfl ?_
      refine xTr.br (g1 := (90, [(2, .int l2), (3, .long a.1), (5, .long a.2.1), (7, .int a.2.2)], [], s)) (g2 := (110, [(2, .int l2), (3, .long a.1), (5, .long a.2.1), (7, .int a.2.2)], [], s)) rfl (fun h11 => ?_) (fun h11 => ?_)
      · refine xTr.ms 10 (g := (62, [(2, .int l2), (3, .long (a.1 / (2 : Int64))), (5, .long (a.2.1 / (2 : Int64))), (7, .int (a.2.2 + (1 : Int32)))], [], s)) rfl ?_
        exact xTr.leaf rfl
      · refine xTr.mk (lv1 := [(2, .int l2), (3, .long a.1), (5, .long a.2.1)]) rfl rfl ?_
        exact xTr.leaf rfl
    · refine xTr.mk (lv1 := [(2, .int l2), (3, .long a.1), (5, .long a.2.1)]) rfl rfl ?_
      exact xTr.leaf rfl
set_option maxRecDepth 100000 in
theorem ok_X8_sleeps (l1 : Int32) (l2 : Int32) (s : xS) : xTr xMs xFL xR_X8_sleeps (Sum.inl (0, [(0, .ref 0), (1, .int l1), (2, .int l2)], [], s)) (F_X8_sleeps l1 l2 s) (fun (y : Int64 × xS) => Sum.inr (some (.long y.1), y.2)) := by
  unfold F_X8_sleeps
  refine xTr.ms 2 (g := (3, [(0, .ref 0), (1, .int l1), (2, .int l2)], [.int (17 : Int32), .int l1], s)) rfl ?_
  refine xTr.callip (R' := xR_X8_isOutside) (as := [.int l1, .int (17 : Int32)]) (lv := [(0, .ref 0), (1, .int l1), (2, .int l2)]) (rest := []) (ok_X8_isOutside l1 (17 : Int32) s) rfl rfl rfl rfl rfl (fun v1 => ?_)
  refine xTr.br (g1 := (9, [(0, .ref 0), (1, .int l1), (2, .int l2)], [], s)) (g2 := (17, [(0, .ref 0), (1, .int l1), (2, .int l2)], [], s)) rfl (fun h2 => ?_) (fun h2 => ?_)
  · refine xTr.ms 2 (g := (11, [(0, .ref 0), (1, .int l1), (2, .int l2)], [.int (2 : Int32), .int l2], s)) rfl ?_
    refine xTr.callip (R' := xR_X8_isOutside) (as := [.int l2, .int (2 : Int32)]) (lv := [(0, .ref 0), (1, .int l1), (2, .int l2)]) (rest := []) (ok_X8_isOutside l2 (2 : Int32) s) rfl rfl rfl rfl rfl (fun v3 => ?_)
    refine xTr.br (g1 := (21, [(0, .ref 0), (1, .int l1), (2, .int l2)], [], s)) (g2 := (17, [(0, .ref 0), (1, .int l1), (2, .int l2)], [], s)) rfl (fun h4 => ?_) (fun h4 => ?_)
    · refine xTr.ms 2 (g := (23, [(0, .ref 0), (1, .int l1), (2, .int l2)], [.int l1, .ref 0], s)) rfl ?_
      refine xTr.calll (R' := xR_X8_weightOfSleep) (as := [.ref 0, .int l1]) (lv := [(0, .ref 0), (1, .int l1), (2, .int l2)]) (rest := []) (ok_X8_weightOfSleep l1 s) rfl rfl rfl rfl rfl (fun v5 s5 => ?_)
      refine xTr.ms 5 (g := (33, [(0, .ref 0), (1, .int l1), (2, .int l2), (3, .long v5), (5, .long (1 : Int64)), (7, .int (0 : Int32))], [], s5)) rfl ?_
      refine xTr.mk (lv1 := [(0, .ref 0), (2, .int l2), (3, .long v5), (5, .long (1 : Int64)), (7, .int (0 : Int32))]) rfl rfl ?_
      refine xTr.bind (J := F_X8_sleeps_L33_ex l2 v5 s5) (xTr.loop (hd := F_X8_sleeps_L33_hd l2 v5 s5) (fun aa => F_X8_sleeps_L33_ok l2 v5 s5 aa) 100000 ((1 : Int64), (0 : Int32))) (fun b8 => ?_)
      refine xTr.ms 2 (g := (62, [(2, .int l2), (3, .long v5), (5, .long b8), (7, .int (0 : Int32))], [], s5)) rfl ?_
      refine xTr.bind (J := F_X8_sleeps_L62_ex l2 s5) (xTr.loop (hd := F_X8_sleeps_L62_hd l2 s5) (fun aa => F_X8_sleeps_L62_ok l2 s5 aa) 100000 (v5, b8, (0 : Int32))) (fun b12 => ?_)
      refine xTr.ms 1 (g := (111, [(2, .int l2), (3, .long b12.1), (5, .long b12.2)], [.int l2], s5)) rfl ?_
      refine xTr.br (g1 := (114, [(2, .int l2), (3, .long b12.1), (5, .long b12.2)], [], s5)) (g2 := (118, [(2, .int l2), (3, .long b12.1), (5, .long b12.2)], [], s5)) rfl (fun h13 => ?_) (fun h13 => ?_)
      · refine xTr.ms 2 (g := (120, [(3, .long b12.1)], [.long b12.1], s5)) rfl ?_
        exact xTr.ret rfl rfl rfl
      · refine xTr.ms 1 (g := (120, [(5, .long b12.2)], [.long b12.2], s5)) rfl ?_
        exact xTr.ret rfl rfl rfl
    · refine xTr.ms 1 (g := (20, [], [.long (-9223372036854775806 : Int64)], s)) rfl ?_
      exact xTr.ret rfl rfl rfl
  · refine xTr.ms 1 (g := (20, [], [.long (-9223372036854775806 : Int64)], s)) rfl ?_
    exact xTr.ret rfl rfl rfl
-- X8_nextLot
def F_X8_nextLot (l0 : Int32) (s : xS) : Option (Int32) := some (((1103515245 : Int32) * l0) + (12345 : Int32))
set_option maxRecDepth 100000 in
theorem ok_X8_nextLot (l0 : Int32) (s : xS) : xTr xMs xFL xR_X8_nextLot (Sum.inl (0, [(0, .int l0)], [], s)) (F_X8_nextLot l0 s) (fun (y : Int32) => Sum.inr (some (.int y), s)) := by
  unfold F_X8_nextLot
  refine xTr.ms 5 (g := (9, [(0, .int l0)], [.int (((1103515245 : Int32) * l0) + (12345 : Int32))], s)) rfl ?_
  exact xTr.ret rfl rfl rfl
-- X8_drawDeeds
def F_X8_drawDeeds_L13 (l2 : Int32) (a : Int32 × Int32 × xS) : Option ((Int32 × Int32 × xS) ⊕ (xS)) := if l2 ≤ a.2.1 then (some (Sum.inr a.2.2)) else (if (a.2.2.1 5 2) ≤ 0 then (some (Sum.inr a.2.2)) else ((F_X8_nextLot a.1 a.2.2).bind fun v3 => (if (a.2.2.1 5 2) = 0 then none else ((F_X8_nextLot v3 a.2.2).bind fun v5 => ((F_X8_nextLot v5 a.2.2).bind fun v6 => ((F_X0_add 27 (xrem (xushr v3 (16 : Int32)) (a.2.2.1 5 2)) (xrem (xushr v5 (16 : Int32)) (4 : Int32)) (xrem (xushr v6 (16 : Int32)) (10 : Int32)) a.2.2).bind fun s8 => (some (Sum.inl (v6, (a.2.1 + (1 : Int32)), s8)))))))))
def F_X8_drawDeeds (l1 : Int32) (l2 : Int32) (s : xS) : Option (xS) := (xlp (F_X8_drawDeeds_L13 l2) 100000 (l1, (0 : Int32), (xu s 27 3 (0 : Int32)))).bind (fun b9 => (some b9))
def F_X8_drawDeeds_L13_hd (l2 : Int32) (a : Int32 × Int32 × xS) : xT := Sum.inl (13, [(0, .ref 0), (2, .int l2), (3, .int a.1), (4, .int a.2.1)], [], a.2.2)
def F_X8_drawDeeds_L13_ex (l2 : Int32) : (xS) → xT := (fun (z : xS) => Sum.inl (90, [], [], z))
set_option maxRecDepth 100000 in
theorem F_X8_drawDeeds_L13_ok (l2 : Int32) (a : Int32 × Int32 × xS) : xTr xMs xFL xR_X8_drawDeeds (F_X8_drawDeeds_L13_hd l2 a) (F_X8_drawDeeds_L13 l2 a) (xhx (F_X8_drawDeeds_L13_hd l2) (F_X8_drawDeeds_L13_ex l2)) := by
  unfold F_X8_drawDeeds_L13
  refine xTr.ms 2 (g := (16, [(0, .ref 0), (2, .int l2), (3, .int a.1), (4, .int a.2.1)], [.int l2, .int a.2.1], a.2.2)) rfl ?_
  refine xTr.br (g1 := (90, [(0, .ref 0), (2, .int l2), (3, .int a.1), (4, .int a.2.1)], [], a.2.2)) (g2 := (19, [(0, .ref 0), (2, .int l2), (3, .int a.1), (4, .int a.2.1)], [], a.2.2)) rfl (fun h1 => ?_) (fun h1 => ?_)
  · refine xTr.mk (lv1 := []) rfl rfl ?_
    exact xTr.leaf rfl
  · refine xTr.ms 3 (g := (26, [(0, .ref 0), (2, .int l2), (3, .int a.1), (4, .int a.2.1)], [.int (a.2.2.1 5 2)], a.2.2)) rfl ?_
    refine xTr.br (g1 := (90, [(0, .ref 0), (2, .int l2), (3, .int a.1), (4, .int a.2.1)], [], a.2.2)) (g2 := (29, [(0, .ref 0), (2, .int l2), (3, .int a.1), (4, .int a.2.1)], [], a.2.2)) rfl (fun h2 => ?_) (fun h2 => ?_)
    · refine xTr.mk (lv1 := []) rfl rfl ?_
      exact xTr.leaf rfl
    · refine xTr.ms 1 (g := (30, [(0, .ref 0), (2, .int l2), (3, .int a.1), (4, .int a.2.1)], [.int a.1], a.2.2)) rfl ?_
      refine xTr.callip (R' := xR_X8_nextLot) (as := [.int a.1]) (lv := [(0, .ref 0), (2, .int l2), (3, .int a.1), (4, .int a.2.1)]) (rest := []) (ok_X8_nextLot a.1 a.2.2) rfl rfl rfl rfl rfl (fun v3 => ?_)
      refine xTr.ms 7 (g := (45, [(0, .ref 0), (2, .int l2), (3, .int v3), (4, .int a.2.1)], [.int (a.2.2.1 5 2), .int (xushr v3 (16 : Int32))], a.2.2)) rfl ?_
      refine xTr.ck (g := (46, [(0, .ref 0), (2, .int l2), (3, .int v3), (4, .int a.2.1)], [.int (xrem (xushr v3 (16 : Int32)) (a.2.2.1 5 2))], a.2.2)) rfl (fun h4 => ?_)
      refine xTr.ms 2 (g := (49, [(0, .ref 0), (2, .int l2), (3, .int v3), (4, .int a.2.1), (5, .int (xrem (xushr v3 (16 : Int32)) (a.2.2.1 5 2)))], [.int v3], a.2.2)) rfl ?_
      refine xTr.callip (R' := xR_X8_nextLot) (as := [.int v3]) (lv := [(0, .ref 0), (2, .int l2), (3, .int v3), (4, .int a.2.1), (5, .int (xrem (xushr v3 (16 : Int32)) (a.2.2.1 5 2)))]) (rest := []) (ok_X8_nextLot v3 a.2.2) rfl rfl rfl rfl rfl (fun v5 => ?_)
      refine xTr.ms 8 (g := (62, [(0, .ref 0), (2, .int l2), (3, .int v5), (4, .int a.2.1), (5, .int (xrem (xushr v3 (16 : Int32)) (a.2.2.1 5 2))), (6, .int (xrem (xushr v5 (16 : Int32)) (4 : Int32)))], [.int v5], a.2.2)) rfl ?_
      refine xTr.callip (R' := xR_X8_nextLot) (as := [.int v5]) (lv := [(0, .ref 0), (2, .int l2), (3, .int v5), (4, .int a.2.1), (5, .int (xrem (xushr v3 (16 : Int32)) (a.2.2.1 5 2))), (6, .int (xrem (xushr v5 (16 : Int32)) (4 : Int32)))]) (rest := []) (ok_X8_nextLot v5 a.2.2) rfl rfl rfl rfl rfl (fun v6 => ?_)
      refine xTr.ms 10 (g := (81, [(0, .ref 0), (2, .int l2), (3, .int v6), (4, .int a.2.1), (5, .int (xrem (xushr v3 (16 : Int32)) (a.2.2.1 5 2))), (6, .int (xrem (xushr v5 (16 : Int32)) (4 : Int32)))], [.int (xrem (xushr v6 (16 : Int32)) (10 : Int32)), .int (xrem (xushr v5 (16 : Int32)) (4 : Int32)), .int (xrem (xushr v3 (16 : Int32)) (a.2.2.1 5 2)), .ref 27], a.2.2)) rfl ?_
      refine xTr.callv (R' := xR_X0_add) (as := [.ref 27, .int (xrem (xushr v3 (16 : Int32)) (a.2.2.1 5 2)), .int (xrem (xushr v5 (16 : Int32)) (4 : Int32)), .int (xrem (xushr v6 (16 : Int32)) (10 : Int32))]) (lv := [(0, .ref 0), (2, .int l2), (3, .int v6), (4, .int a.2.1), (5, .int (xrem (xushr v3 (16 : Int32)) (a.2.2.1 5 2))), (6, .int (xrem (xushr v5 (16 : Int32)) (4 : Int32)))]) (rest := []) (ok_X0_add_27 (xrem (xushr v3 (16 : Int32)) (a.2.2.1 5 2)) (xrem (xushr v5 (16 : Int32)) (4 : Int32)) (xrem (xushr v6 (16 : Int32)) (10 : Int32)) a.2.2) rfl rfl rfl rfl rfl (fun s8 => ?_)
      refine xTr.ms 2 (g := (13, [(0, .ref 0), (2, .int l2), (3, .int v6), (4, .int (a.2.1 + (1 : Int32))), (5, .int (xrem (xushr v3 (16 : Int32)) (a.2.2.1 5 2))), (6, .int (xrem (xushr v5 (16 : Int32)) (4 : Int32)))], [], s8)) rfl ?_
      refine xTr.mk (lv1 := [(0, .ref 0), (2, .int l2), (3, .int v6), (4, .int (a.2.1 + (1 : Int32)))]) rfl rfl ?_
      exact xTr.leaf rfl
set_option maxRecDepth 100000 in
theorem ok_X8_drawDeeds (l1 : Int32) (l2 : Int32) (s : xS) : xTr xMs xFL xR_X8_drawDeeds (Sum.inl (0, [(0, .ref 0), (1, .int l1), (2, .int l2)], [], s)) (F_X8_drawDeeds l1 l2 s) (fun (y : xS) => Sum.inr (none, y)) := by
  unfold F_X8_drawDeeds
  refine xTr.ms 8 (g := (13, [(0, .ref 0), (1, .int l1), (2, .int l2), (3, .int l1), (4, .int (0 : Int32))], [], (xu s 27 3 (0 : Int32)))) rfl ?_
  refine xTr.mk (lv1 := [(0, .ref 0), (2, .int l2), (3, .int l1), (4, .int (0 : Int32))]) rfl rfl ?_
  refine xTr.bind (J := F_X8_drawDeeds_L13_ex l2) (xTr.loop (hd := F_X8_drawDeeds_L13_hd l2) (fun aa => F_X8_drawDeeds_L13_ok l2 aa) 100000 (l1, (0 : Int32), (xu s 27 3 (0 : Int32)))) (fun b9 => ?_)
  exact xTr.ret rfl rfl rfl
-- J13_bitCount_95d88
def F_J13_bitCount_95d88 (l0 : Int64) (s : xS) : Option (Int32) := some ((((((((((l0 - ((xlushr l0 (1 : Int32)) &&& (6148914691236517205 : Int64))) &&& (3689348814741910323 : Int64)) + ((xlushr (l0 - ((xlushr l0 (1 : Int32)) &&& (6148914691236517205 : Int64))) (2 : Int32)) &&& (3689348814741910323 : Int64))) + (xlushr (((l0 - ((xlushr l0 (1 : Int32)) &&& (6148914691236517205 : Int64))) &&& (3689348814741910323 : Int64)) + ((xlushr (l0 - ((xlushr l0 (1 : Int32)) &&& (6148914691236517205 : Int64))) (2 : Int32)) &&& (3689348814741910323 : Int64))) (4 : Int32))) &&& (1085102592571150095 : Int64)) + (xlushr (((((l0 - ((xlushr l0 (1 : Int32)) &&& (6148914691236517205 : Int64))) &&& (3689348814741910323 : Int64)) + ((xlushr (l0 - ((xlushr l0 (1 : Int32)) &&& (6148914691236517205 : Int64))) (2 : Int32)) &&& (3689348814741910323 : Int64))) + (xlushr (((l0 - ((xlushr l0 (1 : Int32)) &&& (6148914691236517205 : Int64))) &&& (3689348814741910323 : Int64)) + ((xlushr (l0 - ((xlushr l0 (1 : Int32)) &&& (6148914691236517205 : Int64))) (2 : Int32)) &&& (3689348814741910323 : Int64))) (4 : Int32))) &&& (1085102592571150095 : Int64)) (8 : Int32))) + (xlushr ((((((l0 - ((xlushr l0 (1 : Int32)) &&& (6148914691236517205 : Int64))) &&& (3689348814741910323 : Int64)) + ((xlushr (l0 - ((xlushr l0 (1 : Int32)) &&& (6148914691236517205 : Int64))) (2 : Int32)) &&& (3689348814741910323 : Int64))) + (xlushr (((l0 - ((xlushr l0 (1 : Int32)) &&& (6148914691236517205 : Int64))) &&& (3689348814741910323 : Int64)) + ((xlushr (l0 - ((xlushr l0 (1 : Int32)) &&& (6148914691236517205 : Int64))) (2 : Int32)) &&& (3689348814741910323 : Int64))) (4 : Int32))) &&& (1085102592571150095 : Int64)) + (xlushr (((((l0 - ((xlushr l0 (1 : Int32)) &&& (6148914691236517205 : Int64))) &&& (3689348814741910323 : Int64)) + ((xlushr (l0 - ((xlushr l0 (1 : Int32)) &&& (6148914691236517205 : Int64))) (2 : Int32)) &&& (3689348814741910323 : Int64))) + (xlushr (((l0 - ((xlushr l0 (1 : Int32)) &&& (6148914691236517205 : Int64))) &&& (3689348814741910323 : Int64)) + ((xlushr (l0 - ((xlushr l0 (1 : Int32)) &&& (6148914691236517205 : Int64))) (2 : Int32)) &&& (3689348814741910323 : Int64))) (4 : Int32))) &&& (1085102592571150095 : Int64)) (8 : Int32))) (16 : Int32))) + (xlushr (((((((l0 - ((xlushr l0 (1 : Int32)) &&& (6148914691236517205 : Int64))) &&& (3689348814741910323 : Int64)) + ((xlushr (l0 - ((xlushr l0 (1 : Int32)) &&& (6148914691236517205 : Int64))) (2 : Int32)) &&& (3689348814741910323 : Int64))) + (xlushr (((l0 - ((xlushr l0 (1 : Int32)) &&& (6148914691236517205 : Int64))) &&& (3689348814741910323 : Int64)) + ((xlushr (l0 - ((xlushr l0 (1 : Int32)) &&& (6148914691236517205 : Int64))) (2 : Int32)) &&& (3689348814741910323 : Int64))) (4 : Int32))) &&& (1085102592571150095 : Int64)) + (xlushr (((((l0 - ((xlushr l0 (1 : Int32)) &&& (6148914691236517205 : Int64))) &&& (3689348814741910323 : Int64)) + ((xlushr (l0 - ((xlushr l0 (1 : Int32)) &&& (6148914691236517205 : Int64))) (2 : Int32)) &&& (3689348814741910323 : Int64))) + (xlushr (((l0 - ((xlushr l0 (1 : Int32)) &&& (6148914691236517205 : Int64))) &&& (3689348814741910323 : Int64)) + ((xlushr (l0 - ((xlushr l0 (1 : Int32)) &&& (6148914691236517205 : Int64))) (2 : Int32)) &&& (3689348814741910323 : Int64))) (4 : Int32))) &&& (1085102592571150095 : Int64)) (8 : Int32))) + (xlushr ((((((l0 - ((xlushr l0 (1 : Int32)) &&& (6148914691236517205 : Int64))) &&& (3689348814741910323 : Int64)) + ((xlushr (l0 - ((xlushr l0 (1 : Int32)) &&& (6148914691236517205 : Int64))) (2 : Int32)) &&& (3689348814741910323 : Int64))) + (xlushr (((l0 - ((xlushr l0 (1 : Int32)) &&& (6148914691236517205 : Int64))) &&& (3689348814741910323 : Int64)) + ((xlushr (l0 - ((xlushr l0 (1 : Int32)) &&& (6148914691236517205 : Int64))) (2 : Int32)) &&& (3689348814741910323 : Int64))) (4 : Int32))) &&& (1085102592571150095 : Int64)) + (xlushr (((((l0 - ((xlushr l0 (1 : Int32)) &&& (6148914691236517205 : Int64))) &&& (3689348814741910323 : Int64)) + ((xlushr (l0 - ((xlushr l0 (1 : Int32)) &&& (6148914691236517205 : Int64))) (2 : Int32)) &&& (3689348814741910323 : Int64))) + (xlushr (((l0 - ((xlushr l0 (1 : Int32)) &&& (6148914691236517205 : Int64))) &&& (3689348814741910323 : Int64)) + ((xlushr (l0 - ((xlushr l0 (1 : Int32)) &&& (6148914691236517205 : Int64))) (2 : Int32)) &&& (3689348814741910323 : Int64))) (4 : Int32))) &&& (1085102592571150095 : Int64)) (8 : Int32))) (16 : Int32))) (32 : Int32)))).toInt32 &&& (127 : Int32))
set_option maxRecDepth 100000 in
theorem ok_J13_bitCount_95d88 (l0 : Int64) (s : xS) : xTr xMs xFL xR_J13_bitCount_95d88 (Sum.inl (0, [(0, .long l0)], [], s)) (F_J13_bitCount_95d88 l0 s) (fun (y : Int32) => Sum.inr (some (.int y), s)) := by
  unfold F_J13_bitCount_95d88
  refine xTr.ms 48 (g := (60, [(0, .long ((((((((l0 - ((xlushr l0 (1 : Int32)) &&& (6148914691236517205 : Int64))) &&& (3689348814741910323 : Int64)) + ((xlushr (l0 - ((xlushr l0 (1 : Int32)) &&& (6148914691236517205 : Int64))) (2 : Int32)) &&& (3689348814741910323 : Int64))) + (xlushr (((l0 - ((xlushr l0 (1 : Int32)) &&& (6148914691236517205 : Int64))) &&& (3689348814741910323 : Int64)) + ((xlushr (l0 - ((xlushr l0 (1 : Int32)) &&& (6148914691236517205 : Int64))) (2 : Int32)) &&& (3689348814741910323 : Int64))) (4 : Int32))) &&& (1085102592571150095 : Int64)) + (xlushr (((((l0 - ((xlushr l0 (1 : Int32)) &&& (6148914691236517205 : Int64))) &&& (3689348814741910323 : Int64)) + ((xlushr (l0 - ((xlushr l0 (1 : Int32)) &&& (6148914691236517205 : Int64))) (2 : Int32)) &&& (3689348814741910323 : Int64))) + (xlushr (((l0 - ((xlushr l0 (1 : Int32)) &&& (6148914691236517205 : Int64))) &&& (3689348814741910323 : Int64)) + ((xlushr (l0 - ((xlushr l0 (1 : Int32)) &&& (6148914691236517205 : Int64))) (2 : Int32)) &&& (3689348814741910323 : Int64))) (4 : Int32))) &&& (1085102592571150095 : Int64)) (8 : Int32))) + (xlushr ((((((l0 - ((xlushr l0 (1 : Int32)) &&& (6148914691236517205 : Int64))) &&& (3689348814741910323 : Int64)) + ((xlushr (l0 - ((xlushr l0 (1 : Int32)) &&& (6148914691236517205 : Int64))) (2 : Int32)) &&& (3689348814741910323 : Int64))) + (xlushr (((l0 - ((xlushr l0 (1 : Int32)) &&& (6148914691236517205 : Int64))) &&& (3689348814741910323 : Int64)) + ((xlushr (l0 - ((xlushr l0 (1 : Int32)) &&& (6148914691236517205 : Int64))) (2 : Int32)) &&& (3689348814741910323 : Int64))) (4 : Int32))) &&& (1085102592571150095 : Int64)) + (xlushr (((((l0 - ((xlushr l0 (1 : Int32)) &&& (6148914691236517205 : Int64))) &&& (3689348814741910323 : Int64)) + ((xlushr (l0 - ((xlushr l0 (1 : Int32)) &&& (6148914691236517205 : Int64))) (2 : Int32)) &&& (3689348814741910323 : Int64))) + (xlushr (((l0 - ((xlushr l0 (1 : Int32)) &&& (6148914691236517205 : Int64))) &&& (3689348814741910323 : Int64)) + ((xlushr (l0 - ((xlushr l0 (1 : Int32)) &&& (6148914691236517205 : Int64))) (2 : Int32)) &&& (3689348814741910323 : Int64))) (4 : Int32))) &&& (1085102592571150095 : Int64)) (8 : Int32))) (16 : Int32))) + (xlushr (((((((l0 - ((xlushr l0 (1 : Int32)) &&& (6148914691236517205 : Int64))) &&& (3689348814741910323 : Int64)) + ((xlushr (l0 - ((xlushr l0 (1 : Int32)) &&& (6148914691236517205 : Int64))) (2 : Int32)) &&& (3689348814741910323 : Int64))) + (xlushr (((l0 - ((xlushr l0 (1 : Int32)) &&& (6148914691236517205 : Int64))) &&& (3689348814741910323 : Int64)) + ((xlushr (l0 - ((xlushr l0 (1 : Int32)) &&& (6148914691236517205 : Int64))) (2 : Int32)) &&& (3689348814741910323 : Int64))) (4 : Int32))) &&& (1085102592571150095 : Int64)) + (xlushr (((((l0 - ((xlushr l0 (1 : Int32)) &&& (6148914691236517205 : Int64))) &&& (3689348814741910323 : Int64)) + ((xlushr (l0 - ((xlushr l0 (1 : Int32)) &&& (6148914691236517205 : Int64))) (2 : Int32)) &&& (3689348814741910323 : Int64))) + (xlushr (((l0 - ((xlushr l0 (1 : Int32)) &&& (6148914691236517205 : Int64))) &&& (3689348814741910323 : Int64)) + ((xlushr (l0 - ((xlushr l0 (1 : Int32)) &&& (6148914691236517205 : Int64))) (2 : Int32)) &&& (3689348814741910323 : Int64))) (4 : Int32))) &&& (1085102592571150095 : Int64)) (8 : Int32))) + (xlushr ((((((l0 - ((xlushr l0 (1 : Int32)) &&& (6148914691236517205 : Int64))) &&& (3689348814741910323 : Int64)) + ((xlushr (l0 - ((xlushr l0 (1 : Int32)) &&& (6148914691236517205 : Int64))) (2 : Int32)) &&& (3689348814741910323 : Int64))) + (xlushr (((l0 - ((xlushr l0 (1 : Int32)) &&& (6148914691236517205 : Int64))) &&& (3689348814741910323 : Int64)) + ((xlushr (l0 - ((xlushr l0 (1 : Int32)) &&& (6148914691236517205 : Int64))) (2 : Int32)) &&& (3689348814741910323 : Int64))) (4 : Int32))) &&& (1085102592571150095 : Int64)) + (xlushr (((((l0 - ((xlushr l0 (1 : Int32)) &&& (6148914691236517205 : Int64))) &&& (3689348814741910323 : Int64)) + ((xlushr (l0 - ((xlushr l0 (1 : Int32)) &&& (6148914691236517205 : Int64))) (2 : Int32)) &&& (3689348814741910323 : Int64))) + (xlushr (((l0 - ((xlushr l0 (1 : Int32)) &&& (6148914691236517205 : Int64))) &&& (3689348814741910323 : Int64)) + ((xlushr (l0 - ((xlushr l0 (1 : Int32)) &&& (6148914691236517205 : Int64))) (2 : Int32)) &&& (3689348814741910323 : Int64))) (4 : Int32))) &&& (1085102592571150095 : Int64)) (8 : Int32))) (16 : Int32))) (32 : Int32))))], [.int ((((((((((l0 - ((xlushr l0 (1 : Int32)) &&& (6148914691236517205 : Int64))) &&& (3689348814741910323 : Int64)) + ((xlushr (l0 - ((xlushr l0 (1 : Int32)) &&& (6148914691236517205 : Int64))) (2 : Int32)) &&& (3689348814741910323 : Int64))) + (xlushr (((l0 - ((xlushr l0 (1 : Int32)) &&& (6148914691236517205 : Int64))) &&& (3689348814741910323 : Int64)) + ((xlushr (l0 - ((xlushr l0 (1 : Int32)) &&& (6148914691236517205 : Int64))) (2 : Int32)) &&& (3689348814741910323 : Int64))) (4 : Int32))) &&& (1085102592571150095 : Int64)) + (xlushr (((((l0 - ((xlushr l0 (1 : Int32)) &&& (6148914691236517205 : Int64))) &&& (3689348814741910323 : Int64)) + ((xlushr (l0 - ((xlushr l0 (1 : Int32)) &&& (6148914691236517205 : Int64))) (2 : Int32)) &&& (3689348814741910323 : Int64))) + (xlushr (((l0 - ((xlushr l0 (1 : Int32)) &&& (6148914691236517205 : Int64))) &&& (3689348814741910323 : Int64)) + ((xlushr (l0 - ((xlushr l0 (1 : Int32)) &&& (6148914691236517205 : Int64))) (2 : Int32)) &&& (3689348814741910323 : Int64))) (4 : Int32))) &&& (1085102592571150095 : Int64)) (8 : Int32))) + (xlushr ((((((l0 - ((xlushr l0 (1 : Int32)) &&& (6148914691236517205 : Int64))) &&& (3689348814741910323 : Int64)) + ((xlushr (l0 - ((xlushr l0 (1 : Int32)) &&& (6148914691236517205 : Int64))) (2 : Int32)) &&& (3689348814741910323 : Int64))) + (xlushr (((l0 - ((xlushr l0 (1 : Int32)) &&& (6148914691236517205 : Int64))) &&& (3689348814741910323 : Int64)) + ((xlushr (l0 - ((xlushr l0 (1 : Int32)) &&& (6148914691236517205 : Int64))) (2 : Int32)) &&& (3689348814741910323 : Int64))) (4 : Int32))) &&& (1085102592571150095 : Int64)) + (xlushr (((((l0 - ((xlushr l0 (1 : Int32)) &&& (6148914691236517205 : Int64))) &&& (3689348814741910323 : Int64)) + ((xlushr (l0 - ((xlushr l0 (1 : Int32)) &&& (6148914691236517205 : Int64))) (2 : Int32)) &&& (3689348814741910323 : Int64))) + (xlushr (((l0 - ((xlushr l0 (1 : Int32)) &&& (6148914691236517205 : Int64))) &&& (3689348814741910323 : Int64)) + ((xlushr (l0 - ((xlushr l0 (1 : Int32)) &&& (6148914691236517205 : Int64))) (2 : Int32)) &&& (3689348814741910323 : Int64))) (4 : Int32))) &&& (1085102592571150095 : Int64)) (8 : Int32))) (16 : Int32))) + (xlushr (((((((l0 - ((xlushr l0 (1 : Int32)) &&& (6148914691236517205 : Int64))) &&& (3689348814741910323 : Int64)) + ((xlushr (l0 - ((xlushr l0 (1 : Int32)) &&& (6148914691236517205 : Int64))) (2 : Int32)) &&& (3689348814741910323 : Int64))) + (xlushr (((l0 - ((xlushr l0 (1 : Int32)) &&& (6148914691236517205 : Int64))) &&& (3689348814741910323 : Int64)) + ((xlushr (l0 - ((xlushr l0 (1 : Int32)) &&& (6148914691236517205 : Int64))) (2 : Int32)) &&& (3689348814741910323 : Int64))) (4 : Int32))) &&& (1085102592571150095 : Int64)) + (xlushr (((((l0 - ((xlushr l0 (1 : Int32)) &&& (6148914691236517205 : Int64))) &&& (3689348814741910323 : Int64)) + ((xlushr (l0 - ((xlushr l0 (1 : Int32)) &&& (6148914691236517205 : Int64))) (2 : Int32)) &&& (3689348814741910323 : Int64))) + (xlushr (((l0 - ((xlushr l0 (1 : Int32)) &&& (6148914691236517205 : Int64))) &&& (3689348814741910323 : Int64)) + ((xlushr (l0 - ((xlushr l0 (1 : Int32)) &&& (6148914691236517205 : Int64))) (2 : Int32)) &&& (3689348814741910323 : Int64))) (4 : Int32))) &&& (1085102592571150095 : Int64)) (8 : Int32))) + (xlushr ((((((l0 - ((xlushr l0 (1 : Int32)) &&& (6148914691236517205 : Int64))) &&& (3689348814741910323 : Int64)) + ((xlushr (l0 - ((xlushr l0 (1 : Int32)) &&& (6148914691236517205 : Int64))) (2 : Int32)) &&& (3689348814741910323 : Int64))) + (xlushr (((l0 - ((xlushr l0 (1 : Int32)) &&& (6148914691236517205 : Int64))) &&& (3689348814741910323 : Int64)) + ((xlushr (l0 - ((xlushr l0 (1 : Int32)) &&& (6148914691236517205 : Int64))) (2 : Int32)) &&& (3689348814741910323 : Int64))) (4 : Int32))) &&& (1085102592571150095 : Int64)) + (xlushr (((((l0 - ((xlushr l0 (1 : Int32)) &&& (6148914691236517205 : Int64))) &&& (3689348814741910323 : Int64)) + ((xlushr (l0 - ((xlushr l0 (1 : Int32)) &&& (6148914691236517205 : Int64))) (2 : Int32)) &&& (3689348814741910323 : Int64))) + (xlushr (((l0 - ((xlushr l0 (1 : Int32)) &&& (6148914691236517205 : Int64))) &&& (3689348814741910323 : Int64)) + ((xlushr (l0 - ((xlushr l0 (1 : Int32)) &&& (6148914691236517205 : Int64))) (2 : Int32)) &&& (3689348814741910323 : Int64))) (4 : Int32))) &&& (1085102592571150095 : Int64)) (8 : Int32))) (16 : Int32))) (32 : Int32)))).toInt32 &&& (127 : Int32))], s)) rfl ?_
  exact xTr.ret rfl rfl rfl
