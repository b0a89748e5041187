-- X9_type
def F_X9_type_J38 (l1 : Int32) (l2 : Int32) (t0 : Int32) (t1 : Int32) (js : xS) : Option (Int32 × xS) := if t0 = t1 then (some ((-4 : Int32), js)) else (if l1 < 0 ∨ 2 ≤ l1.toNatClampNeg then none else (if (((41 : Int32) * l1) + (js.1 1 l1.toNatClampNeg)) < 0 ∨ 82 ≤ ((((41 : Int32) * l1) + (js.1 1 l1.toNatClampNeg))).toNatClampNeg then none else (if l1 < 0 ∨ 2 ≤ l1.toNatClampNeg then none else (if l1 < 0 ∨ 2 ≤ l1.toNatClampNeg then none else (if l1 < 0 ∨ 2 ≤ l1.toNatClampNeg then none else (some (((xu (xu js 2 ((((41 : Int32) * l1) + (js.1 1 l1.toNatClampNeg))).toNatClampNeg l2) 1 l1.toNatClampNeg ((js.1 1 l1.toNatClampNeg) + (1 : Int32))).1 1 l1.toNatClampNeg), (xu (xu js 2 ((((41 : Int32) * l1) + (js.1 1 l1.toNatClampNeg))).toNatClampNeg l2) 1 l1.toNatClampNeg ((js.1 1 l1.toNatClampNeg) + (1 : Int32))))))))))
def F_X9_type (l1 : Int32) (l2 : Int32) (s : xS) : Option (Int32 × xS) := (F_X9_isText l1 s).bind fun v1 => (if v1 = 0 then (some ((-2 : Int32), s)) else ((F_X9_in l2 (0 : Int32) (255 : Int32) s).bind fun v3 => (if v3 = 0 then (some ((-2 : Int32), s)) else (if l1 < 0 ∨ 2 ≤ l1.toNatClampNeg then none else (if l1 = 0 then (F_X9_type_J38 l1 l2 (s.1 1 l1.toNatClampNeg) (41 : Int32) s) else (F_X9_type_J38 l1 l2 (s.1 1 l1.toNatClampNeg) (39 : Int32) s))))))
set_option maxRecDepth 100000 in
theorem F_X9_type_J38_ok (l1 : Int32) (l2 : Int32) (t0 : Int32) (t1 : Int32) (js : xS) : xTr xMs xML xR_X9_type (Sum.inl (38, [(0, .ref 0), (1, .int l1), (2, .int l2)], [.int t1, .int t0], js)) (F_X9_type_J38 l1 l2 t0 t1 js) (fun (y : Int32 × xS) => Sum.inr (some (.int y.1), y.2)) := by
  unfold F_X9_type_J38
  refine xTr.br (g1 := (41, [(0, .ref 0), (1, .int l1), (2, .int l2)], [], js)) (g2 := (44, [(0, .ref 0), (1, .int l1), (2, .int l2)], [], js)) rfl (fun h7 => ?_) (fun h7 => ?_)
  · refine xTr.ms 1 (g := (43, [], [.int (-4 : Int32)], js)) rfl ?_
    exact xTr.ret rfl rfl rfl
  · refine xTr.ms 8 (g := (57, [(0, .ref 0), (1, .int l1), (2, .int l2)], [.int l1, .ref 1, .int ((41 : Int32) * l1), .ref 2], js)) rfl ?_
    refine xTr.ck (g := (58, [(0, .ref 0), (1, .int l1), (2, .int l2)], [.int (js.1 1 l1.toNatClampNeg), .int ((41 : Int32) * l1), .ref 2], js)) rfl (fun h8 => ?_)
    refine xTr.ms 2 (g := (60, [(0, .ref 0), (1, .int l1), (2, .int l2)], [.int l2, .int (((41 : Int32) * l1) + (js.1 1 l1.toNatClampNeg)), .ref 2], js)) rfl ?_
    refine xTr.ck (g := (61, [(0, .ref 0), (1, .int l1), (2, .int l2)], [], (xu js 2 ((((41 : Int32) * l1) + (js.1 1 l1.toNatClampNeg))).toNatClampNeg l2))) rfl (fun h9 => ?_)
    refine xTr.ms 4 (g := (67, [(0, .ref 0), (1, .int l1), (2, .int l2)], [.int l1, .ref 1, .int l1, .ref 1], (xu js 2 ((((41 : Int32) * l1) + (js.1 1 l1.toNatClampNeg))).toNatClampNeg l2))) rfl ?_
    refine xTr.ck (g := (68, [(0, .ref 0), (1, .int l1), (2, .int l2)], [.int (js.1 1 l1.toNatClampNeg), .int l1, .ref 1], (xu js 2 ((((41 : Int32) * l1) + (js.1 1 l1.toNatClampNeg))).toNatClampNeg l2))) rfl (fun h10 => ?_)
    refine xTr.ms 2 (g := (70, [(0, .ref 0), (1, .int l1), (2, .int l2)], [.int ((js.1 1 l1.toNatClampNeg) + (1 : Int32)), .int l1, .ref 1], (xu js 2 ((((41 : Int32) * l1) + (js.1 1 l1.toNatClampNeg))).toNatClampNeg l2))) rfl ?_
    refine xTr.ck (g := (71, [(0, .ref 0), (1, .int l1), (2, .int l2)], [], (xu (xu js 2 ((((41 : Int32) * l1) + (js.1 1 l1.toNatClampNeg))).toNatClampNeg l2) 1 l1.toNatClampNeg ((js.1 1 l1.toNatClampNeg) + (1 : Int32))))) rfl (fun h11 => ?_)
    refine xTr.ms 3 (g := (76, [(0, .ref 0), (1, .int l1), (2, .int l2)], [.int l1, .ref 1], (xu (xu js 2 ((((41 : Int32) * l1) + (js.1 1 l1.toNatClampNeg))).toNatClampNeg l2) 1 l1.toNatClampNeg ((js.1 1 l1.toNatClampNeg) + (1 : Int32))))) rfl ?_
    refine xTr.ck (g := (77, [(0, .ref 0), (1, .int l1), (2, .int l2)], [.int ((xu (xu js 2 ((((41 : Int32) * l1) + (js.1 1 l1.toNatClampNeg))).toNatClampNeg l2) 1 l1.toNatClampNeg ((js.1 1 l1.toNatClampNeg) + (1 : Int32))).1 1 l1.toNatClampNeg)], (xu (xu js 2 ((((41 : Int32) * l1) + (js.1 1 l1.toNatClampNeg))).toNatClampNeg l2) 1 l1.toNatClampNeg ((js.1 1 l1.toNatClampNeg) + (1 : Int32))))) rfl (fun h12 => ?_)
    exact xTr.ret rfl rfl rfl
set_option maxRecDepth 100000 in
theorem ok_X9_type (l1 : Int32) (l2 : Int32) (s : xS) : xTr xMs xML xR_X9_type (Sum.inl (0, [(0, .ref 0), (1, .int l1), (2, .int l2)], [], s)) (F_X9_type l1 l2 s) (fun (y : Int32 × xS) => Sum.inr (some (.int y.1), y.2)) := by
  unfold F_X9_type
  refine xTr.ms 1 (g := (1, [(0, .ref 0), (1, .int l1), (2, .int l2)], [.int l1], s)) rfl ?_
  refine xTr.callip (R' := xR_X9_isText) (as := [.int l1]) (lv := [(0, .ref 0), (1, .int l1), (2, .int l2)]) (rest := []) (ok_X9_isText l1 s) rfl rfl rfl rfl rfl (fun v1 => ?_)
  refine xTr.br (g1 := (18, [(0, .ref 0), (1, .int l1), (2, .int l2)], [], s)) (g2 := (7, [(0, .ref 0), (1, .int l1), (2, .int l2)], [], s)) rfl (fun h2 => ?_) (fun h2 => ?_)
  · refine xTr.ms 1 (g := (20, [], [.int (-2 : Int32)], s)) rfl ?_
    exact xTr.ret rfl rfl rfl
  · refine xTr.ms 3 (g := (12, [(0, .ref 0), (1, .int l1), (2, .int l2)], [.int (255 : Int32), .int (0 : Int32), .int l2], s)) rfl ?_
    refine xTr.callip (R' := xR_X9_in) (as := [.int l2, .int (0 : Int32), .int (255 : Int32)]) (lv := [(0, .ref 0), (1, .int l1), (2, .int l2)]) (rest := []) (ok_X9_in l2 (0 : Int32) (255 : Int32) s) rfl rfl rfl rfl rfl (fun v3 => ?_)
    refine xTr.br (g1 := (18, [(0, .ref 0), (1, .int l1), (2, .int l2)], [], s)) (g2 := (21, [(0, .ref 0), (1, .int l1), (2, .int l2)], [], s)) rfl (fun h4 => ?_) (fun h4 => ?_)
    · refine xTr.ms 1 (g := (20, [], [.int (-2 : Int32)], s)) rfl ?_
      exact xTr.ret rfl rfl rfl
    · refine xTr.ms 3 (g := (26, [(0, .ref 0), (1, .int l1), (2, .int l2)], [.int l1, .ref 1], s)) rfl ?_
      refine xTr.ck (g := (27, [(0, .ref 0), (1, .int l1), (2, .int l2)], [.int (s.1 1 l1.toNatClampNeg)], s)) rfl (fun h5 => ?_)
      refine xTr.ms 1 (g := (28, [(0, .ref 0), (1, .int l1), (2, .int l2)], [.int l1, .int (s.1 1 l1.toNatClampNeg)], s)) rfl ?_
      refine xTr.br (g1 := (31, [(0, .ref 0), (1, .int l1), (2, .int l2)], [.int (s.1 1 l1.toNatClampNeg)], s)) (g2 := (36, [(0, .ref 0), (1, .int l1), (2, .int l2)], [.int (s.1 1 l1.toNatClampNeg)], s)) rfl (fun h6 => ?_) (fun h6 => ?_)
      · refine xTr.ms 2 (g := (38, [(0, .ref 0), (1, .int l1), (2, .int l2)], [.int (41 : Int32), .int (s.1 1 l1.toNatClampNeg)], s)) rfl ?_
        exact F_X9_type_J38_ok l1 l2 (s.1 1 l1.toNatClampNeg) (41 : Int32) s
      · refine xTr.ms 1 (g := (38, [(0, .ref 0), (1, .int l1), (2, .int l2)], [.int (39 : Int32), .int (s.1 1 l1.toNatClampNeg)], s)) rfl ?_
        exact F_X9_type_J38_ok l1 l2 (s.1 1 l1.toNatClampNeg) (39 : Int32) s
-- X9_wipe
def F_X9_wipe (l1 : Int32) (s : xS) : Option (Int32 × xS) := (F_X9_isText l1 s).bind fun v1 => (if v1 = 0 then (some ((-2 : Int32), s)) else (if l1 < 0 ∨ 2 ≤ l1.toNatClampNeg then none else (if l1 < 0 ∨ 2 ≤ l1.toNatClampNeg then none else (some ((s.1 1 l1.toNatClampNeg), (xu s 1 l1.toNatClampNeg (0 : Int32)))))))
set_option maxRecDepth 100000 in
theorem ok_X9_wipe (l1 : Int32) (s : xS) : xTr xMs xML xR_X9_wipe (Sum.inl (0, [(0, .ref 0), (1, .int l1)], [], s)) (F_X9_wipe l1 s) (fun (y : Int32 × xS) => Sum.inr (some (.int y.1), y.2)) := by
  unfold F_X9_wipe
  refine xTr.ms 1 (g := (1, [(0, .ref 0), (1, .int l1)], [.int l1], s)) rfl ?_
  refine xTr.callip (R' := xR_X9_isText) (as := [.int l1]) (lv := [(0, .ref 0), (1, .int l1)]) (rest := []) (ok_X9_isText l1 s) rfl rfl rfl rfl rfl (fun v1 => ?_)
  refine xTr.br (g1 := (7, [(0, .ref 0), (1, .int l1)], [], s)) (g2 := (10, [(0, .ref 0), (1, .int l1)], [], s)) rfl (fun h2 => ?_) (fun h2 => ?_)
  · refine xTr.ms 1 (g := (9, [], [.int (-2 : Int32)], s)) rfl ?_
    exact xTr.ret rfl rfl rfl
  · refine xTr.ms 3 (g := (15, [(0, .ref 0), (1, .int l1)], [.int l1, .ref 1], s)) rfl ?_
    refine xTr.ck (g := (16, [(0, .ref 0), (1, .int l1)], [.int (s.1 1 l1.toNatClampNeg)], s)) rfl (fun h3 => ?_)
    refine xTr.ms 5 (g := (23, [(0, .ref 0), (1, .int l1), (2, .int (s.1 1 l1.toNatClampNeg))], [.int (0 : Int32), .int l1, .ref 1], s)) rfl ?_
    refine xTr.ck (g := (24, [(0, .ref 0), (1, .int l1), (2, .int (s.1 1 l1.toNatClampNeg))], [], (xu s 1 l1.toNatClampNeg (0 : Int32)))) rfl (fun h4 => ?_)
    refine xTr.ms 1 (g := (25, [(0, .ref 0), (1, .int l1), (2, .int (s.1 1 l1.toNatClampNeg))], [.int (s.1 1 l1.toNatClampNeg)], (xu s 1 l1.toNatClampNeg (0 : Int32)))) rfl ?_
    exact xTr.ret rfl rfl rfl
-- X9_undo
def F_X9_undo (l1 : Int32) (s : xS) : Option (Int32 × xS) := (F_X9_isText l1 s).bind fun v1 => (if v1 = 0 then (some ((-2 : Int32), s)) else (if l1 < 0 ∨ 2 ≤ l1.toNatClampNeg then none else (if (s.1 1 l1.toNatClampNeg) = 0 then (some ((-3 : Int32), s)) else (if l1 < 0 ∨ 2 ≤ l1.toNatClampNeg then none else (if l1 < 0 ∨ 2 ≤ l1.toNatClampNeg then none else (if l1 < 0 ∨ 2 ≤ l1.toNatClampNeg then none else (some (((xu s 1 l1.toNatClampNeg ((s.1 1 l1.toNatClampNeg) - (1 : Int32))).1 1 l1.toNatClampNeg), (xu s 1 l1.toNatClampNeg ((s.1 1 l1.toNatClampNeg) - (1 : Int32)))))))))))
set_option maxRecDepth 100000 in
theorem ok_X9_undo (l1 : Int32) (s : xS) : xTr xMs xML xR_X9_undo (Sum.inl (0, [(0, .ref 0), (1, .int l1)], [], s)) (F_X9_undo l1 s) (fun (y : Int32 × xS) => Sum.inr (some (.int y.1), y.2)) := by
  unfold F_X9_undo
  refine xTr.ms 1 (g := (1, [(0, .ref 0), (1, .int l1)], [.int l1], s)) rfl ?_
  refine xTr.callip (R' := xR_X9_isText) (as := [.int l1]) (lv := [(0, .ref 0), (1, .int l1)]) (rest := []) (ok_X9_isText l1 s) rfl rfl rfl rfl rfl (fun v1 => ?_)
  refine xTr.br (g1 := (7, [(0, .ref 0), (1, .int l1)], [], s)) (g2 := (10, [(0, .ref 0), (1, .int l1)], [], s)) rfl (fun h2 => ?_) (fun h2 => ?_)
  · refine xTr.ms 1 (g := (9, [], [.int (-2 : Int32)], s)) rfl ?_
    exact xTr.ret rfl rfl rfl
  · refine xTr.ms 3 (g := (15, [(0, .ref 0), (1, .int l1)], [.int l1, .ref 1], s)) rfl ?_
    refine xTr.ck (g := (16, [(0, .ref 0), (1, .int l1)], [.int (s.1 1 l1.toNatClampNeg)], s)) rfl (fun h3 => ?_)
    refine xTr.br (g1 := (19, [(0, .ref 0), (1, .int l1)], [], s)) (g2 := (22, [(0, .ref 0), (1, .int l1)], [], s)) rfl (fun h4 => ?_) (fun h4 => ?_)
    · refine xTr.ms 1 (g := (21, [], [.int (-3 : Int32)], s)) rfl ?_
      exact xTr.ret rfl rfl rfl
    · refine xTr.ms 4 (g := (28, [(0, .ref 0), (1, .int l1)], [.int l1, .ref 1, .int l1, .ref 1], s)) rfl ?_
      refine xTr.ck (g := (29, [(0, .ref 0), (1, .int l1)], [.int (s.1 1 l1.toNatClampNeg), .int l1, .ref 1], s)) rfl (fun h5 => ?_)
      refine xTr.ms 2 (g := (31, [(0, .ref 0), (1, .int l1)], [.int ((s.1 1 l1.toNatClampNeg) - (1 : Int32)), .int l1, .ref 1], s)) rfl ?_
      refine xTr.ck (g := (32, [(0, .ref 0), (1, .int l1)], [], (xu s 1 l1.toNatClampNeg ((s.1 1 l1.toNatClampNeg) - (1 : Int32))))) rfl (fun h6 => ?_)
      refine xTr.ms 3 (g := (37, [(0, .ref 0), (1, .int l1)], [.int l1, .ref 1], (xu s 1 l1.toNatClampNeg ((s.1 1 l1.toNatClampNeg) - (1 : Int32))))) rfl ?_
      refine xTr.ck (g := (38, [(0, .ref 0), (1, .int l1)], [.int ((xu s 1 l1.toNatClampNeg ((s.1 1 l1.toNatClampNeg) - (1 : Int32))).1 1 l1.toNatClampNeg)], (xu s 1 l1.toNatClampNeg ((s.1 1 l1.toNatClampNeg) - (1 : Int32))))) rfl (fun h7 => ?_)
      exact xTr.ret rfl rfl rfl
-- X9_byteAt
def F_X9_byteAt (l1 : Int32) (l2 : Int32) (s : xS) : Option (Int32) := if l1 < 0 ∨ 2 ≤ l1.toNatClampNeg then none else (if (s.1 1 l1.toNatClampNeg) ≤ l2 then (some (-1 : Int32)) else (if (((41 : Int32) * l1) + l2) < 0 ∨ 82 ≤ ((((41 : Int32) * l1) + l2)).toNatClampNeg then none else (some (s.1 2 ((((41 : Int32) * l1) + l2)).toNatClampNeg))))
set_option maxRecDepth 100000 in
theorem ok_X9_byteAt (l1 : Int32) (l2 : Int32) (s : xS) : xTr xMs xML xR_X9_byteAt (Sum.inl (0, [(0, .ref 0), (1, .int l1), (2, .int l2)], [], s)) (F_X9_byteAt l1 l2 s) (fun (y : Int32) => Sum.inr (some (.int y), s)) := by
  unfold F_X9_byteAt
  refine xTr.ms 4 (g := (6, [(0, .ref 0), (1, .int l1), (2, .int l2)], [.int l1, .ref 1, .int l2], s)) rfl ?_
  refine xTr.ck (g := (7, [(0, .ref 0), (1, .int l1), (2, .int l2)], [.int (s.1 1 l1.toNatClampNeg), .int l2], s)) rfl (fun h1 => ?_)
  refine xTr.br (g1 := (24, [(0, .ref 0), (1, .int l1), (2, .int l2)], [], s)) (g2 := (10, [(0, .ref 0), (1, .int l1), (2, .int l2)], [], s)) rfl (fun h2 => ?_) (fun h2 => ?_)
  · refine xTr.ms 1 (g := (25, [], [.int (-1 : Int32)], s)) rfl ?_
    exact xTr.ret rfl rfl rfl
  · refine xTr.ms 7 (g := (20, [(0, .ref 0), (1, .int l1), (2, .int l2)], [.int (((41 : Int32) * l1) + l2), .ref 2], s)) rfl ?_
    refine xTr.ck (g := (21, [(0, .ref 0), (1, .int l1), (2, .int l2)], [.int (s.1 2 ((((41 : Int32) * l1) + l2)).toNatClampNeg)], s)) rfl (fun h3 => ?_)
    refine xTr.ms 1 (g := (25, [(0, .ref 0), (1, .int l1), (2, .int l2)], [.int (s.1 2 ((((41 : Int32) * l1) + l2)).toNatClampNeg)], s)) rfl ?_
    exact xTr.ret rfl rfl rfl
-- X9_kindOf
def F_X9_kindOf (l0 : Int32) (s : xS) : Option (Int32) := if l0 = (46 : Int32) then (some (0 : Int32)) else (if l0 = (104 : Int32) then (some (1 : Int32)) else (if l0 = (102 : Int32) then (some (2 : Int32)) else (if l0 = (98 : Int32) then (some (3 : Int32)) else (some (-1 : Int32)))))
set_option maxRecDepth 100000 in
theorem ok_X9_kindOf (l0 : Int32) (s : xS) : xTr xMs xML xR_X9_kindOf (Sum.inl (0, [(0, .int l0)], [], s)) (F_X9_kindOf l0 s) (fun (y : Int32) => Sum.inr (some (.int y), s)) := by
  unfold F_X9_kindOf
  refine xTr.ms 2 (g := (3, [(0, .int l0)], [.int (46 : Int32), .int l0], s)) rfl ?_
  refine xTr.br (g1 := (6, [(0, .int l0)], [], s)) (g2 := (10, [(0, .int l0)], [], s)) rfl (fun h1 => ?_) (fun h1 => ?_)
  · refine xTr.ms 2 (g := (41, [], [.int (0 : Int32)], s)) rfl ?_
    exact xTr.ret rfl rfl rfl
  · refine xTr.ms 2 (g := (13, [(0, .int l0)], [.int (104 : Int32), .int l0], s)) rfl ?_
    refine xTr.br (g1 := (16, [(0, .int l0)], [], s)) (g2 := (20, [(0, .int l0)], [], s)) rfl (fun h2 => ?_) (fun h2 => ?_)
    · refine xTr.ms 2 (g := (41, [], [.int (1 : Int32)], s)) rfl ?_
      exact xTr.ret rfl rfl rfl
    · refine xTr.ms 2 (g := (23, [(0, .int l0)], [.int (102 : Int32), .int l0], s)) rfl ?_
      refine xTr.br (g1 := (26, [(0, .int l0)], [], s)) (g2 := (30, [(0, .int l0)], [], s)) rfl (fun h3 => ?_) (fun h3 => ?_)
      · refine xTr.ms 2 (g := (41, [], [.int (2 : Int32)], s)) rfl ?_
        exact xTr.ret rfl rfl rfl
      · refine xTr.ms 2 (g := (33, [(0, .int l0)], [.int (98 : Int32), .int l0], s)) rfl ?_
        refine xTr.br (g1 := (36, [(0, .int l0)], [], s)) (g2 := (40, [(0, .int l0)], [], s)) rfl (fun h4 => ?_) (fun h4 => ?_)
        · refine xTr.ms 2 (g := (41, [], [.int (3 : Int32)], s)) rfl ?_
          exact xTr.ret rfl rfl rfl
        · refine xTr.ms 1 (g := (41, [], [.int (-1 : Int32)], s)) rfl ?_
          exact xTr.ret rfl rfl rfl
-- X9_readsTown
def F_X9_readsTown_L26_J119 (j1 : Int32) (j2 : Int32) (j3 : Int32) (j4 : Int32) (j6 : Int32) (j8 : Int32) (t0 : Int32) (t1 : Int32) (js : xS) : Option ((Int32 × Int32 × Int32 × Int32 × Int32 × Int32 × xS) ⊕ ((Int32 × xS) ⊕ ((Int32 × xS) ⊕ ((Int32 × xS) ⊕ (Int32 × Int32 × Int32 × Int32 × xS))))) := if j8 = (-1 : Int32) then (some (Sum.inr (Sum.inr (Sum.inr (Sum.inl (j6, js)))))) else (if j2 = j4 then (some (Sum.inr (Sum.inr (Sum.inr (Sum.inl (j6, js)))))) else (if (t0 + t1) ≤ (1 : Int32) then (if j3 < 0 ∨ 37 ≤ j3.toNatClampNeg then none else (some (Sum.inl (j1, (j2 + (1 : Int32)), (j3 + (1 : Int32)), j4, (t0 + t1), (j6 + (1 : Int32)), (xu js 3 j3.toNatClampNeg j8))))) else (some (Sum.inr (Sum.inr (Sum.inr (Sum.inl (j6, js))))))))
def F_X9_readsTown_L26 (a : Int32 × Int32 × Int32 × Int32 × Int32 × Int32 × xS) : Option ((Int32 × Int32 × Int32 × Int32 × Int32 × Int32 × xS) ⊕ ((Int32 × xS) ⊕ ((Int32 × xS) ⊕ ((Int32 × xS) ⊕ (Int32 × Int32 × Int32 × Int32 × xS))))) := if (a.2.2.2.2.2.2.1 1 0) ≤ a.2.2.2.2.2.1 then (some (Sum.inr (Sum.inr (Sum.inr (Sum.inr (a.1, a.2.1, a.2.2.1, a.2.2.2.1, a.2.2.2.2.2.2)))))) else ((F_X9_byteAt (0 : Int32) a.2.2.2.2.2.1 a.2.2.2.2.2.2).bind fun v2 => (if a.1 = (6 : Int32) then (some (Sum.inr (Sum.inl (a.2.2.2.2.2.1, a.2.2.2.2.2.2)))) else (if v2 = (59 : Int32) then (if a.2.1 = 0 then (some (Sum.inr (Sum.inr (Sum.inl (a.2.2.2.2.2.1, a.2.2.2.2.2.2))))) else (if a.1 ≤ 0 then (if a.1 = 0 then (some (Sum.inl ((a.1 + (1 : Int32)), (0 : Int32), a.2.2.1, a.2.1, a.2.2.2.2.1, (a.2.2.2.2.2.1 + (1 : Int32)), a.2.2.2.2.2.2))) else (some (Sum.inl ((a.1 + (1 : Int32)), (0 : Int32), a.2.2.1, a.2.2.2.1, a.2.2.2.2.1, (a.2.2.2.2.2.1 + (1 : Int32)), a.2.2.2.2.2.2)))) else (if a.2.2.2.1 ≤ a.2.1 then (if a.1 = 0 then (some (Sum.inl ((a.1 + (1 : Int32)), (0 : Int32), a.2.2.1, a.2.1, a.2.2.2.2.1, (a.2.2.2.2.2.1 + (1 : Int32)), a.2.2.2.2.2.2))) else (some (Sum.inl ((a.1 + (1 : Int32)), (0 : Int32), a.2.2.1, a.2.2.2.1, a.2.2.2.2.1, (a.2.2.2.2.2.1 + (1 : Int32)), a.2.2.2.2.2.2)))) else (some (Sum.inr (Sum.inr (Sum.inl (a.2.2.2.2.2.1, a.2.2.2.2.2.2)))))))) else ((F_X9_kindOf v2 a.2.2.2.2.2.2).bind fun v10 => (if v10 = (3 : Int32) then (F_X9_readsTown_L26_J119 a.1 a.2.1 a.2.2.1 a.2.2.2.1 a.2.2.2.2.2.1 v10 a.2.2.2.2.1 (1 : Int32) a.2.2.2.2.2.2) else (F_X9_readsTown_L26_J119 a.1 a.2.1 a.2.2.1 a.2.2.2.1 a.2.2.2.2.2.1 v10 a.2.2.2.2.1 (0 : Int32) a.2.2.2.2.2.2))))))
def F_X9_readsTown_J193 (j1 : Int32) (j2 : Int32) (j3 : Int32) (j4 : Int32) (js : xS) : Option (Int32 × xS) := if (js.1 1 0) = 0 then (some ((-1 : Int32), (xu (xu js 0 2 (1 : Int32)) 0 3 j3))) else (if j1 = 0 then (some ((-1 : Int32), (xu (xu js 0 2 j2) 0 3 j3))) else (some ((-1 : Int32), (xu (xu js 0 2 j4) 0 3 j3))))
def F_X9_readsTown (s : xS) : Option (Int32 × xS) := (xlp (F_X9_readsTown_L26) 100000 ((0 : Int32), (0 : Int32), (0 : Int32), (6 : Int32), (0 : Int32), (0 : Int32), (xu (xu s 0 3 (0 : Int32)) 0 2 (1 : Int32)))).bind (Sum.elim (fun b16_0 => (some (b16_0.1, b16_0.2))) (Sum.elim (fun b16_1 => (some (b16_1.1, b16_1.2))) (Sum.elim (fun b16_2 => (some (b16_2.1, b16_2.2))) (fun b16_3 => (if (b16_3.2.2.2.2.1 1 0) ≤ 0 then (F_X9_readsTown_J193 b16_3.1 b16_3.2.1 b16_3.2.2.1 b16_3.2.2.2.1 b16_3.2.2.2.2) else (if b16_3.2.1 = 0 then (some ((b16_3.2.2.2.2.1 1 0), b16_3.2.2.2.2)) else (if b16_3.1 ≤ 0 then (F_X9_readsTown_J193 b16_3.1 b16_3.2.1 b16_3.2.2.1 b16_3.2.2.2.1 b16_3.2.2.2.2) else (if b16_3.2.2.2.1 ≤ b16_3.2.1 then (F_X9_readsTown_J193 b16_3.1 b16_3.2.1 b16_3.2.2.1 b16_3.2.2.2.1 b16_3.2.2.2.2) else (some ((b16_3.2.2.2.2.1 1 0), b16_3.2.2.2.2))))))))))
def F_X9_readsTown_L26_hd (a : Int32 × Int32 × Int32 × Int32 × Int32 × Int32 × xS) : xT := Sum.inl (26, [(0, .ref 0), (1, .int a.1), (2, .int a.2.1), (3, .int a.2.2.1), (4, .int a.2.2.2.1), (5, .int a.2.2.2.2.1), (6, .int a.2.2.2.2.2.1)], [], a.2.2.2.2.2.2)
def F_X9_readsTown_L26_ex : ((Int32 × xS) ⊕ ((Int32 × xS) ⊕ ((Int32 × xS) ⊕ (Int32 × Int32 × Int32 × Int32 × xS)))) → xT := (Sum.elim (fun (z : Int32 × xS) => Sum.inl (52, [(6, .int z.1)], [], z.2)) (Sum.elim (fun (z : Int32 × xS) => Sum.inl (76, [(6, .int z.1)], [], z.2)) (Sum.elim (fun (z : Int32 × xS) => Sum.inl (140, [(6, .int z.1)], [], z.2)) (fun (z : Int32 × Int32 × Int32 × Int32 × xS) => Sum.inl (163, [(0, .ref 0), (1, .int z.1), (2, .int z.2.1), (3, .int z.2.2.1), (4, .int z.2.2.2.1)], [], z.2.2.2.2)))))
set_option maxRecDepth 100000 in
theorem F_X9_readsTown_L26_J119_ok (j1 : Int32) (j2 : Int32) (j3 : Int32) (j4 : Int32) (j6 : Int32) (j8 : Int32) (t0 : Int32) (t1 : Int32) (js : xS) : xTr xMs xML xR_X9_readsTown (Sum.inl (119, [(0, .ref 0), (1, .int j1), (2, .int j2), (3, .int j3), (4, .int j4), (6, .int j6), (8, .int j8)], [.int t1, .int t0], js)) (F_X9_readsTown_L26_J119 j1 j2 j3 j4 j6 j8 t0 t1 js) (xhx (F_X9_readsTown_L26_hd) (F_X9_readsTown_L26_ex)) := by
  unfold F_X9_readsTown_L26_J119
  refine xTr.ms 4 (g := (125, [(0, .ref 0), (1, .int j1), (2, .int j2), (3, .int j3), (4, .int j4), (5, .int (t0 + t1)), (6, .int j6), (8, .int j8)], [.int (-1 : Int32), .int j8], js)) rfl ?_
  refine xTr.br (g1 := (140, [(0, .ref 0), (1, .int j1), (2, .int j2), (3, .int j3), (4, .int j4), (5, .int (t0 + t1)), (6, .int j6), (8, .int j8)], [], js)) (g2 := (128, [(0, .ref 0), (1, .int j1), (2, .int j2), (3, .int j3), (4, .int j4), (5, .int (t0 + t1)), (6, .int j6), (8, .int j8)], [], js)) rfl (fun h12 => ?_) (fun h12 => ?_)
  · refine xTr.mk (lv1 := [(6, .int j6)]) rfl rfl ?_
    exact xTr.leaf rfl
  · refine xTr.ms 2 (g := (131, [(0, .ref 0), (1, .int j1), (2, .int j2), (3, .int j3), (4, .int j4), (5, .int (t0 + t1)), (6, .int j6), (8, .int j8)], [.int j4, .int j2], js)) rfl ?_
    refine xTr.br (g1 := (140, [(0, .ref 0), (1, .int j1), (2, .int j2), (3, .int j3), (4, .int j4), (5, .int (t0 + t1)), (6, .int j6), (8, .int j8)], [], js)) (g2 := (134, [(0, .ref 0), (1, .int j1), (2, .int j2), (3, .int j3), (4, .int j4), (5, .int (t0 + t1)), (6, .int j6), (8, .int j8)], [], js)) rfl (fun h13 => ?_) (fun h13 => ?_)
    · refine xTr.mk (lv1 := [(6, .int j6)]) rfl rfl ?_
      exact xTr.leaf rfl
    · refine xTr.ms 2 (g := (137, [(0, .ref 0), (1, .int j1), (2, .int j2), (3, .int j3), (4, .int j4), (5, .int (t0 + t1)), (6, .int j6), (8, .int j8)], [.int (1 : Int32), .int (t0 + t1)], js)) rfl ?_
      refine xTr.br (g1 := (143, [(0, .ref 0), (1, .int j1), (2, .int j2), (3, .int j3), (4, .int j4), (5, .int (t0 + t1)), (6, .int j6), (8, .int j8)], [], js)) (g2 := (140, [(0, .ref 0), (1, .int j1), (2, .int j2), (3, .int j3), (4, .int j4), (5, .int (t0 + t1)), (6, .int j6), (8, .int j8)], [], js)) rfl (fun h14 => ?_) (fun h14 => ?_)
      · refine xTr.ms 4 (g := (150, [(0, .ref 0), (1, .int j1), (2, .int j2), (3, .int j3), (4, .int j4), (5, .int (t0 + t1)), (6, .int j6), (8, .int j8)], [.int j8, .int j3, .ref 3], js)) rfl ?_
        refine xTr.ck (g := (151, [(0, .ref 0), (1, .int j1), (2, .int j2), (3, .int j3), (4, .int j4), (5, .int (t0 + t1)), (6, .int j6), (8, .int j8)], [], (xu js 3 j3.toNatClampNeg j8))) rfl (fun h15 => ?_)
        refine xTr.ms 4 (g := (26, [(0, .ref 0), (1, .int j1), (2, .int (j2 + (1 : Int32))), (3, .int (j3 + (1 : Int32))), (4, .int j4), (5, .int (t0 + t1)), (6, .int (j6 + (1 : Int32)))], [], (xu js 3 j3.toNatClampNeg j8))) rfl ?_
        exact xTr.leaf rfl
      · refine xTr.mk (lv1 := [(6, .int j6)]) rfl rfl ?_
        exact xTr.leaf rfl
set_option maxRecDepth 100000 in
theorem F_X9_readsTown_L26_ok (a : Int32 × Int32 × Int32 × Int32 × Int32 × Int32 × xS) : xTr xMs xML xR_X9_readsTown (F_X9_readsTown_L26_hd a) (F_X9_readsTown_L26 a) (xhx (F_X9_readsTown_L26_hd) (F_X9_readsTown_L26_ex)) := by
  unfold F_X9_readsTown_L26
  refine xTr.ms 5 (g := (34, [(0, .ref 0), (1, .int a.1), (2, .int a.2.1), (3, .int a.2.2.1), (4, .int a.2.2.2.1), (5, .int a.2.2.2.2.1), (6, .int a.2.2.2.2.2.1)], [.int (a.2.2.2.2.2.2.1 1 0), .int a.2.2.2.2.2.1], a.2.2.2.2.2.2)) rfl ?_
  refine xTr.br (g1 := (163, [(0, .ref 0), (1, .int a.1), (2, .int a.2.1), (3, .int a.2.2.1), (4, .int a.2.2.2.1), (5, .int a.2.2.2.2.1), (6, .int a.2.2.2.2.2.1)], [], a.2.2.2.2.2.2)) (g2 := (37, [(0, .ref 0), (1, .int a.1), (2, .int a.2.1), (3, .int a.2.2.1), (4, .int a.2.2.2.1), (5, .int a.2.2.2.2.1), (6, .int a.2.2.2.2.2.1)], [], a.2.2.2.2.2.2)) rfl (fun h1 => ?_) (fun h1 => ?_)
  · refine xTr.mk (lv1 := [(0, .ref 0), (1, .int a.1), (2, .int a.2.1), (3, .int a.2.2.1), (4, .int a.2.2.2.1)]) rfl rfl ?_
    exact xTr.leaf rfl
  · refine xTr.ms 3 (g := (41, [(0, .ref 0), (1, .int a.1), (2, .int a.2.1), (3, .int a.2.2.1), (4, .int a.2.2.2.1), (5, .int a.2.2.2.2.1), (6, .int a.2.2.2.2.2.1)], [.int a.2.2.2.2.2.1, .int (0 : Int32), .ref 0], a.2.2.2.2.2.2)) rfl ?_
    refine xTr.callip (R' := xR_X9_byteAt) (as := [.ref 0, .int (0 : Int32), .int a.2.2.2.2.2.1]) (lv := [(0, .ref 0), (1, .int a.1), (2, .int a.2.1), (3, .int a.2.2.1), (4, .int a.2.2.2.1), (5, .int a.2.2.2.2.1), (6, .int a.2.2.2.2.2.1)]) (rest := []) (ok_X9_byteAt (0 : Int32) a.2.2.2.2.2.1 a.2.2.2.2.2.2) rfl rfl rfl rfl rfl (fun v2 => ?_)
    refine xTr.ms 3 (g := (49, [(0, .ref 0), (1, .int a.1), (2, .int a.2.1), (3, .int a.2.2.1), (4, .int a.2.2.2.1), (5, .int a.2.2.2.2.1), (6, .int a.2.2.2.2.2.1), (7, .int v2)], [.int (6 : Int32), .int a.1], a.2.2.2.2.2.2)) rfl ?_
    refine xTr.br (g1 := (52, [(0, .ref 0), (1, .int a.1), (2, .int a.2.1), (3, .int a.2.2.1), (4, .int a.2.2.2.1), (5, .int a.2.2.2.2.1), (6, .int a.2.2.2.2.2.1), (7, .int v2)], [], a.2.2.2.2.2.2)) (g2 := (55, [(0, .ref 0), (1, .int a.1), (2, .int a.2.1), (3, .int a.2.2.1), (4, .int a.2.2.2.1), (5, .int a.2.2.2.2.1), (6, .int a.2.2.2.2.2.1), (7, .int v2)], [], a.2.2.2.2.2.2)) rfl (fun h3 => ?_) (fun h3 => ?_)
    · refine xTr.mk (lv1 := [(6, .int a.2.2.2.2.2.1)]) rfl rfl ?_
      exact xTr.leaf rfl
    · refine xTr.ms 2 (g := (59, [(0, .ref 0), (1, .int a.1), (2, .int a.2.1), (3, .int a.2.2.1), (4, .int a.2.2.2.1), (5, .int a.2.2.2.2.1), (6, .int a.2.2.2.2.2.1), (7, .int v2)], [.int (59 : Int32), .int v2], a.2.2.2.2.2.2)) rfl ?_
      refine xTr.br (g1 := (62, [(0, .ref 0), (1, .int a.1), (2, .int a.2.1), (3, .int a.2.2.1), (4, .int a.2.2.2.1), (5, .int a.2.2.2.2.1), (6, .int a.2.2.2.2.2.1), (7, .int v2)], [], a.2.2.2.2.2.2)) (g2 := (99, [(0, .ref 0), (1, .int a.1), (2, .int a.2.1), (3, .int a.2.2.1), (4, .int a.2.2.2.1), (5, .int a.2.2.2.2.1), (6, .int a.2.2.2.2.2.1), (7, .int v2)], [], a.2.2.2.2.2.2)) rfl (fun h4 => ?_) (fun h4 => ?_)
      · refine xTr.ms 1 (g := (63, [(0, .ref 0), (1, .int a.1), (2, .int a.2.1), (3, .int a.2.2.1), (4, .int a.2.2.2.1), (5, .int a.2.2.2.2.1), (6, .int a.2.2.2.2.2.1)], [.int a.2.1], a.2.2.2.2.2.2)) rfl ?_
        refine xTr.br (g1 := (76, [(0, .ref 0), (1, .int a.1), (2, .int a.2.1), (3, .int a.2.2.1), (4, .int a.2.2.2.1), (5, .int a.2.2.2.2.1), (6, .int a.2.2.2.2.2.1)], [], a.2.2.2.2.2.2)) (g2 := (66, [(0, .ref 0), (1, .int a.1), (2, .int a.2.1), (3, .int a.2.2.1), (4, .int a.2.2.2.1), (5, .int a.2.2.2.2.1), (6, .int a.2.2.2.2.2.1)], [], a.2.2.2.2.2.2)) rfl (fun h5 => ?_) (fun h5 => ?_)
        · refine xTr.mk (lv1 := [(6, .int a.2.2.2.2.2.1)]) rfl rfl ?_
          exact xTr.leaf rfl
        · refine xTr.ms 1 (g := (67, [(0, .ref 0), (1, .int a.1), (2, .int a.2.1), (3, .int a.2.2.1), (4, .int a.2.2.2.1), (5, .int a.2.2.2.2.1), (6, .int a.2.2.2.2.2.1)], [.int a.1], a.2.2.2.2.2.2)) rfl ?_
          refine xTr.br (g1 := (79, [(0, .ref 0), (1, .int a.1), (2, .int a.2.1), (3, .int a.2.2.1), (4, .int a.2.2.2.1), (5, .int a.2.2.2.2.1), (6, .int a.2.2.2.2.2.1)], [], a.2.2.2.2.2.2)) (g2 := (70, [(0, .ref 0), (1, .int a.1), (2, .int a.2.1), (3, .int a.2.2.1), (4, .int a.2.2.2.1), (5, .int a.2.2.2.2.1), (6, .int a.2.2.2.2.2.1)], [], a.2.2.2.2.2.2)) rfl (fun h6 => ?_) (fun h6 => ?_)
          · refine xTr.ms 1 (g := (80, [(0, .ref 0), (1, .int a.1), (2, .int a.2.1), (3, .int a.2.2.1), (4, .int a.2.2.2.1), (5, .int a.2.2.2.2.1), (6, .int a.2.2.2.2.2.1)], [.int a.1], a.2.2.2.2.2.2)) rfl ?_
            refine xTr.br (g1 := (83, [(0, .ref 0), (1, .int a.1), (2, .int a.2.1), (3, .int a.2.2.1), (4, .int a.2.2.2.1), (5, .int a.2.2.2.2.1), (6, .int a.2.2.2.2.2.1)], [], a.2.2.2.2.2.2)) (g2 := (87, [(0, .ref 0), (1, .int a.1), (2, .int a.2.1), (3, .int a.2.2.1), (4, .int a.2.2.2.1), (5, .int a.2.2.2.2.1), (6, .int a.2.2.2.2.2.1)], [], a.2.2.2.2.2.2)) rfl (fun h7 => ?_) (fun h7 => ?_)
            · refine xTr.ms 9 (g := (26, [(0, .ref 0), (1, .int (a.1 + (1 : Int32))), (2, .int (0 : Int32)), (3, .int a.2.2.1), (4, .int a.2.1), (5, .int a.2.2.2.2.1), (6, .int (a.2.2.2.2.2.1 + (1 : Int32)))], [], a.2.2.2.2.2.2)) rfl ?_
              exact xTr.leaf rfl
            · refine xTr.ms 8 (g := (26, [(0, .ref 0), (1, .int (a.1 + (1 : Int32))), (2, .int (0 : Int32)), (3, .int a.2.2.1), (4, .int a.2.2.2.1), (5, .int a.2.2.2.2.1), (6, .int (a.2.2.2.2.2.1 + (1 : Int32)))], [], a.2.2.2.2.2.2)) rfl ?_
              exact xTr.leaf rfl
          · refine xTr.ms 2 (g := (73, [(0, .ref 0), (1, .int a.1), (2, .int a.2.1), (3, .int a.2.2.1), (4, .int a.2.2.2.1), (5, .int a.2.2.2.2.1), (6, .int a.2.2.2.2.2.1)], [.int a.2.2.2.1, .int a.2.1], a.2.2.2.2.2.2)) rfl ?_
            refine xTr.br (g1 := (79, [(0, .ref 0), (1, .int a.1), (2, .int a.2.1), (3, .int a.2.2.1), (4, .int a.2.2.2.1), (5, .int a.2.2.2.2.1), (6, .int a.2.2.2.2.2.1)], [], a.2.2.2.2.2.2)) (g2 := (76, [(0, .ref 0), (1, .int a.1), (2, .int a.2.1), (3, .int a.2.2.1), (4, .int a.2.2.2.1), (5, .int a.2.2.2.2.1), (6, .int a.2.2.2.2.2.1)], [], a.2.2.2.2.2.2)) rfl (fun h8 => ?_) (fun h8 => ?_)
            · refine xTr.ms 1 (g := (80, [(0, .ref 0), (1, .int a.1), (2, .int a.2.1), (3, .int a.2.2.1), (4, .int a.2.2.2.1), (5, .int a.2.2.2.2.1), (6, .int a.2.2.2.2.2.1)], [.int a.1], a.2.2.2.2.2.2)) rfl ?_
              refine xTr.br (g1 := (83, [(0, .ref 0), (1, .int a.1), (2, .int a.2.1), (3, .int a.2.2.1), (4, .int a.2.2.2.1), (5, .int a.2.2.2.2.1), (6, .int a.2.2.2.2.2.1)], [], a.2.2.2.2.2.2)) (g2 := (87, [(0, .ref 0), (1, .int a.1), (2, .int a.2.1), (3, .int a.2.2.1), (4, .int a.2.2.2.1), (5, .int a.2.2.2.2.1), (6, .int a.2.2.2.2.2.1)], [], a.2.2.2.2.2.2)) rfl (fun h9 => ?_) (fun h9 => ?_)
              · refine xTr.ms 9 (g := (26, [(0, .ref 0), (1, .int (a.1 + (1 : Int32))), (2, .int (0 : Int32)), (3, .int a.2.2.1), (4, .int a.2.1), (5, .int a.2.2.2.2.1), (6, .int (a.2.2.2.2.2.1 + (1 : Int32)))], [], a.2.2.2.2.2.2)) rfl ?_
                exact xTr.leaf rfl
              · refine xTr.ms 8 (g := (26, [(0, .ref 0), (1, .int (a.1 + (1 : Int32))), (2, .int (0 : Int32)), (3, .int a.2.2.1), (4, .int a.2.2.2.1), (5, .int a.2.2.2.2.1), (6, .int (a.2.2.2.2.2.1 + (1 : Int32)))], [], a.2.2.2.2.2.2)) rfl ?_
                exact xTr.leaf rfl
            · refine xTr.mk (lv1 := [(6, .int a.2.2.2.2.2.1)]) rfl rfl ?_
              exact xTr.leaf rfl
      · refine xTr.ms 1 (g := (101, [(0, .ref 0), (1, .int a.1), (2, .int a.2.1), (3, .int a.2.2.1), (4, .int a.2.2.2.1), (5, .int a.2.2.2.2.1), (6, .int a.2.2.2.2.2.1), (7, .int v2)], [.int v2], a.2.2.2.2.2.2)) rfl ?_
        refine xTr.callip (R' := xR_X9_kindOf) (as := [.int v2]) (lv := [(0, .ref 0), (1, .int a.1), (2, .int a.2.1), (3, .int a.2.2.1), (4, .int a.2.2.2.1), (5, .int a.2.2.2.2.1), (6, .int a.2.2.2.2.2.1), (7, .int v2)]) (rest := []) (ok_X9_kindOf v2 a.2.2.2.2.2.2) rfl rfl rfl rfl rfl (fun v10 => ?_)
        refine xTr.ms 4 (g := (111, [(0, .ref 0), (1, .int a.1), (2, .int a.2.1), (3, .int a.2.2.1), (4, .int a.2.2.2.1), (5, .int a.2.2.2.2.1), (6, .int a.2.2.2.2.2.1), (7, .int v2), (8, .int v10)], [.int (3 : Int32), .int v10, .int a.2.2.2.2.1], a.2.2.2.2.2.2)) rfl ?_
        refine xTr.br (g1 := (114, [(0, .ref 0), (1, .int a.1), (2, .int a.2.1), (3, .int a.2.2.1), (4, .int a.2.2.2.1), (5, .int a.2.2.2.2.1), (6, .int a.2.2.2.2.2.1), (7, .int v2), (8, .int v10)], [.int a.2.2.2.2.1], a.2.2.2.2.2.2)) (g2 := (118, [(0, .ref 0), (1, .int a.1), (2, .int a.2.1), (3, .int a.2.2.1), (4, .int a.2.2.2.1), (5, .int a.2.2.2.2.1), (6, .int a.2.2.2.2.2.1), (7, .int v2), (8, .int v10)], [.int a.2.2.2.2.1], a.2.2.2.2.2.2)) rfl (fun h11 => ?_) (fun h11 => ?_)
        · refine xTr.ms 2 (g := (119, [(0, .ref 0), (1, .int a.1), (2, .int a.2.1), (3, .int a.2.2.1), (4, .int a.2.2.2.1), (6, .int a.2.2.2.2.2.1), (8, .int v10)], [.int (1 : Int32), .int a.2.2.2.2.1], a.2.2.2.2.2.2)) rfl ?_
          exact F_X9_readsTown_L26_J119_ok a.1 a.2.1 a.2.2.1 a.2.2.2.1 a.2.2.2.2.2.1 v10 a.2.2.2.2.1 (1 : Int32) a.2.2.2.2.2.2
        · refine xTr.ms 1 (g := (119, [(0, .ref 0), (1, .int a.1), (2, .int a.2.1), (3, .int a.2.2.1), (4, .int a.2.2.2.1), (6, .int a.2.2.2.2.2.1), (8, .int v10)], [.int (0 : Int32), .int a.2.2.2.2.1], a.2.2.2.2.2.2)) rfl ?_
          exact F_X9_readsTown_L26_J119_ok a.1 a.2.1 a.2.2.1 a.2.2.2.1 a.2.2.2.2.2.1 v10 a.2.2.2.2.1 (0 : Int32) a.2.2.2.2.2.2
set_option maxRecDepth 100000 in
theorem F_X9_readsTown_J193_ok (j1 : Int32) (j2 : Int32) (j3 : Int32) (j4 : Int32) (js : xS) : xTr xMs xML xR_X9_readsTown (Sum.inl (193, [(0, .ref 0), (1, .int j1), (2, .int j2), (3, .int j3), (4, .int j4)], [], js)) (F_X9_readsTown_J193 j1 j2 j3 j4 js) (fun (y : Int32 × xS) => Sum.inr (some (.int y.1), y.2)) := by
  unfold F_X9_readsTown_J193
  refine xTr.ms 5 (g := (200, [(0, .ref 0), (1, .int j1), (2, .int j2), (3, .int j3), (4, .int j4)], [.int (js.1 1 0), .ref 0], js)) rfl ?_
  refine xTr.br (g1 := (203, [(0, .ref 0), (1, .int j1), (2, .int j2), (3, .int j3), (4, .int j4)], [.ref 0], js)) (g2 := (207, [(0, .ref 0), (1, .int j1), (2, .int j2), (3, .int j3), (4, .int j4)], [.ref 0], js)) rfl (fun h18 => ?_) (fun h18 => ?_)
  · refine xTr.ms 7 (g := (226, [(0, .ref 0), (3, .int j3)], [.int (-1 : Int32)], (xu (xu js 0 2 (1 : Int32)) 0 3 j3))) rfl ?_
    exact xTr.ret rfl rfl rfl
  · refine xTr.ms 1 (g := (208, [(0, .ref 0), (1, .int j1), (2, .int j2), (3, .int j3), (4, .int j4)], [.int j1, .ref 0], js)) rfl ?_
    refine xTr.br (g1 := (211, [(0, .ref 0), (1, .int j1), (2, .int j2), (3, .int j3), (4, .int j4)], [.ref 0], js)) (g2 := (215, [(0, .ref 0), (1, .int j1), (2, .int j2), (3, .int j3), (4, .int j4)], [.ref 0], js)) rfl (fun h19 => ?_) (fun h19 => ?_)
    · refine xTr.ms 7 (g := (226, [(0, .ref 0), (3, .int j3)], [.int (-1 : Int32)], (xu (xu js 0 2 j2) 0 3 j3))) rfl ?_
      exact xTr.ret rfl rfl rfl
    · refine xTr.ms 6 (g := (226, [(0, .ref 0), (3, .int j3)], [.int (-1 : Int32)], (xu (xu js 0 2 j4) 0 3 j3))) rfl ?_
      exact xTr.ret rfl rfl rfl
set_option maxRecDepth 100000 in
theorem ok_X9_readsTown (s : xS) : xTr xMs xML xR_X9_readsTown (Sum.inl (0, [(0, .ref 0)], [], s)) (F_X9_readsTown s) (fun (y : Int32 × xS) => Sum.inr (some (.int y.1), y.2)) := by
  unfold F_X9_readsTown
  refine xTr.ms 18 (g := (26, [(0, .ref 0), (1, .int (0 : Int32)), (2, .int (0 : Int32)), (3, .int (0 : Int32)), (4, .int (6 : Int32)), (5, .int (0 : Int32)), (6, .int (0 : Int32))], [], (xu (xu s 0 3 (0 : Int32)) 0 2 (1 : Int32)))) rfl ?_
  refine xTr.bind (J := F_X9_readsTown_L26_ex) (xTr.loop (hd := F_X9_readsTown_L26_hd) (fun aa => F_X9_readsTown_L26_ok aa) 100000 ((0 : Int32), (0 : Int32), (0 : Int32), (6 : Int32), (0 : Int32), (0 : Int32), (xu (xu s 0 3 (0 : Int32)) 0 2 (1 : Int32)))) (fun b16 => ?_)
  rcases b16 with b16_0 | b16_1 | b16_2 | b16_3
  · refine xTr.ms 1 (g := (54, [(6, .int b16_0.1)], [.int b16_0.1], b16_0.2)) rfl ?_
    exact xTr.ret rfl rfl rfl
  · refine xTr.ms 1 (g := (78, [(6, .int b16_1.1)], [.int b16_1.1], b16_1.2)) rfl ?_
    exact xTr.ret rfl rfl rfl
  · refine xTr.ms 1 (g := (142, [(6, .int b16_2.1)], [.int b16_2.1], b16_2.2)) rfl ?_
    exact xTr.ret rfl rfl rfl
  · refine xTr.ms 4 (g := (169, [(0, .ref 0), (1, .int b16_3.1), (2, .int b16_3.2.1), (3, .int b16_3.2.2.1), (4, .int b16_3.2.2.2.1)], [.int (b16_3.2.2.2.2.1 1 0)], b16_3.2.2.2.2)) rfl ?_
    refine xTr.br (g1 := (193, [(0, .ref 0), (1, .int b16_3.1), (2, .int b16_3.2.1), (3, .int b16_3.2.2.1), (4, .int b16_3.2.2.2.1)], [], b16_3.2.2.2.2)) (g2 := (172, [(0, .ref 0), (1, .int b16_3.1), (2, .int b16_3.2.1), (3, .int b16_3.2.2.1), (4, .int b16_3.2.2.2.1)], [], b16_3.2.2.2.2)) rfl (fun h17 => ?_) (fun h17 => ?_)
    · exact F_X9_readsTown_J193_ok b16_3.1 b16_3.2.1 b16_3.2.2.1 b16_3.2.2.2.1 b16_3.2.2.2.2
    · refine xTr.ms 1 (g := (173, [(0, .ref 0), (1, .int b16_3.1), (2, .int b16_3.2.1), (3, .int b16_3.2.2.1), (4, .int b16_3.2.2.2.1)], [.int b16_3.2.1], b16_3.2.2.2.2)) rfl ?_
      refine xTr.br (g1 := (186, [(0, .ref 0), (1, .int b16_3.1), (2, .int b16_3.2.1), (3, .int b16_3.2.2.1), (4, .int b16_3.2.2.2.1)], [], b16_3.2.2.2.2)) (g2 := (176, [(0, .ref 0), (1, .int b16_3.1), (2, .int b16_3.2.1), (3, .int b16_3.2.2.1), (4, .int b16_3.2.2.2.1)], [], b16_3.2.2.2.2)) rfl (fun h20 => ?_) (fun h20 => ?_)
      · refine xTr.ms 4 (g := (192, [(0, .ref 0)], [.int (b16_3.2.2.2.2.1 1 0)], b16_3.2.2.2.2)) rfl ?_
        exact xTr.ret rfl rfl rfl
      · refine xTr.ms 1 (g := (177, [(0, .ref 0), (1, .int b16_3.1), (2, .int b16_3.2.1), (3, .int b16_3.2.2.1), (4, .int b16_3.2.2.2.1)], [.int b16_3.1], b16_3.2.2.2.2)) rfl ?_
        refine xTr.br (g1 := (193, [(0, .ref 0), (1, .int b16_3.1), (2, .int b16_3.2.1), (3, .int b16_3.2.2.1), (4, .int b16_3.2.2.2.1)], [], b16_3.2.2.2.2)) (g2 := (180, [(0, .ref 0), (1, .int b16_3.1), (2, .int b16_3.2.1), (3, .int b16_3.2.2.1), (4, .int b16_3.2.2.2.1)], [], b16_3.2.2.2.2)) rfl (fun h21 => ?_) (fun h21 => ?_)
        · exact F_X9_readsTown_J193_ok b16_3.1 b16_3.2.1 b16_3.2.2.1 b16_3.2.2.2.1 b16_3.2.2.2.2
        · refine xTr.ms 2 (g := (183, [(0, .ref 0), (1, .int b16_3.1), (2, .int b16_3.2.1), (3, .int b16_3.2.2.1), (4, .int b16_3.2.2.2.1)], [.int b16_3.2.2.2.1, .int b16_3.2.1], b16_3.2.2.2.2)) rfl ?_
          refine xTr.br (g1 := (193, [(0, .ref 0), (1, .int b16_3.1), (2, .int b16_3.2.1), (3, .int b16_3.2.2.1), (4, .int b16_3.2.2.2.1)], [], b16_3.2.2.2.2)) (g2 := (186, [(0, .ref 0), (1, .int b16_3.1), (2, .int b16_3.2.1), (3, .int b16_3.2.2.1), (4, .int b16_3.2.2.2.1)], [], b16_3.2.2.2.2)) rfl (fun h22 => ?_) (fun h22 => ?_)
          · exact F_X9_readsTown_J193_ok b16_3.1 b16_3.2.1 b16_3.2.2.1 b16_3.2.2.2.1 b16_3.2.2.2.2
          · refine xTr.ms 4 (g := (192, [(0, .ref 0)], [.int (b16_3.2.2.2.2.1 1 0)], b16_3.2.2.2.2)) rfl ?_
            exact xTr.ret rfl rfl rfl
-- X9_figureAt
def F_X9_figureAt (l1 : Int32) (l2 : Int32) (s : xS) : Option (Int32) := (F_X9_byteAt (1 : Int32) l1 s).bind fun v1 => ((F_X9_in (v1 - (48 : Int32)) (0 : Int32) l2 s).bind fun v2 => (if v2 = 0 then (some (-1 : Int32)) else (some (v1 - (48 : Int32)))))
set_option maxRecDepth 100000 in
theorem ok_X9_figureAt (l1 : Int32) (l2 : Int32) (s : xS) : xTr xMs xML xR_X9_figureAt (Sum.inl (0, [(0, .ref 0), (1, .int l1), (2, .int l2)], [], s)) (F_X9_figureAt l1 l2 s) (fun (y : Int32) => Sum.inr (some (.int y), s)) := by
  unfold F_X9_figureAt
  refine xTr.ms 3 (g := (3, [(0, .ref 0), (1, .int l1), (2, .int l2)], [.int l1, .int (1 : Int32), .ref 0], s)) rfl ?_
  refine xTr.callip (R' := xR_X9_byteAt) (as := [.ref 0, .int (1 : Int32), .int l1]) (lv := [(0, .ref 0), (1, .int l1), (2, .int l2)]) (rest := []) (ok_X9_byteAt (1 : Int32) l1 s) rfl rfl rfl rfl rfl (fun v1 => ?_)
  refine xTr.ms 6 (g := (13, [(0, .ref 0), (1, .int l1), (2, .int l2), (3, .int (v1 - (48 : Int32)))], [.int l2, .int (0 : Int32), .int (v1 - (48 : Int32))], s)) rfl ?_
  refine xTr.callip (R' := xR_X9_in) (as := [.int (v1 - (48 : Int32)), .int (0 : Int32), .int l2]) (lv := [(0, .ref 0), (1, .int l1), (2, .int l2), (3, .int (v1 - (48 : Int32)))]) (rest := []) (ok_X9_in (v1 - (48 : Int32)) (0 : Int32) l2 s) rfl rfl rfl rfl rfl (fun v2 => ?_)
  refine xTr.br (g1 := (23, [(0, .ref 0), (1, .int l1), (2, .int l2), (3, .int (v1 - (48 : Int32)))], [], s)) (g2 := (19, [(0, .ref 0), (1, .int l1), (2, .int l2), (3, .int (v1 - (48 : Int32)))], [], s)) rfl (fun h3 => ?_) (fun h3 => ?_)
  · refine xTr.ms 1 (g := (24, [], [.int (-1 : Int32)], s)) rfl ?_
    exact xTr.ret rfl rfl rfl
  · refine xTr.ms 2 (g := (24, [(3, .int (v1 - (48 : Int32)))], [.int (v1 - (48 : Int32))], s)) rfl ?_
    exact xTr.ret rfl rfl rfl
-- X9_readsDeed
def F_X9_readsDeed_J73 (l1 : Int32) (l2 : Int32) (j3 : Int32) (j4 : Int32) (t0 : Int32) (js : xS) : Option (Int32 × xS) := (F_X9_figureAt (l2 + (3 : Int32)) (9 : Int32) js).bind fun v5 => (if j3 = (-1 : Int32) then (some ((0 : Int32), js)) else (if j4 = (-1 : Int32) then (some ((1 : Int32), js)) else (if t0 = (-1 : Int32) then (some ((2 : Int32), js)) else (if v5 = (-1 : Int32) then (some ((3 : Int32), js)) else (if l1 < 0 ∨ 9 ≤ l1.toNatClampNeg then none else (if l1 < 0 ∨ 9 ≤ l1.toNatClampNeg then none else (if l1 < 0 ∨ 9 ≤ l1.toNatClampNeg then none else (some ((4 : Int32), (xu (xu (xu js 4 l1.toNatClampNeg (((10 : Int32) * j3) + j4)) 5 l1.toNatClampNeg t0) 6 l1.toNatClampNeg v5))))))))))
def F_X9_readsDeed (l1 : Int32) (l2 : Int32) (s : xS) : Option (Int32 × xS) := (F_X9_figureAt l2 (3 : Int32) s).bind fun v1 => ((F_X9_figureAt (l2 + (1 : Int32)) (9 : Int32) s).bind fun v2 => ((F_X9_byteAt (1 : Int32) (l2 + (2 : Int32)) s).bind fun v3 => (if v3 = (119 : Int32) then (F_X9_readsDeed_J73 l1 l2 v1 v2 (0 : Int32) s) else (if v3 = (99 : Int32) then (F_X9_readsDeed_J73 l1 l2 v1 v2 (1 : Int32) s) else (if v3 = (107 : Int32) then (F_X9_readsDeed_J73 l1 l2 v1 v2 (2 : Int32) s) else (if v3 = (110 : Int32) then (F_X9_readsDeed_J73 l1 l2 v1 v2 (3 : Int32) s) else (F_X9_readsDeed_J73 l1 l2 v1 v2 (-1 : Int32) s)))))))
set_option maxRecDepth 100000 in
theorem F_X9_readsDeed_J73_ok (l1 : Int32) (l2 : Int32) (j3 : Int32) (j4 : Int32) (t0 : Int32) (js : xS) : xTr xMs xML xR_X9_readsDeed (Sum.inl (73, [(0, .ref 0), (1, .int l1), (2, .int l2), (3, .int j3), (4, .int j4)], [.int t0], js)) (F_X9_readsDeed_J73 l1 l2 j3 j4 t0 js) (fun (y : Int32 × xS) => Sum.inr (some (.int y.1), y.2)) := by
  unfold F_X9_readsDeed_J73
  refine xTr.ms 6 (g := (81, [(0, .ref 0), (1, .int l1), (2, .int l2), (3, .int j3), (4, .int j4), (6, .int t0)], [.int (9 : Int32), .int (l2 + (3 : Int32)), .ref 0], js)) rfl ?_
  refine xTr.callip (R' := xR_X9_figureAt) (as := [.ref 0, .int (l2 + (3 : Int32)), .int (9 : Int32)]) (lv := [(0, .ref 0), (1, .int l1), (2, .int l2), (3, .int j3), (4, .int j4), (6, .int t0)]) (rest := []) (ok_X9_figureAt (l2 + (3 : Int32)) (9 : Int32) js) rfl rfl rfl rfl rfl (fun v5 => ?_)
  refine xTr.ms 3 (g := (88, [(0, .ref 0), (1, .int l1), (2, .int l2), (3, .int j3), (4, .int j4), (6, .int t0), (7, .int v5)], [.int (-1 : Int32), .int j3], js)) rfl ?_
  refine xTr.br (g1 := (91, [(0, .ref 0), (1, .int l1), (2, .int l2), (3, .int j3), (4, .int j4), (6, .int t0), (7, .int v5)], [], js)) (g2 := (93, [(0, .ref 0), (1, .int l1), (2, .int l2), (3, .int j3), (4, .int j4), (6, .int t0), (7, .int v5)], [], js)) rfl (fun h6 => ?_) (fun h6 => ?_)
  · refine xTr.ms 1 (g := (92, [], [.int (0 : Int32)], js)) rfl ?_
    exact xTr.ret rfl rfl rfl
  · refine xTr.ms 2 (g := (96, [(0, .ref 0), (1, .int l1), (3, .int j3), (4, .int j4), (6, .int t0), (7, .int v5)], [.int (-1 : Int32), .int j4], js)) rfl ?_
    refine xTr.br (g1 := (99, [(0, .ref 0), (1, .int l1), (3, .int j3), (4, .int j4), (6, .int t0), (7, .int v5)], [], js)) (g2 := (101, [(0, .ref 0), (1, .int l1), (3, .int j3), (4, .int j4), (6, .int t0), (7, .int v5)], [], js)) rfl (fun h7 => ?_) (fun h7 => ?_)
    · refine xTr.ms 1 (g := (100, [], [.int (1 : Int32)], js)) rfl ?_
      exact xTr.ret rfl rfl rfl
    · refine xTr.ms 2 (g := (104, [(0, .ref 0), (1, .int l1), (3, .int j3), (4, .int j4), (6, .int t0), (7, .int v5)], [.int (-1 : Int32), .int t0], js)) rfl ?_
      refine xTr.br (g1 := (107, [(0, .ref 0), (1, .int l1), (3, .int j3), (4, .int j4), (6, .int t0), (7, .int v5)], [], js)) (g2 := (109, [(0, .ref 0), (1, .int l1), (3, .int j3), (4, .int j4), (6, .int t0), (7, .int v5)], [], js)) rfl (fun h8 => ?_) (fun h8 => ?_)
      · refine xTr.ms 1 (g := (108, [], [.int (2 : Int32)], js)) rfl ?_
        exact xTr.ret rfl rfl rfl
      · refine xTr.ms 2 (g := (112, [(0, .ref 0), (1, .int l1), (3, .int j3), (4, .int j4), (6, .int t0), (7, .int v5)], [.int (-1 : Int32), .int v5], js)) rfl ?_
        refine xTr.br (g1 := (115, [(0, .ref 0), (1, .int l1), (3, .int j3), (4, .int j4), (6, .int t0), (7, .int v5)], [], js)) (g2 := (117, [(0, .ref 0), (1, .int l1), (3, .int j3), (4, .int j4), (6, .int t0), (7, .int v5)], [], js)) rfl (fun h9 => ?_) (fun h9 => ?_)
        · refine xTr.ms 1 (g := (116, [], [.int (3 : Int32)], js)) rfl ?_
          exact xTr.ret rfl rfl rfl
        · refine xTr.ms 8 (g := (129, [(0, .ref 0), (1, .int l1), (3, .int j3), (4, .int j4), (6, .int t0), (7, .int v5)], [.int (((10 : Int32) * j3) + j4), .int l1, .ref 4], js)) rfl ?_
          refine xTr.ck (g := (130, [(0, .ref 0), (1, .int l1), (3, .int j3), (4, .int j4), (6, .int t0), (7, .int v5)], [], (xu js 4 l1.toNatClampNeg (((10 : Int32) * j3) + j4)))) rfl (fun h10 => ?_)
          refine xTr.ms 4 (g := (137, [(0, .ref 0), (1, .int l1), (3, .int j3), (4, .int j4), (6, .int t0), (7, .int v5)], [.int t0, .int l1, .ref 5], (xu js 4 l1.toNatClampNeg (((10 : Int32) * j3) + j4)))) rfl ?_
          refine xTr.ck (g := (138, [(0, .ref 0), (1, .int l1), (3, .int j3), (4, .int j4), (6, .int t0), (7, .int v5)], [], (xu (xu js 4 l1.toNatClampNeg (((10 : Int32) * j3) + j4)) 5 l1.toNatClampNeg t0))) rfl (fun h11 => ?_)
          refine xTr.ms 4 (g := (145, [(0, .ref 0), (1, .int l1), (3, .int j3), (4, .int j4), (6, .int t0), (7, .int v5)], [.int v5, .int l1, .ref 6], (xu (xu js 4 l1.toNatClampNeg (((10 : Int32) * j3) + j4)) 5 l1.toNatClampNeg t0))) rfl ?_
          refine xTr.ck (g := (146, [(0, .ref 0), (1, .int l1), (3, .int j3), (4, .int j4), (6, .int t0), (7, .int v5)], [], (xu (xu (xu js 4 l1.toNatClampNeg (((10 : Int32) * j3) + j4)) 5 l1.toNatClampNeg t0) 6 l1.toNatClampNeg v5))) rfl (fun h12 => ?_)
          refine xTr.ms 1 (g := (147, [(0, .ref 0), (1, .int l1), (3, .int j3), (4, .int j4), (6, .int t0), (7, .int v5)], [.int (4 : Int32)], (xu (xu (xu js 4 l1.toNatClampNeg (((10 : Int32) * j3) + j4)) 5 l1.toNatClampNeg t0) 6 l1.toNatClampNeg v5))) rfl ?_
          exact xTr.ret rfl rfl rfl
set_option maxRecDepth 100000 in
theorem ok_X9_readsDeed (l1 : Int32) (l2 : Int32) (s : xS) : xTr xMs xML xR_X9_readsDeed (Sum.inl (0, [(0, .ref 0), (1, .int l1), (2, .int l2)], [], s)) (F_X9_readsDeed l1 l2 s) (fun (y : Int32 × xS) => Sum.inr (some (.int y.1), y.2)) := by
  unfold F_X9_readsDeed
  refine xTr.ms 3 (g := (3, [(0, .ref 0), (1, .int l1), (2, .int l2)], [.int (3 : Int32), .int l2, .ref 0], s)) rfl ?_
  refine xTr.callip (R' := xR_X9_figureAt) (as := [.ref 0, .int l2, .int (3 : Int32)]) (lv := [(0, .ref 0), (1, .int l1), (2, .int l2)]) (rest := []) (ok_X9_figureAt l2 (3 : Int32) s) rfl rfl rfl rfl rfl (fun v1 => ?_)
  refine xTr.ms 6 (g := (13, [(0, .ref 0), (1, .int l1), (2, .int l2), (3, .int v1)], [.int (9 : Int32), .int (l2 + (1 : Int32)), .ref 0], s)) rfl ?_
  refine xTr.callip (R' := xR_X9_figureAt) (as := [.ref 0, .int (l2 + (1 : Int32)), .int (9 : Int32)]) (lv := [(0, .ref 0), (1, .int l1), (2, .int l2), (3, .int v1)]) (rest := []) (ok_X9_figureAt (l2 + (1 : Int32)) (9 : Int32) s) rfl rfl rfl rfl rfl (fun v2 => ?_)
  refine xTr.ms 6 (g := (23, [(0, .ref 0), (1, .int l1), (2, .int l2), (3, .int v1), (4, .int v2)], [.int (l2 + (2 : Int32)), .int (1 : Int32), .ref 0], s)) rfl ?_
  refine xTr.callip (R' := xR_X9_byteAt) (as := [.ref 0, .int (1 : Int32), .int (l2 + (2 : Int32))]) (lv := [(0, .ref 0), (1, .int l1), (2, .int l2), (3, .int v1), (4, .int v2)]) (rest := []) (ok_X9_byteAt (1 : Int32) (l2 + (2 : Int32)) s) rfl rfl rfl rfl rfl (fun v3 => ?_)
  refine xTr.ms 3 (g := (32, [(0, .ref 0), (1, .int l1), (2, .int l2), (3, .int v1), (4, .int v2), (5, .int v3)], [.int (119 : Int32), .int v3], s)) rfl ?_
  refine xTr.br (g1 := (35, [(0, .ref 0), (1, .int l1), (2, .int l2), (3, .int v1), (4, .int v2), (5, .int v3)], [], s)) (g2 := (39, [(0, .ref 0), (1, .int l1), (2, .int l2), (3, .int v1), (4, .int v2), (5, .int v3)], [], s)) rfl (fun h4 => ?_) (fun h4 => ?_)
  · refine xTr.ms 2 (g := (73, [(0, .ref 0), (1, .int l1), (2, .int l2), (3, .int v1), (4, .int v2)], [.int (0 : Int32)], s)) rfl ?_
    exact F_X9_readsDeed_J73_ok l1 l2 v1 v2 (0 : Int32) s
  · refine xTr.ms 2 (g := (43, [(0, .ref 0), (1, .int l1), (2, .int l2), (3, .int v1), (4, .int v2), (5, .int v3)], [.int (99 : Int32), .int v3], s)) rfl ?_
    refine xTr.br (g1 := (46, [(0, .ref 0), (1, .int l1), (2, .int l2), (3, .int v1), (4, .int v2), (5, .int v3)], [], s)) (g2 := (50, [(0, .ref 0), (1, .int l1), (2, .int l2), (3, .int v1), (4, .int v2), (5, .int v3)], [], s)) rfl (fun h13 => ?_) (fun h13 => ?_)
    · refine xTr.ms 2 (g := (73, [(0, .ref 0), (1, .int l1), (2, .int l2), (3, .int v1), (4, .int v2)], [.int (1 : Int32)], s)) rfl ?_
      exact F_X9_readsDeed_J73_ok l1 l2 v1 v2 (1 : Int32) s
    · refine xTr.ms 2 (g := (54, [(0, .ref 0), (1, .int l1), (2, .int l2), (3, .int v1), (4, .int v2), (5, .int v3)], [.int (107 : Int32), .int v3], s)) rfl ?_
      refine xTr.br (g1 := (57, [(0, .ref 0), (1, .int l1), (2, .int l2), (3, .int v1), (4, .int v2), (5, .int v3)], [], s)) (g2 := (61, [(0, .ref 0), (1, .int l1), (2, .int l2), (3, .int v1), (4, .int v2), (5, .int v3)], [], s)) rfl (fun h14 => ?_) (fun h14 => ?_)
      · refine xTr.ms 2 (g := (73, [(0, .ref 0), (1, .int l1), (2, .int l2), (3, .int v1), (4, .int v2)], [.int (2 : Int32)], s)) rfl ?_
        exact F_X9_readsDeed_J73_ok l1 l2 v1 v2 (2 : Int32) s
      · refine xTr.ms 2 (g := (65, [(0, .ref 0), (1, .int l1), (2, .int l2), (3, .int v1), (4, .int v2), (5, .int v3)], [.int (110 : Int32), .int v3], s)) rfl ?_
        refine xTr.br (g1 := (68, [(0, .ref 0), (1, .int l1), (2, .int l2), (3, .int v1), (4, .int v2), (5, .int v3)], [], s)) (g2 := (72, [(0, .ref 0), (1, .int l1), (2, .int l2), (3, .int v1), (4, .int v2), (5, .int v3)], [], s)) rfl (fun h15 => ?_) (fun h15 => ?_)
        · refine xTr.ms 2 (g := (73, [(0, .ref 0), (1, .int l1), (2, .int l2), (3, .int v1), (4, .int v2)], [.int (3 : Int32)], s)) rfl ?_
          exact F_X9_readsDeed_J73_ok l1 l2 v1 v2 (3 : Int32) s
        · refine xTr.ms 1 (g := (73, [(0, .ref 0), (1, .int l1), (2, .int l2), (3, .int v1), (4, .int v2)], [.int (-1 : Int32)], s)) rfl ?_
          exact F_X9_readsDeed_J73_ok l1 l2 v1 v2 (-1 : Int32) s
