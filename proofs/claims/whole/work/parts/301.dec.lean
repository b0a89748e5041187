-- X7_link
def F_X7_link_L4_J114 (j1 : Int32) (j2 : Int32) (t1 : Int32) (t2 : Int32) (js : xS) : Option ((Int32 × Int32 × xS) ⊕ (xS)) := if t1 < 0 ∨ 144 ≤ t1.toNatClampNeg then none else (if (js.1 5 3) ≤ (j1 + (1 : Int32)) then (some (Sum.inl ((0 : Int32), (j2 + (1 : Int32)), (xu js 7 t1.toNatClampNeg t2)))) else (some (Sum.inl ((j1 + (1 : Int32)), (j2 + (1 : Int32)), (xu js 7 t1.toNatClampNeg t2)))))
def F_X7_link_L4_J95 (j1 : Int32) (j2 : Int32) (j3 : Int32) (t1 : Int32) (t2 : Int32) (js : xS) : Option ((Int32 × Int32 × xS) ⊕ (xS)) := if t1 < 0 ∨ 144 ≤ t1.toNatClampNeg then none else (if j1 ≤ 0 then (F_X7_link_L4_J114 j1 j2 (j3 + (3 : Int32)) (-1 : Int32) (xu js 7 t1.toNatClampNeg t2)) else (F_X7_link_L4_J114 j1 j2 (j3 + (3 : Int32)) (j2 - (1 : Int32)) (xu js 7 t1.toNatClampNeg t2)))
def F_X7_link_L4_J64 (j1 : Int32) (j2 : Int32) (j3 : Int32) (t1 : Int32) (t2 : Int32) (js : xS) : Option ((Int32 × Int32 × xS) ⊕ (xS)) := if t1 < 0 ∨ 144 ≤ t1.toNatClampNeg then none else (if (js.1 5 2) ≤ (j2 + (js.1 5 3)) then (F_X7_link_L4_J95 j1 j2 j3 (j3 + (2 : Int32)) (-1 : Int32) (xu js 7 t1.toNatClampNeg t2)) else (F_X7_link_L4_J95 j1 j2 j3 (j3 + (2 : Int32)) (j2 + (js.1 5 3)) (xu js 7 t1.toNatClampNeg t2)))
def F_X7_link_L4_J39 (j1 : Int32) (j2 : Int32) (j3 : Int32) (t1 : Int32) (t2 : Int32) (js : xS) : Option ((Int32 × Int32 × xS) ⊕ (xS)) := if t1 < 0 ∨ 144 ≤ t1.toNatClampNeg then none else (if (js.1 5 3) ≤ (j1 + (1 : Int32)) then (F_X7_link_L4_J64 j1 j2 j3 (j3 + (1 : Int32)) (-1 : Int32) (xu js 7 t1.toNatClampNeg t2)) else (F_X7_link_L4_J64 j1 j2 j3 (j3 + (1 : Int32)) (j2 + (1 : Int32)) (xu js 7 t1.toNatClampNeg t2)))
def F_X7_link_L4 (a : Int32 × Int32 × xS) : Option ((Int32 × Int32 × xS) ⊕ (xS)) := if (a.2.2.1 5 2) ≤ a.2.1 then (some (Sum.inr a.2.2)) else (if a.2.1 < (a.2.2.1 5 3) then (F_X7_link_L4_J39 a.1 a.2.1 (a.2.1 * (4 : Int32)) (a.2.1 * (4 : Int32)) (-1 : Int32) a.2.2) else (F_X7_link_L4_J39 a.1 a.2.1 (a.2.1 * (4 : Int32)) (a.2.1 * (4 : Int32)) (a.2.1 - (a.2.2.1 5 3)) a.2.2))
def F_X7_link (s : xS) : Option (xS) := (xlp (F_X7_link_L4) 100000 ((0 : Int32), (0 : Int32), s)).bind (fun b11 => (some b11))
def F_X7_link_L4_hd (a : Int32 × Int32 × xS) : xT := Sum.inl (4, [(0, .ref 5), (1, .int a.1), (2, .int a.2.1)], [], a.2.2)
def F_X7_link_L4_ex : (xS) → xT := (fun (z : xS) => Sum.inl (139, [], [], z))
set_option maxRecDepth 100000 in
theorem F_X7_link_L4_J114_ok (j1 : Int32) (j2 : Int32) (t1 : Int32) (t2 : Int32) (js : xS) : xTr xMs xFL xR_X7_link (Sum.inl (114, [(0, .ref 5), (1, .int j1), (2, .int j2)], [.int t2, .int t1, .ref 7], js)) (F_X7_link_L4_J114 j1 j2 t1 t2 js) (xhx (F_X7_link_L4_hd) (F_X7_link_L4_ex)) := by
  unfold F_X7_link_L4_J114
  refine xTr.ck (g := (115, [(0, .ref 5), (1, .int j1), (2, .int j2)], [], (xu js 7 t1.toNatClampNeg t2))) rfl (fun h9 => ?_)
  refine xTr.ms 5 (g := (122, [(0, .ref 5), (1, .int j1), (2, .int j2)], [.int (js.1 5 3), .int (j1 + (1 : Int32))], (xu js 7 t1.toNatClampNeg t2))) rfl ?_
  refine xTr.br (g1 := (131, [(0, .ref 5), (1, .int j1), (2, .int j2)], [], (xu js 7 t1.toNatClampNeg t2))) (g2 := (125, [(0, .ref 5), (1, .int j1), (2, .int j2)], [], (xu js 7 t1.toNatClampNeg t2))) rfl (fun h10 => ?_) (fun h10 => ?_)
  · refine xTr.ms 4 (g := (4, [(0, .ref 5), (1, .int (0 : Int32)), (2, .int (j2 + (1 : Int32)))], [], (xu js 7 t1.toNatClampNeg t2))) rfl ?_
    exact xTr.leaf rfl
  · refine xTr.ms 7 (g := (4, [(0, .ref 5), (1, .int (j1 + (1 : Int32))), (2, .int (j2 + (1 : Int32)))], [], (xu js 7 t1.toNatClampNeg t2))) rfl ?_
    exact xTr.leaf rfl
set_option maxRecDepth 100000 in
theorem F_X7_link_L4_J95_ok (j1 : Int32) (j2 : Int32) (j3 : Int32) (t1 : Int32) (t2 : Int32) (js : xS) : xTr xMs xFL xR_X7_link (Sum.inl (95, [(0, .ref 5), (1, .int j1), (2, .int j2), (3, .int j3)], [.int t2, .int t1, .ref 7], js)) (F_X7_link_L4_J95 j1 j2 j3 t1 t2 js) (xhx (F_X7_link_L4_hd) (F_X7_link_L4_ex)) := by
  unfold F_X7_link_L4_J95
  refine xTr.ck (g := (96, [(0, .ref 5), (1, .int j1), (2, .int j2), (3, .int j3)], [], (xu js 7 t1.toNatClampNeg t2))) rfl (fun h7 => ?_)
  refine xTr.ms 6 (g := (104, [(0, .ref 5), (1, .int j1), (2, .int j2), (3, .int j3)], [.int j1, .int (j3 + (3 : Int32)), .ref 7], (xu js 7 t1.toNatClampNeg t2))) rfl ?_
  refine xTr.br (g1 := (113, [(0, .ref 5), (1, .int j1), (2, .int j2), (3, .int j3)], [.int (j3 + (3 : Int32)), .ref 7], (xu js 7 t1.toNatClampNeg t2))) (g2 := (107, [(0, .ref 5), (1, .int j1), (2, .int j2), (3, .int j3)], [.int (j3 + (3 : Int32)), .ref 7], (xu js 7 t1.toNatClampNeg t2))) rfl (fun h8 => ?_) (fun h8 => ?_)
  · refine xTr.ms 1 (g := (114, [(0, .ref 5), (1, .int j1), (2, .int j2)], [.int (-1 : Int32), .int (j3 + (3 : Int32)), .ref 7], (xu js 7 t1.toNatClampNeg t2))) rfl ?_
    exact F_X7_link_L4_J114_ok j1 j2 (j3 + (3 : Int32)) (-1 : Int32) (xu js 7 t1.toNatClampNeg t2)
  · refine xTr.ms 4 (g := (114, [(0, .ref 5), (1, .int j1), (2, .int j2)], [.int (j2 - (1 : Int32)), .int (j3 + (3 : Int32)), .ref 7], (xu js 7 t1.toNatClampNeg t2))) rfl ?_
    exact F_X7_link_L4_J114_ok j1 j2 (j3 + (3 : Int32)) (j2 - (1 : Int32)) (xu js 7 t1.toNatClampNeg t2)
set_option maxRecDepth 100000 in
theorem F_X7_link_L4_J64_ok (j1 : Int32) (j2 : Int32) (j3 : Int32) (t1 : Int32) (t2 : Int32) (js : xS) : xTr xMs xFL xR_X7_link (Sum.inl (64, [(0, .ref 5), (1, .int j1), (2, .int j2), (3, .int j3)], [.int t2, .int t1, .ref 7], js)) (F_X7_link_L4_J64 j1 j2 j3 t1 t2 js) (xhx (F_X7_link_L4_hd) (F_X7_link_L4_ex)) := by
  unfold F_X7_link_L4_J64
  refine xTr.ck (g := (65, [(0, .ref 5), (1, .int j1), (2, .int j2), (3, .int j3)], [], (xu js 7 t1.toNatClampNeg t2))) rfl (fun h5 => ?_)
  refine xTr.ms 11 (g := (82, [(0, .ref 5), (1, .int j1), (2, .int j2), (3, .int j3)], [.int (js.1 5 2), .int (j2 + (js.1 5 3)), .int (j3 + (2 : Int32)), .ref 7], (xu js 7 t1.toNatClampNeg t2))) rfl ?_
  refine xTr.br (g1 := (94, [(0, .ref 5), (1, .int j1), (2, .int j2), (3, .int j3)], [.int (j3 + (2 : Int32)), .ref 7], (xu js 7 t1.toNatClampNeg t2))) (g2 := (85, [(0, .ref 5), (1, .int j1), (2, .int j2), (3, .int j3)], [.int (j3 + (2 : Int32)), .ref 7], (xu js 7 t1.toNatClampNeg t2))) rfl (fun h6 => ?_) (fun h6 => ?_)
  · refine xTr.ms 1 (g := (95, [(0, .ref 5), (1, .int j1), (2, .int j2), (3, .int j3)], [.int (-1 : Int32), .int (j3 + (2 : Int32)), .ref 7], (xu js 7 t1.toNatClampNeg t2))) rfl ?_
    exact F_X7_link_L4_J95_ok j1 j2 j3 (j3 + (2 : Int32)) (-1 : Int32) (xu js 7 t1.toNatClampNeg t2)
  · refine xTr.ms 5 (g := (95, [(0, .ref 5), (1, .int j1), (2, .int j2), (3, .int j3)], [.int (j2 + (js.1 5 3)), .int (j3 + (2 : Int32)), .ref 7], (xu js 7 t1.toNatClampNeg t2))) rfl ?_
    exact F_X7_link_L4_J95_ok j1 j2 j3 (j3 + (2 : Int32)) (j2 + (js.1 5 3)) (xu js 7 t1.toNatClampNeg t2)
set_option maxRecDepth 100000 in
theorem F_X7_link_L4_J39_ok (j1 : Int32) (j2 : Int32) (j3 : Int32) (t1 : Int32) (t2 : Int32) (js : xS) : xTr xMs xFL xR_X7_link (Sum.inl (39, [(0, .ref 5), (1, .int j1), (2, .int j2), (3, .int j3)], [.int t2, .int t1, .ref 7], js)) (F_X7_link_L4_J39 j1 j2 j3 t1 t2 js) (xhx (F_X7_link_L4_hd) (F_X7_link_L4_ex)) := by
  unfold F_X7_link_L4_J39
  refine xTr.ck (g := (40, [(0, .ref 5), (1, .int j1), (2, .int j2), (3, .int j3)], [], (xu js 7 t1.toNatClampNeg t2))) rfl (fun h3 => ?_)
  refine xTr.ms 10 (g := (54, [(0, .ref 5), (1, .int j1), (2, .int j2), (3, .int j3)], [.int (js.1 5 3), .int (j1 + (1 : Int32)), .int (j3 + (1 : Int32)), .ref 7], (xu js 7 t1.toNatClampNeg t2))) rfl ?_
  refine xTr.br (g1 := (63, [(0, .ref 5), (1, .int j1), (2, .int j2), (3, .int j3)], [.int (j3 + (1 : Int32)), .ref 7], (xu js 7 t1.toNatClampNeg t2))) (g2 := (57, [(0, .ref 5), (1, .int j1), (2, .int j2), (3, .int j3)], [.int (j3 + (1 : Int32)), .ref 7], (xu js 7 t1.toNatClampNeg t2))) rfl (fun h4 => ?_) (fun h4 => ?_)
  · refine xTr.ms 1 (g := (64, [(0, .ref 5), (1, .int j1), (2, .int j2), (3, .int j3)], [.int (-1 : Int32), .int (j3 + (1 : Int32)), .ref 7], (xu js 7 t1.toNatClampNeg t2))) rfl ?_
    exact F_X7_link_L4_J64_ok j1 j2 j3 (j3 + (1 : Int32)) (-1 : Int32) (xu js 7 t1.toNatClampNeg t2)
  · refine xTr.ms 4 (g := (64, [(0, .ref 5), (1, .int j1), (2, .int j2), (3, .int j3)], [.int (j2 + (1 : Int32)), .int (j3 + (1 : Int32)), .ref 7], (xu js 7 t1.toNatClampNeg t2))) rfl ?_
    exact F_X7_link_L4_J64_ok j1 j2 j3 (j3 + (1 : Int32)) (j2 + (1 : Int32)) (xu js 7 t1.toNatClampNeg t2)
set_option maxRecDepth 100000 in
theorem F_X7_link_L4_ok (a : Int32 × Int32 × xS) : xTr xMs xFL xR_X7_link (F_X7_link_L4_hd a) (F_X7_link_L4 a) (xhx (F_X7_link_L4_hd) (F_X7_link_L4_ex)) := by
  unfold F_X7_link_L4
  refine xTr.ms 3 (g := (9, [(0, .ref 5), (1, .int a.1), (2, .int a.2.1)], [.int (a.2.2.1 5 2), .int a.2.1], a.2.2)) rfl ?_
  refine xTr.br (g1 := (139, [(0, .ref 5), (1, .int a.1), (2, .int a.2.1)], [], a.2.2)) (g2 := (12, [(0, .ref 5), (1, .int a.1), (2, .int a.2.1)], [], a.2.2)) rfl (fun h1 => ?_) (fun h1 => ?_)
  · refine xTr.mk (lv1 := []) rfl rfl ?_
    exact xTr.leaf rfl
  · refine xTr.ms 10 (g := (26, [(0, .ref 5), (1, .int a.1), (2, .int a.2.1), (3, .int (a.2.1 * (4 : Int32)))], [.int (a.2.2.1 5 3), .int a.2.1, .int (a.2.1 * (4 : Int32)), .ref 7], a.2.2)) rfl ?_
    refine xTr.br (g1 := (38, [(0, .ref 5), (1, .int a.1), (2, .int a.2.1), (3, .int (a.2.1 * (4 : Int32)))], [.int (a.2.1 * (4 : Int32)), .ref 7], a.2.2)) (g2 := (29, [(0, .ref 5), (1, .int a.1), (2, .int a.2.1), (3, .int (a.2.1 * (4 : Int32)))], [.int (a.2.1 * (4 : Int32)), .ref 7], a.2.2)) rfl (fun h2 => ?_) (fun h2 => ?_)
    · refine xTr.ms 1 (g := (39, [(0, .ref 5), (1, .int a.1), (2, .int a.2.1), (3, .int (a.2.1 * (4 : Int32)))], [.int (-1 : Int32), .int (a.2.1 * (4 : Int32)), .ref 7], a.2.2)) rfl ?_
      exact F_X7_link_L4_J39_ok a.1 a.2.1 (a.2.1 * (4 : Int32)) (a.2.1 * (4 : Int32)) (-1 : Int32) a.2.2
    · refine xTr.ms 5 (g := (39, [(0, .ref 5), (1, .int a.1), (2, .int a.2.1), (3, .int (a.2.1 * (4 : Int32)))], [.int (a.2.1 - (a.2.2.1 5 3)), .int (a.2.1 * (4 : Int32)), .ref 7], a.2.2)) rfl ?_
      exact F_X7_link_L4_J39_ok a.1 a.2.1 (a.2.1 * (4 : Int32)) (a.2.1 * (4 : Int32)) (a.2.1 - (a.2.2.1 5 3)) a.2.2
set_option maxRecDepth 100000 in
theorem ok_X7_link (s : xS) : xTr xMs xFL xR_X7_link (Sum.inl (0, [(0, .ref 5)], [], s)) (F_X7_link s) (fun (y : xS) => Sum.inr (none, y)) := by
  unfold F_X7_link
  refine xTr.ms 4 (g := (4, [(0, .ref 5), (1, .int (0 : Int32)), (2, .int (0 : Int32))], [], s)) rfl ?_
  refine xTr.bind (J := F_X7_link_L4_ex) (xTr.loop (hd := F_X7_link_L4_hd) (fun aa => F_X7_link_L4_ok aa) 100000 ((0 : Int32), (0 : Int32), s)) (fun b11 => ?_)
  exact xTr.ret rfl rfl rfl
-- X7_readFrom
def F_X7_readFrom (s : xS) : Option (xS) := (F_X7_empty s).bind fun s2 => ((F_X7_place s2).bind fun q4 => (if q4.1 = (-1 : Int32) then ((F_X7_link (xu q4.2 5 5 q4.1)).bind fun s7 => (some s7)) else ((F_X7_empty (xu q4.2 5 5 q4.1)).bind fun s9 => ((F_X7_link s9).bind fun s11 => (some s11)))))
set_option maxRecDepth 100000 in
theorem ok_X7_readFrom (s : xS) : xTr xMs xFL xR_X7_readFrom (Sum.inl (0, [(0, .ref 5), (1, .ref 1)], [], s)) (F_X7_readFrom s) (fun (y : xS) => Sum.inr (none, y)) := by
  unfold F_X7_readFrom
  refine xTr.ms 1 (g := (1, [(0, .ref 5), (1, .ref 1)], [.ref 5], s)) rfl ?_
  refine xTr.callv (R' := xR_X7_empty) (as := [.ref 5]) (lv := [(0, .ref 5), (1, .ref 1)]) (rest := []) (ok_X7_empty s) rfl rfl rfl rfl rfl (fun s2 => ?_)
  refine xTr.ms 3 (g := (7, [(0, .ref 5), (1, .ref 1)], [.ref 1, .ref 5, .ref 5], s2)) rfl ?_
  refine xTr.calli (R' := xR_X7_place) (as := [.ref 5, .ref 1]) (lv := [(0, .ref 5), (1, .ref 1)]) (rest := [.ref 5]) (ok_X7_place s2) rfl rfl rfl rfl rfl (fun v3 s3 => ?_)
  refine xTr.ms 4 (g := (18, [(0, .ref 5), (1, .ref 1)], [.int (-1 : Int32), .int v3], (xu s3 5 5 v3))) rfl ?_
  refine xTr.br (g1 := (25, [(0, .ref 5), (1, .ref 1)], [], (xu s3 5 5 v3))) (g2 := (21, [(0, .ref 5), (1, .ref 1)], [], (xu s3 5 5 v3))) rfl (fun h5 => ?_) (fun h5 => ?_)
  · refine xTr.ms 1 (g := (26, [(0, .ref 5)], [.ref 5], (xu s3 5 5 v3))) rfl ?_
    refine xTr.callv (R' := xR_X7_link) (as := [.ref 5]) (lv := [(0, .ref 5)]) (rest := []) (ok_X7_link (xu s3 5 5 v3)) rfl rfl rfl rfl rfl (fun s7 => ?_)
    exact xTr.ret rfl rfl rfl
  · refine xTr.ms 1 (g := (22, [(0, .ref 5)], [.ref 5], (xu s3 5 5 v3))) rfl ?_
    refine xTr.callv (R' := xR_X7_empty) (as := [.ref 5]) (lv := [(0, .ref 5)]) (rest := []) (ok_X7_empty (xu s3 5 5 v3)) rfl rfl rfl rfl rfl (fun s9 => ?_)
    refine xTr.ms 1 (g := (26, [(0, .ref 5)], [.ref 5], s9)) rfl ?_
    refine xTr.callv (R' := xR_X7_link) (as := [.ref 5]) (lv := [(0, .ref 5)]) (rest := []) (ok_X7_link s9) rfl rfl rfl rfl rfl (fun s11 => ?_)
    exact xTr.ret rfl rfl rfl
-- X0_mayStand
def F_X0_mayStand (l0 : Int32) (l1 : Int32) (s : xS) : Option (Int32) := if l1 = (0 : Int32) then (if l0 < (48 : Int32) then (some (0 : Int32)) else (if (51 : Int32) < l0 then (some (0 : Int32)) else (some (1 : Int32)))) else (if l1 = (1 : Int32) then (if l0 < (48 : Int32) then (some (0 : Int32)) else (if (57 : Int32) < l0 then (some (0 : Int32)) else (some (1 : Int32)))) else (if l1 = (2 : Int32) then ((F_J0_indexOf_0f7a4 1003 ((l0).toUInt32 % 65536).toInt32 s).bind fun v8 => (if v8 < 0 then (some (0 : Int32)) else (some (1 : Int32)))) else (if l1 = (3 : Int32) then (if l0 < (48 : Int32) then (some (0 : Int32)) else (if (57 : Int32) < l0 then (some (0 : Int32)) else (some (1 : Int32)))) else (if l1 = (4 : Int32) then (if l0 = (59 : Int32) then (some (1 : Int32)) else (some (0 : Int32))) else (if l0 < (48 : Int32) then (some (0 : Int32)) else (if (57 : Int32) < l0 then (some (0 : Int32)) else (some (1 : Int32))))))))
set_option maxRecDepth 100000 in
theorem ok_X0_mayStand (l0 : Int32) (l1 : Int32) (s : xS) : xTr xMs xFL xR_X0_mayStand (Sum.inl (0, [(0, .int l0), (1, .int l1)], [], s)) (F_X0_mayStand l0 l1 s) (fun (y : Int32) => Sum.inr (some (.int y), s)) := by
  unfold F_X0_mayStand
  refine xTr.ms 1 (g := (1, [(0, .int l0), (1, .int l1)], [.int l1], s)) rfl ?_
  refine xTr.cs (fun h1 => ?_) (fun h1 => ?_)
  · refine xTr.sw (n := (if l1 = (0 : Int32) then 36 else if l1 = (1 : Int32) then 82 else if l1 = (2 : Int32) then 54 else if l1 = (3 : Int32) then 82 else if l1 = (4 : Int32) then 70 else 82)) (m := 36) (lv := [(0, .int l0), (1, .int l1)]) (st := []) (s := s) rfl (by rw [if_pos h1]) ?_
    refine xTr.ms 2 (g := (39, [(0, .int l0)], [.int (48 : Int32), .int l0], s)) rfl ?_
    refine xTr.br (g1 := (52, [(0, .int l0)], [], s)) (g2 := (42, [(0, .int l0)], [], s)) rfl (fun h2 => ?_) (fun h2 => ?_)
    · refine xTr.ms 1 (g := (53, [], [.int (0 : Int32)], s)) rfl ?_
      exact xTr.ret rfl rfl rfl
    · refine xTr.ms 2 (g := (45, [(0, .int l0)], [.int (51 : Int32), .int l0], s)) rfl ?_
      refine xTr.br (g1 := (52, [(0, .int l0)], [], s)) (g2 := (48, [(0, .int l0)], [], s)) rfl (fun h3 => ?_) (fun h3 => ?_)
      · refine xTr.ms 1 (g := (53, [], [.int (0 : Int32)], s)) rfl ?_
        exact xTr.ret rfl rfl rfl
      · refine xTr.ms 2 (g := (53, [], [.int (1 : Int32)], s)) rfl ?_
        exact xTr.ret rfl rfl rfl
  refine xTr.cs (fun h4 => ?_) (fun h4 => ?_)
  · refine xTr.sw (n := (if l1 = (0 : Int32) then 36 else if l1 = (1 : Int32) then 82 else if l1 = (2 : Int32) then 54 else if l1 = (3 : Int32) then 82 else if l1 = (4 : Int32) then 70 else 82)) (m := 82) (lv := [(0, .int l0), (1, .int l1)]) (st := []) (s := s) rfl (by rw [if_neg h1, if_pos h4]) ?_
    refine xTr.ms 2 (g := (85, [(0, .int l0)], [.int (48 : Int32), .int l0], s)) rfl ?_
    refine xTr.br (g1 := (98, [(0, .int l0)], [], s)) (g2 := (88, [(0, .int l0)], [], s)) rfl (fun h5 => ?_) (fun h5 => ?_)
    · refine xTr.ms 1 (g := (99, [], [.int (0 : Int32)], s)) rfl ?_
      exact xTr.ret rfl rfl rfl
    · refine xTr.ms 2 (g := (91, [(0, .int l0)], [.int (57 : Int32), .int l0], s)) rfl ?_
      refine xTr.br (g1 := (98, [(0, .int l0)], [], s)) (g2 := (94, [(0, .int l0)], [], s)) rfl (fun h6 => ?_) (fun h6 => ?_)
      · refine xTr.ms 1 (g := (99, [], [.int (0 : Int32)], s)) rfl ?_
        exact xTr.ret rfl rfl rfl
      · refine xTr.ms 2 (g := (99, [], [.int (1 : Int32)], s)) rfl ?_
        exact xTr.ret rfl rfl rfl
  refine xTr.cs (fun h7 => ?_) (fun h7 => ?_)
  · refine xTr.sw (n := (if l1 = (0 : Int32) then 36 else if l1 = (1 : Int32) then 82 else if l1 = (2 : Int32) then 54 else if l1 = (3 : Int32) then 82 else if l1 = (4 : Int32) then 70 else 82)) (m := 54) (lv := [(0, .int l0), (1, .int l1)]) (st := []) (s := s) rfl (by rw [if_neg h1, if_neg h4, if_pos h7]) ?_
    refine xTr.ms 3 (g := (58, [(0, .int l0)], [.int ((l0).toUInt32 % 65536).toInt32, .ref 1003], s)) rfl ?_
    refine xTr.callip (R' := xR_J0_indexOf_0f7a4) (as := [.ref 1003, .int ((l0).toUInt32 % 65536).toInt32]) (lv := [(0, .int l0)]) (rest := []) (ok_J0_indexOf_0f7a4_1003 ((l0).toUInt32 % 65536).toInt32 s) rfl rfl rfl rfl rfl (fun v8 => ?_)
    refine xTr.br (g1 := (68, [(0, .int l0)], [], s)) (g2 := (64, [(0, .int l0)], [], s)) rfl (fun h9 => ?_) (fun h9 => ?_)
    · refine xTr.ms 1 (g := (69, [], [.int (0 : Int32)], s)) rfl ?_
      exact xTr.ret rfl rfl rfl
    · refine xTr.ms 2 (g := (69, [], [.int (1 : Int32)], s)) rfl ?_
      exact xTr.ret rfl rfl rfl
  refine xTr.cs (fun h10 => ?_) (fun h10 => ?_)
  · refine xTr.sw (n := (if l1 = (0 : Int32) then 36 else if l1 = (1 : Int32) then 82 else if l1 = (2 : Int32) then 54 else if l1 = (3 : Int32) then 82 else if l1 = (4 : Int32) then 70 else 82)) (m := 82) (lv := [(0, .int l0), (1, .int l1)]) (st := []) (s := s) rfl (by rw [if_neg h1, if_neg h4, if_neg h7, if_pos h10]) ?_
    refine xTr.ms 2 (g := (85, [(0, .int l0)], [.int (48 : Int32), .int l0], s)) rfl ?_
    refine xTr.br (g1 := (98, [(0, .int l0)], [], s)) (g2 := (88, [(0, .int l0)], [], s)) rfl (fun h11 => ?_) (fun h11 => ?_)
    · refine xTr.ms 1 (g := (99, [], [.int (0 : Int32)], s)) rfl ?_
      exact xTr.ret rfl rfl rfl
    · refine xTr.ms 2 (g := (91, [(0, .int l0)], [.int (57 : Int32), .int l0], s)) rfl ?_
      refine xTr.br (g1 := (98, [(0, .int l0)], [], s)) (g2 := (94, [(0, .int l0)], [], s)) rfl (fun h12 => ?_) (fun h12 => ?_)
      · refine xTr.ms 1 (g := (99, [], [.int (0 : Int32)], s)) rfl ?_
        exact xTr.ret rfl rfl rfl
      · refine xTr.ms 2 (g := (99, [], [.int (1 : Int32)], s)) rfl ?_
        exact xTr.ret rfl rfl rfl
  refine xTr.cs (fun h13 => ?_) (fun h13 => ?_)
  · refine xTr.sw (n := (if l1 = (0 : Int32) then 36 else if l1 = (1 : Int32) then 82 else if l1 = (2 : Int32) then 54 else if l1 = (3 : Int32) then 82 else if l1 = (4 : Int32) then 70 else 82)) (m := 70) (lv := [(0, .int l0), (1, .int l1)]) (st := []) (s := s) rfl (by rw [if_neg h1, if_neg h4, if_neg h7, if_neg h10, if_pos h13]) ?_
    refine xTr.ms 2 (g := (73, [(0, .int l0)], [.int (59 : Int32), .int l0], s)) rfl ?_
    refine xTr.br (g1 := (76, [(0, .int l0)], [], s)) (g2 := (80, [(0, .int l0)], [], s)) rfl (fun h14 => ?_) (fun h14 => ?_)
    · refine xTr.ms 2 (g := (81, [], [.int (1 : Int32)], s)) rfl ?_
      exact xTr.ret rfl rfl rfl
    · refine xTr.ms 1 (g := (81, [], [.int (0 : Int32)], s)) rfl ?_
      exact xTr.ret rfl rfl rfl
  refine xTr.sw (n := (if l1 = (0 : Int32) then 36 else if l1 = (1 : Int32) then 82 else if l1 = (2 : Int32) then 54 else if l1 = (3 : Int32) then 82 else if l1 = (4 : Int32) then 70 else 82)) (m := 82) (lv := [(0, .int l0), (1, .int l1)]) (st := []) (s := s) rfl (by rw [if_neg h1, if_neg h4, if_neg h7, if_neg h10, if_neg h13]) ?_
  refine xTr.ms 2 (g := (85, [(0, .int l0)], [.int (48 : Int32), .int l0], s)) rfl ?_
  refine xTr.br (g1 := (98, [(0, .int l0)], [], s)) (g2 := (88, [(0, .int l0)], [], s)) rfl (fun h15 => ?_) (fun h15 => ?_)
  · refine xTr.ms 1 (g := (99, [], [.int (0 : Int32)], s)) rfl ?_
    exact xTr.ret rfl rfl rfl
  · refine xTr.ms 2 (g := (91, [(0, .int l0)], [.int (57 : Int32), .int l0], s)) rfl ?_
    refine xTr.br (g1 := (98, [(0, .int l0)], [], s)) (g2 := (94, [(0, .int l0)], [], s)) rfl (fun h16 => ?_) (fun h16 => ?_)
    · refine xTr.ms 1 (g := (99, [], [.int (0 : Int32)], s)) rfl ?_
      exact xTr.ret rfl rfl rfl
    · refine xTr.ms 2 (g := (99, [], [.int (1 : Int32)], s)) rfl ?_
      exact xTr.ret rfl rfl rfl
-- X0_faultOf
def F_X0_faultOf_L2 (s : xS) (a : Int32) : Option ((Int32) ⊕ ((Int32) ⊕ (Unit))) := if (s.1 3 2) ≤ a then (some (Sum.inr (Sum.inr ()))) else (if (8 : Int32) ≤ (a / (5 : Int32)) then (some (Sum.inr (Sum.inl a))) else (if a < 0 ∨ 41 ≤ a.toNatClampNeg then none else ((F_X0_mayStand (s.1 4 a.toNatClampNeg) (xrem a (5 : Int32)) s).bind fun v4 => (if v4 = 0 then (some (Sum.inr (Sum.inl a))) else (some (Sum.inl (a + (1 : Int32))))))))
def F_X0_faultOf (s : xS) : Option (Int32) := (xlp (F_X0_faultOf_L2 s) 100000 (0 : Int32)).bind (Sum.elim (fun b6_0 => (some b6_0)) (fun b6_1 => (if (s.1 3 2) = 0 then (some (-1 : Int32)) else (if (xrem (s.1 3 2) (5 : Int32)) = (4 : Int32) then (some (-1 : Int32)) else (some (s.1 3 2))))))
def F_X0_faultOf_L2_hd (s : xS) (a : Int32) : xT := Sum.inl (2, [(0, .ref 3), (1, .int a)], [], s)
def F_X0_faultOf_L2_ex (s : xS) : ((Int32) ⊕ (Unit)) → xT := (Sum.elim (fun (z : Int32) => Sum.inl (33, [(1, .int z)], [], s)) (fun (z : Unit) => Sum.inl (41, [(0, .ref 3)], [], s)))
set_option maxRecDepth 100000 in
theorem F_X0_faultOf_L2_ok (s : xS) (a : Int32) : xTr xMs xFL xR_X0_faultOf (F_X0_faultOf_L2_hd s a) (F_X0_faultOf_L2 s a) (xhx (F_X0_faultOf_L2_hd s) (F_X0_faultOf_L2_ex s)) := by
  unfold F_X0_faultOf_L2
  refine xTr.ms 3 (g := (7, [(0, .ref 3), (1, .int a)], [.int (s.1 3 2), .int a], s)) rfl ?_
  refine xTr.br (g1 := (41, [(0, .ref 3), (1, .int a)], [], s)) (g2 := (10, [(0, .ref 3), (1, .int a)], [], s)) rfl (fun h1 => ?_) (fun h1 => ?_)
  · refine xTr.mk (lv1 := [(0, .ref 3)]) rfl rfl ?_
    exact xTr.leaf rfl
  · refine xTr.ms 4 (g := (15, [(0, .ref 3), (1, .int a)], [.int (8 : Int32), .int (a / (5 : Int32))], s)) rfl ?_
    refine xTr.br (g1 := (33, [(0, .ref 3), (1, .int a)], [], s)) (g2 := (18, [(0, .ref 3), (1, .int a)], [], s)) rfl (fun h2 => ?_) (fun h2 => ?_)
    · refine xTr.mk (lv1 := [(1, .int a)]) rfl rfl ?_
      exact xTr.leaf rfl
    · refine xTr.ms 3 (g := (23, [(0, .ref 3), (1, .int a)], [.int a, .ref 4], s)) rfl ?_
      refine xTr.ck (g := (24, [(0, .ref 3), (1, .int a)], [.int (s.1 4 a.toNatClampNeg)], s)) rfl (fun h3 => ?_)
      refine xTr.ms 3 (g := (27, [(0, .ref 3), (1, .int a)], [.int (xrem a (5 : Int32)), .int (s.1 4 a.toNatClampNeg)], s)) rfl ?_
      refine xTr.callip (R' := xR_X0_mayStand) (as := [.int (s.1 4 a.toNatClampNeg), .int (xrem a (5 : Int32))]) (lv := [(0, .ref 3), (1, .int a)]) (rest := []) (ok_X0_mayStand (s.1 4 a.toNatClampNeg) (xrem a (5 : Int32)) s) rfl rfl rfl rfl rfl (fun v4 => ?_)
      refine xTr.br (g1 := (33, [(0, .ref 3), (1, .int a)], [], s)) (g2 := (35, [(0, .ref 3), (1, .int a)], [], s)) rfl (fun h5 => ?_) (fun h5 => ?_)
      · refine xTr.mk (lv1 := [(1, .int a)]) rfl rfl ?_
        exact xTr.leaf rfl
      · refine xTr.ms 2 (g := (2, [(0, .ref 3), (1, .int (a + (1 : Int32)))], [], s)) rfl ?_
        exact xTr.leaf rfl
set_option maxRecDepth 100000 in
theorem ok_X0_faultOf (s : xS) : xTr xMs xFL xR_X0_faultOf (Sum.inl (0, [(0, .ref 3)], [], s)) (F_X0_faultOf s) (fun (y : Int32) => Sum.inr (some (.int y), s)) := by
  unfold F_X0_faultOf
  refine xTr.ms 2 (g := (2, [(0, .ref 3), (1, .int (0 : Int32))], [], s)) rfl ?_
  refine xTr.bind (J := F_X0_faultOf_L2_ex s) (xTr.loop (hd := F_X0_faultOf_L2_hd s) (fun aa => F_X0_faultOf_L2_ok s aa) 100000 (0 : Int32)) (fun b6 => ?_)
  rcases b6 with b6_0 | b6_1
  · refine xTr.ms 1 (g := (34, [(1, .int b6_0)], [.int b6_0], s)) rfl ?_
    exact xTr.ret rfl rfl rfl
  · refine xTr.ms 2 (g := (45, [(0, .ref 3)], [.int (s.1 3 2)], s)) rfl ?_
    refine xTr.br (g1 := (58, [(0, .ref 3)], [], s)) (g2 := (48, [(0, .ref 3)], [], s)) rfl (fun h7 => ?_) (fun h7 => ?_)
    · refine xTr.ms 7 (g := (76, [], [.int (-1 : Int32)], s)) rfl ?_
      exact xTr.ret rfl rfl rfl
    · refine xTr.ms 5 (g := (55, [(0, .ref 3)], [.int (4 : Int32), .int (xrem (s.1 3 2) (5 : Int32))], s)) rfl ?_
      refine xTr.br (g1 := (58, [(0, .ref 3)], [], s)) (g2 := (62, [(0, .ref 3)], [], s)) rfl (fun h8 => ?_) (fun h8 => ?_)
      · refine xTr.ms 7 (g := (76, [], [.int (-1 : Int32)], s)) rfl ?_
        exact xTr.ret rfl rfl rfl
      · refine xTr.ms 6 (g := (76, [(0, .ref 3)], [.int (s.1 3 2)], s)) rfl ?_
        exact xTr.ret rfl rfl rfl
-- X0_figure
def F_X0_figure (l1 : Int32) (s : xS) : Option (Int32) := if l1 < 0 ∨ 41 ≤ l1.toNatClampNeg then none else (some ((s.1 4 l1.toNatClampNeg) - (48 : Int32)))
set_option maxRecDepth 100000 in
theorem ok_X0_figure (l1 : Int32) (s : xS) : xTr xMs xFL xR_X0_figure (Sum.inl (0, [(0, .ref 3), (1, .int l1)], [], s)) (F_X0_figure l1 s) (fun (y : Int32) => Sum.inr (some (.int y), s)) := by
  unfold F_X0_figure
  refine xTr.ms 3 (g := (5, [(0, .ref 3), (1, .int l1)], [.int l1, .ref 4], s)) rfl ?_
  refine xTr.ck (g := (6, [(0, .ref 3), (1, .int l1)], [.int (s.1 4 l1.toNatClampNeg)], s)) rfl (fun h1 => ?_)
  refine xTr.ms 2 (g := (9, [(0, .ref 3), (1, .int l1)], [.int ((s.1 4 l1.toNatClampNeg) - (48 : Int32))], s)) rfl ?_
  exact xTr.ret rfl rfl rfl
-- X0_add
def F_X0_add (p0 : Nat) (l1 : Int32) (l2 : Int32) (l3 : Int32) (s : xS) : Option (xS) := if (8 : Int32) ≤ (s.1 p0 3) then (some s) else (if l2 < 0 then (some s) else (if (4 : Int32) ≤ l2 then (some s) else (if (s.1 p0 3) < 0 ∨ 8 ≤ ((s.1 p0 3)).toNatClampNeg then none else (if (s.1 p0 3) < 0 ∨ 8 ≤ ((s.1 p0 3)).toNatClampNeg then none else (if (s.1 p0 3) < 0 ∨ 8 ≤ ((s.1 p0 3)).toNatClampNeg then none else (some (xu (xu (xu (xu s (p0 + 1) ((s.1 p0 3)).toNatClampNeg l1) (p0 + 2) ((s.1 p0 3)).toNatClampNeg l2) (p0 + 3) ((s.1 p0 3)).toNatClampNeg l3) p0 3 ((s.1 p0 3) + (1 : Int32)))))))))
set_option maxRecDepth 100000 in
theorem ok_X0_add_8 (l1 : Int32) (l2 : Int32) (l3 : Int32) (s : xS) : xTr xMs xFL xR_X0_add (Sum.inl (0, [(0, .ref 8), (1, .int l1), (2, .int l2), (3, .int l3)], [], s)) (F_X0_add 8 l1 l2 l3 s) (fun (y : xS) => Sum.inr (none, y)) := by
  unfold F_X0_add
  refine xTr.ms 3 (g := (6, [(0, .ref 8), (1, .int l1), (2, .int l2), (3, .int l3)], [.int (8 : Int32), .int (s.1 8 3)], s)) rfl ?_
  refine xTr.br (g1 := (58, [(0, .ref 8), (1, .int l1), (2, .int l2), (3, .int l3)], [], s)) (g2 := (9, [(0, .ref 8), (1, .int l1), (2, .int l2), (3, .int l3)], [], s)) rfl (fun h1 => ?_) (fun h1 => ?_)
  · exact xTr.ret rfl rfl rfl
  · refine xTr.ms 1 (g := (10, [(0, .ref 8), (1, .int l1), (2, .int l2), (3, .int l3)], [.int l2], s)) rfl ?_
    refine xTr.br (g1 := (58, [(0, .ref 8), (1, .int l1), (2, .int l2), (3, .int l3)], [], s)) (g2 := (13, [(0, .ref 8), (1, .int l1), (2, .int l2), (3, .int l3)], [], s)) rfl (fun h2 => ?_) (fun h2 => ?_)
    · exact xTr.ret rfl rfl rfl
    · refine xTr.ms 2 (g := (15, [(0, .ref 8), (1, .int l1), (2, .int l2), (3, .int l3)], [.int (4 : Int32), .int l2], s)) rfl ?_
      refine xTr.br (g1 := (58, [(0, .ref 8), (1, .int l1), (2, .int l2), (3, .int l3)], [], s)) (g2 := (18, [(0, .ref 8), (1, .int l1), (2, .int l2), (3, .int l3)], [], s)) rfl (fun h3 => ?_) (fun h3 => ?_)
      · exact xTr.ret rfl rfl rfl
      · refine xTr.ms 5 (g := (27, [(0, .ref 8), (1, .int l1), (2, .int l2), (3, .int l3)], [.int l1, .int (s.1 8 3), .ref 9], s)) rfl ?_
        refine xTr.ck (g := (28, [(0, .ref 8), (1, .int l1), (2, .int l2), (3, .int l3)], [], (xu s 9 ((s.1 8 3)).toNatClampNeg l1))) rfl (fun h4 => ?_)
        refine xTr.ms 5 (g := (37, [(0, .ref 8), (1, .int l1), (2, .int l2), (3, .int l3)], [.int l2, .int (s.1 8 3), .ref 10], (xu s 9 ((s.1 8 3)).toNatClampNeg l1))) rfl ?_
        refine xTr.ck (g := (38, [(0, .ref 8), (1, .int l1), (2, .int l2), (3, .int l3)], [], (xu (xu s 9 ((s.1 8 3)).toNatClampNeg l1) 10 ((s.1 8 3)).toNatClampNeg l2))) rfl (fun h5 => ?_)
        refine xTr.ms 5 (g := (47, [(0, .ref 8), (1, .int l1), (2, .int l2), (3, .int l3)], [.int l3, .int (s.1 8 3), .ref 11], (xu (xu s 9 ((s.1 8 3)).toNatClampNeg l1) 10 ((s.1 8 3)).toNatClampNeg l2))) rfl ?_
        refine xTr.ck (g := (48, [(0, .ref 8), (1, .int l1), (2, .int l2), (3, .int l3)], [], (xu (xu (xu s 9 ((s.1 8 3)).toNatClampNeg l1) 10 ((s.1 8 3)).toNatClampNeg l2) 11 ((s.1 8 3)).toNatClampNeg l3))) rfl (fun h6 => ?_)
        refine xTr.ms 6 (g := (58, [(0, .ref 8), (1, .int l1), (2, .int l2), (3, .int l3)], [], (xu (xu (xu (xu s 9 ((s.1 8 3)).toNatClampNeg l1) 10 ((s.1 8 3)).toNatClampNeg l2) 11 ((s.1 8 3)).toNatClampNeg l3) 8 3 ((s.1 8 3) + (1 : Int32))))) rfl ?_
        exact xTr.ret rfl rfl rfl
set_option maxRecDepth 100000 in
theorem ok_X0_add_27 (l1 : Int32) (l2 : Int32) (l3 : Int32) (s : xS) : xTr xMs xFL xR_X0_add (Sum.inl (0, [(0, .ref 27), (1, .int l1), (2, .int l2), (3, .int l3)], [], s)) (F_X0_add 27 l1 l2 l3 s) (fun (y : xS) => Sum.inr (none, y)) := by
  unfold F_X0_add
  refine xTr.ms 3 (g := (6, [(0, .ref 27), (1, .int l1), (2, .int l2), (3, .int l3)], [.int (8 : Int32), .int (s.1 27 3)], s)) rfl ?_
  refine xTr.br (g1 := (58, [(0, .ref 27), (1, .int l1), (2, .int l2), (3, .int l3)], [], s)) (g2 := (9, [(0, .ref 27), (1, .int l1), (2, .int l2), (3, .int l3)], [], s)) rfl (fun h1 => ?_) (fun h1 => ?_)
  · exact xTr.ret rfl rfl rfl
  · refine xTr.ms 1 (g := (10, [(0, .ref 27), (1, .int l1), (2, .int l2), (3, .int l3)], [.int l2], s)) rfl ?_
    refine xTr.br (g1 := (58, [(0, .ref 27), (1, .int l1), (2, .int l2), (3, .int l3)], [], s)) (g2 := (13, [(0, .ref 27), (1, .int l1), (2, .int l2), (3, .int l3)], [], s)) rfl (fun h2 => ?_) (fun h2 => ?_)
    · exact xTr.ret rfl rfl rfl
    · refine xTr.ms 2 (g := (15, [(0, .ref 27), (1, .int l1), (2, .int l2), (3, .int l3)], [.int (4 : Int32), .int l2], s)) rfl ?_
      refine xTr.br (g1 := (58, [(0, .ref 27), (1, .int l1), (2, .int l2), (3, .int l3)], [], s)) (g2 := (18, [(0, .ref 27), (1, .int l1), (2, .int l2), (3, .int l3)], [], s)) rfl (fun h3 => ?_) (fun h3 => ?_)
      · exact xTr.ret rfl rfl rfl
      · refine xTr.ms 5 (g := (27, [(0, .ref 27), (1, .int l1), (2, .int l2), (3, .int l3)], [.int l1, .int (s.1 27 3), .ref 28], s)) rfl ?_
        refine xTr.ck (g := (28, [(0, .ref 27), (1, .int l1), (2, .int l2), (3, .int l3)], [], (xu s 28 ((s.1 27 3)).toNatClampNeg l1))) rfl (fun h4 => ?_)
        refine xTr.ms 5 (g := (37, [(0, .ref 27), (1, .int l1), (2, .int l2), (3, .int l3)], [.int l2, .int (s.1 27 3), .ref 29], (xu s 28 ((s.1 27 3)).toNatClampNeg l1))) rfl ?_
        refine xTr.ck (g := (38, [(0, .ref 27), (1, .int l1), (2, .int l2), (3, .int l3)], [], (xu (xu s 28 ((s.1 27 3)).toNatClampNeg l1) 29 ((s.1 27 3)).toNatClampNeg l2))) rfl (fun h5 => ?_)
        refine xTr.ms 5 (g := (47, [(0, .ref 27), (1, .int l1), (2, .int l2), (3, .int l3)], [.int l3, .int (s.1 27 3), .ref 30], (xu (xu s 28 ((s.1 27 3)).toNatClampNeg l1) 29 ((s.1 27 3)).toNatClampNeg l2))) rfl ?_
        refine xTr.ck (g := (48, [(0, .ref 27), (1, .int l1), (2, .int l2), (3, .int l3)], [], (xu (xu (xu s 28 ((s.1 27 3)).toNatClampNeg l1) 29 ((s.1 27 3)).toNatClampNeg l2) 30 ((s.1 27 3)).toNatClampNeg l3))) rfl (fun h6 => ?_)
        refine xTr.ms 6 (g := (58, [(0, .ref 27), (1, .int l1), (2, .int l2), (3, .int l3)], [], (xu (xu (xu (xu s 28 ((s.1 27 3)).toNatClampNeg l1) 29 ((s.1 27 3)).toNatClampNeg l2) 30 ((s.1 27 3)).toNatClampNeg l3) 27 3 ((s.1 27 3) + (1 : Int32))))) rfl ?_
        exact xTr.ret rfl rfl rfl
-- X0_readFrom
def F_X0_readFrom_L23 (a : Int32 × xS) : Option ((Int32 × xS) ⊕ (xS)) := if (a.2.1 3 2) < ((a.1 + (5 : Int32)) - (1 : Int32)) then (some (Sum.inr a.2)) else ((F_X0_figure a.1 a.2).bind fun v4 => ((F_X0_figure (a.1 + (1 : Int32)) a.2).bind fun v5 => (if (a.1 + (2 : Int32)) < 0 ∨ 41 ≤ ((a.1 + (2 : Int32))).toNatClampNeg then none else ((F_J0_indexOf_0f7a4 1003 (((a.2.1 4 ((a.1 + (2 : Int32))).toNatClampNeg)).toUInt32 % 65536).toInt32 a.2).bind fun v7 => ((F_X0_figure (a.1 + (3 : Int32)) a.2).bind fun v8 => ((F_X0_add 8 ((v4 * (10 : Int32)) + v5) v7 v8 a.2).bind fun s10 => (some (Sum.inl ((a.1 + (5 : Int32)), s10)))))))))
def F_X0_readFrom (s : xS) : Option (xS) := (F_X0_faultOf s).bind fun v1 => (if v1 = (-1 : Int32) then ((xlp (F_X0_readFrom_L23) 100000 ((0 : Int32), (xu (xu s 8 4 v1) 8 3 (0 : Int32)))).bind (fun b11 => (some b11))) else (some (xu (xu s 8 4 v1) 8 3 (0 : Int32))))
def F_X0_readFrom_L23_hd (a : Int32 × xS) : xT := Sum.inl (23, [(0, .ref 8), (1, .ref 3), (2, .int a.1)], [], a.2)
def F_X0_readFrom_L23_ex : (xS) → xT := (fun (z : xS) => Sum.inl (84, [], [], z))
set_option maxRecDepth 100000 in
theorem F_X0_readFrom_L23_ok (a : Int32 × xS) : xTr xMs xFL xR_X0_readFrom (F_X0_readFrom_L23_hd a) (F_X0_readFrom_L23 a) (xhx (F_X0_readFrom_L23_hd) (F_X0_readFrom_L23_ex)) := by
  unfold F_X0_readFrom_L23
  refine xTr.ms 7 (g := (32, [(0, .ref 8), (1, .ref 3), (2, .int a.1)], [.int (a.2.1 3 2), .int ((a.1 + (5 : Int32)) - (1 : Int32))], a.2)) rfl ?_
  refine xTr.br (g1 := (84, [(0, .ref 8), (1, .ref 3), (2, .int a.1)], [], a.2)) (g2 := (35, [(0, .ref 8), (1, .ref 3), (2, .int a.1)], [], a.2)) rfl (fun h3 => ?_) (fun h3 => ?_)
  · refine xTr.mk (lv1 := []) rfl rfl ?_
    exact xTr.leaf rfl
  · refine xTr.ms 2 (g := (37, [(0, .ref 8), (1, .ref 3), (2, .int a.1)], [.int a.1, .ref 3], a.2)) rfl ?_
    refine xTr.callip (R' := xR_X0_figure) (as := [.ref 3, .int a.1]) (lv := [(0, .ref 8), (1, .ref 3), (2, .int a.1)]) (rest := []) (ok_X0_figure a.1 a.2) rfl rfl rfl rfl rfl (fun v4 => ?_)
    refine xTr.ms 6 (g := (47, [(0, .ref 8), (1, .ref 3), (2, .int a.1)], [.int (a.1 + (1 : Int32)), .ref 3, .int (v4 * (10 : Int32))], a.2)) rfl ?_
    refine xTr.callip (R' := xR_X0_figure) (as := [.ref 3, .int (a.1 + (1 : Int32))]) (lv := [(0, .ref 8), (1, .ref 3), (2, .int a.1)]) (rest := [.int (v4 * (10 : Int32))]) (ok_X0_figure (a.1 + (1 : Int32)) a.2) rfl rfl rfl rfl rfl (fun v5 => ?_)
    refine xTr.ms 10 (g := (63, [(0, .ref 8), (1, .ref 3), (2, .int a.1), (3, .int ((v4 * (10 : Int32)) + v5))], [.int (a.1 + (2 : Int32)), .ref 4, .ref 1003, .int ((v4 * (10 : Int32)) + v5), .ref 8], a.2)) rfl ?_
    refine xTr.ck (g := (64, [(0, .ref 8), (1, .ref 3), (2, .int a.1), (3, .int ((v4 * (10 : Int32)) + v5))], [.int (a.2.1 4 ((a.1 + (2 : Int32))).toNatClampNeg), .ref 1003, .int ((v4 * (10 : Int32)) + v5), .ref 8], a.2)) rfl (fun h6 => ?_)
    refine xTr.ms 1 (g := (65, [(0, .ref 8), (1, .ref 3), (2, .int a.1), (3, .int ((v4 * (10 : Int32)) + v5))], [.int (((a.2.1 4 ((a.1 + (2 : Int32))).toNatClampNeg)).toUInt32 % 65536).toInt32, .ref 1003, .int ((v4 * (10 : Int32)) + v5), .ref 8], a.2)) rfl ?_
    refine xTr.callip (R' := xR_J0_indexOf_0f7a4) (as := [.ref 1003, .int (((a.2.1 4 ((a.1 + (2 : Int32))).toNatClampNeg)).toUInt32 % 65536).toInt32]) (lv := [(0, .ref 8), (1, .ref 3), (2, .int a.1), (3, .int ((v4 * (10 : Int32)) + v5))]) (rest := [.int ((v4 * (10 : Int32)) + v5), .ref 8]) (ok_J0_indexOf_0f7a4_1003 (((a.2.1 4 ((a.1 + (2 : Int32))).toNatClampNeg)).toUInt32 % 65536).toInt32 a.2) rfl rfl rfl rfl rfl (fun v7 => ?_)
    refine xTr.ms 4 (g := (72, [(0, .ref 8), (1, .ref 3), (2, .int a.1), (3, .int ((v4 * (10 : Int32)) + v5))], [.int (a.1 + (3 : Int32)), .ref 3, .int v7, .int ((v4 * (10 : Int32)) + v5), .ref 8], a.2)) rfl ?_
    refine xTr.callip (R' := xR_X0_figure) (as := [.ref 3, .int (a.1 + (3 : Int32))]) (lv := [(0, .ref 8), (1, .ref 3), (2, .int a.1), (3, .int ((v4 * (10 : Int32)) + v5))]) (rest := [.int v7, .int ((v4 * (10 : Int32)) + v5), .ref 8]) (ok_X0_figure (a.1 + (3 : Int32)) a.2) rfl rfl rfl rfl rfl (fun v8 => ?_)
    refine xTr.callv (R' := xR_X0_add) (as := [.ref 8, .int ((v4 * (10 : Int32)) + v5), .int v7, .int v8]) (lv := [(0, .ref 8), (1, .ref 3), (2, .int a.1), (3, .int ((v4 * (10 : Int32)) + v5))]) (rest := []) (ok_X0_add_8 ((v4 * (10 : Int32)) + v5) v7 v8 a.2) rfl rfl rfl rfl rfl (fun s10 => ?_)
    refine xTr.ms 2 (g := (23, [(0, .ref 8), (1, .ref 3), (2, .int (a.1 + (5 : Int32))), (3, .int ((v4 * (10 : Int32)) + v5))], [], s10)) rfl ?_
    refine xTr.mk (lv1 := [(0, .ref 8), (1, .ref 3), (2, .int (a.1 + (5 : Int32)))]) rfl rfl ?_
    exact xTr.leaf rfl
set_option maxRecDepth 100000 in
theorem ok_X0_readFrom (s : xS) : xTr xMs xFL xR_X0_readFrom (Sum.inl (0, [(0, .ref 8), (1, .ref 3)], [], s)) (F_X0_readFrom s) (fun (y : xS) => Sum.inr (none, y)) := by
  unfold F_X0_readFrom
  refine xTr.ms 2 (g := (2, [(0, .ref 8), (1, .ref 3)], [.ref 3, .ref 8], s)) rfl ?_
  refine xTr.callip (R' := xR_X0_faultOf) (as := [.ref 3]) (lv := [(0, .ref 8), (1, .ref 3)]) (rest := [.ref 8]) (ok_X0_faultOf s) rfl rfl rfl rfl rfl (fun v1 => ?_)
  refine xTr.ms 7 (g := (18, [(0, .ref 8), (1, .ref 3)], [.int (-1 : Int32), .int v1], (xu (xu s 8 4 v1) 8 3 (0 : Int32)))) rfl ?_
  refine xTr.br (g1 := (21, [(0, .ref 8), (1, .ref 3)], [], (xu (xu s 8 4 v1) 8 3 (0 : Int32)))) (g2 := (84, [(0, .ref 8), (1, .ref 3)], [], (xu (xu s 8 4 v1) 8 3 (0 : Int32)))) rfl (fun h2 => ?_) (fun h2 => ?_)
  · refine xTr.ms 2 (g := (23, [(0, .ref 8), (1, .ref 3), (2, .int (0 : Int32))], [], (xu (xu s 8 4 v1) 8 3 (0 : Int32)))) rfl ?_
    refine xTr.bind (J := F_X0_readFrom_L23_ex) (xTr.loop (hd := F_X0_readFrom_L23_hd) (fun aa => F_X0_readFrom_L23_ok aa) 100000 ((0 : Int32), (xu (xu s 8 4 v1) 8 3 (0 : Int32)))) (fun b11 => ?_)
    exact xTr.ret rfl rfl rfl
  · exact xTr.ret rfl rfl rfl
-- X4_takeTolls
def F_X4_takeTolls_L2 (p0 : Nat) (a : Int32 × xS) : Option ((Int32 × xS) ⊕ (xS)) := if (a.2.1 5 2) ≤ a.1 then (some (Sum.inr a.2)) else (if a.1 < 0 ∨ 36 ≤ a.1.toNatClampNeg then none else (if (a.2.1 6 a.1.toNatClampNeg) < 0 ∨ 4 ≤ ((a.2.1 6 a.1.toNatClampNeg)).toNatClampNeg then none else (if a.1 < 0 ∨ 36 ≤ a.1.toNatClampNeg then none else (some (Sum.inl ((a.1 + (1 : Int32)), (xu a.2 (p0 + 1) a.1.toNatClampNeg (xra 1000 ((a.2.1 6 a.1.toNatClampNeg)).toNatClampNeg))))))))
def F_X4_takeTolls (p0 : Nat) (s : xS) : Option (xS) := (xlp (F_X4_takeTolls_L2 p0) 100000 ((0 : Int32), s)).bind (fun b5 => (some b5))
def F_X4_takeTolls_L2_hd_19 (a : Int32 × xS) : xT := Sum.inl (2, [(0, .ref 19), (1, .ref 5), (2, .int a.1)], [], a.2)
def F_X4_takeTolls_L2_ex_19 : (xS) → xT := (fun (z : xS) => Sum.inl (32, [], [], z))
set_option maxRecDepth 100000 in
theorem F_X4_takeTolls_L2_ok_19 (a : Int32 × xS) : xTr xMs xFL xR_X4_takeTolls (F_X4_takeTolls_L2_hd_19 a) (F_X4_takeTolls_L2 19 a) (xhx (F_X4_takeTolls_L2_hd_19) (F_X4_takeTolls_L2_ex_19)) := by
  unfold F_X4_takeTolls_L2
  refine xTr.ms 3 (g := (7, [(0, .ref 19), (1, .ref 5), (2, .int a.1)], [.int (a.2.1 5 2), .int a.1], a.2)) rfl ?_
  refine xTr.br (g1 := (32, [(0, .ref 19), (1, .ref 5), (2, .int a.1)], [], a.2)) (g2 := (10, [(0, .ref 19), (1, .ref 5), (2, .int a.1)], [], a.2)) rfl (fun h1 => ?_) (fun h1 => ?_)
  · refine xTr.mk (lv1 := []) rfl rfl ?_
    exact xTr.leaf rfl
  · refine xTr.ms 7 (g := (23, [(0, .ref 19), (1, .ref 5), (2, .int a.1)], [.int a.1, .ref 6, .ref 1000, .int a.1, .ref 20], a.2)) rfl ?_
    refine xTr.ck (g := (24, [(0, .ref 19), (1, .ref 5), (2, .int a.1)], [.int (a.2.1 6 a.1.toNatClampNeg), .ref 1000, .int a.1, .ref 20], a.2)) rfl (fun h2 => ?_)
    refine xTr.ck (g := (25, [(0, .ref 19), (1, .ref 5), (2, .int a.1)], [.int (xra 1000 ((a.2.1 6 a.1.toNatClampNeg)).toNatClampNeg), .int a.1, .ref 20], a.2)) rfl (fun h3 => ?_)
    refine xTr.ck (g := (26, [(0, .ref 19), (1, .ref 5), (2, .int a.1)], [], (xu a.2 20 a.1.toNatClampNeg (xra 1000 ((a.2.1 6 a.1.toNatClampNeg)).toNatClampNeg)))) rfl (fun h4 => ?_)
    refine xTr.ms 2 (g := (2, [(0, .ref 19), (1, .ref 5), (2, .int (a.1 + (1 : Int32)))], [], (xu a.2 20 a.1.toNatClampNeg (xra 1000 ((a.2.1 6 a.1.toNatClampNeg)).toNatClampNeg)))) rfl ?_
    exact xTr.leaf rfl
set_option maxRecDepth 100000 in
theorem ok_X4_takeTolls_19 (s : xS) : xTr xMs xFL xR_X4_takeTolls (Sum.inl (0, [(0, .ref 19), (1, .ref 5)], [], s)) (F_X4_takeTolls 19 s) (fun (y : xS) => Sum.inr (none, y)) := by
  unfold F_X4_takeTolls
  refine xTr.ms 2 (g := (2, [(0, .ref 19), (1, .ref 5), (2, .int (0 : Int32))], [], s)) rfl ?_
  refine xTr.bind (J := F_X4_takeTolls_L2_ex_19) (xTr.loop (hd := F_X4_takeTolls_L2_hd_19) (fun aa => F_X4_takeTolls_L2_ok_19 aa) 100000 ((0 : Int32), s)) (fun b5 => ?_)
  exact xTr.ret rfl rfl rfl
def F_X4_takeTolls_L2_hd_31 (a : Int32 × xS) : xT := Sum.inl (2, [(0, .ref 31), (1, .ref 5), (2, .int a.1)], [], a.2)
def F_X4_takeTolls_L2_ex_31 : (xS) → xT := (fun (z : xS) => Sum.inl (32, [], [], z))
set_option maxRecDepth 100000 in
theorem F_X4_takeTolls_L2_ok_31 (a : Int32 × xS) : xTr xMs xFL xR_X4_takeTolls (F_X4_takeTolls_L2_hd_31 a) (F_X4_takeTolls_L2 31 a) (xhx (F_X4_takeTolls_L2_hd_31) (F_X4_takeTolls_L2_ex_31)) := by
  unfold F_X4_takeTolls_L2
  refine xTr.ms 3 (g := (7, [(0, .ref 31), (1, .ref 5), (2, .int a.1)], [.int (a.2.1 5 2), .int a.1], a.2)) rfl ?_
  refine xTr.br (g1 := (32, [(0, .ref 31), (1, .ref 5), (2, .int a.1)], [], a.2)) (g2 := (10, [(0, .ref 31), (1, .ref 5), (2, .int a.1)], [], a.2)) rfl (fun h1 => ?_) (fun h1 => ?_)
  · refine xTr.mk (lv1 := []) rfl rfl ?_
    exact xTr.leaf rfl
  · refine xTr.ms 7 (g := (23, [(0, .ref 31), (1, .ref 5), (2, .int a.1)], [.int a.1, .ref 6, .ref 1000, .int a.1, .ref 32], a.2)) rfl ?_
    refine xTr.ck (g := (24, [(0, .ref 31), (1, .ref 5), (2, .int a.1)], [.int (a.2.1 6 a.1.toNatClampNeg), .ref 1000, .int a.1, .ref 32], a.2)) rfl (fun h2 => ?_)
    refine xTr.ck (g := (25, [(0, .ref 31), (1, .ref 5), (2, .int a.1)], [.int (xra 1000 ((a.2.1 6 a.1.toNatClampNeg)).toNatClampNeg), .int a.1, .ref 32], a.2)) rfl (fun h3 => ?_)
    refine xTr.ck (g := (26, [(0, .ref 31), (1, .ref 5), (2, .int a.1)], [], (xu a.2 32 a.1.toNatClampNeg (xra 1000 ((a.2.1 6 a.1.toNatClampNeg)).toNatClampNeg)))) rfl (fun h4 => ?_)
    refine xTr.ms 2 (g := (2, [(0, .ref 31), (1, .ref 5), (2, .int (a.1 + (1 : Int32)))], [], (xu a.2 32 a.1.toNatClampNeg (xra 1000 ((a.2.1 6 a.1.toNatClampNeg)).toNatClampNeg)))) rfl ?_
    exact xTr.leaf rfl
set_option maxRecDepth 100000 in
theorem ok_X4_takeTolls_31 (s : xS) : xTr xMs xFL xR_X4_takeTolls (Sum.inl (0, [(0, .ref 31), (1, .ref 5)], [], s)) (F_X4_takeTolls 31 s) (fun (y : xS) => Sum.inr (none, y)) := by
  unfold F_X4_takeTolls
  refine xTr.ms 2 (g := (2, [(0, .ref 31), (1, .ref 5), (2, .int (0 : Int32))], [], s)) rfl ?_
  refine xTr.bind (J := F_X4_takeTolls_L2_ex_31) (xTr.loop (hd := F_X4_takeTolls_L2_hd_31) (fun aa => F_X4_takeTolls_L2_ok_31 aa) 100000 ((0 : Int32), s)) (fun b5 => ?_)
  exact xTr.ret rfl rfl rfl
-- J7_fill_53178
def F_J7_fill_53178_L5 (p0 : Nat) (l1 : Int32) (l3 : Int32) (a : Int32 × xS) : Option ((Int32 × xS) ⊕ (xS)) := if l3 ≤ a.1 then (some (Sum.inr a.2)) else (if a.1 < 0 ∨ (xal p0) ≤ a.1.toNatClampNeg then none else (some (Sum.inl ((a.1 + (1 : Int32)), (xu a.2 p0 a.1.toNatClampNeg l1)))))
def F_J7_fill_53178 (p0 : Nat) (l1 : Int32) (s : xS) : Option (xS) := (xlp (F_J7_fill_53178_L5 p0 l1 (Int32.ofNat (xal p0))) 100000 ((0 : Int32), s)).bind (fun b3 => (some b3))
def F_J7_fill_53178_L5_hd_21 (l1 : Int32) (l3 : Int32) (a : Int32 × xS) : xT := Sum.inl (5, [(0, .ref 21), (1, .int l1), (2, .int a.1), (3, .int l3)], [], a.2)
def F_J7_fill_53178_L5_ex_21 (l1 : Int32) (l3 : Int32) : (xS) → xT := (fun (z : xS) => Sum.inl (20, [], [], z))
set_option maxRecDepth 100000 in
theorem F_J7_fill_53178_L5_ok_21 (l1 : Int32) (l3 : Int32) (a : Int32 × xS) : xTr xMs xFL xR_J7_fill_53178 (F_J7_fill_53178_L5_hd_21 l1 l3 a) (F_J7_fill_53178_L5 21 l1 l3 a) (xhx (F_J7_fill_53178_L5_hd_21 l1 l3) (F_J7_fill_53178_L5_ex_21 l1 l3)) := by
  unfold F_J7_fill_53178_L5
  refine xTr.ms 2 (g := (7, [(0, .ref 21), (1, .int l1), (2, .int a.1), (3, .int l3)], [.int l3, .int a.1], a.2)) rfl ?_
  refine xTr.br (g1 := (20, [(0, .ref 21), (1, .int l1), (2, .int a.1), (3, .int l3)], [], a.2)) (g2 := (10, [(0, .ref 21), (1, .int l1), (2, .int a.1), (3, .int l3)], [], a.2)) rfl (fun h1 => ?_) (fun h1 => ?_)
  · refine xTr.mk (lv1 := []) rfl rfl ?_
    exact xTr.leaf rfl
  · refine xTr.ms 3 (g := (13, [(0, .ref 21), (1, .int l1), (2, .int a.1), (3, .int l3)], [.int l1, .int a.1, .ref 21], a.2)) rfl ?_
    refine xTr.ck (g := (14, [(0, .ref 21), (1, .int l1), (2, .int a.1), (3, .int l3)], [], (xu a.2 21 a.1.toNatClampNeg l1))) rfl (fun h2 => ?_)
    refine xTr.ms 2 (g := (5, [(0, .ref 21), (1, .int l1), (2, .int (a.1 + (1 : Int32))), (3, .int l3)], [], (xu a.2 21 a.1.toNatClampNeg l1))) rfl ?_
    exact xTr.leaf rfl
set_option maxRecDepth 100000 in
theorem ok_J7_fill_53178_21 (l1 : Int32) (s : xS) : xTr xMs xFL xR_J7_fill_53178 (Sum.inl (0, [(0, .ref 21), (1, .int l1)], [], s)) (F_J7_fill_53178 21 l1 s) (fun (y : xS) => Sum.inr (none, y)) := by
  unfold F_J7_fill_53178
  refine xTr.ms 5 (g := (5, [(0, .ref 21), (1, .int l1), (2, .int (0 : Int32)), (3, .int (Int32.ofNat 36))], [], s)) rfl ?_
  refine xTr.bind (J := F_J7_fill_53178_L5_ex_21 l1 (Int32.ofNat 36)) (xTr.loop (hd := F_J7_fill_53178_L5_hd_21 l1 (Int32.ofNat 36)) (fun aa => F_J7_fill_53178_L5_ok_21 l1 (Int32.ofNat 36) aa) 100000 ((0 : Int32), s)) (fun b3 => ?_)
  exact xTr.ret rfl rfl rfl
def F_J7_fill_53178_L5_hd_23 (l1 : Int32) (l3 : Int32) (a : Int32 × xS) : xT := Sum.inl (5, [(0, .ref 23), (1, .int l1), (2, .int a.1), (3, .int l3)], [], a.2)
def F_J7_fill_53178_L5_ex_23 (l1 : Int32) (l3 : Int32) : (xS) → xT := (fun (z : xS) => Sum.inl (20, [], [], z))
set_option maxRecDepth 100000 in
theorem F_J7_fill_53178_L5_ok_23 (l1 : Int32) (l3 : Int32) (a : Int32 × xS) : xTr xMs xFL xR_J7_fill_53178 (F_J7_fill_53178_L5_hd_23 l1 l3 a) (F_J7_fill_53178_L5 23 l1 l3 a) (xhx (F_J7_fill_53178_L5_hd_23 l1 l3) (F_J7_fill_53178_L5_ex_23 l1 l3)) := by
  unfold F_J7_fill_53178_L5
  refine xTr.ms 2 (g := (7, [(0, .ref 23), (1, .int l1), (2, .int a.1), (3, .int l3)], [.int l3, .int a.1], a.2)) rfl ?_
  refine xTr.br (g1 := (20, [(0, .ref 23), (1, .int l1), (2, .int a.1), (3, .int l3)], [], a.2)) (g2 := (10, [(0, .ref 23), (1, .int l1), (2, .int a.1), (3, .int l3)], [], a.2)) rfl (fun h1 => ?_) (fun h1 => ?_)
  · refine xTr.mk (lv1 := []) rfl rfl ?_
    exact xTr.leaf rfl
  · refine xTr.ms 3 (g := (13, [(0, .ref 23), (1, .int l1), (2, .int a.1), (3, .int l3)], [.int l1, .int a.1, .ref 23], a.2)) rfl ?_
    refine xTr.ck (g := (14, [(0, .ref 23), (1, .int l1), (2, .int a.1), (3, .int l3)], [], (xu a.2 23 a.1.toNatClampNeg l1))) rfl (fun h2 => ?_)
    refine xTr.ms 2 (g := (5, [(0, .ref 23), (1, .int l1), (2, .int (a.1 + (1 : Int32))), (3, .int l3)], [], (xu a.2 23 a.1.toNatClampNeg l1))) rfl ?_
    exact xTr.leaf rfl
set_option maxRecDepth 100000 in
theorem ok_J7_fill_53178_23 (l1 : Int32) (s : xS) : xTr xMs xFL xR_J7_fill_53178 (Sum.inl (0, [(0, .ref 23), (1, .int l1)], [], s)) (F_J7_fill_53178 23 l1 s) (fun (y : xS) => Sum.inr (none, y)) := by
  unfold F_J7_fill_53178
  refine xTr.ms 5 (g := (5, [(0, .ref 23), (1, .int l1), (2, .int (0 : Int32)), (3, .int (Int32.ofNat 10))], [], s)) rfl ?_
  refine xTr.bind (J := F_J7_fill_53178_L5_ex_23 l1 (Int32.ofNat 10)) (xTr.loop (hd := F_J7_fill_53178_L5_hd_23 l1 (Int32.ofNat 10)) (fun aa => F_J7_fill_53178_L5_ok_23 l1 (Int32.ofNat 10) aa) 100000 ((0 : Int32), s)) (fun b3 => ?_)
  exact xTr.ret rfl rfl rfl
def F_J7_fill_53178_L5_hd_24 (l1 : Int32) (l3 : Int32) (a : Int32 × xS) : xT := Sum.inl (5, [(0, .ref 24), (1, .int l1), (2, .int a.1), (3, .int l3)], [], a.2)
def F_J7_fill_53178_L5_ex_24 (l1 : Int32) (l3 : Int32) : (xS) → xT := (fun (z : xS) => Sum.inl (20, [], [], z))
set_option maxRecDepth 100000 in
theorem F_J7_fill_53178_L5_ok_24 (l1 : Int32) (l3 : Int32) (a : Int32 × xS) : xTr xMs xFL xR_J7_fill_53178 (F_J7_fill_53178_L5_hd_24 l1 l3 a) (F_J7_fill_53178_L5 24 l1 l3 a) (xhx (F_J7_fill_53178_L5_hd_24 l1 l3) (F_J7_fill_53178_L5_ex_24 l1 l3)) := by
  unfold F_J7_fill_53178_L5
  refine xTr.ms 2 (g := (7, [(0, .ref 24), (1, .int l1), (2, .int a.1), (3, .int l3)], [.int l3, .int a.1], a.2)) rfl ?_
  refine xTr.br (g1 := (20, [(0, .ref 24), (1, .int l1), (2, .int a.1), (3, .int l3)], [], a.2)) (g2 := (10, [(0, .ref 24), (1, .int l1), (2, .int a.1), (3, .int l3)], [], a.2)) rfl (fun h1 => ?_) (fun h1 => ?_)
  · refine xTr.mk (lv1 := []) rfl rfl ?_
    exact xTr.leaf rfl
  · refine xTr.ms 3 (g := (13, [(0, .ref 24), (1, .int l1), (2, .int a.1), (3, .int l3)], [.int l1, .int a.1, .ref 24], a.2)) rfl ?_
    refine xTr.ck (g := (14, [(0, .ref 24), (1, .int l1), (2, .int a.1), (3, .int l3)], [], (xu a.2 24 a.1.toNatClampNeg l1))) rfl (fun h2 => ?_)
    refine xTr.ms 2 (g := (5, [(0, .ref 24), (1, .int l1), (2, .int (a.1 + (1 : Int32))), (3, .int l3)], [], (xu a.2 24 a.1.toNatClampNeg l1))) rfl ?_
    exact xTr.leaf rfl
set_option maxRecDepth 100000 in
theorem ok_J7_fill_53178_24 (l1 : Int32) (s : xS) : xTr xMs xFL xR_J7_fill_53178 (Sum.inl (0, [(0, .ref 24), (1, .int l1)], [], s)) (F_J7_fill_53178 24 l1 s) (fun (y : xS) => Sum.inr (none, y)) := by
  unfold F_J7_fill_53178
  refine xTr.ms 5 (g := (5, [(0, .ref 24), (1, .int l1), (2, .int (0 : Int32)), (3, .int (Int32.ofNat 10))], [], s)) rfl ?_
  refine xTr.bind (J := F_J7_fill_53178_L5_ex_24 l1 (Int32.ofNat 10)) (xTr.loop (hd := F_J7_fill_53178_L5_hd_24 l1 (Int32.ofNat 10)) (fun aa => F_J7_fill_53178_L5_ok_24 l1 (Int32.ofNat 10) aa) 100000 ((0 : Int32), s)) (fun b3 => ?_)
  exact xTr.ret rfl rfl rfl
def F_J7_fill_53178_L5_hd_26 (l1 : Int32) (l3 : Int32) (a : Int32 × xS) : xT := Sum.inl (5, [(0, .ref 26), (1, .int l1), (2, .int a.1), (3, .int l3)], [], a.2)
def F_J7_fill_53178_L5_ex_26 (l1 : Int32) (l3 : Int32) : (xS) → xT := (fun (z : xS) => Sum.inl (20, [], [], z))
set_option maxRecDepth 100000 in
theorem F_J7_fill_53178_L5_ok_26 (l1 : Int32) (l3 : Int32) (a : Int32 × xS) : xTr xMs xFL xR_J7_fill_53178 (F_J7_fill_53178_L5_hd_26 l1 l3 a) (F_J7_fill_53178_L5 26 l1 l3 a) (xhx (F_J7_fill_53178_L5_hd_26 l1 l3) (F_J7_fill_53178_L5_ex_26 l1 l3)) := by
  unfold F_J7_fill_53178_L5
  refine xTr.ms 2 (g := (7, [(0, .ref 26), (1, .int l1), (2, .int a.1), (3, .int l3)], [.int l3, .int a.1], a.2)) rfl ?_
  refine xTr.br (g1 := (20, [(0, .ref 26), (1, .int l1), (2, .int a.1), (3, .int l3)], [], a.2)) (g2 := (10, [(0, .ref 26), (1, .int l1), (2, .int a.1), (3, .int l3)], [], a.2)) rfl (fun h1 => ?_) (fun h1 => ?_)
  · refine xTr.mk (lv1 := []) rfl rfl ?_
    exact xTr.leaf rfl
  · refine xTr.ms 3 (g := (13, [(0, .ref 26), (1, .int l1), (2, .int a.1), (3, .int l3)], [.int l1, .int a.1, .ref 26], a.2)) rfl ?_
    refine xTr.ck (g := (14, [(0, .ref 26), (1, .int l1), (2, .int a.1), (3, .int l3)], [], (xu a.2 26 a.1.toNatClampNeg l1))) rfl (fun h2 => ?_)
    refine xTr.ms 2 (g := (5, [(0, .ref 26), (1, .int l1), (2, .int (a.1 + (1 : Int32))), (3, .int l3)], [], (xu a.2 26 a.1.toNatClampNeg l1))) rfl ?_
    exact xTr.leaf rfl
set_option maxRecDepth 100000 in
theorem ok_J7_fill_53178_26 (l1 : Int32) (s : xS) : xTr xMs xFL xR_J7_fill_53178 (Sum.inl (0, [(0, .ref 26), (1, .int l1)], [], s)) (F_J7_fill_53178 26 l1 s) (fun (y : xS) => Sum.inr (none, y)) := by
  unfold F_J7_fill_53178
  refine xTr.ms 5 (g := (5, [(0, .ref 26), (1, .int l1), (2, .int (0 : Int32)), (3, .int (Int32.ofNat 8))], [], s)) rfl ?_
  refine xTr.bind (J := F_J7_fill_53178_L5_ex_26 l1 (Int32.ofNat 8)) (xTr.loop (hd := F_J7_fill_53178_L5_hd_26 l1 (Int32.ofNat 8)) (fun aa => F_J7_fill_53178_L5_ok_26 l1 (Int32.ofNat 8) aa) 100000 ((0 : Int32), s)) (fun b3 => ?_)
  exact xTr.ret rfl rfl rfl
def F_J7_fill_53178_L5_hd_33 (l1 : Int32) (l3 : Int32) (a : Int32 × xS) : xT := Sum.inl (5, [(0, .ref 33), (1, .int l1), (2, .int a.1), (3, .int l3)], [], a.2)
def F_J7_fill_53178_L5_ex_33 (l1 : Int32) (l3 : Int32) : (xS) → xT := (fun (z : xS) => Sum.inl (20, [], [], z))
set_option maxRecDepth 100000 in
theorem F_J7_fill_53178_L5_ok_33 (l1 : Int32) (l3 : Int32) (a : Int32 × xS) : xTr xMs xFL xR_J7_fill_53178 (F_J7_fill_53178_L5_hd_33 l1 l3 a) (F_J7_fill_53178_L5 33 l1 l3 a) (xhx (F_J7_fill_53178_L5_hd_33 l1 l3) (F_J7_fill_53178_L5_ex_33 l1 l3)) := by
  unfold F_J7_fill_53178_L5
  refine xTr.ms 2 (g := (7, [(0, .ref 33), (1, .int l1), (2, .int a.1), (3, .int l3)], [.int l3, .int a.1], a.2)) rfl ?_
  refine xTr.br (g1 := (20, [(0, .ref 33), (1, .int l1), (2, .int a.1), (3, .int l3)], [], a.2)) (g2 := (10, [(0, .ref 33), (1, .int l1), (2, .int a.1), (3, .int l3)], [], a.2)) rfl (fun h1 => ?_) (fun h1 => ?_)
  · refine xTr.mk (lv1 := []) rfl rfl ?_
    exact xTr.leaf rfl
  · refine xTr.ms 3 (g := (13, [(0, .ref 33), (1, .int l1), (2, .int a.1), (3, .int l3)], [.int l1, .int a.1, .ref 33], a.2)) rfl ?_
    refine xTr.ck (g := (14, [(0, .ref 33), (1, .int l1), (2, .int a.1), (3, .int l3)], [], (xu a.2 33 a.1.toNatClampNeg l1))) rfl (fun h2 => ?_)
    refine xTr.ms 2 (g := (5, [(0, .ref 33), (1, .int l1), (2, .int (a.1 + (1 : Int32))), (3, .int l3)], [], (xu a.2 33 a.1.toNatClampNeg l1))) rfl ?_
    exact xTr.leaf rfl
set_option maxRecDepth 100000 in
theorem ok_J7_fill_53178_33 (l1 : Int32) (s : xS) : xTr xMs xFL xR_J7_fill_53178 (Sum.inl (0, [(0, .ref 33), (1, .int l1)], [], s)) (F_J7_fill_53178 33 l1 s) (fun (y : xS) => Sum.inr (none, y)) := by
  unfold F_J7_fill_53178
  refine xTr.ms 5 (g := (5, [(0, .ref 33), (1, .int l1), (2, .int (0 : Int32)), (3, .int (Int32.ofNat 36))], [], s)) rfl ?_
  refine xTr.bind (J := F_J7_fill_53178_L5_ex_33 l1 (Int32.ofNat 36)) (xTr.loop (hd := F_J7_fill_53178_L5_hd_33 l1 (Int32.ofNat 36)) (fun aa => F_J7_fill_53178_L5_ok_33 l1 (Int32.ofNat 36) aa) 100000 ((0 : Int32), s)) (fun b3 => ?_)
  exact xTr.ret rfl rfl rfl
def F_J7_fill_53178_L5_hd_35 (l1 : Int32) (l3 : Int32) (a : Int32 × xS) : xT := Sum.inl (5, [(0, .ref 35), (1, .int l1), (2, .int a.1), (3, .int l3)], [], a.2)
def F_J7_fill_53178_L5_ex_35 (l1 : Int32) (l3 : Int32) : (xS) → xT := (fun (z : xS) => Sum.inl (20, [], [], z))
set_option maxRecDepth 100000 in
theorem F_J7_fill_53178_L5_ok_35 (l1 : Int32) (l3 : Int32) (a : Int32 × xS) : xTr xMs xFL xR_J7_fill_53178 (F_J7_fill_53178_L5_hd_35 l1 l3 a) (F_J7_fill_53178_L5 35 l1 l3 a) (xhx (F_J7_fill_53178_L5_hd_35 l1 l3) (F_J7_fill_53178_L5_ex_35 l1 l3)) := by
  unfold F_J7_fill_53178_L5
  refine xTr.ms 2 (g := (7, [(0, .ref 35), (1, .int l1), (2, .int a.1), (3, .int l3)], [.int l3, .int a.1], a.2)) rfl ?_
  refine xTr.br (g1 := (20, [(0, .ref 35), (1, .int l1), (2, .int a.1), (3, .int l3)], [], a.2)) (g2 := (10, [(0, .ref 35), (1, .int l1), (2, .int a.1), (3, .int l3)], [], a.2)) rfl (fun h1 => ?_) (fun h1 => ?_)
  · refine xTr.mk (lv1 := []) rfl rfl ?_
    exact xTr.leaf rfl
  · refine xTr.ms 3 (g := (13, [(0, .ref 35), (1, .int l1), (2, .int a.1), (3, .int l3)], [.int l1, .int a.1, .ref 35], a.2)) rfl ?_
    refine xTr.ck (g := (14, [(0, .ref 35), (1, .int l1), (2, .int a.1), (3, .int l3)], [], (xu a.2 35 a.1.toNatClampNeg l1))) rfl (fun h2 => ?_)
    refine xTr.ms 2 (g := (5, [(0, .ref 35), (1, .int l1), (2, .int (a.1 + (1 : Int32))), (3, .int l3)], [], (xu a.2 35 a.1.toNatClampNeg l1))) rfl ?_
    exact xTr.leaf rfl
set_option maxRecDepth 100000 in
theorem ok_J7_fill_53178_35 (l1 : Int32) (s : xS) : xTr xMs xFL xR_J7_fill_53178 (Sum.inl (0, [(0, .ref 35), (1, .int l1)], [], s)) (F_J7_fill_53178 35 l1 s) (fun (y : xS) => Sum.inr (none, y)) := by
  unfold F_J7_fill_53178
  refine xTr.ms 5 (g := (5, [(0, .ref 35), (1, .int l1), (2, .int (0 : Int32)), (3, .int (Int32.ofNat 10))], [], s)) rfl ?_
  refine xTr.bind (J := F_J7_fill_53178_L5_ex_35 l1 (Int32.ofNat 10)) (xTr.loop (hd := F_J7_fill_53178_L5_hd_35 l1 (Int32.ofNat 10)) (fun aa => F_J7_fill_53178_L5_ok_35 l1 (Int32.ofNat 10) aa) 100000 ((0 : Int32), s)) (fun b3 => ?_)
  exact xTr.ret rfl rfl rfl
def F_J7_fill_53178_L5_hd_36 (l1 : Int32) (l3 : Int32) (a : Int32 × xS) : xT := Sum.inl (5, [(0, .ref 36), (1, .int l1), (2, .int a.1), (3, .int l3)], [], a.2)
def F_J7_fill_53178_L5_ex_36 (l1 : Int32) (l3 : Int32) : (xS) → xT := (fun (z : xS) => Sum.inl (20, [], [], z))
set_option maxRecDepth 100000 in
theorem F_J7_fill_53178_L5_ok_36 (l1 : Int32) (l3 : Int32) (a : Int32 × xS) : xTr xMs xFL xR_J7_fill_53178 (F_J7_fill_53178_L5_hd_36 l1 l3 a) (F_J7_fill_53178_L5 36 l1 l3 a) (xhx (F_J7_fill_53178_L5_hd_36 l1 l3) (F_J7_fill_53178_L5_ex_36 l1 l3)) := by
  unfold F_J7_fill_53178_L5
  refine xTr.ms 2 (g := (7, [(0, .ref 36), (1, .int l1), (2, .int a.1), (3, .int l3)], [.int l3, .int a.1], a.2)) rfl ?_
  refine xTr.br (g1 := (20, [(0, .ref 36), (1, .int l1), (2, .int a.1), (3, .int l3)], [], a.2)) (g2 := (10, [(0, .ref 36), (1, .int l1), (2, .int a.1), (3, .int l3)], [], a.2)) rfl (fun h1 => ?_) (fun h1 => ?_)
  · refine xTr.mk (lv1 := []) rfl rfl ?_
    exact xTr.leaf rfl
  · refine xTr.ms 3 (g := (13, [(0, .ref 36), (1, .int l1), (2, .int a.1), (3, .int l3)], [.int l1, .int a.1, .ref 36], a.2)) rfl ?_
    refine xTr.ck (g := (14, [(0, .ref 36), (1, .int l1), (2, .int a.1), (3, .int l3)], [], (xu a.2 36 a.1.toNatClampNeg l1))) rfl (fun h2 => ?_)
    refine xTr.ms 2 (g := (5, [(0, .ref 36), (1, .int l1), (2, .int (a.1 + (1 : Int32))), (3, .int l3)], [], (xu a.2 36 a.1.toNatClampNeg l1))) rfl ?_
    exact xTr.leaf rfl
set_option maxRecDepth 100000 in
theorem ok_J7_fill_53178_36 (l1 : Int32) (s : xS) : xTr xMs xFL xR_J7_fill_53178 (Sum.inl (0, [(0, .ref 36), (1, .int l1)], [], s)) (F_J7_fill_53178 36 l1 s) (fun (y : xS) => Sum.inr (none, y)) := by
  unfold F_J7_fill_53178
  refine xTr.ms 5 (g := (5, [(0, .ref 36), (1, .int l1), (2, .int (0 : Int32)), (3, .int (Int32.ofNat 10))], [], s)) rfl ?_
  refine xTr.bind (J := F_J7_fill_53178_L5_ex_36 l1 (Int32.ofNat 10)) (xTr.loop (hd := F_J7_fill_53178_L5_hd_36 l1 (Int32.ofNat 10)) (fun aa => F_J7_fill_53178_L5_ok_36 l1 (Int32.ofNat 10) aa) 100000 ((0 : Int32), s)) (fun b3 => ?_)
  exact xTr.ret rfl rfl rfl
def F_J7_fill_53178_L5_hd_38 (l1 : Int32) (l3 : Int32) (a : Int32 × xS) : xT := Sum.inl (5, [(0, .ref 38), (1, .int l1), (2, .int a.1), (3, .int l3)], [], a.2)
def F_J7_fill_53178_L5_ex_38 (l1 : Int32) (l3 : Int32) : (xS) → xT := (fun (z : xS) => Sum.inl (20, [], [], z))
set_option maxRecDepth 100000 in
theorem F_J7_fill_53178_L5_ok_38 (l1 : Int32) (l3 : Int32) (a : Int32 × xS) : xTr xMs xFL xR_J7_fill_53178 (F_J7_fill_53178_L5_hd_38 l1 l3 a) (F_J7_fill_53178_L5 38 l1 l3 a) (xhx (F_J7_fill_53178_L5_hd_38 l1 l3) (F_J7_fill_53178_L5_ex_38 l1 l3)) := by
  unfold F_J7_fill_53178_L5
  refine xTr.ms 2 (g := (7, [(0, .ref 38), (1, .int l1), (2, .int a.1), (3, .int l3)], [.int l3, .int a.1], a.2)) rfl ?_
  refine xTr.br (g1 := (20, [(0, .ref 38), (1, .int l1), (2, .int a.1), (3, .int l3)], [], a.2)) (g2 := (10, [(0, .ref 38), (1, .int l1), (2, .int a.1), (3, .int l3)], [], a.2)) rfl (fun h1 => ?_) (fun h1 => ?_)
  · refine xTr.mk (lv1 := []) rfl rfl ?_
    exact xTr.leaf rfl
  · refine xTr.ms 3 (g := (13, [(0, .ref 38), (1, .int l1), (2, .int a.1), (3, .int l3)], [.int l1, .int a.1, .ref 38], a.2)) rfl ?_
    refine xTr.ck (g := (14, [(0, .ref 38), (1, .int l1), (2, .int a.1), (3, .int l3)], [], (xu a.2 38 a.1.toNatClampNeg l1))) rfl (fun h2 => ?_)
    refine xTr.ms 2 (g := (5, [(0, .ref 38), (1, .int l1), (2, .int (a.1 + (1 : Int32))), (3, .int l3)], [], (xu a.2 38 a.1.toNatClampNeg l1))) rfl ?_
    exact xTr.leaf rfl
set_option maxRecDepth 100000 in
theorem ok_J7_fill_53178_38 (l1 : Int32) (s : xS) : xTr xMs xFL xR_J7_fill_53178 (Sum.inl (0, [(0, .ref 38), (1, .int l1)], [], s)) (F_J7_fill_53178 38 l1 s) (fun (y : xS) => Sum.inr (none, y)) := by
  unfold F_J7_fill_53178
  refine xTr.ms 5 (g := (5, [(0, .ref 38), (1, .int l1), (2, .int (0 : Int32)), (3, .int (Int32.ofNat 8))], [], s)) rfl ?_
  refine xTr.bind (J := F_J7_fill_53178_L5_ex_38 l1 (Int32.ofNat 8)) (xTr.loop (hd := F_J7_fill_53178_L5_hd_38 l1 (Int32.ofNat 8)) (fun aa => F_J7_fill_53178_L5_ok_38 l1 (Int32.ofNat 8) aa) 100000 ((0 : Int32), s)) (fun b3 => ?_)
  exact xTr.ret rfl rfl rfl
def F_J7_fill_53178_L5_hd_43 (l1 : Int32) (l3 : Int32) (a : Int32 × xS) : xT := Sum.inl (5, [(0, .ref 43), (1, .int l1), (2, .int a.1), (3, .int l3)], [], a.2)
def F_J7_fill_53178_L5_ex_43 (l1 : Int32) (l3 : Int32) : (xS) → xT := (fun (z : xS) => Sum.inl (20, [], [], z))
set_option maxRecDepth 100000 in
theorem F_J7_fill_53178_L5_ok_43 (l1 : Int32) (l3 : Int32) (a : Int32 × xS) : xTr xMs xFL xR_J7_fill_53178 (F_J7_fill_53178_L5_hd_43 l1 l3 a) (F_J7_fill_53178_L5 43 l1 l3 a) (xhx (F_J7_fill_53178_L5_hd_43 l1 l3) (F_J7_fill_53178_L5_ex_43 l1 l3)) := by
  unfold F_J7_fill_53178_L5
  refine xTr.ms 2 (g := (7, [(0, .ref 43), (1, .int l1), (2, .int a.1), (3, .int l3)], [.int l3, .int a.1], a.2)) rfl ?_
  refine xTr.br (g1 := (20, [(0, .ref 43), (1, .int l1), (2, .int a.1), (3, .int l3)], [], a.2)) (g2 := (10, [(0, .ref 43), (1, .int l1), (2, .int a.1), (3, .int l3)], [], a.2)) rfl (fun h1 => ?_) (fun h1 => ?_)
  · refine xTr.mk (lv1 := []) rfl rfl ?_
    exact xTr.leaf rfl
  · refine xTr.ms 3 (g := (13, [(0, .ref 43), (1, .int l1), (2, .int a.1), (3, .int l3)], [.int l1, .int a.1, .ref 43], a.2)) rfl ?_
    refine xTr.ck (g := (14, [(0, .ref 43), (1, .int l1), (2, .int a.1), (3, .int l3)], [], (xu a.2 43 a.1.toNatClampNeg l1))) rfl (fun h2 => ?_)
    refine xTr.ms 2 (g := (5, [(0, .ref 43), (1, .int l1), (2, .int (a.1 + (1 : Int32))), (3, .int l3)], [], (xu a.2 43 a.1.toNatClampNeg l1))) rfl ?_
    exact xTr.leaf rfl
set_option maxRecDepth 100000 in
theorem ok_J7_fill_53178_43 (l1 : Int32) (s : xS) : xTr xMs xFL xR_J7_fill_53178 (Sum.inl (0, [(0, .ref 43), (1, .int l1)], [], s)) (F_J7_fill_53178 43 l1 s) (fun (y : xS) => Sum.inr (none, y)) := by
  unfold F_J7_fill_53178
  refine xTr.ms 5 (g := (5, [(0, .ref 43), (1, .int l1), (2, .int (0 : Int32)), (3, .int (Int32.ofNat 4))], [], s)) rfl ?_
  refine xTr.bind (J := F_J7_fill_53178_L5_ex_43 l1 (Int32.ofNat 4)) (xTr.loop (hd := F_J7_fill_53178_L5_hd_43 l1 (Int32.ofNat 4)) (fun aa => F_J7_fill_53178_L5_ok_43 l1 (Int32.ofNat 4) aa) 100000 ((0 : Int32), s)) (fun b3 => ?_)
  exact xTr.ret rfl rfl rfl
