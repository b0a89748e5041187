-- X9_into
def F_X9_into (l1 : Int32) (s : xS) : Option (Int32) := if l1 < 0 ∨ 37 ≤ l1.toNatClampNeg then none else (if (s.1 3 l1.toNatClampNeg) = (1 : Int32) then (some (4 : Int32)) else (if l1 < 0 ∨ 37 ≤ l1.toNatClampNeg then none else (if (s.1 3 l1.toNatClampNeg) = (2 : Int32) then (some (3 : Int32)) else (some (1 : Int32)))))
set_option maxRecDepth 100000 in
theorem ok_X9_into (l1 : Int32) (s : xS) : xTr xMs xML xR_X9_into (Sum.inl (0, [(0, .ref 0), (1, .int l1)], [], s)) (F_X9_into l1 s) (fun (y : Int32) => Sum.inr (some (.int y), s)) := by
  unfold F_X9_into
  refine xTr.ms 3 (g := (5, [(0, .ref 0), (1, .int l1)], [.int l1, .ref 3], s)) rfl ?_
  refine xTr.ck (g := (6, [(0, .ref 0), (1, .int l1)], [.int (s.1 3 l1.toNatClampNeg)], s)) rfl (fun h1 => ?_)
  refine xTr.ms 1 (g := (7, [(0, .ref 0), (1, .int l1)], [.int (1 : Int32), .int (s.1 3 l1.toNatClampNeg)], s)) rfl ?_
  refine xTr.br (g1 := (10, [(0, .ref 0), (1, .int l1)], [], s)) (g2 := (14, [(0, .ref 0), (1, .int l1)], [], s)) rfl (fun h2 => ?_) (fun h2 => ?_)
  · refine xTr.ms 2 (g := (29, [], [.int (4 : Int32)], s)) rfl ?_
    exact xTr.ret rfl rfl rfl
  · refine xTr.ms 3 (g := (19, [(0, .ref 0), (1, .int l1)], [.int l1, .ref 3], s)) rfl ?_
    refine xTr.ck (g := (20, [(0, .ref 0), (1, .int l1)], [.int (s.1 3 l1.toNatClampNeg)], s)) rfl (fun h3 => ?_)
    refine xTr.ms 1 (g := (21, [(0, .ref 0), (1, .int l1)], [.int (2 : Int32), .int (s.1 3 l1.toNatClampNeg)], s)) rfl ?_
    refine xTr.br (g1 := (24, [(0, .ref 0), (1, .int l1)], [], s)) (g2 := (28, [(0, .ref 0), (1, .int l1)], [], s)) rfl (fun h4 => ?_) (fun h4 => ?_)
    · refine xTr.ms 2 (g := (29, [], [.int (3 : Int32)], s)) rfl ?_
      exact xTr.ret rfl rfl rfl
    · refine xTr.ms 1 (g := (29, [], [.int (1 : Int32)], s)) rfl ?_
      exact xTr.ret rfl rfl rfl
-- X9_doesEase
def F_X9_doesEase_L14 (l2 : Int32) (a : Int32 × Int32 × xS) : Option ((Int32 × Int32 × xS) ⊕ (Int32 × xS)) := if (4 : Int32) ≤ a.2.1 then (some (Sum.inr (a.1, a.2.2))) else ((F_X9_beside l2 a.2.1 a.2.2).bind fun v3 => (if v3 = (-1 : Int32) then (some (Sum.inl (a.1, (a.2.1 + (1 : Int32)), a.2.2))) else (if v3 < 0 ∨ 36 ≤ v3.toNatClampNeg then none else ((F_X9_into v3 a.2.2).bind fun v6 => (if l2 < 0 ∨ 36 ≤ l2.toNatClampNeg then none else (if (a.2.2.1 9 l2.toNatClampNeg) ≤ ((a.2.2.1 9 v3.toNatClampNeg) + v6) then (some (Sum.inl (a.1, (a.2.1 + (1 : Int32)), a.2.2))) else (if v3 < 0 ∨ 36 ≤ v3.toNatClampNeg then none else ((F_X9_into v3 a.2.2).bind fun v10 => (if l2 < 0 ∨ 36 ≤ l2.toNatClampNeg then none else (some (Sum.inl ((1 : Int32), (a.2.1 + (1 : Int32)), (xu a.2.2 9 l2.toNatClampNeg ((a.2.2.1 9 v3.toNatClampNeg) + v10))))))))))))))
def F_X9_doesEase_L4 (a : Int32 × Int32 × xS) : Option ((Int32 × Int32 × xS) ⊕ (Int32 × xS)) := if (a.2.2.1 0 3) ≤ a.2.1 then (some (Sum.inr (a.1, a.2.2))) else ((xlp (F_X9_doesEase_L14 a.2.1) 100000 (a.1, (0 : Int32), a.2.2)).bind (fun b12 => (some (Sum.inl (b12.1, (a.2.1 + (1 : Int32)), b12.2)))))
def F_X9_doesEase (s : xS) : Option (Int32 × xS) := (xlp (F_X9_doesEase_L4) 100000 ((0 : Int32), (0 : Int32), s)).bind (fun b13 => (if b13.1 = 0 ∨ b13.1 = 1 then some (b13.1, b13.2) else none))
def F_X9_doesEase_L4_hd (a : Int32 × Int32 × xS) : xT := Sum.inl (4, [(0, .ref 0), (1, .int a.1), (2, .int a.2.1)], [], a.2.2)
def F_X9_doesEase_L4_ex : (Int32 × xS) → xT := (fun (z : Int32 × xS) => Sum.inl (90, [(1, .int z.1)], [], z.2))
def F_X9_doesEase_L14_hd (l2 : Int32) (a : Int32 × Int32 × xS) : xT := Sum.inl (14, [(0, .ref 0), (1, .int a.1), (2, .int l2), (3, .int a.2.1)], [], a.2.2)
def F_X9_doesEase_L14_ex (l2 : Int32) : (Int32 × xS) → xT := (fun (z : Int32 × xS) => Sum.inl (84, [(0, .ref 0), (1, .int z.1), (2, .int l2)], [], z.2))
set_option maxRecDepth 100000 in
theorem F_X9_doesEase_L14_ok (l2 : Int32) (a : Int32 × Int32 × xS) : xTr xMs xML xR_X9_doesEase (F_X9_doesEase_L14_hd l2 a) (F_X9_doesEase_L14 l2 a) (xhx (F_X9_doesEase_L14_hd l2) (F_X9_doesEase_L14_ex l2)) := by
  unfold F_X9_doesEase_L14
  refine xTr.ms 2 (g := (16, [(0, .ref 0), (1, .int a.1), (2, .int l2), (3, .int a.2.1)], [.int (4 : Int32), .int a.2.1], a.2.2)) rfl ?_
  refine xTr.br (g1 := (84, [(0, .ref 0), (1, .int a.1), (2, .int l2), (3, .int a.2.1)], [], a.2.2)) (g2 := (19, [(0, .ref 0), (1, .int a.1), (2, .int l2), (3, .int a.2.1)], [], a.2.2)) rfl (fun h2 => ?_) (fun h2 => ?_)
  · refine xTr.mk (lv1 := [(0, .ref 0), (1, .int a.1), (2, .int l2)]) rfl rfl ?_
    exact xTr.leaf rfl
  · refine xTr.ms 3 (g := (22, [(0, .ref 0), (1, .int a.1), (2, .int l2), (3, .int a.2.1)], [.int a.2.1, .int l2, .ref 0], a.2.2)) rfl ?_
    refine xTr.callip (R' := xR_X9_beside) (as := [.ref 0, .int l2, .int a.2.1]) (lv := [(0, .ref 0), (1, .int a.1), (2, .int l2), (3, .int a.2.1)]) (rest := []) (ok_X9_beside l2 a.2.1 a.2.2) rfl rfl rfl rfl rfl (fun v3 => ?_)
    refine xTr.ms 3 (g := (30, [(0, .ref 0), (1, .int a.1), (2, .int l2), (3, .int a.2.1), (4, .int v3)], [.int (-1 : Int32), .int v3], a.2.2)) rfl ?_
    refine xTr.br (g1 := (78, [(0, .ref 0), (1, .int a.1), (2, .int l2), (3, .int a.2.1), (4, .int v3)], [], a.2.2)) (g2 := (33, [(0, .ref 0), (1, .int a.1), (2, .int l2), (3, .int a.2.1), (4, .int v3)], [], a.2.2)) rfl (fun h4 => ?_) (fun h4 => ?_)
    · refine xTr.ms 2 (g := (14, [(0, .ref 0), (1, .int a.1), (2, .int l2), (3, .int (a.2.1 + (1 : Int32)))], [], a.2.2)) rfl ?_
      exact xTr.leaf rfl
    · refine xTr.ms 3 (g := (39, [(0, .ref 0), (1, .int a.1), (2, .int l2), (3, .int a.2.1), (4, .int v3)], [.int v3, .ref 9], a.2.2)) rfl ?_
      refine xTr.ck (g := (40, [(0, .ref 0), (1, .int a.1), (2, .int l2), (3, .int a.2.1), (4, .int v3)], [.int (a.2.2.1 9 v3.toNatClampNeg)], a.2.2)) rfl (fun h5 => ?_)
      refine xTr.ms 2 (g := (43, [(0, .ref 0), (1, .int a.1), (2, .int l2), (3, .int a.2.1), (4, .int v3)], [.int v3, .ref 0, .int (a.2.2.1 9 v3.toNatClampNeg)], a.2.2)) rfl ?_
      refine xTr.callip (R' := xR_X9_into) (as := [.ref 0, .int v3]) (lv := [(0, .ref 0), (1, .int a.1), (2, .int l2), (3, .int a.2.1), (4, .int v3)]) (rest := [.int (a.2.2.1 9 v3.toNatClampNeg)]) (ok_X9_into v3 a.2.2) rfl rfl rfl rfl rfl (fun v6 => ?_)
      refine xTr.ms 4 (g := (52, [(0, .ref 0), (1, .int a.1), (2, .int l2), (3, .int a.2.1), (4, .int v3)], [.int l2, .ref 9, .int ((a.2.2.1 9 v3.toNatClampNeg) + v6)], a.2.2)) rfl ?_
      refine xTr.ck (g := (53, [(0, .ref 0), (1, .int a.1), (2, .int l2), (3, .int a.2.1), (4, .int v3)], [.int (a.2.2.1 9 l2.toNatClampNeg), .int ((a.2.2.1 9 v3.toNatClampNeg) + v6)], a.2.2)) rfl (fun h7 => ?_)
      refine xTr.br (g1 := (78, [(0, .ref 0), (1, .int a.1), (2, .int l2), (3, .int a.2.1), (4, .int v3)], [], a.2.2)) (g2 := (56, [(0, .ref 0), (1, .int a.1), (2, .int l2), (3, .int a.2.1), (4, .int v3)], [], a.2.2)) rfl (fun h8 => ?_) (fun h8 => ?_)
      · refine xTr.ms 2 (g := (14, [(0, .ref 0), (1, .int a.1), (2, .int l2), (3, .int (a.2.1 + (1 : Int32)))], [], a.2.2)) rfl ?_
        exact xTr.leaf rfl
      · refine xTr.ms 6 (g := (67, [(0, .ref 0), (2, .int l2), (3, .int a.2.1), (4, .int v3)], [.int v3, .ref 9, .int l2, .ref 9], a.2.2)) rfl ?_
        refine xTr.ck (g := (68, [(0, .ref 0), (2, .int l2), (3, .int a.2.1), (4, .int v3)], [.int (a.2.2.1 9 v3.toNatClampNeg), .int l2, .ref 9], a.2.2)) rfl (fun h9 => ?_)
        refine xTr.ms 2 (g := (71, [(0, .ref 0), (2, .int l2), (3, .int a.2.1), (4, .int v3)], [.int v3, .ref 0, .int (a.2.2.1 9 v3.toNatClampNeg), .int l2, .ref 9], a.2.2)) rfl ?_
        refine xTr.callip (R' := xR_X9_into) (as := [.ref 0, .int v3]) (lv := [(0, .ref 0), (2, .int l2), (3, .int a.2.1), (4, .int v3)]) (rest := [.int (a.2.2.1 9 v3.toNatClampNeg), .int l2, .ref 9]) (ok_X9_into v3 a.2.2) rfl rfl rfl rfl rfl (fun v10 => ?_)
        refine xTr.ms 1 (g := (75, [(0, .ref 0), (2, .int l2), (3, .int a.2.1), (4, .int v3)], [.int ((a.2.2.1 9 v3.toNatClampNeg) + v10), .int l2, .ref 9], a.2.2)) rfl ?_
        refine xTr.ck (g := (76, [(0, .ref 0), (2, .int l2), (3, .int a.2.1), (4, .int v3)], [], (xu a.2.2 9 l2.toNatClampNeg ((a.2.2.1 9 v3.toNatClampNeg) + v10)))) rfl (fun h11 => ?_)
        refine xTr.ms 4 (g := (14, [(0, .ref 0), (1, .int (1 : Int32)), (2, .int l2), (3, .int (a.2.1 + (1 : Int32)))], [], (xu a.2.2 9 l2.toNatClampNeg ((a.2.2.1 9 v3.toNatClampNeg) + v10)))) rfl ?_
        exact xTr.leaf rfl
set_option maxRecDepth 100000 in
theorem F_X9_doesEase_L4_ok (a : Int32 × Int32 × xS) : xTr xMs xML xR_X9_doesEase (F_X9_doesEase_L4_hd a) (F_X9_doesEase_L4 a) (xhx (F_X9_doesEase_L4_hd) (F_X9_doesEase_L4_ex)) := by
  unfold F_X9_doesEase_L4
  refine xTr.ms 3 (g := (9, [(0, .ref 0), (1, .int a.1), (2, .int a.2.1)], [.int (a.2.2.1 0 3), .int a.2.1], a.2.2)) rfl ?_
  refine xTr.br (g1 := (90, [(0, .ref 0), (1, .int a.1), (2, .int a.2.1)], [], a.2.2)) (g2 := (12, [(0, .ref 0), (1, .int a.1), (2, .int a.2.1)], [], a.2.2)) rfl (fun h1 => ?_) (fun h1 => ?_)
  · refine xTr.mk (lv1 := [(1, .int a.1)]) rfl rfl ?_
    exact xTr.leaf rfl
  · refine xTr.ms 2 (g := (14, [(0, .ref 0), (1, .int a.1), (2, .int a.2.1), (3, .int (0 : Int32))], [], a.2.2)) rfl ?_
    refine xTr.bind (J := F_X9_doesEase_L14_ex a.2.1) (xTr.loop (hd := F_X9_doesEase_L14_hd a.2.1) (fun aa => F_X9_doesEase_L14_ok a.2.1 aa) 100000 (a.1, (0 : Int32), a.2.2)) (fun b12 => ?_)
    refine xTr.ms 2 (g := (4, [(0, .ref 0), (1, .int b12.1), (2, .int (a.2.1 + (1 : Int32)))], [], b12.2)) rfl ?_
    exact xTr.leaf rfl
set_option maxRecDepth 100000 in
theorem ok_X9_doesEase (s : xS) : xTr xMs xML xR_X9_doesEase (Sum.inl (0, [(0, .ref 0)], [], s)) (F_X9_doesEase s) (fun (y : Int32 × xS) => Sum.inr (some (.int y.1), y.2)) := by
  unfold F_X9_doesEase
  refine xTr.ms 4 (g := (4, [(0, .ref 0), (1, .int (0 : Int32)), (2, .int (0 : Int32))], [], s)) rfl ?_
  refine xTr.bind (J := F_X9_doesEase_L4_ex) (xTr.loop (hd := F_X9_doesEase_L4_hd) (fun aa => F_X9_doesEase_L4_ok aa) 100000 ((0 : Int32), (0 : Int32), s)) (fun b13 => ?_)
  refine xTr.ms 1 (g := (91, [(1, .int b13.1)], [.int b13.1], b13.2)) rfl ?_
  exact xTr.rtz rfl rfl rfl
-- X9_carriesTo
def F_X9_carriesTo_L2 (l1 : Int32) (a : Int32 × xS) : Option ((Int32 × xS) ⊕ (xS)) := if (36 : Int32) ≤ a.1 then (some (Sum.inr a.2)) else (if a.1 = l1 then (if a.1 < 0 ∨ 36 ≤ a.1.toNatClampNeg then none else (some (Sum.inl ((a.1 + (1 : Int32)), (xu a.2 9 a.1.toNatClampNeg (0 : Int32)))))) else (if a.1 < 0 ∨ 36 ≤ a.1.toNatClampNeg then none else (some (Sum.inl ((a.1 + (1 : Int32)), (xu a.2 9 a.1.toNatClampNeg (999 : Int32)))))))
def F_X9_carriesTo_L43 (a : Int32 × xS) : Option ((Int32 × xS) ⊕ (xS)) := if a.1 = 0 then (some (Sum.inr a.2)) else ((F_X9_doesEase a.2).bind fun q9 => (some (Sum.inl (q9.1, q9.2))))
def F_X9_carriesTo (l1 : Int32) (s : xS) : Option (xS) := (xlp (F_X9_carriesTo_L2 l1) 100000 ((0 : Int32), s)).bind (fun b5 => (if l1 = (-1 : Int32) then ((xlp (F_X9_carriesTo_L43) 100000 ((0 : Int32), b5)).bind (fun b10 => (some b10))) else ((xlp (F_X9_carriesTo_L43) 100000 ((1 : Int32), b5)).bind (fun b11 => (some b11)))))
def F_X9_carriesTo_L2_hd (l1 : Int32) (a : Int32 × xS) : xT := Sum.inl (2, [(0, .ref 0), (1, .int l1), (2, .int a.1)], [], a.2)
def F_X9_carriesTo_L2_ex (l1 : Int32) : (xS) → xT := (fun (z : xS) => Sum.inl (32, [(0, .ref 0), (1, .int l1)], [], z))
set_option maxRecDepth 100000 in
theorem F_X9_carriesTo_L2_ok (l1 : Int32) (a : Int32 × xS) : xTr xMs xML xR_X9_carriesTo (F_X9_carriesTo_L2_hd l1 a) (F_X9_carriesTo_L2 l1 a) (xhx (F_X9_carriesTo_L2_hd l1) (F_X9_carriesTo_L2_ex l1)) := by
  unfold F_X9_carriesTo_L2
  refine xTr.ms 2 (g := (5, [(0, .ref 0), (1, .int l1), (2, .int a.1)], [.int (36 : Int32), .int a.1], a.2)) rfl ?_
  refine xTr.br (g1 := (32, [(0, .ref 0), (1, .int l1), (2, .int a.1)], [], a.2)) (g2 := (8, [(0, .ref 0), (1, .int l1), (2, .int a.1)], [], a.2)) rfl (fun h1 => ?_) (fun h1 => ?_)
  · refine xTr.mk (lv1 := [(0, .ref 0), (1, .int l1)]) rfl rfl ?_
    exact xTr.leaf rfl
  · refine xTr.ms 5 (g := (15, [(0, .ref 0), (1, .int l1), (2, .int a.1)], [.int l1, .int a.1, .int a.1, .ref 9], a.2)) rfl ?_
    refine xTr.br (g1 := (18, [(0, .ref 0), (1, .int l1), (2, .int a.1)], [.int a.1, .ref 9], a.2)) (g2 := (22, [(0, .ref 0), (1, .int l1), (2, .int a.1)], [.int a.1, .ref 9], a.2)) rfl (fun h2 => ?_) (fun h2 => ?_)
    · refine xTr.ms 2 (g := (25, [(0, .ref 0), (1, .int l1), (2, .int a.1)], [.int (0 : Int32), .int a.1, .ref 9], a.2)) rfl ?_
      refine xTr.ck (g := (26, [(0, .ref 0), (1, .int l1), (2, .int a.1)], [], (xu a.2 9 a.1.toNatClampNeg (0 : Int32)))) rfl (fun h3 => ?_)
      refine xTr.ms 2 (g := (2, [(0, .ref 0), (1, .int l1), (2, .int (a.1 + (1 : Int32)))], [], (xu a.2 9 a.1.toNatClampNeg (0 : Int32)))) rfl ?_
      exact xTr.leaf rfl
    · refine xTr.ms 1 (g := (25, [(0, .ref 0), (1, .int l1), (2, .int a.1)], [.int (999 : Int32), .int a.1, .ref 9], a.2)) rfl ?_
      refine xTr.ck (g := (26, [(0, .ref 0), (1, .int l1), (2, .int a.1)], [], (xu a.2 9 a.1.toNatClampNeg (999 : Int32)))) rfl (fun h4 => ?_)
      refine xTr.ms 2 (g := (2, [(0, .ref 0), (1, .int l1), (2, .int (a.1 + (1 : Int32)))], [], (xu a.2 9 a.1.toNatClampNeg (999 : Int32)))) rfl ?_
      exact xTr.leaf rfl
def F_X9_carriesTo_L43_hd (a : Int32 × xS) : xT := Sum.inl (43, [(0, .ref 0), (2, .int a.1)], [], a.2)
def F_X9_carriesTo_L43_ex : (xS) → xT := (fun (z : xS) => Sum.inl (55, [], [], z))
set_option maxRecDepth 100000 in
theorem F_X9_carriesTo_L43_ok (a : Int32 × xS) : xTr xMs xML xR_X9_carriesTo (F_X9_carriesTo_L43_hd a) (F_X9_carriesTo_L43 a) (xhx (F_X9_carriesTo_L43_hd) (F_X9_carriesTo_L43_ex)) := by
  unfold F_X9_carriesTo_L43
  refine xTr.ms 1 (g := (44, [(0, .ref 0), (2, .int a.1)], [.int a.1], a.2)) rfl ?_
  refine xTr.br (g1 := (55, [(0, .ref 0), (2, .int a.1)], [], a.2)) (g2 := (47, [(0, .ref 0), (2, .int a.1)], [], a.2)) rfl (fun h7 => ?_) (fun h7 => ?_)
  · refine xTr.mk (lv1 := []) rfl rfl ?_
    exact xTr.leaf rfl
  · refine xTr.ms 1 (g := (48, [(0, .ref 0)], [.ref 0], a.2)) rfl ?_
    refine xTr.calli (R' := xR_X9_doesEase) (as := [.ref 0]) (lv := [(0, .ref 0)]) (rest := []) (ok_X9_doesEase a.2) rfl rfl rfl rfl rfl (fun v8 s8 => ?_)
    refine xTr.ms 2 (g := (43, [(0, .ref 0), (2, .int v8)], [], s8)) rfl ?_
    exact xTr.leaf rfl
set_option maxRecDepth 100000 in
theorem ok_X9_carriesTo (l1 : Int32) (s : xS) : xTr xMs xML xR_X9_carriesTo (Sum.inl (0, [(0, .ref 0), (1, .int l1)], [], s)) (F_X9_carriesTo l1 s) (fun (y : xS) => Sum.inr (none, y)) := by
  unfold F_X9_carriesTo
  refine xTr.ms 2 (g := (2, [(0, .ref 0), (1, .int l1), (2, .int (0 : Int32))], [], s)) rfl ?_
  refine xTr.bind (J := F_X9_carriesTo_L2_ex l1) (xTr.loop (hd := F_X9_carriesTo_L2_hd l1) (fun aa => F_X9_carriesTo_L2_ok l1 aa) 100000 ((0 : Int32), s)) (fun b5 => ?_)
  refine xTr.ms 2 (g := (34, [(0, .ref 0), (1, .int l1)], [.int (-1 : Int32), .int l1], b5)) rfl ?_
  refine xTr.br (g1 := (41, [(0, .ref 0), (1, .int l1)], [], b5)) (g2 := (37, [(0, .ref 0), (1, .int l1)], [], b5)) rfl (fun h6 => ?_) (fun h6 => ?_)
  · refine xTr.ms 2 (g := (43, [(0, .ref 0), (2, .int (0 : Int32))], [], b5)) rfl ?_
    refine xTr.bind (J := F_X9_carriesTo_L43_ex) (xTr.loop (hd := F_X9_carriesTo_L43_hd) (fun aa => F_X9_carriesTo_L43_ok aa) 100000 ((0 : Int32), b5)) (fun b10 => ?_)
    exact xTr.ret rfl rfl rfl
  · refine xTr.ms 3 (g := (43, [(0, .ref 0), (2, .int (1 : Int32))], [], b5)) rfl ?_
    refine xTr.bind (J := F_X9_carriesTo_L43_ex) (xTr.loop (hd := F_X9_carriesTo_L43_hd) (fun aa => F_X9_carriesTo_L43_ok aa) 100000 ((1 : Int32), b5)) (fun b11 => ?_)
    exact xTr.ret rfl rfl rfl
-- X9_carryOf
def F_X9_carryOf (l1 : Int32) (l2 : Int32) (l3 : Int32) (s : xS) : Option (Int32 × xS) := (F_X9_carriesTo l3 s).bind fun s2 => (if l2 < 0 ∨ 36 ≤ l2.toNatClampNeg then none else (if l1 ≤ (s2.1 9 l2.toNatClampNeg) then (some ((0 : Int32), s2)) else (if l2 < 0 ∨ 36 ≤ l2.toNatClampNeg then none else (some ((l1 - (s2.1 9 l2.toNatClampNeg)), s2)))))
set_option maxRecDepth 100000 in
theorem ok_X9_carryOf (l1 : Int32) (l2 : Int32) (l3 : Int32) (s : xS) : xTr xMs xML xR_X9_carryOf (Sum.inl (0, [(0, .ref 0), (1, .int l1), (2, .int l2), (3, .int l3)], [], s)) (F_X9_carryOf l1 l2 l3 s) (fun (y : Int32 × xS) => Sum.inr (some (.int y.1), y.2)) := by
  unfold F_X9_carryOf
  refine xTr.ms 2 (g := (2, [(0, .ref 0), (1, .int l1), (2, .int l2), (3, .int l3)], [.int l3, .ref 0], s)) rfl ?_
  refine xTr.callv (R' := xR_X9_carriesTo) (as := [.ref 0, .int l3]) (lv := [(0, .ref 0), (1, .int l1), (2, .int l2), (3, .int l3)]) (rest := []) (ok_X9_carriesTo l3 s) rfl rfl rfl rfl rfl (fun s2 => ?_)
  refine xTr.ms 4 (g := (11, [(0, .ref 0), (1, .int l1), (2, .int l2), (3, .int l3)], [.int l2, .ref 9, .int l1], s2)) rfl ?_
  refine xTr.ck (g := (12, [(0, .ref 0), (1, .int l1), (2, .int l2), (3, .int l3)], [.int (s2.1 9 l2.toNatClampNeg), .int l1], s2)) rfl (fun h3 => ?_)
  refine xTr.br (g1 := (26, [(0, .ref 0), (1, .int l1), (2, .int l2), (3, .int l3)], [], s2)) (g2 := (15, [(0, .ref 0), (1, .int l1), (2, .int l2), (3, .int l3)], [], s2)) rfl (fun h4 => ?_) (fun h4 => ?_)
  · refine xTr.ms 1 (g := (27, [], [.int (0 : Int32)], s2)) rfl ?_
    exact xTr.ret rfl rfl rfl
  · refine xTr.ms 4 (g := (21, [(0, .ref 0), (1, .int l1), (2, .int l2)], [.int l2, .ref 9, .int l1], s2)) rfl ?_
    refine xTr.ck (g := (22, [(0, .ref 0), (1, .int l1), (2, .int l2)], [.int (s2.1 9 l2.toNatClampNeg), .int l1], s2)) rfl (fun h5 => ?_)
    refine xTr.ms 2 (g := (27, [(0, .ref 0), (1, .int l1), (2, .int l2)], [.int (l1 - (s2.1 9 l2.toNatClampNeg))], s2)) rfl ?_
    exact xTr.ret rfl rfl rfl
-- X9_carry
def F_X9_carry (l1 : Int32) (l2 : Int32) (l3 : Int32) (s : xS) : Option (Int32 × xS) := (F_X9_in l1 (0 : Int32) (99 : Int32) s).bind fun v1 => (if v1 = 0 then (some ((-2 : Int32), s)) else ((F_X9_isCell l2 s).bind fun q4 => (if q4.1 = 0 then (some ((-2 : Int32), q4.2)) else ((F_X9_isCell l3 q4.2).bind fun q7 => (if q7.1 = 0 then (some ((-2 : Int32), q7.2)) else ((F_X9_carryOf l1 l2 l3 q7.2).bind fun q10 => (some (q10.1, q10.2))))))))
set_option maxRecDepth 100000 in
theorem ok_X9_carry (l1 : Int32) (l2 : Int32) (l3 : Int32) (s : xS) : xTr xMs xML xR_X9_carry (Sum.inl (0, [(0, .ref 0), (1, .int l1), (2, .int l2), (3, .int l3)], [], s)) (F_X9_carry l1 l2 l3 s) (fun (y : Int32 × xS) => Sum.inr (some (.int y.1), y.2)) := by
  unfold F_X9_carry
  refine xTr.ms 3 (g := (4, [(0, .ref 0), (1, .int l1), (2, .int l2), (3, .int l3)], [.int (99 : Int32), .int (0 : Int32), .int l1], s)) rfl ?_
  refine xTr.callip (R' := xR_X9_in) (as := [.int l1, .int (0 : Int32), .int (99 : Int32)]) (lv := [(0, .ref 0), (1, .int l1), (2, .int l2), (3, .int l3)]) (rest := []) (ok_X9_in l1 (0 : Int32) (99 : Int32) s) rfl rfl rfl rfl rfl (fun v1 => ?_)
  refine xTr.br (g1 := (36, [(0, .ref 0), (1, .int l1), (2, .int l2), (3, .int l3)], [], s)) (g2 := (10, [(0, .ref 0), (1, .int l1), (2, .int l2), (3, .int l3)], [], s)) rfl (fun h2 => ?_) (fun h2 => ?_)
  · refine xTr.ms 1 (g := (38, [], [.int (-2 : Int32)], s)) rfl ?_
    exact xTr.ret rfl rfl rfl
  · refine xTr.ms 2 (g := (12, [(0, .ref 0), (1, .int l1), (2, .int l2), (3, .int l3)], [.int l2, .ref 0], s)) rfl ?_
    refine xTr.calli (R' := xR_X9_isCell) (as := [.ref 0, .int l2]) (lv := [(0, .ref 0), (1, .int l1), (2, .int l2), (3, .int l3)]) (rest := []) (ok_X9_isCell l2 s) rfl rfl rfl rfl rfl (fun v3 s3 => ?_)
    refine xTr.br (g1 := (36, [(0, .ref 0), (1, .int l1), (2, .int l2), (3, .int l3)], [], s3)) (g2 := (18, [(0, .ref 0), (1, .int l1), (2, .int l2), (3, .int l3)], [], s3)) rfl (fun h5 => ?_) (fun h5 => ?_)
    · refine xTr.ms 1 (g := (38, [], [.int (-2 : Int32)], s3)) rfl ?_
      exact xTr.ret rfl rfl rfl
    · refine xTr.ms 2 (g := (20, [(0, .ref 0), (1, .int l1), (2, .int l2), (3, .int l3)], [.int l3, .ref 0], s3)) rfl ?_
      refine xTr.calli (R' := xR_X9_isCell) (as := [.ref 0, .int l3]) (lv := [(0, .ref 0), (1, .int l1), (2, .int l2), (3, .int l3)]) (rest := []) (ok_X9_isCell l3 s3) rfl rfl rfl rfl rfl (fun v6 s6 => ?_)
      refine xTr.br (g1 := (36, [(0, .ref 0), (1, .int l1), (2, .int l2), (3, .int l3)], [], s6)) (g2 := (26, [(0, .ref 0), (1, .int l1), (2, .int l2), (3, .int l3)], [], s6)) rfl (fun h8 => ?_) (fun h8 => ?_)
      · refine xTr.ms 1 (g := (38, [], [.int (-2 : Int32)], s6)) rfl ?_
        exact xTr.ret rfl rfl rfl
      · refine xTr.ms 4 (g := (30, [(0, .ref 0), (1, .int l1), (2, .int l2), (3, .int l3)], [.int l3, .int l2, .int l1, .ref 0], s6)) rfl ?_
        refine xTr.calli (R' := xR_X9_carryOf) (as := [.ref 0, .int l1, .int l2, .int l3]) (lv := [(0, .ref 0), (1, .int l1), (2, .int l2), (3, .int l3)]) (rest := []) (ok_X9_carryOf l1 l2 l3 s6) rfl rfl rfl rfl rfl (fun v9 s9 => ?_)
        refine xTr.ms 1 (g := (38, [(0, .ref 0), (1, .int l1), (2, .int l2), (3, .int l3)], [.int v9], s9)) rfl ?_
        exact xTr.ret rfl rfl rfl
-- X9_asTold
def F_X9_asTold (s : xS) : Option (xS) := (F_X9_reads s).bind fun s2 => (some (xu s2 0 15 (0 : Int32)))
set_option maxRecDepth 100000 in
theorem ok_X9_asTold (s : xS) : xTr xMs xML xR_X9_asTold (Sum.inl (0, [(0, .ref 0)], [], s)) (F_X9_asTold s) (fun (y : xS) => Sum.inr (none, y)) := by
  unfold F_X9_asTold
  refine xTr.ms 1 (g := (1, [(0, .ref 0)], [.ref 0], s)) rfl ?_
  refine xTr.callv (R' := xR_X9_reads) (as := [.ref 0]) (lv := [(0, .ref 0)]) (rest := []) (ok_X9_reads s) rfl rfl rfl rfl rfl (fun s2 => ?_)
  refine xTr.ms 3 (g := (9, [(0, .ref 0)], [], (xu s2 0 15 (0 : Int32)))) rfl ?_
  exact xTr.ret rfl rfl rfl
-- X9_lays
def F_X9_lays (s : xS) : Option (xS) := (F_X9_bedNow s).bind fun v1 => ((F_X9_carriesTo v1 s).bind fun s3 => (some s3))
set_option maxRecDepth 100000 in
theorem ok_X9_lays (s : xS) : xTr xMs xML xR_X9_lays (Sum.inl (0, [(0, .ref 0)], [], s)) (F_X9_lays s) (fun (y : xS) => Sum.inr (none, y)) := by
  unfold F_X9_lays
  refine xTr.ms 2 (g := (2, [(0, .ref 0)], [.ref 0, .ref 0], s)) rfl ?_
  refine xTr.callip (R' := xR_X9_bedNow) (as := [.ref 0]) (lv := [(0, .ref 0)]) (rest := [.ref 0]) (ok_X9_bedNow s) rfl rfl rfl rfl rfl (fun v1 => ?_)
  refine xTr.callv (R' := xR_X9_carriesTo) (as := [.ref 0, .int v1]) (lv := [(0, .ref 0)]) (rest := []) (ok_X9_carriesTo v1 s) rfl rfl rfl rfl rfl (fun s3 => ?_)
  exact xTr.ret rfl rfl rfl
-- X9_loudOf
def F_X9_loudOf (l0 : Int32) (s : xS) : Option (Int32) := if l0 = 0 then (some (3 : Int32)) else (if l0 = (1 : Int32) then (some (6 : Int32)) else (if l0 = (2 : Int32) then (some (9 : Int32)) else (some (14 : Int32))))
set_option maxRecDepth 100000 in
theorem ok_X9_loudOf (l0 : Int32) (s : xS) : xTr xMs xML xR_X9_loudOf (Sum.inl (0, [(0, .int l0)], [], s)) (F_X9_loudOf l0 s) (fun (y : Int32) => Sum.inr (some (.int y), s)) := by
  unfold F_X9_loudOf
  refine xTr.ms 1 (g := (1, [(0, .int l0)], [.int l0], s)) rfl ?_
  refine xTr.br (g1 := (4, [(0, .int l0)], [], s)) (g2 := (8, [(0, .int l0)], [], s)) rfl (fun h1 => ?_) (fun h1 => ?_)
  · refine xTr.ms 2 (g := (30, [], [.int (3 : Int32)], s)) rfl ?_
    exact xTr.ret rfl rfl rfl
  · refine xTr.ms 2 (g := (10, [(0, .int l0)], [.int (1 : Int32), .int l0], s)) rfl ?_
    refine xTr.br (g1 := (13, [(0, .int l0)], [], s)) (g2 := (18, [(0, .int l0)], [], s)) rfl (fun h2 => ?_) (fun h2 => ?_)
    · refine xTr.ms 2 (g := (30, [], [.int (6 : Int32)], s)) rfl ?_
      exact xTr.ret rfl rfl rfl
    · refine xTr.ms 2 (g := (20, [(0, .int l0)], [.int (2 : Int32), .int l0], s)) rfl ?_
      refine xTr.br (g1 := (23, [(0, .int l0)], [], s)) (g2 := (28, [(0, .int l0)], [], s)) rfl (fun h3 => ?_) (fun h3 => ?_)
      · refine xTr.ms 2 (g := (30, [], [.int (9 : Int32)], s)) rfl ?_
        exact xTr.ret rfl rfl rfl
      · refine xTr.ms 1 (g := (30, [], [.int (14 : Int32)], s)) rfl ?_
        exact xTr.ret rfl rfl rfl
-- X9_hears
def F_X9_hears_L2 (a : Int32 × xS) : Option ((Int32 × xS) ⊕ (xS)) := if (a.2.1 0 5) ≤ a.1 then (some (Sum.inr a.2)) else (if a.1 < 0 ∨ 9 ≤ a.1.toNatClampNeg then none else (if (a.2.1 0 3) ≤ (a.2.1 4 a.1.toNatClampNeg) then (if a.1 < 0 ∨ 8 ≤ a.1.toNatClampNeg then none else (some (Sum.inl ((a.1 + (1 : Int32)), (xu a.2 10 a.1.toNatClampNeg (0 : Int32)))))) else (if a.1 < 0 ∨ 9 ≤ a.1.toNatClampNeg then none else ((F_X9_loudOf (a.2.1 5 a.1.toNatClampNeg) a.2).bind fun v6 => (if a.1 < 0 ∨ 9 ≤ a.1.toNatClampNeg then none else (if (a.2.1 4 a.1.toNatClampNeg) < 0 ∨ 36 ≤ ((a.2.1 4 a.1.toNatClampNeg)).toNatClampNeg then none else (if (v6 - (a.2.1 9 ((a.2.1 4 a.1.toNatClampNeg)).toNatClampNeg)) ≤ 0 then (if a.1 < 0 ∨ 8 ≤ a.1.toNatClampNeg then none else (some (Sum.inl ((a.1 + (1 : Int32)), (xu a.2 10 a.1.toNatClampNeg (0 : Int32)))))) else (if a.1 < 0 ∨ 8 ≤ a.1.toNatClampNeg then none else (some (Sum.inl ((a.1 + (1 : Int32)), (xu a.2 10 a.1.toNatClampNeg (v6 - (a.2.1 9 ((a.2.1 4 a.1.toNatClampNeg)).toNatClampNeg))))))))))))))
def F_X9_hears (s : xS) : Option (xS) := (xlp (F_X9_hears_L2) 100000 ((0 : Int32), s)).bind (fun b12 => (some b12))
def F_X9_hears_L2_hd (a : Int32 × xS) : xT := Sum.inl (2, [(0, .ref 0), (1, .int a.1)], [], a.2)
def F_X9_hears_L2_ex : (xS) → xT := (fun (z : xS) => Sum.inl (70, [], [], z))
set_option maxRecDepth 100000 in
theorem F_X9_hears_L2_ok (a : Int32 × xS) : xTr xMs xML xR_X9_hears (F_X9_hears_L2_hd a) (F_X9_hears_L2 a) (xhx (F_X9_hears_L2_hd) (F_X9_hears_L2_ex)) := by
  unfold F_X9_hears_L2
  refine xTr.ms 3 (g := (7, [(0, .ref 0), (1, .int a.1)], [.int (a.2.1 0 5), .int a.1], a.2)) rfl ?_
  refine xTr.br (g1 := (70, [(0, .ref 0), (1, .int a.1)], [], a.2)) (g2 := (10, [(0, .ref 0), (1, .int a.1)], [], a.2)) rfl (fun h1 => ?_) (fun h1 => ?_)
  · refine xTr.mk (lv1 := []) rfl rfl ?_
    exact xTr.leaf rfl
  · refine xTr.ms 3 (g := (15, [(0, .ref 0), (1, .int a.1)], [.int a.1, .ref 4], a.2)) rfl ?_
    refine xTr.ck (g := (16, [(0, .ref 0), (1, .int a.1)], [.int (a.2.1 4 a.1.toNatClampNeg)], a.2)) rfl (fun h2 => ?_)
    refine xTr.ms 2 (g := (20, [(0, .ref 0), (1, .int a.1)], [.int (a.2.1 0 3), .int (a.2.1 4 a.1.toNatClampNeg)], a.2)) rfl ?_
    refine xTr.br (g1 := (47, [(0, .ref 0), (1, .int a.1)], [], a.2)) (g2 := (23, [(0, .ref 0), (1, .int a.1)], [], a.2)) rfl (fun h3 => ?_) (fun h3 => ?_)
    · refine xTr.ms 8 (g := (63, [(0, .ref 0), (1, .int a.1)], [.int (0 : Int32), .int a.1, .ref 10], a.2)) rfl ?_
      refine xTr.ck (g := (64, [(0, .ref 0), (1, .int a.1)], [], (xu a.2 10 a.1.toNatClampNeg (0 : Int32)))) rfl (fun h4 => ?_)
      refine xTr.ms 2 (g := (2, [(0, .ref 0), (1, .int (a.1 + (1 : Int32)))], [], (xu a.2 10 a.1.toNatClampNeg (0 : Int32)))) rfl ?_
      exact xTr.leaf rfl
    · refine xTr.ms 3 (g := (28, [(0, .ref 0), (1, .int a.1)], [.int a.1, .ref 5], a.2)) rfl ?_
      refine xTr.ck (g := (29, [(0, .ref 0), (1, .int a.1)], [.int (a.2.1 5 a.1.toNatClampNeg)], a.2)) rfl (fun h5 => ?_)
      refine xTr.callip (R' := xR_X9_loudOf) (as := [.int (a.2.1 5 a.1.toNatClampNeg)]) (lv := [(0, .ref 0), (1, .int a.1)]) (rest := []) (ok_X9_loudOf (a.2.1 5 a.1.toNatClampNeg) a.2) rfl rfl rfl rfl rfl (fun v6 => ?_)
      refine xTr.ms 5 (g := (41, [(0, .ref 0), (1, .int a.1)], [.int a.1, .ref 4, .ref 9, .int v6], a.2)) rfl ?_
      refine xTr.ck (g := (42, [(0, .ref 0), (1, .int a.1)], [.int (a.2.1 4 a.1.toNatClampNeg), .ref 9, .int v6], a.2)) rfl (fun h7 => ?_)
      refine xTr.ck (g := (43, [(0, .ref 0), (1, .int a.1)], [.int (a.2.1 9 ((a.2.1 4 a.1.toNatClampNeg)).toNatClampNeg), .int v6], a.2)) rfl (fun h8 => ?_)
      refine xTr.ms 7 (g := (55, [(0, .ref 0), (1, .int a.1), (2, .int (v6 - (a.2.1 9 ((a.2.1 4 a.1.toNatClampNeg)).toNatClampNeg)))], [.int (v6 - (a.2.1 9 ((a.2.1 4 a.1.toNatClampNeg)).toNatClampNeg)), .int a.1, .ref 10], a.2)) rfl ?_
      refine xTr.br (g1 := (62, [(0, .ref 0), (1, .int a.1), (2, .int (v6 - (a.2.1 9 ((a.2.1 4 a.1.toNatClampNeg)).toNatClampNeg)))], [.int a.1, .ref 10], a.2)) (g2 := (58, [(0, .ref 0), (1, .int a.1), (2, .int (v6 - (a.2.1 9 ((a.2.1 4 a.1.toNatClampNeg)).toNatClampNeg)))], [.int a.1, .ref 10], a.2)) rfl (fun h9 => ?_) (fun h9 => ?_)
      · refine xTr.ms 1 (g := (63, [(0, .ref 0), (1, .int a.1)], [.int (0 : Int32), .int a.1, .ref 10], a.2)) rfl ?_
        refine xTr.ck (g := (64, [(0, .ref 0), (1, .int a.1)], [], (xu a.2 10 a.1.toNatClampNeg (0 : Int32)))) rfl (fun h10 => ?_)
        refine xTr.ms 2 (g := (2, [(0, .ref 0), (1, .int (a.1 + (1 : Int32)))], [], (xu a.2 10 a.1.toNatClampNeg (0 : Int32)))) rfl ?_
        exact xTr.leaf rfl
      · refine xTr.ms 2 (g := (63, [(0, .ref 0), (1, .int a.1), (2, .int (v6 - (a.2.1 9 ((a.2.1 4 a.1.toNatClampNeg)).toNatClampNeg)))], [.int (v6 - (a.2.1 9 ((a.2.1 4 a.1.toNatClampNeg)).toNatClampNeg)), .int a.1, .ref 10], a.2)) rfl ?_
        refine xTr.ck (g := (64, [(0, .ref 0), (1, .int a.1)], [], (xu a.2 10 a.1.toNatClampNeg (v6 - (a.2.1 9 ((a.2.1 4 a.1.toNatClampNeg)).toNatClampNeg))))) rfl (fun h11 => ?_)
        refine xTr.ms 2 (g := (2, [(0, .ref 0), (1, .int (a.1 + (1 : Int32)))], [], (xu a.2 10 a.1.toNatClampNeg (v6 - (a.2.1 9 ((a.2.1 4 a.1.toNatClampNeg)).toNatClampNeg))))) rfl ?_
        exact xTr.leaf rfl
set_option maxRecDepth 100000 in
theorem ok_X9_hears (s : xS) : xTr xMs xML xR_X9_hears (Sum.inl (0, [(0, .ref 0)], [], s)) (F_X9_hears s) (fun (y : xS) => Sum.inr (none, y)) := by
  unfold F_X9_hears
  refine xTr.ms 2 (g := (2, [(0, .ref 0), (1, .int (0 : Int32))], [], s)) rfl ?_
  refine xTr.bind (J := F_X9_hears_L2_ex) (xTr.loop (hd := F_X9_hears_L2_hd) (fun aa => F_X9_hears_L2_ok aa) 100000 ((0 : Int32), s)) (fun b12 => ?_)
  exact xTr.ret rfl rfl rfl
-- X9_isIn
def F_X9_isIn (l0 : Int32) (l1 : Int32) (s : xS) : Option (Int32) := if ((xshr l0 l1) &&& (1 : Int32)) = (1 : Int32) then (some (1 : Int32)) else (some (0 : Int32))
set_option maxRecDepth 100000 in
theorem ok_X9_isIn (l0 : Int32) (l1 : Int32) (s : xS) : xTr xMs xML xR_X9_isIn (Sum.inl (0, [(0, .int l0), (1, .int l1)], [], s)) (F_X9_isIn l0 l1 s) (fun (y : Int32) => Sum.inr (some (.int y), s)) := by
  unfold F_X9_isIn
  refine xTr.ms 6 (g := (6, [(0, .int l0), (1, .int l1)], [.int (1 : Int32), .int ((xshr l0 l1) &&& (1 : Int32))], s)) rfl ?_
  refine xTr.br (g1 := (9, [(0, .int l0), (1, .int l1)], [], s)) (g2 := (13, [(0, .int l0), (1, .int l1)], [], s)) rfl (fun h1 => ?_) (fun h1 => ?_)
  · refine xTr.ms 2 (g := (14, [], [.int (1 : Int32)], s)) rfl ?_
    exact xTr.ret rfl rfl rfl
  · refine xTr.ms 1 (g := (14, [], [.int (0 : Int32)], s)) rfl ?_
    exact xTr.ret rfl rfl rfl
-- X9_noiseIn
def F_X9_noiseIn_L4_J57 (l1 : Int32) (j2 : Int32) (j3 : Int32) (t1 : Int32) (t2 : Int32) (js : xS) : Option ((Int32 × Int32 × xS) ⊕ (Int32 × xS)) := if t1 < 0 ∨ 8 ≤ t1.toNatClampNeg then none else (if j3 < 0 ∨ 8 ≤ j3.toNatClampNeg then none else (if ((xu js 11 t1.toNatClampNeg t2).1 11 j3.toNatClampNeg) = 0 then (if j3 < 0 ∨ 8 ≤ j3.toNatClampNeg then none else (some (Sum.inl ((j2 + (js.1 10 j3.toNatClampNeg)), (j3 + (1 : Int32)), (xu js 11 t1.toNatClampNeg t2))))) else (some (Sum.inl ((j2 + (0 : Int32)), (j3 + (1 : Int32)), (xu js 11 t1.toNatClampNeg t2))))))
def F_X9_noiseIn_L4 (l1 : Int32) (a : Int32 × Int32 × xS) : Option ((Int32 × Int32 × xS) ⊕ (Int32 × xS)) := if (a.2.2.1 0 5) ≤ a.2.1 then (some (Sum.inr (a.1, a.2.2))) else (if a.2.1 < 0 ∨ 9 ≤ a.2.1.toNatClampNeg then none else (if (a.2.2.1 6 a.2.1.toNatClampNeg) = l1 then ((F_X9_isIn (a.2.2.1 0 15) a.2.1 a.2.2).bind fun v4 => (if v4 = 0 then (if a.2.1 < 0 ∨ 9 ≤ a.2.1.toNatClampNeg then none else (if (a.2.2.1 4 a.2.1.toNatClampNeg) < 0 ∨ 40 ≤ ((a.2.2.1 4 a.2.1.toNatClampNeg)).toNatClampNeg then none else (if (a.2.2.1 14 ((a.2.2.1 4 a.2.1.toNatClampNeg)).toNatClampNeg) = 0 then (F_X9_noiseIn_L4_J57 l1 a.1 a.2.1 a.2.1 (0 : Int32) a.2.2) else (F_X9_noiseIn_L4_J57 l1 a.1 a.2.1 a.2.1 (1 : Int32) a.2.2)))) else (some (Sum.inl (a.1, (a.2.1 + (1 : Int32)), a.2.2))))) else (some (Sum.inl (a.1, (a.2.1 + (1 : Int32)), a.2.2)))))
def F_X9_noiseIn_L88 (l1 : Int32) (s : xS) (a : Int32 × Int32) : Option ((Int32 × Int32) ⊕ (Int32)) := if (s.1 0 11) ≤ a.2 then (some (Sum.inr a.1)) else (if a.2 < 0 ∨ 6 ≤ a.2.toNatClampNeg then none else (if (s.1 7 a.2.toNatClampNeg) = l1 then (if a.2 < 0 ∨ 6 ≤ a.2.toNatClampNeg then none else (some (Sum.inl ((a.1 + (s.1 8 a.2.toNatClampNeg)), (a.2 + (1 : Int32)))))) else (some (Sum.inl ((a.1 + (0 : Int32)), (a.2 + (1 : Int32)))))))
def F_X9_noiseIn (l1 : Int32) (s : xS) : Option (Int32 × xS) := (xlp (F_X9_noiseIn_L4 l1) 100000 ((0 : Int32), (0 : Int32), s)).bind (fun b13 => ((xlp (F_X9_noiseIn_L88 l1 b13.2) 100000 (b13.1, (0 : Int32))).bind (fun b18 => (some (b18, b13.2)))))
def F_X9_noiseIn_L4_hd (l1 : Int32) (a : Int32 × Int32 × xS) : xT := Sum.inl (4, [(0, .ref 0), (1, .int l1), (2, .int a.1), (3, .int a.2.1)], [], a.2.2)
def F_X9_noiseIn_L4_ex (l1 : Int32) : (Int32 × xS) → xT := (fun (z : Int32 × xS) => Sum.inl (86, [(0, .ref 0), (1, .int l1), (2, .int z.1)], [], z.2))
set_option maxRecDepth 100000 in
theorem F_X9_noiseIn_L4_J57_ok (l1 : Int32) (j2 : Int32) (j3 : Int32) (t1 : Int32) (t2 : Int32) (js : xS) : xTr xMs xML xR_X9_noiseIn (Sum.inl (57, [(0, .ref 0), (1, .int l1), (2, .int j2), (3, .int j3)], [.int t2, .int t1, .ref 11], js)) (F_X9_noiseIn_L4_J57 l1 j2 j3 t1 t2 js) (xhx (F_X9_noiseIn_L4_hd l1) (F_X9_noiseIn_L4_ex l1)) := by
  unfold F_X9_noiseIn_L4_J57
  refine xTr.ck (g := (58, [(0, .ref 0), (1, .int l1), (2, .int j2), (3, .int j3)], [], (xu js 11 t1.toNatClampNeg t2))) rfl (fun h9 => ?_)
  refine xTr.ms 4 (g := (64, [(0, .ref 0), (1, .int l1), (2, .int j2), (3, .int j3)], [.int j3, .ref 11, .int j2], (xu js 11 t1.toNatClampNeg t2))) rfl ?_
  refine xTr.ck (g := (65, [(0, .ref 0), (1, .int l1), (2, .int j2), (3, .int j3)], [.int ((xu js 11 t1.toNatClampNeg t2).1 11 j3.toNatClampNeg), .int j2], (xu js 11 t1.toNatClampNeg t2))) rfl (fun h10 => ?_)
  refine xTr.br (g1 := (68, [(0, .ref 0), (1, .int l1), (2, .int j2), (3, .int j3)], [.int j2], (xu js 11 t1.toNatClampNeg t2))) (g2 := (77, [(0, .ref 0), (1, .int l1), (2, .int j2), (3, .int j3)], [.int j2], (xu js 11 t1.toNatClampNeg t2))) rfl (fun h11 => ?_) (fun h11 => ?_)
  · refine xTr.ms 3 (g := (73, [(0, .ref 0), (1, .int l1), (3, .int j3)], [.int j3, .ref 10, .int j2], (xu js 11 t1.toNatClampNeg t2))) rfl ?_
    refine xTr.ck (g := (74, [(0, .ref 0), (1, .int l1), (3, .int j3)], [.int (js.1 10 j3.toNatClampNeg), .int j2], (xu js 11 t1.toNatClampNeg t2))) rfl (fun h12 => ?_)
    refine xTr.ms 5 (g := (4, [(0, .ref 0), (1, .int l1), (2, .int (j2 + (js.1 10 j3.toNatClampNeg))), (3, .int (j3 + (1 : Int32)))], [], (xu js 11 t1.toNatClampNeg t2))) rfl ?_
    exact xTr.leaf rfl
  · refine xTr.ms 5 (g := (4, [(0, .ref 0), (1, .int l1), (2, .int (j2 + (0 : Int32))), (3, .int (j3 + (1 : Int32)))], [], (xu js 11 t1.toNatClampNeg t2))) rfl ?_
    exact xTr.leaf rfl
set_option maxRecDepth 100000 in
theorem F_X9_noiseIn_L4_ok (l1 : Int32) (a : Int32 × Int32 × xS) : xTr xMs xML xR_X9_noiseIn (F_X9_noiseIn_L4_hd l1 a) (F_X9_noiseIn_L4 l1 a) (xhx (F_X9_noiseIn_L4_hd l1) (F_X9_noiseIn_L4_ex l1)) := by
  unfold F_X9_noiseIn_L4
  refine xTr.ms 3 (g := (9, [(0, .ref 0), (1, .int l1), (2, .int a.1), (3, .int a.2.1)], [.int (a.2.2.1 0 5), .int a.2.1], a.2.2)) rfl ?_
  refine xTr.br (g1 := (86, [(0, .ref 0), (1, .int l1), (2, .int a.1), (3, .int a.2.1)], [], a.2.2)) (g2 := (12, [(0, .ref 0), (1, .int l1), (2, .int a.1), (3, .int a.2.1)], [], a.2.2)) rfl (fun h1 => ?_) (fun h1 => ?_)
  · refine xTr.mk (lv1 := [(0, .ref 0), (1, .int l1), (2, .int a.1)]) rfl rfl ?_
    exact xTr.leaf rfl
  · refine xTr.ms 3 (g := (17, [(0, .ref 0), (1, .int l1), (2, .int a.1), (3, .int a.2.1)], [.int a.2.1, .ref 6], a.2.2)) rfl ?_
    refine xTr.ck (g := (18, [(0, .ref 0), (1, .int l1), (2, .int a.1), (3, .int a.2.1)], [.int (a.2.2.1 6 a.2.1.toNatClampNeg)], a.2.2)) rfl (fun h2 => ?_)
    refine xTr.ms 1 (g := (19, [(0, .ref 0), (1, .int l1), (2, .int a.1), (3, .int a.2.1)], [.int l1, .int (a.2.2.1 6 a.2.1.toNatClampNeg)], a.2.2)) rfl ?_
    refine xTr.br (g1 := (22, [(0, .ref 0), (1, .int l1), (2, .int a.1), (3, .int a.2.1)], [], a.2.2)) (g2 := (80, [(0, .ref 0), (1, .int l1), (2, .int a.1), (3, .int a.2.1)], [], a.2.2)) rfl (fun h3 => ?_) (fun h3 => ?_)
    · refine xTr.ms 3 (g := (27, [(0, .ref 0), (1, .int l1), (2, .int a.1), (3, .int a.2.1)], [.int a.2.1, .int (a.2.2.1 0 15)], a.2.2)) rfl ?_
      refine xTr.callip (R' := xR_X9_isIn) (as := [.int (a.2.2.1 0 15), .int a.2.1]) (lv := [(0, .ref 0), (1, .int l1), (2, .int a.1), (3, .int a.2.1)]) (rest := []) (ok_X9_isIn (a.2.2.1 0 15) a.2.1 a.2.2) rfl rfl rfl rfl rfl (fun v4 => ?_)
      refine xTr.br (g1 := (33, [(0, .ref 0), (1, .int l1), (2, .int a.1), (3, .int a.2.1)], [], a.2.2)) (g2 := (80, [(0, .ref 0), (1, .int l1), (2, .int a.1), (3, .int a.2.1)], [], a.2.2)) rfl (fun h5 => ?_) (fun h5 => ?_)
      · refine xTr.ms 8 (g := (47, [(0, .ref 0), (1, .int l1), (2, .int a.1), (3, .int a.2.1)], [.int a.2.1, .ref 4, .ref 14, .int a.2.1, .ref 11], a.2.2)) rfl ?_
        refine xTr.ck (g := (48, [(0, .ref 0), (1, .int l1), (2, .int a.1), (3, .int a.2.1)], [.int (a.2.2.1 4 a.2.1.toNatClampNeg), .ref 14, .int a.2.1, .ref 11], a.2.2)) rfl (fun h6 => ?_)
        refine xTr.ck (g := (49, [(0, .ref 0), (1, .int l1), (2, .int a.1), (3, .int a.2.1)], [.int (a.2.2.1 14 ((a.2.2.1 4 a.2.1.toNatClampNeg)).toNatClampNeg), .int a.2.1, .ref 11], a.2.2)) rfl (fun h7 => ?_)
        refine xTr.br (g1 := (56, [(0, .ref 0), (1, .int l1), (2, .int a.1), (3, .int a.2.1)], [.int a.2.1, .ref 11], a.2.2)) (g2 := (52, [(0, .ref 0), (1, .int l1), (2, .int a.1), (3, .int a.2.1)], [.int a.2.1, .ref 11], a.2.2)) rfl (fun h8 => ?_) (fun h8 => ?_)
        · refine xTr.ms 1 (g := (57, [(0, .ref 0), (1, .int l1), (2, .int a.1), (3, .int a.2.1)], [.int (0 : Int32), .int a.2.1, .ref 11], a.2.2)) rfl ?_
          exact F_X9_noiseIn_L4_J57_ok l1 a.1 a.2.1 a.2.1 (0 : Int32) a.2.2
        · refine xTr.ms 2 (g := (57, [(0, .ref 0), (1, .int l1), (2, .int a.1), (3, .int a.2.1)], [.int (1 : Int32), .int a.2.1, .ref 11], a.2.2)) rfl ?_
          exact F_X9_noiseIn_L4_J57_ok l1 a.1 a.2.1 a.2.1 (1 : Int32) a.2.2
      · refine xTr.ms 2 (g := (4, [(0, .ref 0), (1, .int l1), (2, .int a.1), (3, .int (a.2.1 + (1 : Int32)))], [], a.2.2)) rfl ?_
        exact xTr.leaf rfl
    · refine xTr.ms 2 (g := (4, [(0, .ref 0), (1, .int l1), (2, .int a.1), (3, .int (a.2.1 + (1 : Int32)))], [], a.2.2)) rfl ?_
      exact xTr.leaf rfl
def F_X9_noiseIn_L88_hd (l1 : Int32) (s : xS) (a : Int32 × Int32) : xT := Sum.inl (88, [(0, .ref 0), (1, .int l1), (2, .int a.1), (3, .int a.2)], [], s)
def F_X9_noiseIn_L88_ex (l1 : Int32) (s : xS) : (Int32) → xT := (fun (z : Int32) => Sum.inl (125, [(2, .int z)], [], s))
set_option maxRecDepth 100000 in
theorem F_X9_noiseIn_L88_ok (l1 : Int32) (s : xS) (a : Int32 × Int32) : xTr xMs xML xR_X9_noiseIn (F_X9_noiseIn_L88_hd l1 s a) (F_X9_noiseIn_L88 l1 s a) (xhx (F_X9_noiseIn_L88_hd l1 s) (F_X9_noiseIn_L88_ex l1 s)) := by
  unfold F_X9_noiseIn_L88
  refine xTr.ms 3 (g := (93, [(0, .ref 0), (1, .int l1), (2, .int a.1), (3, .int a.2)], [.int (s.1 0 11), .int a.2], s)) rfl ?_
  refine xTr.br (g1 := (125, [(0, .ref 0), (1, .int l1), (2, .int a.1), (3, .int a.2)], [], s)) (g2 := (96, [(0, .ref 0), (1, .int l1), (2, .int a.1), (3, .int a.2)], [], s)) rfl (fun h14 => ?_) (fun h14 => ?_)
  · refine xTr.mk (lv1 := [(2, .int a.1)]) rfl rfl ?_
    exact xTr.leaf rfl
  · refine xTr.ms 4 (g := (102, [(0, .ref 0), (1, .int l1), (2, .int a.1), (3, .int a.2)], [.int a.2, .ref 7, .int a.1], s)) rfl ?_
    refine xTr.ck (g := (103, [(0, .ref 0), (1, .int l1), (2, .int a.1), (3, .int a.2)], [.int (s.1 7 a.2.toNatClampNeg), .int a.1], s)) rfl (fun h15 => ?_)
    refine xTr.ms 1 (g := (104, [(0, .ref 0), (1, .int l1), (2, .int a.1), (3, .int a.2)], [.int l1, .int (s.1 7 a.2.toNatClampNeg), .int a.1], s)) rfl ?_
    refine xTr.br (g1 := (107, [(0, .ref 0), (1, .int l1), (2, .int a.1), (3, .int a.2)], [.int a.1], s)) (g2 := (116, [(0, .ref 0), (1, .int l1), (2, .int a.1), (3, .int a.2)], [.int a.1], s)) rfl (fun h16 => ?_) (fun h16 => ?_)
    · refine xTr.ms 3 (g := (112, [(0, .ref 0), (1, .int l1), (3, .int a.2)], [.int a.2, .ref 8, .int a.1], s)) rfl ?_
      refine xTr.ck (g := (113, [(0, .ref 0), (1, .int l1), (3, .int a.2)], [.int (s.1 8 a.2.toNatClampNeg), .int a.1], s)) rfl (fun h17 => ?_)
      refine xTr.ms 5 (g := (88, [(0, .ref 0), (1, .int l1), (2, .int (a.1 + (s.1 8 a.2.toNatClampNeg))), (3, .int (a.2 + (1 : Int32)))], [], s)) rfl ?_
      exact xTr.leaf rfl
    · refine xTr.ms 5 (g := (88, [(0, .ref 0), (1, .int l1), (2, .int (a.1 + (0 : Int32))), (3, .int (a.2 + (1 : Int32)))], [], s)) rfl ?_
      exact xTr.leaf rfl
set_option maxRecDepth 100000 in
theorem ok_X9_noiseIn (l1 : Int32) (s : xS) : xTr xMs xML xR_X9_noiseIn (Sum.inl (0, [(0, .ref 0), (1, .int l1)], [], s)) (F_X9_noiseIn l1 s) (fun (y : Int32 × xS) => Sum.inr (some (.int y.1), y.2)) := by
  unfold F_X9_noiseIn
  refine xTr.ms 4 (g := (4, [(0, .ref 0), (1, .int l1), (2, .int (0 : Int32)), (3, .int (0 : Int32))], [], s)) rfl ?_
  refine xTr.bind (J := F_X9_noiseIn_L4_ex l1) (xTr.loop (hd := F_X9_noiseIn_L4_hd l1) (fun aa => F_X9_noiseIn_L4_ok l1 aa) 100000 ((0 : Int32), (0 : Int32), s)) (fun b13 => ?_)
  refine xTr.ms 2 (g := (88, [(0, .ref 0), (1, .int l1), (2, .int b13.1), (3, .int (0 : Int32))], [], b13.2)) rfl ?_
  refine xTr.bind (J := F_X9_noiseIn_L88_ex l1 b13.2) (xTr.loop (hd := F_X9_noiseIn_L88_hd l1 b13.2) (fun aa => F_X9_noiseIn_L88_ok l1 b13.2 aa) 100000 (b13.1, (0 : Int32))) (fun b18 => ?_)
  refine xTr.ms 1 (g := (126, [(2, .int b18)], [.int b18], b13.2)) rfl ?_
  exact xTr.ret rfl rfl rfl
-- X9_sleepsOn
def F_X9_sleepsOn_L11 (a : Int32 × xS) : Option ((Int32 × xS) ⊕ (xS)) := if (40 : Int32) ≤ a.1 then (some (Sum.inr a.2)) else (if a.1 < 0 ∨ 40 ≤ a.1.toNatClampNeg then none else (some (Sum.inl ((a.1 + (1 : Int32)), (xu a.2 14 a.1.toNatClampNeg (vp_nar .boolean (0 : Int32)))))))
def F_X9_sleepsOn_L32 (a : Int32 × xS) : Option ((Int32 × xS) ⊕ (xS)) := if (a.2.1 0 5) ≤ a.1 then (some (Sum.inr a.2)) else (if a.1 < 0 ∨ 8 ≤ a.1.toNatClampNeg then none else (some (Sum.inl ((a.1 + (1 : Int32)), (xu a.2 11 a.1.toNatClampNeg (2 : Int32))))))
def F_X9_sleepsOn_L164_J228 (l1 : Int32) (l2 : Int32) (j3 : Int32) (t0 : Int32) (js : xS) : Option ((Int32 × xS) ⊕ (xS)) := if j3 < 0 ∨ 9 ≤ j3.toNatClampNeg then none else (if j3 < 0 ∨ 9 ≤ j3.toNatClampNeg then none else (if (js.1 4 j3.toNatClampNeg) < 0 ∨ 40 ≤ ((js.1 4 j3.toNatClampNeg)).toNatClampNeg then none else (if (js.1 14 ((js.1 4 j3.toNatClampNeg)).toNatClampNeg) = 0 then (if t0 = 0 then (if (js.1 4 j3.toNatClampNeg) < 0 ∨ 40 ≤ ((js.1 4 j3.toNatClampNeg)).toNatClampNeg then none else (some (Sum.inl ((j3 + (1 : Int32)), (xu js 14 ((js.1 4 j3.toNatClampNeg)).toNatClampNeg (vp_nar .boolean (0 : Int32))))))) else (if (js.1 4 j3.toNatClampNeg) < 0 ∨ 40 ≤ ((js.1 4 j3.toNatClampNeg)).toNatClampNeg then none else (some (Sum.inl ((j3 + (1 : Int32)), (xu js 14 ((js.1 4 j3.toNatClampNeg)).toNatClampNeg (vp_nar .boolean (1 : Int32)))))))) else (if (js.1 4 j3.toNatClampNeg) < 0 ∨ 40 ≤ ((js.1 4 j3.toNatClampNeg)).toNatClampNeg then none else (some (Sum.inl ((j3 + (1 : Int32)), (xu js 14 ((js.1 4 j3.toNatClampNeg)).toNatClampNeg (vp_nar .boolean (1 : Int32))))))))))
def F_X9_sleepsOn_L164_J227 (l1 : Int32) (l2 : Int32) (j3 : Int32) (js : xS) : Option ((Int32 × xS) ⊕ (xS)) := F_X9_sleepsOn_L164_J228 l1 l2 j3 (0 : Int32) js
def F_X9_sleepsOn_L164 (l1 : Int32) (l2 : Int32) (a : Int32 × xS) : Option ((Int32 × xS) ⊕ (xS)) := if (a.2.1 0 5) ≤ a.1 then (some (Sum.inr a.2)) else (if (a.2.1 0 20) = (-1 : Int32) then (if a.1 < 0 ∨ 9 ≤ a.1.toNatClampNeg then none else (if (a.2.1 6 a.1.toNatClampNeg) = l2 then ((F_X9_isIn (a.2.1 0 15) a.1 a.2).bind fun v26 => (if v26 = 0 then (if a.1 < 0 ∨ 8 ≤ a.1.toNatClampNeg then none else (if (a.2.1 11 a.1.toNatClampNeg) = 0 then (if a.1 < 0 ∨ 8 ≤ a.1.toNatClampNeg then none else (if (a.2.1 10 a.1.toNatClampNeg) ≤ (a.2.1 0 10) then (F_X9_sleepsOn_L164_J227 l1 l2 a.1 a.2) else (F_X9_sleepsOn_L164_J228 l1 l2 a.1 (1 : Int32) a.2))) else (F_X9_sleepsOn_L164_J227 l1 l2 a.1 a.2))) else (F_X9_sleepsOn_L164_J227 l1 l2 a.1 a.2))) else (F_X9_sleepsOn_L164_J227 l1 l2 a.1 a.2))) else (some (Sum.inr a.2)))
def F_X9_sleepsOn_L60_J122 (j1 : Int32) (j2 : Int32) (t1 : Int32) (js : xS) : Option ((Int32 × Int32 × xS) ⊕ (xS)) := if j2 < 0 ∨ 10 ≤ j2.toNatClampNeg then none else (if (js.1 12 j2.toNatClampNeg) ≤ 0 then (if j1 ≤ (27 : Int32) then ((xlp (F_X9_sleepsOn_L164 (j1 + (3 : Int32)) j2) 100000 ((0 : Int32), (xu js 0 20 t1))).bind (fun b40 => (some (Sum.inl ((j1 + (3 : Int32)), (j2 + (1 : Int32)), b40))))) else ((xlp (F_X9_sleepsOn_L164 (30 : Int32) j2) 100000 ((0 : Int32), (xu js 0 20 t1))).bind (fun b41 => (some (Sum.inl ((30 : Int32), (j2 + (1 : Int32)), b41)))))) else (if j2 < 0 ∨ 10 ≤ j2.toNatClampNeg then none else ((xlp (F_X9_sleepsOn_L164 (j1 - ((js.1 12 j2.toNatClampNeg) / (2 : Int32))) j2) 100000 ((0 : Int32), (xu js 0 20 t1))).bind (fun b43 => (some (Sum.inl ((j1 - ((js.1 12 j2.toNatClampNeg) / (2 : Int32))), (j2 + (1 : Int32)), b43)))))))
def F_X9_sleepsOn_L60 (a : Int32 × Int32 × xS) : Option ((Int32 × Int32 × xS) ⊕ (xS)) := if (10 : Int32) ≤ a.2.1 then (some (Sum.inr a.2.2)) else (if a.2.1 < 0 ∨ 10 ≤ a.2.1.toNatClampNeg then none else (if a.2.1 < 0 ∨ 10 ≤ a.2.1.toNatClampNeg then none else (if (a.2.2.1 0 20) = (-1 : Int32) then (if a.2.1 < 0 ∨ 10 ≤ a.2.1.toNatClampNeg then none else ((F_X9_noiseIn a.2.1 (xu (xu (xu a.2.2 12 a.2.1.toNatClampNeg (-1 : Int32)) 13 a.2.1.toNatClampNeg (-1 : Int32)) 13 a.2.1.toNatClampNeg a.1)).bind fun q15 => (if a.2.1 < 0 ∨ 10 ≤ a.2.1.toNatClampNeg then none else (if a.2.1 < 0 ∨ 10 ≤ a.2.1.toNatClampNeg then none else (if ((xu q15.2 12 a.2.1.toNatClampNeg q15.1).1 12 a.2.1.toNatClampNeg) ≤ a.1 then (F_X9_sleepsOn_L60_J122 a.1 a.2.1 (-1 : Int32) (xu q15.2 12 a.2.1.toNatClampNeg q15.1)) else (F_X9_sleepsOn_L60_J122 a.1 a.2.1 a.2.1 (xu q15.2 12 a.2.1.toNatClampNeg q15.1))))))) else (some (Sum.inl (a.1, (a.2.1 + (1 : Int32)), (xu (xu a.2.2 12 a.2.1.toNatClampNeg (-1 : Int32)) 13 a.2.1.toNatClampNeg (-1 : Int32))))))))
def F_X9_sleepsOn (s : xS) : Option (xS) := (F_X9_hears s).bind fun s2 => ((xlp (F_X9_sleepsOn_L11) 100000 ((0 : Int32), (xu s2 0 20 (-1 : Int32)))).bind (fun b5 => ((xlp (F_X9_sleepsOn_L32) 100000 ((0 : Int32), b5)).bind (fun b8 => ((xlp (F_X9_sleepsOn_L60) 100000 ((b8.1 0 9), (0 : Int32), b8)).bind (fun b44 => (some b44)))))))
def F_X9_sleepsOn_L11_hd (a : Int32 × xS) : xT := Sum.inl (11, [(0, .ref 0), (1, .int a.1)], [], a.2)
def F_X9_sleepsOn_L11_ex : (xS) → xT := (fun (z : xS) => Sum.inl (30, [(0, .ref 0)], [], z))
set_option maxRecDepth 100000 in
theorem F_X9_sleepsOn_L11_ok (a : Int32 × xS) : xTr xMs xML xR_X9_sleepsOn (F_X9_sleepsOn_L11_hd a) (F_X9_sleepsOn_L11 a) (xhx (F_X9_sleepsOn_L11_hd) (F_X9_sleepsOn_L11_ex)) := by
  unfold F_X9_sleepsOn_L11
  refine xTr.ms 2 (g := (14, [(0, .ref 0), (1, .int a.1)], [.int (40 : Int32), .int a.1], a.2)) rfl ?_
  refine xTr.br (g1 := (30, [(0, .ref 0), (1, .int a.1)], [], a.2)) (g2 := (17, [(0, .ref 0), (1, .int a.1)], [], a.2)) rfl (fun h3 => ?_) (fun h3 => ?_)
  · refine xTr.mk (lv1 := [(0, .ref 0)]) rfl rfl ?_
    exact xTr.leaf rfl
  · refine xTr.ms 4 (g := (23, [(0, .ref 0), (1, .int a.1)], [.int (0 : Int32), .int a.1, .ref 14], a.2)) rfl ?_
    refine xTr.ck (g := (24, [(0, .ref 0), (1, .int a.1)], [], (xu a.2 14 a.1.toNatClampNeg (vp_nar .boolean (0 : Int32))))) rfl (fun h4 => ?_)
    refine xTr.ms 2 (g := (11, [(0, .ref 0), (1, .int (a.1 + (1 : Int32)))], [], (xu a.2 14 a.1.toNatClampNeg (vp_nar .boolean (0 : Int32))))) rfl ?_
    exact xTr.leaf rfl
def F_X9_sleepsOn_L32_hd (a : Int32 × xS) : xT := Sum.inl (32, [(0, .ref 0), (1, .int a.1)], [], a.2)
def F_X9_sleepsOn_L32_ex : (xS) → xT := (fun (z : xS) => Sum.inl (53, [(0, .ref 0)], [], z))
set_option maxRecDepth 100000 in
theorem F_X9_sleepsOn_L32_ok (a : Int32 × xS) : xTr xMs xML xR_X9_sleepsOn (F_X9_sleepsOn_L32_hd a) (F_X9_sleepsOn_L32 a) (xhx (F_X9_sleepsOn_L32_hd) (F_X9_sleepsOn_L32_ex)) := by
  unfold F_X9_sleepsOn_L32
  refine xTr.ms 3 (g := (37, [(0, .ref 0), (1, .int a.1)], [.int (a.2.1 0 5), .int a.1], a.2)) rfl ?_
  refine xTr.br (g1 := (53, [(0, .ref 0), (1, .int a.1)], [], a.2)) (g2 := (40, [(0, .ref 0), (1, .int a.1)], [], a.2)) rfl (fun h6 => ?_) (fun h6 => ?_)
  · refine xTr.mk (lv1 := [(0, .ref 0)]) rfl rfl ?_
    exact xTr.leaf rfl
  · refine xTr.ms 4 (g := (46, [(0, .ref 0), (1, .int a.1)], [.int (2 : Int32), .int a.1, .ref 11], a.2)) rfl ?_
    refine xTr.ck (g := (47, [(0, .ref 0), (1, .int a.1)], [], (xu a.2 11 a.1.toNatClampNeg (2 : Int32)))) rfl (fun h7 => ?_)
    refine xTr.ms 2 (g := (32, [(0, .ref 0), (1, .int (a.1 + (1 : Int32)))], [], (xu a.2 11 a.1.toNatClampNeg (2 : Int32)))) rfl ?_
    exact xTr.leaf rfl
def F_X9_sleepsOn_L60_hd (a : Int32 × Int32 × xS) : xT := Sum.inl (60, [(0, .ref 0), (1, .int a.1), (2, .int a.2.1)], [], a.2.2)
def F_X9_sleepsOn_L60_ex : (xS) → xT := (fun (z : xS) => Sum.inl (277, [], [], z))
def F_X9_sleepsOn_L164_hd (l1 : Int32) (l2 : Int32) (a : Int32 × xS) : xT := Sum.inl (164, [(0, .ref 0), (1, .int l1), (2, .int l2), (3, .int a.1)], [], a.2)
def F_X9_sleepsOn_L164_ex (l1 : Int32) (l2 : Int32) : (xS) → xT := (fun (z : xS) => Sum.inl (271, [(0, .ref 0), (1, .int l1), (2, .int l2)], [], z))
set_option maxRecDepth 100000 in
theorem F_X9_sleepsOn_L164_J228_ok (l1 : Int32) (l2 : Int32) (j3 : Int32) (t0 : Int32) (js : xS) : xTr xMs xML xR_X9_sleepsOn (Sum.inl (228, [(0, .ref 0), (1, .int l1), (2, .int l2), (3, .int j3)], [.int t0], js)) (F_X9_sleepsOn_L164_J228 l1 l2 j3 t0 js) (xhx (F_X9_sleepsOn_L164_hd l1 l2) (F_X9_sleepsOn_L164_ex l1 l2)) := by
  unfold F_X9_sleepsOn_L164_J228
  refine xTr.ms 6 (g := (239, [(0, .ref 0), (1, .int l1), (2, .int l2), (3, .int j3), (4, .int t0)], [.int j3, .ref 4, .ref 14], js)) rfl ?_
  refine xTr.ck (g := (240, [(0, .ref 0), (1, .int l1), (2, .int l2), (3, .int j3), (4, .int t0)], [.int (js.1 4 j3.toNatClampNeg), .ref 14], js)) rfl (fun h32 => ?_)
  refine xTr.ms 5 (g := (249, [(0, .ref 0), (1, .int l1), (2, .int l2), (3, .int j3), (4, .int t0)], [.int j3, .ref 4, .ref 14, .int (js.1 4 j3.toNatClampNeg), .ref 14], js)) rfl ?_
  refine xTr.ck (g := (250, [(0, .ref 0), (1, .int l1), (2, .int l2), (3, .int j3), (4, .int t0)], [.int (js.1 4 j3.toNatClampNeg), .ref 14, .int (js.1 4 j3.toNatClampNeg), .ref 14], js)) rfl (fun h33 => ?_)
  refine xTr.ck (g := (251, [(0, .ref 0), (1, .int l1), (2, .int l2), (3, .int j3), (4, .int t0)], [.int (js.1 14 ((js.1 4 j3.toNatClampNeg)).toNatClampNeg), .int (js.1 4 j3.toNatClampNeg), .ref 14], js)) rfl (fun h34 => ?_)
  refine xTr.br (g1 := (254, [(0, .ref 0), (1, .int l1), (2, .int l2), (3, .int j3), (4, .int t0)], [.int (js.1 4 j3.toNatClampNeg), .ref 14], js)) (g2 := (259, [(0, .ref 0), (1, .int l1), (2, .int l2), (3, .int j3), (4, .int t0)], [.int (js.1 4 j3.toNatClampNeg), .ref 14], js)) rfl (fun h35 => ?_) (fun h35 => ?_)
  · refine xTr.ms 1 (g := (256, [(0, .ref 0), (1, .int l1), (2, .int l2), (3, .int j3), (4, .int t0)], [.int t0, .int (js.1 4 j3.toNatClampNeg), .ref 14], js)) rfl ?_
    refine xTr.br (g1 := (263, [(0, .ref 0), (1, .int l1), (2, .int l2), (3, .int j3), (4, .int t0)], [.int (js.1 4 j3.toNatClampNeg), .ref 14], js)) (g2 := (259, [(0, .ref 0), (1, .int l1), (2, .int l2), (3, .int j3), (4, .int t0)], [.int (js.1 4 j3.toNatClampNeg), .ref 14], js)) rfl (fun h36 => ?_) (fun h36 => ?_)
    · refine xTr.ms 1 (g := (264, [(0, .ref 0), (1, .int l1), (2, .int l2), (3, .int j3)], [.int (0 : Int32), .int (js.1 4 j3.toNatClampNeg), .ref 14], js)) rfl ?_
      refine xTr.ck (g := (265, [(0, .ref 0), (1, .int l1), (2, .int l2), (3, .int j3)], [], (xu js 14 ((js.1 4 j3.toNatClampNeg)).toNatClampNeg (vp_nar .boolean (0 : Int32))))) rfl (fun h37 => ?_)
      refine xTr.ms 2 (g := (164, [(0, .ref 0), (1, .int l1), (2, .int l2), (3, .int (j3 + (1 : Int32)))], [], (xu js 14 ((js.1 4 j3.toNatClampNeg)).toNatClampNeg (vp_nar .boolean (0 : Int32))))) rfl ?_
      exact xTr.leaf rfl
    · refine xTr.ms 2 (g := (264, [(0, .ref 0), (1, .int l1), (2, .int l2), (3, .int j3)], [.int (1 : Int32), .int (js.1 4 j3.toNatClampNeg), .ref 14], js)) rfl ?_
      refine xTr.ck (g := (265, [(0, .ref 0), (1, .int l1), (2, .int l2), (3, .int j3)], [], (xu js 14 ((js.1 4 j3.toNatClampNeg)).toNatClampNeg (vp_nar .boolean (1 : Int32))))) rfl (fun h38 => ?_)
      refine xTr.ms 2 (g := (164, [(0, .ref 0), (1, .int l1), (2, .int l2), (3, .int (j3 + (1 : Int32)))], [], (xu js 14 ((js.1 4 j3.toNatClampNeg)).toNatClampNeg (vp_nar .boolean (1 : Int32))))) rfl ?_
      exact xTr.leaf rfl
  · refine xTr.ms 2 (g := (264, [(0, .ref 0), (1, .int l1), (2, .int l2), (3, .int j3)], [.int (1 : Int32), .int (js.1 4 j3.toNatClampNeg), .ref 14], js)) rfl ?_
    refine xTr.ck (g := (265, [(0, .ref 0), (1, .int l1), (2, .int l2), (3, .int j3)], [], (xu js 14 ((js.1 4 j3.toNatClampNeg)).toNatClampNeg (vp_nar .boolean (1 : Int32))))) rfl (fun h39 => ?_)
    refine xTr.ms 2 (g := (164, [(0, .ref 0), (1, .int l1), (2, .int l2), (3, .int (j3 + (1 : Int32)))], [], (xu js 14 ((js.1 4 j3.toNatClampNeg)).toNatClampNeg (vp_nar .boolean (1 : Int32))))) rfl ?_
    exact xTr.leaf rfl
set_option maxRecDepth 100000 in
theorem F_X9_sleepsOn_L164_J227_ok (l1 : Int32) (l2 : Int32) (j3 : Int32) (js : xS) : xTr xMs xML xR_X9_sleepsOn (Sum.inl (227, [(0, .ref 0), (1, .int l1), (2, .int l2), (3, .int j3)], [], js)) (F_X9_sleepsOn_L164_J227 l1 l2 j3 js) (xhx (F_X9_sleepsOn_L164_hd l1 l2) (F_X9_sleepsOn_L164_ex l1 l2)) := by
  unfold F_X9_sleepsOn_L164_J227
  refine xTr.ms 1 (g := (228, [(0, .ref 0), (1, .int l1), (2, .int l2), (3, .int j3)], [.int (0 : Int32)], js)) rfl ?_
  exact F_X9_sleepsOn_L164_J228_ok l1 l2 j3 (0 : Int32) js
set_option maxRecDepth 100000 in
theorem F_X9_sleepsOn_L164_ok (l1 : Int32) (l2 : Int32) (a : Int32 × xS) : xTr xMs xML xR_X9_sleepsOn (F_X9_sleepsOn_L164_hd l1 l2 a) (F_X9_sleepsOn_L164 l1 l2 a) (xhx (F_X9_sleepsOn_L164_hd l1 l2) (F_X9_sleepsOn_L164_ex l1 l2)) := by
  unfold F_X9_sleepsOn_L164
  refine xTr.ms 3 (g := (169, [(0, .ref 0), (1, .int l1), (2, .int l2), (3, .int a.1)], [.int (a.2.1 0 5), .int a.1], a.2)) rfl ?_
  refine xTr.br (g1 := (271, [(0, .ref 0), (1, .int l1), (2, .int l2), (3, .int a.1)], [], a.2)) (g2 := (172, [(0, .ref 0), (1, .int l1), (2, .int l2), (3, .int a.1)], [], a.2)) rfl (fun h22 => ?_) (fun h22 => ?_)
  · refine xTr.mk (lv1 := [(0, .ref 0), (1, .int l1), (2, .int l2)]) rfl rfl ?_
    exact xTr.leaf rfl
  · refine xTr.ms 3 (g := (177, [(0, .ref 0), (1, .int l1), (2, .int l2), (3, .int a.1)], [.int (-1 : Int32), .int (a.2.1 0 20)], a.2)) rfl ?_
    refine xTr.br (g1 := (180, [(0, .ref 0), (1, .int l1), (2, .int l2), (3, .int a.1)], [], a.2)) (g2 := (271, [(0, .ref 0), (1, .int l1), (2, .int l2), (3, .int a.1)], [], a.2)) rfl (fun h23 => ?_) (fun h23 => ?_)
    · refine xTr.ms 3 (g := (185, [(0, .ref 0), (1, .int l1), (2, .int l2), (3, .int a.1)], [.int a.1, .ref 6], a.2)) rfl ?_
      refine xTr.ck (g := (186, [(0, .ref 0), (1, .int l1), (2, .int l2), (3, .int a.1)], [.int (a.2.1 6 a.1.toNatClampNeg)], a.2)) rfl (fun h24 => ?_)
      refine xTr.ms 1 (g := (187, [(0, .ref 0), (1, .int l1), (2, .int l2), (3, .int a.1)], [.int l2, .int (a.2.1 6 a.1.toNatClampNeg)], a.2)) rfl ?_
      refine xTr.br (g1 := (190, [(0, .ref 0), (1, .int l1), (2, .int l2), (3, .int a.1)], [], a.2)) (g2 := (227, [(0, .ref 0), (1, .int l1), (2, .int l2), (3, .int a.1)], [], a.2)) rfl (fun h25 => ?_) (fun h25 => ?_)
      · refine xTr.ms 3 (g := (195, [(0, .ref 0), (1, .int l1), (2, .int l2), (3, .int a.1)], [.int a.1, .int (a.2.1 0 15)], a.2)) rfl ?_
        refine xTr.callip (R' := xR_X9_isIn) (as := [.int (a.2.1 0 15), .int a.1]) (lv := [(0, .ref 0), (1, .int l1), (2, .int l2), (3, .int a.1)]) (rest := []) (ok_X9_isIn (a.2.1 0 15) a.1 a.2) rfl rfl rfl rfl rfl (fun v26 => ?_)
        refine xTr.br (g1 := (201, [(0, .ref 0), (1, .int l1), (2, .int l2), (3, .int a.1)], [], a.2)) (g2 := (227, [(0, .ref 0), (1, .int l1), (2, .int l2), (3, .int a.1)], [], a.2)) rfl (fun h27 => ?_) (fun h27 => ?_)
        · refine xTr.ms 3 (g := (206, [(0, .ref 0), (1, .int l1), (2, .int l2), (3, .int a.1)], [.int a.1, .ref 11], a.2)) rfl ?_
          refine xTr.ck (g := (207, [(0, .ref 0), (1, .int l1), (2, .int l2), (3, .int a.1)], [.int (a.2.1 11 a.1.toNatClampNeg)], a.2)) rfl (fun h28 => ?_)
          refine xTr.br (g1 := (210, [(0, .ref 0), (1, .int l1), (2, .int l2), (3, .int a.1)], [], a.2)) (g2 := (227, [(0, .ref 0), (1, .int l1), (2, .int l2), (3, .int a.1)], [], a.2)) rfl (fun h29 => ?_) (fun h29 => ?_)
          · refine xTr.ms 3 (g := (215, [(0, .ref 0), (1, .int l1), (2, .int l2), (3, .int a.1)], [.int a.1, .ref 10], a.2)) rfl ?_
            refine xTr.ck (g := (216, [(0, .ref 0), (1, .int l1), (2, .int l2), (3, .int a.1)], [.int (a.2.1 10 a.1.toNatClampNeg)], a.2)) rfl (fun h30 => ?_)
            refine xTr.ms 2 (g := (220, [(0, .ref 0), (1, .int l1), (2, .int l2), (3, .int a.1)], [.int (a.2.1 0 10), .int (a.2.1 10 a.1.toNatClampNeg)], a.2)) rfl ?_
            refine xTr.br (g1 := (227, [(0, .ref 0), (1, .int l1), (2, .int l2), (3, .int a.1)], [], a.2)) (g2 := (223, [(0, .ref 0), (1, .int l1), (2, .int l2), (3, .int a.1)], [], a.2)) rfl (fun h31 => ?_) (fun h31 => ?_)
            · exact F_X9_sleepsOn_L164_J227_ok l1 l2 a.1 a.2
            · refine xTr.ms 2 (g := (228, [(0, .ref 0), (1, .int l1), (2, .int l2), (3, .int a.1)], [.int (1 : Int32)], a.2)) rfl ?_
              exact F_X9_sleepsOn_L164_J228_ok l1 l2 a.1 (1 : Int32) a.2
          · exact F_X9_sleepsOn_L164_J227_ok l1 l2 a.1 a.2
        · exact F_X9_sleepsOn_L164_J227_ok l1 l2 a.1 a.2
      · exact F_X9_sleepsOn_L164_J227_ok l1 l2 a.1 a.2
    · refine xTr.mk (lv1 := [(0, .ref 0), (1, .int l1), (2, .int l2)]) rfl rfl ?_
      exact xTr.leaf rfl
set_option maxRecDepth 100000 in
theorem F_X9_sleepsOn_L60_J122_ok (j1 : Int32) (j2 : Int32) (t1 : Int32) (js : xS) : xTr xMs xML xR_X9_sleepsOn (Sum.inl (122, [(0, .ref 0), (1, .int j1), (2, .int j2)], [.int t1, .ref 0], js)) (F_X9_sleepsOn_L60_J122 j1 j2 t1 js) (xhx (F_X9_sleepsOn_L60_hd) (F_X9_sleepsOn_L60_ex)) := by
  unfold F_X9_sleepsOn_L60_J122
  refine xTr.ms 4 (g := (130, [(0, .ref 0), (1, .int j1), (2, .int j2)], [.int j2, .ref 12], (xu js 0 20 t1))) rfl ?_
  refine xTr.ck (g := (131, [(0, .ref 0), (1, .int j1), (2, .int j2)], [.int (js.1 12 j2.toNatClampNeg)], (xu js 0 20 t1))) rfl (fun h19 => ?_)
  refine xTr.br (g1 := (147, [(0, .ref 0), (1, .int j1), (2, .int j2)], [], (xu js 0 20 t1))) (g2 := (134, [(0, .ref 0), (1, .int j1), (2, .int j2)], [], (xu js 0 20 t1))) rfl (fun h20 => ?_) (fun h20 => ?_)
  · refine xTr.ms 2 (g := (150, [(0, .ref 0), (1, .int j1), (2, .int j2)], [.int (27 : Int32), .int j1], (xu js 0 20 t1))) rfl ?_
    refine xTr.br (g1 := (158, [(0, .ref 0), (1, .int j1), (2, .int j2)], [], (xu js 0 20 t1))) (g2 := (153, [(0, .ref 0), (1, .int j1), (2, .int j2)], [], (xu js 0 20 t1))) rfl (fun h21 => ?_) (fun h21 => ?_)
    · refine xTr.ms 6 (g := (164, [(0, .ref 0), (1, .int (j1 + (3 : Int32))), (2, .int j2), (3, .int (0 : Int32))], [], (xu js 0 20 t1))) rfl ?_
      refine xTr.bind (J := F_X9_sleepsOn_L164_ex (j1 + (3 : Int32)) j2) (xTr.loop (hd := F_X9_sleepsOn_L164_hd (j1 + (3 : Int32)) j2) (fun aa => F_X9_sleepsOn_L164_ok (j1 + (3 : Int32)) j2 aa) 100000 ((0 : Int32), (xu js 0 20 t1))) (fun b40 => ?_)
      refine xTr.ms 2 (g := (60, [(0, .ref 0), (1, .int (j1 + (3 : Int32))), (2, .int (j2 + (1 : Int32)))], [], b40)) rfl ?_
      exact xTr.leaf rfl
    · refine xTr.ms 5 (g := (164, [(0, .ref 0), (1, .int (30 : Int32)), (2, .int j2), (3, .int (0 : Int32))], [], (xu js 0 20 t1))) rfl ?_
      refine xTr.bind (J := F_X9_sleepsOn_L164_ex (30 : Int32) j2) (xTr.loop (hd := F_X9_sleepsOn_L164_hd (30 : Int32) j2) (fun aa => F_X9_sleepsOn_L164_ok (30 : Int32) j2 aa) 100000 ((0 : Int32), (xu js 0 20 t1))) (fun b41 => ?_)
      refine xTr.ms 2 (g := (60, [(0, .ref 0), (1, .int (30 : Int32)), (2, .int (j2 + (1 : Int32)))], [], b41)) rfl ?_
      exact xTr.leaf rfl
  · refine xTr.ms 4 (g := (140, [(0, .ref 0), (1, .int j1), (2, .int j2)], [.int j2, .ref 12, .int j1], (xu js 0 20 t1))) rfl ?_
    refine xTr.ck (g := (141, [(0, .ref 0), (1, .int j1), (2, .int j2)], [.int (js.1 12 j2.toNatClampNeg), .int j1], (xu js 0 20 t1))) rfl (fun h42 => ?_)
    refine xTr.ms 7 (g := (164, [(0, .ref 0), (1, .int (j1 - ((js.1 12 j2.toNatClampNeg) / (2 : Int32)))), (2, .int j2), (3, .int (0 : Int32))], [], (xu js 0 20 t1))) rfl ?_
    refine xTr.bind (J := F_X9_sleepsOn_L164_ex (j1 - ((js.1 12 j2.toNatClampNeg) / (2 : Int32))) j2) (xTr.loop (hd := F_X9_sleepsOn_L164_hd (j1 - ((js.1 12 j2.toNatClampNeg) / (2 : Int32))) j2) (fun aa => F_X9_sleepsOn_L164_ok (j1 - ((js.1 12 j2.toNatClampNeg) / (2 : Int32))) j2 aa) 100000 ((0 : Int32), (xu js 0 20 t1))) (fun b43 => ?_)
    refine xTr.ms 2 (g := (60, [(0, .ref 0), (1, .int (j1 - ((js.1 12 j2.toNatClampNeg) / (2 : Int32)))), (2, .int (j2 + (1 : Int32)))], [], b43)) rfl ?_
    exact xTr.leaf rfl
set_option maxRecDepth 100000 in
theorem F_X9_sleepsOn_L60_ok (a : Int32 × Int32 × xS) : xTr xMs xML xR_X9_sleepsOn (F_X9_sleepsOn_L60_hd a) (F_X9_sleepsOn_L60 a) (xhx (F_X9_sleepsOn_L60_hd) (F_X9_sleepsOn_L60_ex)) := by
  unfold F_X9_sleepsOn_L60
  refine xTr.ms 2 (g := (63, [(0, .ref 0), (1, .int a.1), (2, .int a.2.1)], [.int (10 : Int32), .int a.2.1], a.2.2)) rfl ?_
  refine xTr.br (g1 := (277, [(0, .ref 0), (1, .int a.1), (2, .int a.2.1)], [], a.2.2)) (g2 := (66, [(0, .ref 0), (1, .int a.1), (2, .int a.2.1)], [], a.2.2)) rfl (fun h9 => ?_) (fun h9 => ?_)
  · refine xTr.mk (lv1 := []) rfl rfl ?_
    exact xTr.leaf rfl
  · refine xTr.ms 4 (g := (72, [(0, .ref 0), (1, .int a.1), (2, .int a.2.1)], [.int (-1 : Int32), .int a.2.1, .ref 12], a.2.2)) rfl ?_
    refine xTr.ck (g := (73, [(0, .ref 0), (1, .int a.1), (2, .int a.2.1)], [], (xu a.2.2 12 a.2.1.toNatClampNeg (-1 : Int32)))) rfl (fun h10 => ?_)
    refine xTr.ms 4 (g := (79, [(0, .ref 0), (1, .int a.1), (2, .int a.2.1)], [.int (-1 : Int32), .int a.2.1, .ref 13], (xu a.2.2 12 a.2.1.toNatClampNeg (-1 : Int32)))) rfl ?_
    refine xTr.ck (g := (80, [(0, .ref 0), (1, .int a.1), (2, .int a.2.1)], [], (xu (xu a.2.2 12 a.2.1.toNatClampNeg (-1 : Int32)) 13 a.2.1.toNatClampNeg (-1 : Int32)))) rfl (fun h11 => ?_)
    refine xTr.ms 3 (g := (85, [(0, .ref 0), (1, .int a.1), (2, .int a.2.1)], [.int (-1 : Int32), .int (a.2.2.1 0 20)], (xu (xu a.2.2 12 a.2.1.toNatClampNeg (-1 : Int32)) 13 a.2.1.toNatClampNeg (-1 : Int32)))) rfl ?_
    refine xTr.br (g1 := (88, [(0, .ref 0), (1, .int a.1), (2, .int a.2.1)], [], (xu (xu a.2.2 12 a.2.1.toNatClampNeg (-1 : Int32)) 13 a.2.1.toNatClampNeg (-1 : Int32)))) (g2 := (271, [(0, .ref 0), (1, .int a.1), (2, .int a.2.1)], [], (xu (xu a.2.2 12 a.2.1.toNatClampNeg (-1 : Int32)) 13 a.2.1.toNatClampNeg (-1 : Int32)))) rfl (fun h12 => ?_) (fun h12 => ?_)
    · refine xTr.ms 4 (g := (94, [(0, .ref 0), (1, .int a.1), (2, .int a.2.1)], [.int a.1, .int a.2.1, .ref 13], (xu (xu a.2.2 12 a.2.1.toNatClampNeg (-1 : Int32)) 13 a.2.1.toNatClampNeg (-1 : Int32)))) rfl ?_
      refine xTr.ck (g := (95, [(0, .ref 0), (1, .int a.1), (2, .int a.2.1)], [], (xu (xu (xu a.2.2 12 a.2.1.toNatClampNeg (-1 : Int32)) 13 a.2.1.toNatClampNeg (-1 : Int32)) 13 a.2.1.toNatClampNeg a.1))) rfl (fun h13 => ?_)
      refine xTr.ms 5 (g := (102, [(0, .ref 0), (1, .int a.1), (2, .int a.2.1)], [.int a.2.1, .ref 0, .int a.2.1, .ref 12], (xu (xu (xu a.2.2 12 a.2.1.toNatClampNeg (-1 : Int32)) 13 a.2.1.toNatClampNeg (-1 : Int32)) 13 a.2.1.toNatClampNeg a.1))) rfl ?_
      refine xTr.calli (R' := xR_X9_noiseIn) (as := [.ref 0, .int a.2.1]) (lv := [(0, .ref 0), (1, .int a.1), (2, .int a.2.1)]) (rest := [.int a.2.1, .ref 12]) (ok_X9_noiseIn a.2.1 (xu (xu (xu a.2.2 12 a.2.1.toNatClampNeg (-1 : Int32)) 13 a.2.1.toNatClampNeg (-1 : Int32)) 13 a.2.1.toNatClampNeg a.1)) rfl rfl rfl rfl rfl (fun v14 s14 => ?_)
      refine xTr.ck (g := (106, [(0, .ref 0), (1, .int a.1), (2, .int a.2.1)], [], (xu s14 12 a.2.1.toNatClampNeg v14))) rfl (fun h16 => ?_)
      refine xTr.ms 4 (g := (112, [(0, .ref 0), (1, .int a.1), (2, .int a.2.1)], [.int a.2.1, .ref 12, .ref 0], (xu s14 12 a.2.1.toNatClampNeg v14))) rfl ?_
      refine xTr.ck (g := (113, [(0, .ref 0), (1, .int a.1), (2, .int a.2.1)], [.int ((xu s14 12 a.2.1.toNatClampNeg v14).1 12 a.2.1.toNatClampNeg), .ref 0], (xu s14 12 a.2.1.toNatClampNeg v14))) rfl (fun h17 => ?_)
      refine xTr.ms 1 (g := (114, [(0, .ref 0), (1, .int a.1), (2, .int a.2.1)], [.int a.1, .int ((xu s14 12 a.2.1.toNatClampNeg v14).1 12 a.2.1.toNatClampNeg), .ref 0], (xu s14 12 a.2.1.toNatClampNeg v14))) rfl ?_
      refine xTr.br (g1 := (121, [(0, .ref 0), (1, .int a.1), (2, .int a.2.1)], [.ref 0], (xu s14 12 a.2.1.toNatClampNeg v14))) (g2 := (117, [(0, .ref 0), (1, .int a.1), (2, .int a.2.1)], [.ref 0], (xu s14 12 a.2.1.toNatClampNeg v14))) rfl (fun h18 => ?_) (fun h18 => ?_)
      · refine xTr.ms 1 (g := (122, [(0, .ref 0), (1, .int a.1), (2, .int a.2.1)], [.int (-1 : Int32), .ref 0], (xu s14 12 a.2.1.toNatClampNeg v14))) rfl ?_
        exact F_X9_sleepsOn_L60_J122_ok a.1 a.2.1 (-1 : Int32) (xu s14 12 a.2.1.toNatClampNeg v14)
      · refine xTr.ms 2 (g := (122, [(0, .ref 0), (1, .int a.1), (2, .int a.2.1)], [.int a.2.1, .ref 0], (xu s14 12 a.2.1.toNatClampNeg v14))) rfl ?_
        exact F_X9_sleepsOn_L60_J122_ok a.1 a.2.1 a.2.1 (xu s14 12 a.2.1.toNatClampNeg v14)
    · refine xTr.ms 2 (g := (60, [(0, .ref 0), (1, .int a.1), (2, .int (a.2.1 + (1 : Int32)))], [], (xu (xu a.2.2 12 a.2.1.toNatClampNeg (-1 : Int32)) 13 a.2.1.toNatClampNeg (-1 : Int32)))) rfl ?_
      exact xTr.leaf rfl
set_option maxRecDepth 100000 in
theorem ok_X9_sleepsOn (s : xS) : xTr xMs xML xR_X9_sleepsOn (Sum.inl (0, [(0, .ref 0)], [], s)) (F_X9_sleepsOn s) (fun (y : xS) => Sum.inr (none, y)) := by
  unfold F_X9_sleepsOn
  refine xTr.ms 1 (g := (1, [(0, .ref 0)], [.ref 0], s)) rfl ?_
  refine xTr.callv (R' := xR_X9_hears) (as := [.ref 0]) (lv := [(0, .ref 0)]) (rest := []) (ok_X9_hears s) rfl rfl rfl rfl rfl (fun s2 => ?_)
  refine xTr.ms 5 (g := (11, [(0, .ref 0), (1, .int (0 : Int32))], [], (xu s2 0 20 (-1 : Int32)))) rfl ?_
  refine xTr.bind (J := F_X9_sleepsOn_L11_ex) (xTr.loop (hd := F_X9_sleepsOn_L11_hd) (fun aa => F_X9_sleepsOn_L11_ok aa) 100000 ((0 : Int32), (xu s2 0 20 (-1 : Int32)))) (fun b5 => ?_)
  refine xTr.ms 2 (g := (32, [(0, .ref 0), (1, .int (0 : Int32))], [], b5)) rfl ?_
  refine xTr.bind (J := F_X9_sleepsOn_L32_ex) (xTr.loop (hd := F_X9_sleepsOn_L32_hd) (fun aa => F_X9_sleepsOn_L32_ok aa) 100000 ((0 : Int32), b5)) (fun b8 => ?_)
  refine xTr.ms 5 (g := (60, [(0, .ref 0), (1, .int (b8.1 0 9)), (2, .int (0 : Int32))], [], b8)) rfl ?_
  refine xTr.bind (J := F_X9_sleepsOn_L60_ex) (xTr.loop (hd := F_X9_sleepsOn_L60_hd) (fun aa => F_X9_sleepsOn_L60_ok aa) 100000 ((b8.1 0 9), (0 : Int32), b8)) (fun b44 => ?_)
  exact xTr.ret rfl rfl rfl
