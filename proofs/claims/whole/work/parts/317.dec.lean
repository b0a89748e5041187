-- X9_keep
def F_X9_keep (l1 : Int32) (l2 : Int32) (l3 : Int32) (s : xS) : Option (xS) := if l1 < 0 ∨ 4 ≤ l1.toNatClampNeg then none else (if (s.1 23 l1.toNatClampNeg) = 0 then (if (((60 : Int32) * l1) + l2) < 0 ∨ 240 ≤ ((((60 : Int32) * l1) + l2)).toNatClampNeg then none else (some (xu s 25 ((((60 : Int32) * l1) + l2)).toNatClampNeg (l3).toInt8.toInt32))) else (if l1 < 0 ∨ 4 ≤ l1.toNatClampNeg then none else (if (s.1 23 l1.toNatClampNeg) = (1 : Int32) then (if (((60 : Int32) * l1) + l2) < 0 ∨ 240 ≤ ((((60 : Int32) * l1) + l2)).toNatClampNeg then none else (some (xu s 25 ((((60 : Int32) * l1) + l2)).toNatClampNeg (l3).toInt16.toInt32))) else (if (((60 : Int32) * l1) + l2) < 0 ∨ 240 ≤ ((((60 : Int32) * l1) + l2)).toNatClampNeg then none else (some (xu s 25 ((((60 : Int32) * l1) + l2)).toNatClampNeg l3))))))
set_option maxRecDepth 100000 in
theorem ok_X9_keep (l1 : Int32) (l2 : Int32) (l3 : Int32) (s : xS) : xTr xMs xML xR_X9_keep (Sum.inl (0, [(0, .ref 0), (1, .int l1), (2, .int l2), (3, .int l3)], [], s)) (F_X9_keep l1 l2 l3 s) (fun (y : xS) => Sum.inr (none, y)) := by
  unfold F_X9_keep
  refine xTr.ms 10 (g := (15, [(0, .ref 0), (1, .int l1), (2, .int l2), (3, .int l3)], [.int l1, .ref 23, .int (((60 : Int32) * l1) + l2), .ref 25], s)) rfl ?_
  refine xTr.ck (g := (16, [(0, .ref 0), (1, .int l1), (2, .int l2), (3, .int l3)], [.int (s.1 23 l1.toNatClampNeg), .int (((60 : Int32) * l1) + l2), .ref 25], s)) rfl (fun h1 => ?_)
  refine xTr.br (g1 := (19, [(0, .ref 0), (1, .int l1), (2, .int l2), (3, .int l3)], [.int (((60 : Int32) * l1) + l2), .ref 25], s)) (g2 := (24, [(0, .ref 0), (1, .int l1), (2, .int l2), (3, .int l3)], [.int (((60 : Int32) * l1) + l2), .ref 25], s)) rfl (fun h2 => ?_) (fun h2 => ?_)
  · refine xTr.ms 3 (g := (40, [(3, .int l3)], [.int (l3).toInt8.toInt32, .int (((60 : Int32) * l1) + l2), .ref 25], s)) rfl ?_
    refine xTr.ck (g := (41, [], [], (xu s 25 ((((60 : Int32) * l1) + l2)).toNatClampNeg (l3).toInt8.toInt32))) rfl (fun h3 => ?_)
    exact xTr.ret rfl rfl rfl
  · refine xTr.ms 3 (g := (29, [(0, .ref 0), (1, .int l1), (3, .int l3)], [.int l1, .ref 23, .int (((60 : Int32) * l1) + l2), .ref 25], s)) rfl ?_
    refine xTr.ck (g := (30, [(0, .ref 0), (1, .int l1), (3, .int l3)], [.int (s.1 23 l1.toNatClampNeg), .int (((60 : Int32) * l1) + l2), .ref 25], s)) rfl (fun h4 => ?_)
    refine xTr.ms 1 (g := (31, [(0, .ref 0), (1, .int l1), (3, .int l3)], [.int (1 : Int32), .int (s.1 23 l1.toNatClampNeg), .int (((60 : Int32) * l1) + l2), .ref 25], s)) rfl ?_
    refine xTr.br (g1 := (34, [(0, .ref 0), (1, .int l1), (3, .int l3)], [.int (((60 : Int32) * l1) + l2), .ref 25], s)) (g2 := (39, [(0, .ref 0), (1, .int l1), (3, .int l3)], [.int (((60 : Int32) * l1) + l2), .ref 25], s)) rfl (fun h5 => ?_) (fun h5 => ?_)
    · refine xTr.ms 3 (g := (40, [(3, .int l3)], [.int (l3).toInt16.toInt32, .int (((60 : Int32) * l1) + l2), .ref 25], s)) rfl ?_
      refine xTr.ck (g := (41, [], [], (xu s 25 ((((60 : Int32) * l1) + l2)).toNatClampNeg (l3).toInt16.toInt32))) rfl (fun h6 => ?_)
      exact xTr.ret rfl rfl rfl
    · refine xTr.ms 1 (g := (40, [(3, .int l3)], [.int l3, .int (((60 : Int32) * l1) + l2), .ref 25], s)) rfl ?_
      refine xTr.ck (g := (41, [], [], (xu s 25 ((((60 : Int32) * l1) + l2)).toNatClampNeg l3))) rfl (fun h7 => ?_)
      exact xTr.ret rfl rfl rfl
-- X9_put
def F_X9_put (l1 : Int32) (l2 : Int32) (l3 : Int32) (l4 : Int32) (s : xS) : Option (Int32 × xS) := (F_X9_isSheet l1 s).bind fun v1 => (if v1 = 0 then (some ((-2 : Int32), s)) else ((F_X9_in l2 (0 : Int32) (2 : Int32) s).bind fun v3 => (if v3 = 0 then (some ((-2 : Int32), s)) else ((F_X9_lacks l1 l2 l3 s).bind fun v5 => (if v5 ≤ 0 then ((F_X9_keep l1 l3 l4 s).bind fun s8 => (some ((1 : Int32), s8))) else ((F_X9_meets v5 s).bind fun q10 => (some (q10.1, q10.2))))))))
set_option maxRecDepth 100000 in
theorem ok_X9_put (l1 : Int32) (l2 : Int32) (l3 : Int32) (l4 : Int32) (s : xS) : xTr xMs xML xR_X9_put (Sum.inl (0, [(0, .ref 0), (1, .int l1), (2, .int l2), (3, .int l3), (4, .int l4)], [], s)) (F_X9_put l1 l2 l3 l4 s) (fun (y : Int32 × xS) => Sum.inr (some (.int y.1), y.2)) := by
  unfold F_X9_put
  refine xTr.ms 1 (g := (1, [(0, .ref 0), (1, .int l1), (2, .int l2), (3, .int l3), (4, .int l4)], [.int l1], s)) rfl ?_
  refine xTr.callip (R' := xR_X9_isSheet) (as := [.int l1]) (lv := [(0, .ref 0), (1, .int l1), (2, .int l2), (3, .int l3), (4, .int l4)]) (rest := []) (ok_X9_isSheet l1 s) rfl rfl rfl rfl rfl (fun v1 => ?_)
  refine xTr.br (g1 := (16, [(0, .ref 0), (1, .int l1), (2, .int l2), (3, .int l3), (4, .int l4)], [], s)) (g2 := (7, [(0, .ref 0), (1, .int l1), (2, .int l2), (3, .int l3), (4, .int l4)], [], s)) rfl (fun h2 => ?_) (fun h2 => ?_)
  · refine xTr.ms 1 (g := (18, [], [.int (-2 : Int32)], s)) rfl ?_
    exact xTr.ret rfl rfl rfl
  · refine xTr.ms 3 (g := (10, [(0, .ref 0), (1, .int l1), (2, .int l2), (3, .int l3), (4, .int l4)], [.int (2 : Int32), .int (0 : Int32), .int l2], s)) rfl ?_
    refine xTr.callip (R' := xR_X9_in) (as := [.int l2, .int (0 : Int32), .int (2 : Int32)]) (lv := [(0, .ref 0), (1, .int l1), (2, .int l2), (3, .int l3), (4, .int l4)]) (rest := []) (ok_X9_in l2 (0 : Int32) (2 : Int32) s) rfl rfl rfl rfl rfl (fun v3 => ?_)
    refine xTr.br (g1 := (16, [(0, .ref 0), (1, .int l1), (2, .int l2), (3, .int l3), (4, .int l4)], [], s)) (g2 := (19, [(0, .ref 0), (1, .int l1), (2, .int l2), (3, .int l3), (4, .int l4)], [], s)) rfl (fun h4 => ?_) (fun h4 => ?_)
    · refine xTr.ms 1 (g := (18, [], [.int (-2 : Int32)], s)) rfl ?_
      exact xTr.ret rfl rfl rfl
    · refine xTr.ms 4 (g := (23, [(0, .ref 0), (1, .int l1), (2, .int l2), (3, .int l3), (4, .int l4)], [.int l3, .int l2, .int l1, .ref 0], s)) rfl ?_
      refine xTr.callip (R' := xR_X9_lacks) (as := [.ref 0, .int l1, .int l2, .int l3]) (lv := [(0, .ref 0), (1, .int l1), (2, .int l2), (3, .int l3), (4, .int l4)]) (rest := []) (ok_X9_lacks l1 l2 l3 s) rfl rfl rfl rfl rfl (fun v5 => ?_)
      refine xTr.ms 2 (g := (30, [(0, .ref 0), (1, .int l1), (2, .int l2), (3, .int l3), (4, .int l4), (5, .int v5)], [.int v5], s)) rfl ?_
      refine xTr.br (g1 := (40, [(0, .ref 0), (1, .int l1), (2, .int l2), (3, .int l3), (4, .int l4), (5, .int v5)], [], s)) (g2 := (33, [(0, .ref 0), (1, .int l1), (2, .int l2), (3, .int l3), (4, .int l4), (5, .int v5)], [], s)) rfl (fun h6 => ?_) (fun h6 => ?_)
      · refine xTr.ms 4 (g := (45, [(0, .ref 0), (1, .int l1), (3, .int l3), (4, .int l4)], [.int l4, .int l3, .int l1, .ref 0], s)) rfl ?_
        refine xTr.callv (R' := xR_X9_keep) (as := [.ref 0, .int l1, .int l3, .int l4]) (lv := [(0, .ref 0), (1, .int l1), (3, .int l3), (4, .int l4)]) (rest := []) (ok_X9_keep l1 l3 l4 s) rfl rfl rfl rfl rfl (fun s8 => ?_)
        refine xTr.ms 1 (g := (49, [(0, .ref 0), (1, .int l1), (3, .int l3), (4, .int l4)], [.int (1 : Int32)], s8)) rfl ?_
        exact xTr.ret rfl rfl rfl
      · refine xTr.ms 2 (g := (36, [(0, .ref 0), (5, .int v5)], [.int v5, .ref 0], s)) rfl ?_
        refine xTr.calli (R' := xR_X9_meets) (as := [.ref 0, .int v5]) (lv := [(0, .ref 0), (5, .int v5)]) (rest := []) (ok_X9_meets v5 s) rfl rfl rfl rfl rfl (fun v9 s9 => ?_)
        exact xTr.ret rfl rfl rfl
-- X9_get
def F_X9_get (l1 : Int32) (l2 : Int32) (l3 : Int32) (s : xS) : Option (Int32 × xS) := (F_X9_isSheet l1 s).bind fun v1 => (if v1 = 0 then (some ((-2147483648 : Int32), s)) else ((F_X9_in l2 (0 : Int32) (2 : Int32) s).bind fun v3 => (if v3 = 0 then (some ((-2147483648 : Int32), s)) else ((F_X9_lacks l1 l2 l3 s).bind fun v5 => (if v5 ≤ 0 then (if (((60 : Int32) * l1) + l3) < 0 ∨ 240 ≤ ((((60 : Int32) * l1) + l3)).toNatClampNeg then none else (some ((s.1 25 ((((60 : Int32) * l1) + l3)).toNatClampNeg), s))) else (some ((-2147483648 : Int32), (xu s 0 35 v5))))))))
set_option maxRecDepth 100000 in
theorem ok_X9_get (l1 : Int32) (l2 : Int32) (l3 : Int32) (s : xS) : xTr xMs xML xR_X9_get (Sum.inl (0, [(0, .ref 0), (1, .int l1), (2, .int l2), (3, .int l3)], [], s)) (F_X9_get l1 l2 l3 s) (fun (y : Int32 × xS) => Sum.inr (some (.int y.1), y.2)) := by
  unfold F_X9_get
  refine xTr.ms 1 (g := (1, [(0, .ref 0), (1, .int l1), (2, .int l2), (3, .int l3)], [.int l1], s)) rfl ?_
  refine xTr.callip (R' := xR_X9_isSheet) (as := [.int l1]) (lv := [(0, .ref 0), (1, .int l1), (2, .int l2), (3, .int l3)]) (rest := []) (ok_X9_isSheet l1 s) rfl rfl rfl rfl rfl (fun v1 => ?_)
  refine xTr.br (g1 := (16, [(0, .ref 0), (1, .int l1), (2, .int l2), (3, .int l3)], [], s)) (g2 := (7, [(0, .ref 0), (1, .int l1), (2, .int l2), (3, .int l3)], [], s)) rfl (fun h2 => ?_) (fun h2 => ?_)
  · refine xTr.ms 1 (g := (19, [], [.int (-2147483648 : Int32)], s)) rfl ?_
    exact xTr.ret rfl rfl rfl
  · refine xTr.ms 3 (g := (10, [(0, .ref 0), (1, .int l1), (2, .int l2), (3, .int l3)], [.int (2 : Int32), .int (0 : Int32), .int l2], s)) rfl ?_
    refine xTr.callip (R' := xR_X9_in) (as := [.int l2, .int (0 : Int32), .int (2 : Int32)]) (lv := [(0, .ref 0), (1, .int l1), (2, .int l2), (3, .int l3)]) (rest := []) (ok_X9_in l2 (0 : Int32) (2 : Int32) s) rfl rfl rfl rfl rfl (fun v3 => ?_)
    refine xTr.br (g1 := (16, [(0, .ref 0), (1, .int l1), (2, .int l2), (3, .int l3)], [], s)) (g2 := (20, [(0, .ref 0), (1, .int l1), (2, .int l2), (3, .int l3)], [], s)) rfl (fun h4 => ?_) (fun h4 => ?_)
    · refine xTr.ms 1 (g := (19, [], [.int (-2147483648 : Int32)], s)) rfl ?_
      exact xTr.ret rfl rfl rfl
    · refine xTr.ms 4 (g := (24, [(0, .ref 0), (1, .int l1), (2, .int l2), (3, .int l3)], [.int l3, .int l2, .int l1, .ref 0], s)) rfl ?_
      refine xTr.callip (R' := xR_X9_lacks) (as := [.ref 0, .int l1, .int l2, .int l3]) (lv := [(0, .ref 0), (1, .int l1), (2, .int l2), (3, .int l3)]) (rest := []) (ok_X9_lacks l1 l2 l3 s) rfl rfl rfl rfl rfl (fun v5 => ?_)
      refine xTr.ms 2 (g := (31, [(0, .ref 0), (1, .int l1), (2, .int l2), (3, .int l3), (4, .int v5)], [.int v5], s)) rfl ?_
      refine xTr.br (g1 := (44, [(0, .ref 0), (1, .int l1), (2, .int l2), (3, .int l3), (4, .int v5)], [], s)) (g2 := (34, [(0, .ref 0), (1, .int l1), (2, .int l2), (3, .int l3), (4, .int v5)], [], s)) rfl (fun h6 => ?_) (fun h6 => ?_)
      · refine xTr.ms 7 (g := (54, [(0, .ref 0), (1, .int l1), (3, .int l3)], [.int (((60 : Int32) * l1) + l3), .ref 25], s)) rfl ?_
        refine xTr.ck (g := (55, [(0, .ref 0), (1, .int l1), (3, .int l3)], [.int (s.1 25 ((((60 : Int32) * l1) + l3)).toNatClampNeg)], s)) rfl (fun h7 => ?_)
        exact xTr.ret rfl rfl rfl
      · refine xTr.ms 4 (g := (43, [(0, .ref 0), (4, .int v5)], [.int (-2147483648 : Int32)], (xu s 0 35 v5))) rfl ?_
        exact xTr.ret rfl rfl rfl
-- X9_copy
def F_X9_copy_L120 (l1 : Int32) (l2 : Int32) (l3 : Int32) (l4 : Int32) (l5 : Int32) (a : Int32 × xS) : Option ((Int32 × xS) ⊕ (xS)) := if l5 ≤ a.1 then (some (Sum.inr a.2)) else (if ((((60 : Int32) * l1) + l2) + a.1) < 0 ∨ 240 ≤ (((((60 : Int32) * l1) + l2) + a.1)).toNatClampNeg then none else (if a.1 < 0 ∨ 60 ≤ a.1.toNatClampNeg then none else (some (Sum.inl ((a.1 + (1 : Int32)), (xu a.2 26 a.1.toNatClampNeg (a.2.1 25 (((((60 : Int32) * l1) + l2) + a.1)).toNatClampNeg)))))))
def F_X9_copy_L157 (l3 : Int32) (l4 : Int32) (l5 : Int32) (a : Int32 × xS) : Option ((Int32 × xS) ⊕ (xS)) := if l5 ≤ a.1 then (some (Sum.inr a.2)) else (if a.1 < 0 ∨ 60 ≤ a.1.toNatClampNeg then none else (if ((((60 : Int32) * l3) + l4) + a.1) < 0 ∨ 240 ≤ (((((60 : Int32) * l3) + l4) + a.1)).toNatClampNeg then none else (some (Sum.inl ((a.1 + (1 : Int32)), (xu a.2 25 (((((60 : Int32) * l3) + l4) + a.1)).toNatClampNeg (a.2.1 26 a.1.toNatClampNeg)))))))
def F_X9_copy (l1 : Int32) (l2 : Int32) (l3 : Int32) (l4 : Int32) (l5 : Int32) (s : xS) : Option (Int32 × xS) := (F_X9_isSheet l1 s).bind fun v1 => (if v1 = 0 then (some ((-2 : Int32), s)) else ((F_X9_isSheet l3 s).bind fun v3 => (if v3 = 0 then (some ((-2 : Int32), s)) else (if l1 < 0 ∨ 4 ≤ l1.toNatClampNeg then none else (if (s.1 22 l1.toNatClampNeg) = 0 then ((F_X9_meets (1 : Int32) s).bind fun q8 => (some (q8.1, q8.2))) else (if l3 < 0 ∨ 4 ≤ l3.toNatClampNeg then none else (if (s.1 22 l3.toNatClampNeg) = 0 then ((F_X9_meets (1 : Int32) s).bind fun q12 => (some (q12.1, q12.2))) else (if l1 < 0 ∨ 4 ≤ l1.toNatClampNeg then none else (if l3 < 0 ∨ 4 ≤ l3.toNatClampNeg then none else (if (s.1 23 l1.toNatClampNeg) = (s.1 23 l3.toNatClampNeg) then (if l2 < 0 then ((F_X9_meets (2 : Int32) s).bind fun q18 => (some (q18.1, q18.2))) else (if l4 < 0 then ((F_X9_meets (2 : Int32) s).bind fun q21 => (some (q21.1, q21.2))) else (if l5 < 0 then ((F_X9_meets (2 : Int32) s).bind fun q24 => (some (q24.1, q24.2))) else (if l1 < 0 ∨ 4 ≤ l1.toNatClampNeg then none else (if 0 < (lg_cmp ((l2).toInt64 + (l5).toInt64) ((s.1 24 l1.toNatClampNeg)).toInt64) then ((F_X9_meets (2 : Int32) s).bind fun q28 => (some (q28.1, q28.2))) else (if l3 < 0 ∨ 4 ≤ l3.toNatClampNeg then none else (if (lg_cmp ((l4).toInt64 + (l5).toInt64) ((s.1 24 l3.toNatClampNeg)).toInt64) ≤ 0 then ((xlp (F_X9_copy_L120 l1 l2 l3 l4 l5) 100000 ((0 : Int32), s)).bind (fun b34 => ((xlp (F_X9_copy_L157 l3 l4 l5) 100000 ((0 : Int32), b34)).bind (fun b38 => (some ((1 : Int32), b38)))))) else ((F_X9_meets (2 : Int32) s).bind fun q40 => (some (q40.1, q40.2)))))))))) else ((F_X9_meets (4 : Int32) s).bind fun q42 => (some (q42.1, q42.2)))))))))))))
def F_X9_copy_L120_hd (l1 : Int32) (l2 : Int32) (l3 : Int32) (l4 : Int32) (l5 : Int32) (a : Int32 × xS) : xT := Sum.inl (120, [(0, .ref 0), (1, .int l1), (2, .int l2), (3, .int l3), (4, .int l4), (5, .int l5), (6, .int a.1)], [], a.2)
def F_X9_copy_L120_ex (l1 : Int32) (l2 : Int32) (l3 : Int32) (l4 : Int32) (l5 : Int32) : (xS) → xT := (fun (z : xS) => Sum.inl (154, [(0, .ref 0), (3, .int l3), (4, .int l4), (5, .int l5)], [], z))
set_option maxRecDepth 100000 in
theorem F_X9_copy_L120_ok (l1 : Int32) (l2 : Int32) (l3 : Int32) (l4 : Int32) (l5 : Int32) (a : Int32 × xS) : xTr xMs xML xR_X9_copy (F_X9_copy_L120_hd l1 l2 l3 l4 l5 a) (F_X9_copy_L120 l1 l2 l3 l4 l5 a) (xhx (F_X9_copy_L120_hd l1 l2 l3 l4 l5) (F_X9_copy_L120_ex l1 l2 l3 l4 l5)) := by
  unfold F_X9_copy_L120
  refine xTr.ms 2 (g := (124, [(0, .ref 0), (1, .int l1), (2, .int l2), (3, .int l3), (4, .int l4), (5, .int l5), (6, .int a.1)], [.int l5, .int a.1], a.2)) rfl ?_
  refine xTr.br (g1 := (154, [(0, .ref 0), (1, .int l1), (2, .int l2), (3, .int l3), (4, .int l4), (5, .int l5), (6, .int a.1)], [], a.2)) (g2 := (127, [(0, .ref 0), (1, .int l1), (2, .int l2), (3, .int l3), (4, .int l4), (5, .int l5), (6, .int a.1)], [], a.2)) rfl (fun h31 => ?_) (fun h31 => ?_)
  · refine xTr.mk (lv1 := [(0, .ref 0), (3, .int l3), (4, .int l4), (5, .int l5)]) rfl rfl ?_
    exact xTr.leaf rfl
  · refine xTr.ms 12 (g := (146, [(0, .ref 0), (1, .int l1), (2, .int l2), (3, .int l3), (4, .int l4), (5, .int l5), (6, .int a.1)], [.int ((((60 : Int32) * l1) + l2) + a.1), .ref 25, .int a.1, .ref 26], a.2)) rfl ?_
    refine xTr.ck (g := (147, [(0, .ref 0), (1, .int l1), (2, .int l2), (3, .int l3), (4, .int l4), (5, .int l5), (6, .int a.1)], [.int (a.2.1 25 (((((60 : Int32) * l1) + l2) + a.1)).toNatClampNeg), .int a.1, .ref 26], a.2)) rfl (fun h32 => ?_)
    refine xTr.ck (g := (148, [(0, .ref 0), (1, .int l1), (2, .int l2), (3, .int l3), (4, .int l4), (5, .int l5), (6, .int a.1)], [], (xu a.2 26 a.1.toNatClampNeg (a.2.1 25 (((((60 : Int32) * l1) + l2) + a.1)).toNatClampNeg)))) rfl (fun h33 => ?_)
    refine xTr.ms 2 (g := (120, [(0, .ref 0), (1, .int l1), (2, .int l2), (3, .int l3), (4, .int l4), (5, .int l5), (6, .int (a.1 + (1 : Int32)))], [], (xu a.2 26 a.1.toNatClampNeg (a.2.1 25 (((((60 : Int32) * l1) + l2) + a.1)).toNatClampNeg)))) rfl ?_
    exact xTr.leaf rfl
def F_X9_copy_L157_hd (l3 : Int32) (l4 : Int32) (l5 : Int32) (a : Int32 × xS) : xT := Sum.inl (157, [(0, .ref 0), (3, .int l3), (4, .int l4), (5, .int l5), (6, .int a.1)], [], a.2)
def F_X9_copy_L157_ex (l3 : Int32) (l4 : Int32) (l5 : Int32) : (xS) → xT := (fun (z : xS) => Sum.inl (192, [], [], z))
set_option maxRecDepth 100000 in
theorem F_X9_copy_L157_ok (l3 : Int32) (l4 : Int32) (l5 : Int32) (a : Int32 × xS) : xTr xMs xML xR_X9_copy (F_X9_copy_L157_hd l3 l4 l5 a) (F_X9_copy_L157 l3 l4 l5 a) (xhx (F_X9_copy_L157_hd l3 l4 l5) (F_X9_copy_L157_ex l3 l4 l5)) := by
  unfold F_X9_copy_L157
  refine xTr.ms 2 (g := (161, [(0, .ref 0), (3, .int l3), (4, .int l4), (5, .int l5), (6, .int a.1)], [.int l5, .int a.1], a.2)) rfl ?_
  refine xTr.br (g1 := (192, [(0, .ref 0), (3, .int l3), (4, .int l4), (5, .int l5), (6, .int a.1)], [], a.2)) (g2 := (164, [(0, .ref 0), (3, .int l3), (4, .int l4), (5, .int l5), (6, .int a.1)], [], a.2)) rfl (fun h35 => ?_) (fun h35 => ?_)
  · refine xTr.mk (lv1 := []) rfl rfl ?_
    exact xTr.leaf rfl
  · refine xTr.ms 12 (g := (184, [(0, .ref 0), (3, .int l3), (4, .int l4), (5, .int l5), (6, .int a.1)], [.int a.1, .ref 26, .int ((((60 : Int32) * l3) + l4) + a.1), .ref 25], a.2)) rfl ?_
    refine xTr.ck (g := (185, [(0, .ref 0), (3, .int l3), (4, .int l4), (5, .int l5), (6, .int a.1)], [.int (a.2.1 26 a.1.toNatClampNeg), .int ((((60 : Int32) * l3) + l4) + a.1), .ref 25], a.2)) rfl (fun h36 => ?_)
    refine xTr.ck (g := (186, [(0, .ref 0), (3, .int l3), (4, .int l4), (5, .int l5), (6, .int a.1)], [], (xu a.2 25 (((((60 : Int32) * l3) + l4) + a.1)).toNatClampNeg (a.2.1 26 a.1.toNatClampNeg)))) rfl (fun h37 => ?_)
    refine xTr.ms 2 (g := (157, [(0, .ref 0), (3, .int l3), (4, .int l4), (5, .int l5), (6, .int (a.1 + (1 : Int32)))], [], (xu a.2 25 (((((60 : Int32) * l3) + l4) + a.1)).toNatClampNeg (a.2.1 26 a.1.toNatClampNeg)))) rfl ?_
    exact xTr.leaf rfl
set_option maxRecDepth 100000 in
theorem ok_X9_copy (l1 : Int32) (l2 : Int32) (l3 : Int32) (l4 : Int32) (l5 : Int32) (s : xS) : xTr xMs xML xR_X9_copy (Sum.inl (0, [(0, .ref 0), (1, .int l1), (2, .int l2), (3, .int l3), (4, .int l4), (5, .int l5)], [], s)) (F_X9_copy l1 l2 l3 l4 l5 s) (fun (y : Int32 × xS) => Sum.inr (some (.int y.1), y.2)) := by
  unfold F_X9_copy
  refine xTr.ms 1 (g := (1, [(0, .ref 0), (1, .int l1), (2, .int l2), (3, .int l3), (4, .int l4), (5, .int l5)], [.int l1], s)) rfl ?_
  refine xTr.callip (R' := xR_X9_isSheet) (as := [.int l1]) (lv := [(0, .ref 0), (1, .int l1), (2, .int l2), (3, .int l3), (4, .int l4), (5, .int l5)]) (rest := []) (ok_X9_isSheet l1 s) rfl rfl rfl rfl rfl (fun v1 => ?_)
  refine xTr.br (g1 := (14, [(0, .ref 0), (1, .int l1), (2, .int l2), (3, .int l3), (4, .int l4), (5, .int l5)], [], s)) (g2 := (7, [(0, .ref 0), (1, .int l1), (2, .int l2), (3, .int l3), (4, .int l4), (5, .int l5)], [], s)) rfl (fun h2 => ?_) (fun h2 => ?_)
  · refine xTr.ms 1 (g := (16, [], [.int (-2 : Int32)], s)) rfl ?_
    exact xTr.ret rfl rfl rfl
  · refine xTr.ms 1 (g := (8, [(0, .ref 0), (1, .int l1), (2, .int l2), (3, .int l3), (4, .int l4), (5, .int l5)], [.int l3], s)) rfl ?_
    refine xTr.callip (R' := xR_X9_isSheet) (as := [.int l3]) (lv := [(0, .ref 0), (1, .int l1), (2, .int l2), (3, .int l3), (4, .int l4), (5, .int l5)]) (rest := []) (ok_X9_isSheet l3 s) rfl rfl rfl rfl rfl (fun v3 => ?_)
    refine xTr.br (g1 := (14, [(0, .ref 0), (1, .int l1), (2, .int l2), (3, .int l3), (4, .int l4), (5, .int l5)], [], s)) (g2 := (17, [(0, .ref 0), (1, .int l1), (2, .int l2), (3, .int l3), (4, .int l4), (5, .int l5)], [], s)) rfl (fun h4 => ?_) (fun h4 => ?_)
    · refine xTr.ms 1 (g := (16, [], [.int (-2 : Int32)], s)) rfl ?_
      exact xTr.ret rfl rfl rfl
    · refine xTr.ms 3 (g := (22, [(0, .ref 0), (1, .int l1), (2, .int l2), (3, .int l3), (4, .int l4), (5, .int l5)], [.int l1, .ref 22], s)) rfl ?_
      refine xTr.ck (g := (23, [(0, .ref 0), (1, .int l1), (2, .int l2), (3, .int l3), (4, .int l4), (5, .int l5)], [.int (s.1 22 l1.toNatClampNeg)], s)) rfl (fun h5 => ?_)
      refine xTr.br (g1 := (35, [(0, .ref 0), (1, .int l1), (2, .int l2), (3, .int l3), (4, .int l4), (5, .int l5)], [], s)) (g2 := (26, [(0, .ref 0), (1, .int l1), (2, .int l2), (3, .int l3), (4, .int l4), (5, .int l5)], [], s)) rfl (fun h6 => ?_) (fun h6 => ?_)
      · refine xTr.ms 2 (g := (37, [(0, .ref 0)], [.int (1 : Int32), .ref 0], s)) rfl ?_
        refine xTr.calli (R' := xR_X9_meets) (as := [.ref 0, .int (1 : Int32)]) (lv := [(0, .ref 0)]) (rest := []) (ok_X9_meets (1 : Int32) s) rfl rfl rfl rfl rfl (fun v7 s7 => ?_)
        exact xTr.ret rfl rfl rfl
      · refine xTr.ms 3 (g := (31, [(0, .ref 0), (1, .int l1), (2, .int l2), (3, .int l3), (4, .int l4), (5, .int l5)], [.int l3, .ref 22], s)) rfl ?_
        refine xTr.ck (g := (32, [(0, .ref 0), (1, .int l1), (2, .int l2), (3, .int l3), (4, .int l4), (5, .int l5)], [.int (s.1 22 l3.toNatClampNeg)], s)) rfl (fun h9 => ?_)
        refine xTr.br (g1 := (35, [(0, .ref 0), (1, .int l1), (2, .int l2), (3, .int l3), (4, .int l4), (5, .int l5)], [], s)) (g2 := (41, [(0, .ref 0), (1, .int l1), (2, .int l2), (3, .int l3), (4, .int l4), (5, .int l5)], [], s)) rfl (fun h10 => ?_) (fun h10 => ?_)
        · refine xTr.ms 2 (g := (37, [(0, .ref 0)], [.int (1 : Int32), .ref 0], s)) rfl ?_
          refine xTr.calli (R' := xR_X9_meets) (as := [.ref 0, .int (1 : Int32)]) (lv := [(0, .ref 0)]) (rest := []) (ok_X9_meets (1 : Int32) s) rfl rfl rfl rfl rfl (fun v11 s11 => ?_)
          exact xTr.ret rfl rfl rfl
        · refine xTr.ms 3 (g := (46, [(0, .ref 0), (1, .int l1), (2, .int l2), (3, .int l3), (4, .int l4), (5, .int l5)], [.int l1, .ref 23], s)) rfl ?_
          refine xTr.ck (g := (47, [(0, .ref 0), (1, .int l1), (2, .int l2), (3, .int l3), (4, .int l4), (5, .int l5)], [.int (s.1 23 l1.toNatClampNeg)], s)) rfl (fun h13 => ?_)
          refine xTr.ms 3 (g := (52, [(0, .ref 0), (1, .int l1), (2, .int l2), (3, .int l3), (4, .int l4), (5, .int l5)], [.int l3, .ref 23, .int (s.1 23 l1.toNatClampNeg)], s)) rfl ?_
          refine xTr.ck (g := (53, [(0, .ref 0), (1, .int l1), (2, .int l2), (3, .int l3), (4, .int l4), (5, .int l5)], [.int (s.1 23 l3.toNatClampNeg), .int (s.1 23 l1.toNatClampNeg)], s)) rfl (fun h14 => ?_)
          refine xTr.br (g1 := (62, [(0, .ref 0), (1, .int l1), (2, .int l2), (3, .int l3), (4, .int l4), (5, .int l5)], [], s)) (g2 := (56, [(0, .ref 0), (1, .int l1), (2, .int l2), (3, .int l3), (4, .int l4), (5, .int l5)], [], s)) rfl (fun h15 => ?_) (fun h15 => ?_)
          · refine xTr.ms 1 (g := (63, [(0, .ref 0), (1, .int l1), (2, .int l2), (3, .int l3), (4, .int l4), (5, .int l5)], [.int l2], s)) rfl ?_
            refine xTr.br (g1 := (111, [(0, .ref 0), (1, .int l1), (2, .int l2), (3, .int l3), (4, .int l4), (5, .int l5)], [], s)) (g2 := (66, [(0, .ref 0), (1, .int l1), (2, .int l2), (3, .int l3), (4, .int l4), (5, .int l5)], [], s)) rfl (fun h16 => ?_) (fun h16 => ?_)
            · refine xTr.ms 2 (g := (113, [(0, .ref 0)], [.int (2 : Int32), .ref 0], s)) rfl ?_
              refine xTr.calli (R' := xR_X9_meets) (as := [.ref 0, .int (2 : Int32)]) (lv := [(0, .ref 0)]) (rest := []) (ok_X9_meets (2 : Int32) s) rfl rfl rfl rfl rfl (fun v17 s17 => ?_)
              exact xTr.ret rfl rfl rfl
            · refine xTr.ms 1 (g := (68, [(0, .ref 0), (1, .int l1), (2, .int l2), (3, .int l3), (4, .int l4), (5, .int l5)], [.int l4], s)) rfl ?_
              refine xTr.br (g1 := (111, [(0, .ref 0), (1, .int l1), (2, .int l2), (3, .int l3), (4, .int l4), (5, .int l5)], [], s)) (g2 := (71, [(0, .ref 0), (1, .int l1), (2, .int l2), (3, .int l3), (4, .int l4), (5, .int l5)], [], s)) rfl (fun h19 => ?_) (fun h19 => ?_)
              · refine xTr.ms 2 (g := (113, [(0, .ref 0)], [.int (2 : Int32), .ref 0], s)) rfl ?_
                refine xTr.calli (R' := xR_X9_meets) (as := [.ref 0, .int (2 : Int32)]) (lv := [(0, .ref 0)]) (rest := []) (ok_X9_meets (2 : Int32) s) rfl rfl rfl rfl rfl (fun v20 s20 => ?_)
                exact xTr.ret rfl rfl rfl
              · refine xTr.ms 1 (g := (73, [(0, .ref 0), (1, .int l1), (2, .int l2), (3, .int l3), (4, .int l4), (5, .int l5)], [.int l5], s)) rfl ?_
                refine xTr.br (g1 := (111, [(0, .ref 0), (1, .int l1), (2, .int l2), (3, .int l3), (4, .int l4), (5, .int l5)], [], s)) (g2 := (76, [(0, .ref 0), (1, .int l1), (2, .int l2), (3, .int l3), (4, .int l4), (5, .int l5)], [], s)) rfl (fun h22 => ?_) (fun h22 => ?_)
                · refine xTr.ms 2 (g := (113, [(0, .ref 0)], [.int (2 : Int32), .ref 0], s)) rfl ?_
                  refine xTr.calli (R' := xR_X9_meets) (as := [.ref 0, .int (2 : Int32)]) (lv := [(0, .ref 0)]) (rest := []) (ok_X9_meets (2 : Int32) s) rfl rfl rfl rfl rfl (fun v23 s23 => ?_)
                  exact xTr.ret rfl rfl rfl
                · refine xTr.ms 8 (g := (87, [(0, .ref 0), (1, .int l1), (2, .int l2), (3, .int l3), (4, .int l4), (5, .int l5)], [.int l1, .ref 24, .long ((l2).toInt64 + (l5).toInt64)], s)) rfl ?_
                  refine xTr.ck (g := (88, [(0, .ref 0), (1, .int l1), (2, .int l2), (3, .int l3), (4, .int l4), (5, .int l5)], [.int (s.1 24 l1.toNatClampNeg), .long ((l2).toInt64 + (l5).toInt64)], s)) rfl (fun h25 => ?_)
                  refine xTr.ms 2 (g := (90, [(0, .ref 0), (1, .int l1), (2, .int l2), (3, .int l3), (4, .int l4), (5, .int l5)], [.int (lg_cmp ((l2).toInt64 + (l5).toInt64) ((s.1 24 l1.toNatClampNeg)).toInt64)], s)) rfl ?_
                  refine xTr.br (g1 := (111, [(0, .ref 0), (1, .int l1), (2, .int l2), (3, .int l3), (4, .int l4), (5, .int l5)], [], s)) (g2 := (93, [(0, .ref 0), (1, .int l1), (2, .int l2), (3, .int l3), (4, .int l4), (5, .int l5)], [], s)) rfl (fun h26 => ?_) (fun h26 => ?_)
                  · refine xTr.ms 2 (g := (113, [(0, .ref 0)], [.int (2 : Int32), .ref 0], s)) rfl ?_
                    refine xTr.calli (R' := xR_X9_meets) (as := [.ref 0, .int (2 : Int32)]) (lv := [(0, .ref 0)]) (rest := []) (ok_X9_meets (2 : Int32) s) rfl rfl rfl rfl rfl (fun v27 s27 => ?_)
                    exact xTr.ret rfl rfl rfl
                  · refine xTr.ms 8 (g := (105, [(0, .ref 0), (1, .int l1), (2, .int l2), (3, .int l3), (4, .int l4), (5, .int l5)], [.int l3, .ref 24, .long ((l4).toInt64 + (l5).toInt64)], s)) rfl ?_
                    refine xTr.ck (g := (106, [(0, .ref 0), (1, .int l1), (2, .int l2), (3, .int l3), (4, .int l4), (5, .int l5)], [.int (s.1 24 l3.toNatClampNeg), .long ((l4).toInt64 + (l5).toInt64)], s)) rfl (fun h29 => ?_)
                    refine xTr.ms 2 (g := (108, [(0, .ref 0), (1, .int l1), (2, .int l2), (3, .int l3), (4, .int l4), (5, .int l5)], [.int (lg_cmp ((l4).toInt64 + (l5).toInt64) ((s.1 24 l3.toNatClampNeg)).toInt64)], s)) rfl ?_
                    refine xTr.br (g1 := (117, [(0, .ref 0), (1, .int l1), (2, .int l2), (3, .int l3), (4, .int l4), (5, .int l5)], [], s)) (g2 := (111, [(0, .ref 0), (1, .int l1), (2, .int l2), (3, .int l3), (4, .int l4), (5, .int l5)], [], s)) rfl (fun h30 => ?_) (fun h30 => ?_)
                    · refine xTr.ms 2 (g := (120, [(0, .ref 0), (1, .int l1), (2, .int l2), (3, .int l3), (4, .int l4), (5, .int l5), (6, .int (0 : Int32))], [], s)) rfl ?_
                      refine xTr.bind (J := F_X9_copy_L120_ex l1 l2 l3 l4 l5) (xTr.loop (hd := F_X9_copy_L120_hd l1 l2 l3 l4 l5) (fun aa => F_X9_copy_L120_ok l1 l2 l3 l4 l5 aa) 100000 ((0 : Int32), s)) (fun b34 => ?_)
                      refine xTr.ms 2 (g := (157, [(0, .ref 0), (3, .int l3), (4, .int l4), (5, .int l5), (6, .int (0 : Int32))], [], b34)) rfl ?_
                      refine xTr.bind (J := F_X9_copy_L157_ex l3 l4 l5) (xTr.loop (hd := F_X9_copy_L157_hd l3 l4 l5) (fun aa => F_X9_copy_L157_ok l3 l4 l5 aa) 100000 ((0 : Int32), b34)) (fun b38 => ?_)
                      refine xTr.ms 1 (g := (193, [], [.int (1 : Int32)], b38)) rfl ?_
                      exact xTr.ret rfl rfl rfl
                    · refine xTr.ms 2 (g := (113, [(0, .ref 0)], [.int (2 : Int32), .ref 0], s)) rfl ?_
                      refine xTr.calli (R' := xR_X9_meets) (as := [.ref 0, .int (2 : Int32)]) (lv := [(0, .ref 0)]) (rest := []) (ok_X9_meets (2 : Int32) s) rfl rfl rfl rfl rfl (fun v39 s39 => ?_)
                      exact xTr.ret rfl rfl rfl
          · refine xTr.ms 2 (g := (58, [(0, .ref 0)], [.int (4 : Int32), .ref 0], s)) rfl ?_
            refine xTr.calli (R' := xR_X9_meets) (as := [.ref 0, .int (4 : Int32)]) (lv := [(0, .ref 0)]) (rest := []) (ok_X9_meets (4 : Int32) s) rfl rfl rfl rfl rfl (fun v41 s41 => ?_)
            exact xTr.ret rfl rfl rfl
-- X9_write
def F_X9_write_L31 (l1 : Int32) (a : Int32 × xS) : Option ((Int32 × xS) ⊕ (Int32 × xS)) := if l1 < 0 ∨ 4 ≤ l1.toNatClampNeg then none else (if (a.2.1 24 l1.toNatClampNeg) ≤ a.1 then (some (Sum.inr (a.1, a.2))) else (if (10 : Int32) ≤ a.1 then (some (Sum.inr (a.1, a.2))) else (if a.1 < 0 ∨ 10 ≤ a.1.toNatClampNeg then none else ((F_X9_keep l1 a.1 (a.2.1 12 a.1.toNatClampNeg) a.2).bind fun s14 => (some (Sum.inl ((a.1 + (1 : Int32)), s14)))))))
def F_X9_write (l1 : Int32) (s : xS) : Option (Int32 × xS) := (F_X9_isSheet l1 s).bind fun v1 => (if v1 = 0 then (some ((-2 : Int32), s)) else (if l1 < 0 ∨ 4 ≤ l1.toNatClampNeg then none else (if (s.1 22 l1.toNatClampNeg) = 0 then ((F_X9_meets (1 : Int32) s).bind fun q6 => (some (q6.1, q6.2))) else ((F_X9_runsTold s).bind fun s8 => ((xlp (F_X9_write_L31 l1) 100000 ((0 : Int32), s8)).bind (fun b15 => (some (b15.1, b15.2))))))))
def F_X9_write_L31_hd (l1 : Int32) (a : Int32 × xS) : xT := Sum.inl (31, [(0, .ref 0), (1, .int l1), (2, .int a.1)], [], a.2)
def F_X9_write_L31_ex (l1 : Int32) : (Int32 × xS) → xT := (fun (z : Int32 × xS) => Sum.inl (65, [(2, .int z.1)], [], z.2))
set_option maxRecDepth 100000 in
theorem F_X9_write_L31_ok (l1 : Int32) (a : Int32 × xS) : xTr xMs xML xR_X9_write (F_X9_write_L31_hd l1 a) (F_X9_write_L31 l1 a) (xhx (F_X9_write_L31_hd l1) (F_X9_write_L31_ex l1)) := by
  unfold F_X9_write_L31
  refine xTr.ms 4 (g := (37, [(0, .ref 0), (1, .int l1), (2, .int a.1)], [.int l1, .ref 24, .int a.1], a.2)) rfl ?_
  refine xTr.ck (g := (38, [(0, .ref 0), (1, .int l1), (2, .int a.1)], [.int (a.2.1 24 l1.toNatClampNeg), .int a.1], a.2)) rfl (fun h9 => ?_)
  refine xTr.br (g1 := (65, [(0, .ref 0), (1, .int l1), (2, .int a.1)], [], a.2)) (g2 := (41, [(0, .ref 0), (1, .int l1), (2, .int a.1)], [], a.2)) rfl (fun h10 => ?_) (fun h10 => ?_)
  · refine xTr.mk (lv1 := [(2, .int a.1)]) rfl rfl ?_
    exact xTr.leaf rfl
  · refine xTr.ms 2 (g := (44, [(0, .ref 0), (1, .int l1), (2, .int a.1)], [.int (10 : Int32), .int a.1], a.2)) rfl ?_
    refine xTr.br (g1 := (65, [(0, .ref 0), (1, .int l1), (2, .int a.1)], [], a.2)) (g2 := (47, [(0, .ref 0), (1, .int l1), (2, .int a.1)], [], a.2)) rfl (fun h11 => ?_) (fun h11 => ?_)
    · refine xTr.mk (lv1 := [(2, .int a.1)]) rfl rfl ?_
      exact xTr.leaf rfl
    · refine xTr.ms 6 (g := (55, [(0, .ref 0), (1, .int l1), (2, .int a.1)], [.int a.1, .ref 12, .int a.1, .int l1, .ref 0], a.2)) rfl ?_
      refine xTr.ck (g := (56, [(0, .ref 0), (1, .int l1), (2, .int a.1)], [.int (a.2.1 12 a.1.toNatClampNeg), .int a.1, .int l1, .ref 0], a.2)) rfl (fun h12 => ?_)
      refine xTr.callv (R' := xR_X9_keep) (as := [.ref 0, .int l1, .int a.1, .int (a.2.1 12 a.1.toNatClampNeg)]) (lv := [(0, .ref 0), (1, .int l1), (2, .int a.1)]) (rest := []) (ok_X9_keep l1 a.1 (a.2.1 12 a.1.toNatClampNeg) a.2) rfl rfl rfl rfl rfl (fun s14 => ?_)
      refine xTr.ms 2 (g := (31, [(0, .ref 0), (1, .int l1), (2, .int (a.1 + (1 : Int32)))], [], s14)) rfl ?_
      exact xTr.leaf rfl
set_option maxRecDepth 100000 in
theorem ok_X9_write (l1 : Int32) (s : xS) : xTr xMs xML xR_X9_write (Sum.inl (0, [(0, .ref 0), (1, .int l1)], [], s)) (F_X9_write l1 s) (fun (y : Int32 × xS) => Sum.inr (some (.int y.1), y.2)) := by
  unfold F_X9_write
  refine xTr.ms 1 (g := (1, [(0, .ref 0), (1, .int l1)], [.int l1], s)) rfl ?_
  refine xTr.callip (R' := xR_X9_isSheet) (as := [.int l1]) (lv := [(0, .ref 0), (1, .int l1)]) (rest := []) (ok_X9_isSheet l1 s) rfl rfl rfl rfl rfl (fun v1 => ?_)
  refine xTr.br (g1 := (7, [(0, .ref 0), (1, .int l1)], [], s)) (g2 := (10, [(0, .ref 0), (1, .int l1)], [], s)) rfl (fun h2 => ?_) (fun h2 => ?_)
  · refine xTr.ms 1 (g := (9, [], [.int (-2 : Int32)], s)) rfl ?_
    exact xTr.ret rfl rfl rfl
  · refine xTr.ms 3 (g := (15, [(0, .ref 0), (1, .int l1)], [.int l1, .ref 22], s)) rfl ?_
    refine xTr.ck (g := (16, [(0, .ref 0), (1, .int l1)], [.int (s.1 22 l1.toNatClampNeg)], s)) rfl (fun h3 => ?_)
    refine xTr.br (g1 := (19, [(0, .ref 0), (1, .int l1)], [], s)) (g2 := (25, [(0, .ref 0), (1, .int l1)], [], s)) rfl (fun h4 => ?_) (fun h4 => ?_)
    · refine xTr.ms 2 (g := (21, [(0, .ref 0)], [.int (1 : Int32), .ref 0], s)) rfl ?_
      refine xTr.calli (R' := xR_X9_meets) (as := [.ref 0, .int (1 : Int32)]) (lv := [(0, .ref 0)]) (rest := []) (ok_X9_meets (1 : Int32) s) rfl rfl rfl rfl rfl (fun v5 s5 => ?_)
      exact xTr.ret rfl rfl rfl
    · refine xTr.ms 1 (g := (26, [(0, .ref 0), (1, .int l1)], [.ref 0], s)) rfl ?_
      refine xTr.callv (R' := xR_X9_runsTold) (as := [.ref 0]) (lv := [(0, .ref 0), (1, .int l1)]) (rest := []) (ok_X9_runsTold s) rfl rfl rfl rfl rfl (fun s8 => ?_)
      refine xTr.ms 2 (g := (31, [(0, .ref 0), (1, .int l1), (2, .int (0 : Int32))], [], s8)) rfl ?_
      refine xTr.bind (J := F_X9_write_L31_ex l1) (xTr.loop (hd := F_X9_write_L31_hd l1) (fun aa => F_X9_write_L31_ok l1 aa) 100000 ((0 : Int32), s8)) (fun b15 => ?_)
      refine xTr.ms 1 (g := (66, [(2, .int b15.1)], [.int b15.1], b15.2)) rfl ?_
      exact xTr.ret rfl rfl rfl
-- X9_doneMany
def F_X9_doneMany_L4 (s : xS) (a : Int32 × Int32) : Option ((Int32 × Int32) ⊕ (Int32)) := if (s.1 0 5) ≤ a.2 then (some (Sum.inr a.1)) else (if a.2 < 0 ∨ 8 ≤ a.2.toNatClampNeg then none else (if (s.1 11 a.2.toNatClampNeg) = 0 then (some (Sum.inl ((a.1 + (1 : Int32)), (a.2 + (1 : Int32))))) else (some (Sum.inl ((a.1 + (0 : Int32)), (a.2 + (1 : Int32)))))))
def F_X9_doneMany (s : xS) : Option (Int32) := (xlp (F_X9_doneMany_L4 s) 100000 ((0 : Int32), (0 : Int32))).bind (fun b4 => (some b4))
def F_X9_doneMany_L4_hd (s : xS) (a : Int32 × Int32) : xT := Sum.inl (4, [(0, .ref 0), (1, .int a.1), (2, .int a.2)], [], s)
def F_X9_doneMany_L4_ex (s : xS) : (Int32) → xT := (fun (z : Int32) => Sum.inl (35, [(1, .int z)], [], s))
set_option maxRecDepth 100000 in
theorem F_X9_doneMany_L4_ok (s : xS) (a : Int32 × Int32) : xTr xMs xML xR_X9_doneMany (F_X9_doneMany_L4_hd s a) (F_X9_doneMany_L4 s a) (xhx (F_X9_doneMany_L4_hd s) (F_X9_doneMany_L4_ex s)) := by
  unfold F_X9_doneMany_L4
  refine xTr.ms 3 (g := (9, [(0, .ref 0), (1, .int a.1), (2, .int a.2)], [.int (s.1 0 5), .int a.2], s)) rfl ?_
  refine xTr.br (g1 := (35, [(0, .ref 0), (1, .int a.1), (2, .int a.2)], [], s)) (g2 := (12, [(0, .ref 0), (1, .int a.1), (2, .int a.2)], [], s)) rfl (fun h1 => ?_) (fun h1 => ?_)
  · refine xTr.mk (lv1 := [(1, .int a.1)]) rfl rfl ?_
    exact xTr.leaf rfl
  · refine xTr.ms 4 (g := (18, [(0, .ref 0), (1, .int a.1), (2, .int a.2)], [.int a.2, .ref 11, .int a.1], s)) rfl ?_
    refine xTr.ck (g := (19, [(0, .ref 0), (1, .int a.1), (2, .int a.2)], [.int (s.1 11 a.2.toNatClampNeg), .int a.1], s)) rfl (fun h2 => ?_)
    refine xTr.br (g1 := (22, [(0, .ref 0), (1, .int a.1), (2, .int a.2)], [.int a.1], s)) (g2 := (26, [(0, .ref 0), (1, .int a.1), (2, .int a.2)], [.int a.1], s)) rfl (fun h3 => ?_) (fun h3 => ?_)
    · refine xTr.ms 6 (g := (4, [(0, .ref 0), (1, .int (a.1 + (1 : Int32))), (2, .int (a.2 + (1 : Int32)))], [], s)) rfl ?_
      exact xTr.leaf rfl
    · refine xTr.ms 5 (g := (4, [(0, .ref 0), (1, .int (a.1 + (0 : Int32))), (2, .int (a.2 + (1 : Int32)))], [], s)) rfl ?_
      exact xTr.leaf rfl
set_option maxRecDepth 100000 in
theorem ok_X9_doneMany (s : xS) : xTr xMs xML xR_X9_doneMany (Sum.inl (0, [(0, .ref 0)], [], s)) (F_X9_doneMany s) (fun (y : Int32) => Sum.inr (some (.int y), s)) := by
  unfold F_X9_doneMany
  refine xTr.ms 4 (g := (4, [(0, .ref 0), (1, .int (0 : Int32)), (2, .int (0 : Int32))], [], s)) rfl ?_
  refine xTr.bind (J := F_X9_doneMany_L4_ex s) (xTr.loop (hd := F_X9_doneMany_L4_hd s) (fun aa => F_X9_doneMany_L4_ok s aa) 100000 ((0 : Int32), (0 : Int32))) (fun b4 => ?_)
  refine xTr.ms 1 (g := (36, [(1, .int b4)], [.int b4], s)) rfl ?_
  exact xTr.ret rfl rfl rfl
-- X9_sumOf
def F_X9_sumOf (l1 : Int32) (s : xS) : Option (Int32 × xS) := (F_X9_runsTold s).bind fun s2 => (if l1 = 0 then (some ((s2.1 0 3), s2)) else (if l1 = (1 : Int32) then (some ((s2.1 0 5), s2)) else (if l1 = (5 : Int32) then ((F_X9_doneMany s2).bind fun v6 => (some (v6, s2))) else ((F_X9_exiledMany s2).bind fun v7 => (some (v7, s2))))))
set_option maxRecDepth 100000 in
theorem ok_X9_sumOf (l1 : Int32) (s : xS) : xTr xMs xML xR_X9_sumOf (Sum.inl (0, [(0, .ref 0), (1, .int l1)], [], s)) (F_X9_sumOf l1 s) (fun (y : Int32 × xS) => Sum.inr (some (.int y.1), y.2)) := by
  unfold F_X9_sumOf
  refine xTr.ms 1 (g := (1, [(0, .ref 0), (1, .int l1)], [.ref 0], s)) rfl ?_
  refine xTr.callv (R' := xR_X9_runsTold) (as := [.ref 0]) (lv := [(0, .ref 0), (1, .int l1)]) (rest := []) (ok_X9_runsTold s) rfl rfl rfl rfl rfl (fun s2 => ?_)
  refine xTr.ms 1 (g := (5, [(0, .ref 0), (1, .int l1)], [.int l1], s2)) rfl ?_
  refine xTr.br (g1 := (8, [(0, .ref 0), (1, .int l1)], [], s2)) (g2 := (15, [(0, .ref 0), (1, .int l1)], [], s2)) rfl (fun h3 => ?_) (fun h3 => ?_)
  · refine xTr.ms 3 (g := (43, [(0, .ref 0)], [.int (s2.1 0 3)], s2)) rfl ?_
    exact xTr.ret rfl rfl rfl
  · refine xTr.ms 2 (g := (17, [(0, .ref 0), (1, .int l1)], [.int (1 : Int32), .int l1], s2)) rfl ?_
    refine xTr.br (g1 := (20, [(0, .ref 0), (1, .int l1)], [], s2)) (g2 := (27, [(0, .ref 0), (1, .int l1)], [], s2)) rfl (fun h4 => ?_) (fun h4 => ?_)
    · refine xTr.ms 3 (g := (43, [(0, .ref 0)], [.int (s2.1 0 5)], s2)) rfl ?_
      exact xTr.ret rfl rfl rfl
    · refine xTr.ms 2 (g := (29, [(0, .ref 0), (1, .int l1)], [.int (5 : Int32), .int l1], s2)) rfl ?_
      refine xTr.br (g1 := (32, [(0, .ref 0), (1, .int l1)], [], s2)) (g2 := (39, [(0, .ref 0), (1, .int l1)], [], s2)) rfl (fun h5 => ?_) (fun h5 => ?_)
      · refine xTr.ms 1 (g := (33, [(0, .ref 0)], [.ref 0], s2)) rfl ?_
        refine xTr.callip (R' := xR_X9_doneMany) (as := [.ref 0]) (lv := [(0, .ref 0)]) (rest := []) (ok_X9_doneMany s2) rfl rfl rfl rfl rfl (fun v6 => ?_)
        refine xTr.ms 1 (g := (43, [(0, .ref 0)], [.int v6], s2)) rfl ?_
        exact xTr.ret rfl rfl rfl
      · refine xTr.ms 1 (g := (40, [(0, .ref 0)], [.ref 0], s2)) rfl ?_
        refine xTr.callip (R' := xR_X9_exiledMany) (as := [.ref 0]) (lv := [(0, .ref 0)]) (rest := []) (ok_X9_exiledMany s2) rfl rfl rfl rfl rfl (fun v7 => ?_)
        exact xTr.ret rfl rfl rfl
-- X9_count
def F_X9_count (l1 : Int32) (s : xS) : Option (Int32 × xS) := if l1 = (0 : Int32) then ((F_X9_sumOf l1 s).bind fun q3 => (some (q3.1, q3.2))) else (if l1 = (1 : Int32) then ((F_X9_sumOf l1 s).bind fun q6 => (some (q6.1, q6.2))) else (if l1 = (2 : Int32) then (if (l1 - (2 : Int32)) < 0 ∨ 2 ≤ ((l1 - (2 : Int32))).toNatClampNeg then none else (some ((s.1 1 ((l1 - (2 : Int32))).toNatClampNeg), s))) else (if l1 = (3 : Int32) then (if (l1 - (2 : Int32)) < 0 ∨ 2 ≤ ((l1 - (2 : Int32))).toNatClampNeg then none else (some ((s.1 1 ((l1 - (2 : Int32))).toNatClampNeg), s))) else (if l1 = (4 : Int32) then (some ((s.1 0 11), s)) else (if l1 = (5 : Int32) then ((F_X9_sumOf l1 s).bind fun q14 => (some (q14.1, q14.2))) else (if l1 = (6 : Int32) then ((F_X9_sumOf l1 s).bind fun q17 => (some (q17.1, q17.2))) else (if l1 = (7 : Int32) then (some ((s.1 0 25), s)) else (if l1 = (8 : Int32) then (some ((s.1 0 35), s)) else (some ((-2 : Int32), s))))))))))
set_option maxRecDepth 100000 in
theorem ok_X9_count (l1 : Int32) (s : xS) : xTr xMs xML xR_X9_count (Sum.inl (0, [(0, .ref 0), (1, .int l1)], [], s)) (F_X9_count l1 s) (fun (y : Int32 × xS) => Sum.inr (some (.int y.1), y.2)) := by
  unfold F_X9_count
  refine xTr.ms 1 (g := (1, [(0, .ref 0), (1, .int l1)], [.int l1], s)) rfl ?_
  refine xTr.cs (fun h1 => ?_) (fun h1 => ?_)
  · refine xTr.sw (n := (if l1 = (0 : Int32) then 52 else if l1 = (1 : Int32) then 52 else if l1 = (2 : Int32) then 58 else if l1 = (3 : Int32) then 58 else if l1 = (4 : Int32) then 67 else if l1 = (5 : Int32) then 52 else if l1 = (6 : Int32) then 52 else if l1 = (7 : Int32) then 72 else if l1 = (8 : Int32) then 77 else 82)) (m := 52) (lv := [(0, .ref 0), (1, .int l1)]) (st := []) (s := s) rfl (by rw [if_pos h1]) ?_
    refine xTr.ms 2 (g := (54, [(0, .ref 0), (1, .int l1)], [.int l1, .ref 0], s)) rfl ?_
    refine xTr.calli (R' := xR_X9_sumOf) (as := [.ref 0, .int l1]) (lv := [(0, .ref 0), (1, .int l1)]) (rest := []) (ok_X9_sumOf l1 s) rfl rfl rfl rfl rfl (fun v2 s2 => ?_)
    exact xTr.ret rfl rfl rfl
  refine xTr.cs (fun h4 => ?_) (fun h4 => ?_)
  · refine xTr.sw (n := (if l1 = (0 : Int32) then 52 else if l1 = (1 : Int32) then 52 else if l1 = (2 : Int32) then 58 else if l1 = (3 : Int32) then 58 else if l1 = (4 : Int32) then 67 else if l1 = (5 : Int32) then 52 else if l1 = (6 : Int32) then 52 else if l1 = (7 : Int32) then 72 else if l1 = (8 : Int32) then 77 else 82)) (m := 52) (lv := [(0, .ref 0), (1, .int l1)]) (st := []) (s := s) rfl (by rw [if_neg h1, if_pos h4]) ?_
    refine xTr.ms 2 (g := (54, [(0, .ref 0), (1, .int l1)], [.int l1, .ref 0], s)) rfl ?_
    refine xTr.calli (R' := xR_X9_sumOf) (as := [.ref 0, .int l1]) (lv := [(0, .ref 0), (1, .int l1)]) (rest := []) (ok_X9_sumOf l1 s) rfl rfl rfl rfl rfl (fun v5 s5 => ?_)
    exact xTr.ret rfl rfl rfl
  refine xTr.cs (fun h7 => ?_) (fun h7 => ?_)
  · refine xTr.sw (n := (if l1 = (0 : Int32) then 52 else if l1 = (1 : Int32) then 52 else if l1 = (2 : Int32) then 58 else if l1 = (3 : Int32) then 58 else if l1 = (4 : Int32) then 67 else if l1 = (5 : Int32) then 52 else if l1 = (6 : Int32) then 52 else if l1 = (7 : Int32) then 72 else if l1 = (8 : Int32) then 77 else 82)) (m := 58) (lv := [(0, .ref 0), (1, .int l1)]) (st := []) (s := s) rfl (by rw [if_neg h1, if_neg h4, if_pos h7]) ?_
    refine xTr.ms 5 (g := (65, [(0, .ref 0), (1, .int l1)], [.int (l1 - (2 : Int32)), .ref 1], s)) rfl ?_
    refine xTr.ck (g := (66, [(0, .ref 0), (1, .int l1)], [.int (s.1 1 ((l1 - (2 : Int32))).toNatClampNeg)], s)) rfl (fun h8 => ?_)
    exact xTr.ret rfl rfl rfl
  refine xTr.cs (fun h9 => ?_) (fun h9 => ?_)
  · refine xTr.sw (n := (if l1 = (0 : Int32) then 52 else if l1 = (1 : Int32) then 52 else if l1 = (2 : Int32) then 58 else if l1 = (3 : Int32) then 58 else if l1 = (4 : Int32) then 67 else if l1 = (5 : Int32) then 52 else if l1 = (6 : Int32) then 52 else if l1 = (7 : Int32) then 72 else if l1 = (8 : Int32) then 77 else 82)) (m := 58) (lv := [(0, .ref 0), (1, .int l1)]) (st := []) (s := s) rfl (by rw [if_neg h1, if_neg h4, if_neg h7, if_pos h9]) ?_
    refine xTr.ms 5 (g := (65, [(0, .ref 0), (1, .int l1)], [.int (l1 - (2 : Int32)), .ref 1], s)) rfl ?_
    refine xTr.ck (g := (66, [(0, .ref 0), (1, .int l1)], [.int (s.1 1 ((l1 - (2 : Int32))).toNatClampNeg)], s)) rfl (fun h10 => ?_)
    exact xTr.ret rfl rfl rfl
  refine xTr.cs (fun h11 => ?_) (fun h11 => ?_)
  · refine xTr.sw (n := (if l1 = (0 : Int32) then 52 else if l1 = (1 : Int32) then 52 else if l1 = (2 : Int32) then 58 else if l1 = (3 : Int32) then 58 else if l1 = (4 : Int32) then 67 else if l1 = (5 : Int32) then 52 else if l1 = (6 : Int32) then 52 else if l1 = (7 : Int32) then 72 else if l1 = (8 : Int32) then 77 else 82)) (m := 67) (lv := [(0, .ref 0), (1, .int l1)]) (st := []) (s := s) rfl (by rw [if_neg h1, if_neg h4, if_neg h7, if_neg h9, if_pos h11]) ?_
    refine xTr.ms 2 (g := (71, [(0, .ref 0)], [.int (s.1 0 11)], s)) rfl ?_
    exact xTr.ret rfl rfl rfl
  refine xTr.cs (fun h12 => ?_) (fun h12 => ?_)
  · refine xTr.sw (n := (if l1 = (0 : Int32) then 52 else if l1 = (1 : Int32) then 52 else if l1 = (2 : Int32) then 58 else if l1 = (3 : Int32) then 58 else if l1 = (4 : Int32) then 67 else if l1 = (5 : Int32) then 52 else if l1 = (6 : Int32) then 52 else if l1 = (7 : Int32) then 72 else if l1 = (8 : Int32) then 77 else 82)) (m := 52) (lv := [(0, .ref 0), (1, .int l1)]) (st := []) (s := s) rfl (by rw [if_neg h1, if_neg h4, if_neg h7, if_neg h9, if_neg h11, if_pos h12]) ?_
    refine xTr.ms 2 (g := (54, [(0, .ref 0), (1, .int l1)], [.int l1, .ref 0], s)) rfl ?_
    refine xTr.calli (R' := xR_X9_sumOf) (as := [.ref 0, .int l1]) (lv := [(0, .ref 0), (1, .int l1)]) (rest := []) (ok_X9_sumOf l1 s) rfl rfl rfl rfl rfl (fun v13 s13 => ?_)
    exact xTr.ret rfl rfl rfl
  refine xTr.cs (fun h15 => ?_) (fun h15 => ?_)
  · refine xTr.sw (n := (if l1 = (0 : Int32) then 52 else if l1 = (1 : Int32) then 52 else if l1 = (2 : Int32) then 58 else if l1 = (3 : Int32) then 58 else if l1 = (4 : Int32) then 67 else if l1 = (5 : Int32) then 52 else if l1 = (6 : Int32) then 52 else if l1 = (7 : Int32) then 72 else if l1 = (8 : Int32) then 77 else 82)) (m := 52) (lv := [(0, .ref 0), (1, .int l1)]) (st := []) (s := s) rfl (by rw [if_neg h1, if_neg h4, if_neg h7, if_neg h9, if_neg h11, if_neg h12, if_pos h15]) ?_
    refine xTr.ms 2 (g := (54, [(0, .ref 0), (1, .int l1)], [.int l1, .ref 0], s)) rfl ?_
    refine xTr.calli (R' := xR_X9_sumOf) (as := [.ref 0, .int l1]) (lv := [(0, .ref 0), (1, .int l1)]) (rest := []) (ok_X9_sumOf l1 s) rfl rfl rfl rfl rfl (fun v16 s16 => ?_)
    exact xTr.ret rfl rfl rfl
  refine xTr.cs (fun h18 => ?_) (fun h18 => ?_)
  · refine xTr.sw (n := (if l1 = (0 : Int32) then 52 else if l1 = (1 : Int32) then 52 else if l1 = (2 : Int32) then 58 else if l1 = (3 : Int32) then 58 else if l1 = (4 : Int32) then 67 else if l1 = (5 : Int32) then 52 else if l1 = (6 : Int32) then 52 else if l1 = (7 : Int32) then 72 else if l1 = (8 : Int32) then 77 else 82)) (m := 72) (lv := [(0, .ref 0), (1, .int l1)]) (st := []) (s := s) rfl (by rw [if_neg h1, if_neg h4, if_neg h7, if_neg h9, if_neg h11, if_neg h12, if_neg h15, if_pos h18]) ?_
    refine xTr.ms 2 (g := (76, [(0, .ref 0)], [.int (s.1 0 25)], s)) rfl ?_
    exact xTr.ret rfl rfl rfl
  refine xTr.cs (fun h19 => ?_) (fun h19 => ?_)
  · refine xTr.sw (n := (if l1 = (0 : Int32) then 52 else if l1 = (1 : Int32) then 52 else if l1 = (2 : Int32) then 58 else if l1 = (3 : Int32) then 58 else if l1 = (4 : Int32) then 67 else if l1 = (5 : Int32) then 52 else if l1 = (6 : Int32) then 52 else if l1 = (7 : Int32) then 72 else if l1 = (8 : Int32) then 77 else 82)) (m := 77) (lv := [(0, .ref 0), (1, .int l1)]) (st := []) (s := s) rfl (by rw [if_neg h1, if_neg h4, if_neg h7, if_neg h9, if_neg h11, if_neg h12, if_neg h15, if_neg h18, if_pos h19]) ?_
    refine xTr.ms 2 (g := (81, [(0, .ref 0)], [.int (s.1 0 35)], s)) rfl ?_
    exact xTr.ret rfl rfl rfl
  refine xTr.sw (n := (if l1 = (0 : Int32) then 52 else if l1 = (1 : Int32) then 52 else if l1 = (2 : Int32) then 58 else if l1 = (3 : Int32) then 58 else if l1 = (4 : Int32) then 67 else if l1 = (5 : Int32) then 52 else if l1 = (6 : Int32) then 52 else if l1 = (7 : Int32) then 72 else if l1 = (8 : Int32) then 77 else 82)) (m := 82) (lv := [(0, .ref 0), (1, .int l1)]) (st := []) (s := s) rfl (by rw [if_neg h1, if_neg h4, if_neg h7, if_neg h9, if_neg h11, if_neg h12, if_neg h15, if_neg h18, if_neg h19]) ?_
  refine xTr.ms 1 (g := (84, [], [.int (-2 : Int32)], s)) rfl ?_
  exact xTr.ret rfl rfl rfl
