-- X2_sumIn
def F_X2_sumIn_L4 (l1 : Int32) (s : xS) (a : Int32 × Int32) : Option ((Int32 × Int32) ⊕ (Int32)) := if (s.1 13 3) ≤ a.2 then (some (Sum.inr a.1)) else (if a.2 < 0 ∨ 8 ≤ a.2.toNatClampNeg then none else (if (s.1 14 a.2.toNatClampNeg) = l1 then (if a.2 < 0 ∨ 8 ≤ a.2.toNatClampNeg then none else (some (Sum.inl ((a.1 + (s.1 15 a.2.toNatClampNeg)), (a.2 + (1 : Int32)))))) else (some (Sum.inl (a.1, (a.2 + (1 : Int32)))))))
def F_X2_sumIn (l1 : Int32) (s : xS) : Option (Int32) := (xlp (F_X2_sumIn_L4 l1 s) 100000 ((0 : Int32), (0 : Int32))).bind (fun b5 => (some b5))
def F_X2_sumIn_L4_hd (l1 : Int32) (s : xS) (a : Int32 × Int32) : xT := Sum.inl (4, [(0, .ref 13), (1, .int l1), (2, .int a.1), (3, .int a.2)], [], s)
def F_X2_sumIn_L4_ex (l1 : Int32) (s : xS) : (Int32) → xT := (fun (z : Int32) => Sum.inl (37, [(2, .int z)], [], s))
set_option maxRecDepth 100000 in
theorem F_X2_sumIn_L4_ok (l1 : Int32) (s : xS) (a : Int32 × Int32) : xTr xMs xFL xR_X2_sumIn (F_X2_sumIn_L4_hd l1 s a) (F_X2_sumIn_L4 l1 s a) (xhx (F_X2_sumIn_L4_hd l1 s) (F_X2_sumIn_L4_ex l1 s)) := by
  unfold F_X2_sumIn_L4
  refine xTr.ms 3 (g := (9, [(0, .ref 13), (1, .int l1), (2, .int a.1), (3, .int a.2)], [.int (s.1 13 3), .int a.2], s)) rfl ?_
  refine xTr.br (g1 := (37, [(0, .ref 13), (1, .int l1), (2, .int a.1), (3, .int a.2)], [], s)) (g2 := (12, [(0, .ref 13), (1, .int l1), (2, .int a.1), (3, .int a.2)], [], s)) rfl (fun h1 => ?_) (fun h1 => ?_)
  · refine xTr.mk (lv1 := [(2, .int a.1)]) rfl rfl ?_
    exact xTr.leaf rfl
  · refine xTr.ms 3 (g := (17, [(0, .ref 13), (1, .int l1), (2, .int a.1), (3, .int a.2)], [.int a.2, .ref 14], s)) rfl ?_
    refine xTr.ck (g := (18, [(0, .ref 13), (1, .int l1), (2, .int a.1), (3, .int a.2)], [.int (s.1 14 a.2.toNatClampNeg)], s)) rfl (fun h2 => ?_)
    refine xTr.ms 1 (g := (19, [(0, .ref 13), (1, .int l1), (2, .int a.1), (3, .int a.2)], [.int l1, .int (s.1 14 a.2.toNatClampNeg)], s)) rfl ?_
    refine xTr.br (g1 := (22, [(0, .ref 13), (1, .int l1), (2, .int a.1), (3, .int a.2)], [], s)) (g2 := (31, [(0, .ref 13), (1, .int l1), (2, .int a.1), (3, .int a.2)], [], s)) rfl (fun h3 => ?_) (fun h3 => ?_)
    · refine xTr.ms 4 (g := (28, [(0, .ref 13), (1, .int l1), (2, .int a.1), (3, .int a.2)], [.int a.2, .ref 15, .int a.1], s)) rfl ?_
      refine xTr.ck (g := (29, [(0, .ref 13), (1, .int l1), (2, .int a.1), (3, .int a.2)], [.int (s.1 15 a.2.toNatClampNeg), .int a.1], s)) rfl (fun h4 => ?_)
      refine xTr.ms 4 (g := (4, [(0, .ref 13), (1, .int l1), (2, .int (a.1 + (s.1 15 a.2.toNatClampNeg))), (3, .int (a.2 + (1 : Int32)))], [], s)) rfl ?_
      exact xTr.leaf rfl
    · refine xTr.ms 2 (g := (4, [(0, .ref 13), (1, .int l1), (2, .int a.1), (3, .int (a.2 + (1 : Int32)))], [], s)) rfl ?_
      exact xTr.leaf rfl
set_option maxRecDepth 100000 in
theorem ok_X2_sumIn (l1 : Int32) (s : xS) : xTr xMs xFL xR_X2_sumIn (Sum.inl (0, [(0, .ref 13), (1, .int l1)], [], s)) (F_X2_sumIn l1 s) (fun (y : Int32) => Sum.inr (some (.int y), s)) := by
  unfold F_X2_sumIn
  refine xTr.ms 4 (g := (4, [(0, .ref 13), (1, .int l1), (2, .int (0 : Int32)), (3, .int (0 : Int32))], [], s)) rfl ?_
  refine xTr.bind (J := F_X2_sumIn_L4_ex l1 s) (xTr.loop (hd := F_X2_sumIn_L4_hd l1 s) (fun aa => F_X2_sumIn_L4_ok l1 s aa) 100000 ((0 : Int32), (0 : Int32))) (fun b5 => ?_)
  refine xTr.ms 1 (g := (38, [(2, .int b5)], [.int b5], s)) rfl ?_
  exact xTr.ret rfl rfl rfl
-- X3_exileBy
def F_X3_exileBy_L3_J48 (p0 : Nat) (p1 : Nat) (l2 : Int32) (l3 : Int32) (j4 : Int32) (t0 : Int32) (js : xS) : Option ((Int32 × xS) ⊕ (xS)) := if t0 = 0 then (some (Sum.inl ((j4 + (1 : Int32)), js))) else (if j4 < 0 ∨ 8 ≤ j4.toNatClampNeg then none else (if (js.1 (p0 + 3) j4.toNatClampNeg) ≤ (js.1 12 2) then (some (Sum.inl ((j4 + (1 : Int32)), js))) else (if j4 < 0 ∨ 8 ≤ j4.toNatClampNeg then none else (some (Sum.inl ((j4 + (1 : Int32)), (xul js p0 6 ((js.2 p0 6) ||| (xlshl (1 : Int64) (js.1 (p1 + 1) j4.toNatClampNeg))))))))))
def F_X3_exileBy_L3_J47 (p0 : Nat) (p1 : Nat) (l2 : Int32) (l3 : Int32) (j4 : Int32) (js : xS) : Option ((Int32 × xS) ⊕ (xS)) := F_X3_exileBy_L3_J48 p0 p1 l2 l3 j4 (0 : Int32) js
def F_X3_exileBy_L3 (p0 : Nat) (p1 : Nat) (l2 : Int32) (l3 : Int32) (a : Int32 × xS) : Option ((Int32 × xS) ⊕ (xS)) := if (a.2.1 p1 3) ≤ a.1 then (some (Sum.inr a.2)) else (if a.1 < 0 ∨ 8 ≤ a.1.toNatClampNeg then none else (if (a.2.1 (p1 + 3) a.1.toNatClampNeg) = l3 then (if ((xshr l2 a.1) &&& (1 : Int32)) = (1 : Int32) then (if a.1 < 0 ∨ 8 ≤ a.1.toNatClampNeg then none else (if (a.2.1 (p0 + 4) a.1.toNatClampNeg) = 0 then (F_X3_exileBy_L3_J48 p0 p1 l2 l3 a.1 (1 : Int32) a.2) else (F_X3_exileBy_L3_J47 p0 p1 l2 l3 a.1 a.2))) else (F_X3_exileBy_L3_J47 p0 p1 l2 l3 a.1 a.2)) else (F_X3_exileBy_L3_J47 p0 p1 l2 l3 a.1 a.2)))
def F_X3_exileBy (p0 : Nat) (p1 : Nat) (l2 : Int32) (l3 : Int32) (s : xS) : Option (xS) := (xlp (F_X3_exileBy_L3 p0 p1 l2 l3) 100000 ((0 : Int32), s)).bind (fun b11 => (some b11))
def F_X3_exileBy_L3_hd_22_8 (l2 : Int32) (l3 : Int32) (a : Int32 × xS) : xT := Sum.inl (3, [(0, .ref 22), (1, .ref 8), (2, .int l2), (3, .int l3), (4, .int a.1)], [], a.2)
def F_X3_exileBy_L3_ex_22_8 (l2 : Int32) (l3 : Int32) : (xS) → xT := (fun (z : xS) => Sum.inl (96, [], [], z))
set_option maxRecDepth 100000 in
theorem F_X3_exileBy_L3_J48_ok_22_8 (l2 : Int32) (l3 : Int32) (j4 : Int32) (t0 : Int32) (js : xS) : xTr xMs xFL xR_X3_exileBy (Sum.inl (48, [(0, .ref 22), (1, .ref 8), (2, .int l2), (3, .int l3), (4, .int j4)], [.int t0], js)) (F_X3_exileBy_L3_J48 22 8 l2 l3 j4 t0 js) (xhx (F_X3_exileBy_L3_hd_22_8 l2 l3) (F_X3_exileBy_L3_ex_22_8 l2 l3)) := by
  unfold F_X3_exileBy_L3_J48
  refine xTr.ms 2 (g := (52, [(0, .ref 22), (1, .ref 8), (2, .int l2), (3, .int l3), (4, .int j4), (5, .int t0)], [.int t0], js)) rfl ?_
  refine xTr.br (g1 := (90, [(0, .ref 22), (1, .ref 8), (2, .int l2), (3, .int l3), (4, .int j4), (5, .int t0)], [], js)) (g2 := (55, [(0, .ref 22), (1, .ref 8), (2, .int l2), (3, .int l3), (4, .int j4), (5, .int t0)], [], js)) rfl (fun h7 => ?_) (fun h7 => ?_)
  · refine xTr.ms 2 (g := (3, [(0, .ref 22), (1, .ref 8), (2, .int l2), (3, .int l3), (4, .int (j4 + (1 : Int32)))], [], js)) rfl ?_
    exact xTr.leaf rfl
  · refine xTr.ms 3 (g := (61, [(0, .ref 22), (1, .ref 8), (2, .int l2), (3, .int l3), (4, .int j4)], [.int j4, .ref 25], js)) rfl ?_
    refine xTr.ck (g := (62, [(0, .ref 22), (1, .ref 8), (2, .int l2), (3, .int l3), (4, .int j4)], [.int (js.1 25 j4.toNatClampNeg)], js)) rfl (fun h8 => ?_)
    refine xTr.ms 3 (g := (69, [(0, .ref 22), (1, .ref 8), (2, .int l2), (3, .int l3), (4, .int j4)], [.int (js.1 12 2), .int (js.1 25 j4.toNatClampNeg)], js)) rfl ?_
    refine xTr.br (g1 := (90, [(0, .ref 22), (1, .ref 8), (2, .int l2), (3, .int l3), (4, .int j4)], [], js)) (g2 := (72, [(0, .ref 22), (1, .ref 8), (2, .int l2), (3, .int l3), (4, .int j4)], [], js)) rfl (fun h9 => ?_) (fun h9 => ?_)
    · refine xTr.ms 2 (g := (3, [(0, .ref 22), (1, .ref 8), (2, .int l2), (3, .int l3), (4, .int (j4 + (1 : Int32)))], [], js)) rfl ?_
      exact xTr.leaf rfl
    · refine xTr.ms 7 (g := (84, [(0, .ref 22), (1, .ref 8), (2, .int l2), (3, .int l3), (4, .int j4)], [.int j4, .ref 9, .long (1 : Int64), .long (js.2 22 6), .ref 22], js)) rfl ?_
      refine xTr.ck (g := (85, [(0, .ref 22), (1, .ref 8), (2, .int l2), (3, .int l3), (4, .int j4)], [.int (js.1 9 j4.toNatClampNeg), .long (1 : Int64), .long (js.2 22 6), .ref 22], js)) rfl (fun h10 => ?_)
      refine xTr.ms 5 (g := (3, [(0, .ref 22), (1, .ref 8), (2, .int l2), (3, .int l3), (4, .int (j4 + (1 : Int32)))], [], (xul js 22 6 ((js.2 22 6) ||| (xlshl (1 : Int64) (js.1 9 j4.toNatClampNeg)))))) rfl ?_
      exact xTr.leaf rfl
set_option maxRecDepth 100000 in
theorem F_X3_exileBy_L3_J47_ok_22_8 (l2 : Int32) (l3 : Int32) (j4 : Int32) (js : xS) : xTr xMs xFL xR_X3_exileBy (Sum.inl (47, [(0, .ref 22), (1, .ref 8), (2, .int l2), (3, .int l3), (4, .int j4)], [], js)) (F_X3_exileBy_L3_J47 22 8 l2 l3 j4 js) (xhx (F_X3_exileBy_L3_hd_22_8 l2 l3) (F_X3_exileBy_L3_ex_22_8 l2 l3)) := by
  unfold F_X3_exileBy_L3_J47
  refine xTr.ms 1 (g := (48, [(0, .ref 22), (1, .ref 8), (2, .int l2), (3, .int l3), (4, .int j4)], [.int (0 : Int32)], js)) rfl ?_
  exact F_X3_exileBy_L3_J48_ok_22_8 l2 l3 j4 (0 : Int32) js
set_option maxRecDepth 100000 in
theorem F_X3_exileBy_L3_ok_22_8 (l2 : Int32) (l3 : Int32) (a : Int32 × xS) : xTr xMs xFL xR_X3_exileBy (F_X3_exileBy_L3_hd_22_8 l2 l3 a) (F_X3_exileBy_L3 22 8 l2 l3 a) (xhx (F_X3_exileBy_L3_hd_22_8 l2 l3) (F_X3_exileBy_L3_ex_22_8 l2 l3)) := by
  unfold F_X3_exileBy_L3
  refine xTr.ms 3 (g := (9, [(0, .ref 22), (1, .ref 8), (2, .int l2), (3, .int l3), (4, .int a.1)], [.int (a.2.1 8 3), .int a.1], a.2)) rfl ?_
  refine xTr.br (g1 := (96, [(0, .ref 22), (1, .ref 8), (2, .int l2), (3, .int l3), (4, .int a.1)], [], a.2)) (g2 := (12, [(0, .ref 22), (1, .ref 8), (2, .int l2), (3, .int l3), (4, .int a.1)], [], a.2)) rfl (fun h1 => ?_) (fun h1 => ?_)
  · refine xTr.mk (lv1 := []) rfl rfl ?_
    exact xTr.leaf rfl
  · refine xTr.ms 3 (g := (18, [(0, .ref 22), (1, .ref 8), (2, .int l2), (3, .int l3), (4, .int a.1)], [.int a.1, .ref 11], a.2)) rfl ?_
    refine xTr.ck (g := (19, [(0, .ref 22), (1, .ref 8), (2, .int l2), (3, .int l3), (4, .int a.1)], [.int (a.2.1 11 a.1.toNatClampNeg)], a.2)) rfl (fun h2 => ?_)
    refine xTr.ms 1 (g := (20, [(0, .ref 22), (1, .ref 8), (2, .int l2), (3, .int l3), (4, .int a.1)], [.int l3, .int (a.2.1 11 a.1.toNatClampNeg)], a.2)) rfl ?_
    refine xTr.br (g1 := (23, [(0, .ref 22), (1, .ref 8), (2, .int l2), (3, .int l3), (4, .int a.1)], [], a.2)) (g2 := (47, [(0, .ref 22), (1, .ref 8), (2, .int l2), (3, .int l3), (4, .int a.1)], [], a.2)) rfl (fun h3 => ?_) (fun h3 => ?_)
    · refine xTr.ms 6 (g := (30, [(0, .ref 22), (1, .ref 8), (2, .int l2), (3, .int l3), (4, .int a.1)], [.int (1 : Int32), .int ((xshr l2 a.1) &&& (1 : Int32))], a.2)) rfl ?_
      refine xTr.br (g1 := (33, [(0, .ref 22), (1, .ref 8), (2, .int l2), (3, .int l3), (4, .int a.1)], [], a.2)) (g2 := (47, [(0, .ref 22), (1, .ref 8), (2, .int l2), (3, .int l3), (4, .int a.1)], [], a.2)) rfl (fun h4 => ?_) (fun h4 => ?_)
      · refine xTr.ms 3 (g := (39, [(0, .ref 22), (1, .ref 8), (2, .int l2), (3, .int l3), (4, .int a.1)], [.int a.1, .ref 26], a.2)) rfl ?_
        refine xTr.ck (g := (40, [(0, .ref 22), (1, .ref 8), (2, .int l2), (3, .int l3), (4, .int a.1)], [.int (a.2.1 26 a.1.toNatClampNeg)], a.2)) rfl (fun h5 => ?_)
        refine xTr.br (g1 := (43, [(0, .ref 22), (1, .ref 8), (2, .int l2), (3, .int l3), (4, .int a.1)], [], a.2)) (g2 := (47, [(0, .ref 22), (1, .ref 8), (2, .int l2), (3, .int l3), (4, .int a.1)], [], a.2)) rfl (fun h6 => ?_) (fun h6 => ?_)
        · refine xTr.ms 2 (g := (48, [(0, .ref 22), (1, .ref 8), (2, .int l2), (3, .int l3), (4, .int a.1)], [.int (1 : Int32)], a.2)) rfl ?_
          exact F_X3_exileBy_L3_J48_ok_22_8 l2 l3 a.1 (1 : Int32) a.2
        · exact F_X3_exileBy_L3_J47_ok_22_8 l2 l3 a.1 a.2
      · exact F_X3_exileBy_L3_J47_ok_22_8 l2 l3 a.1 a.2
    · exact F_X3_exileBy_L3_J47_ok_22_8 l2 l3 a.1 a.2
set_option maxRecDepth 100000 in
theorem ok_X3_exileBy_22_8 (l2 : Int32) (l3 : Int32) (s : xS) : xTr xMs xFL xR_X3_exileBy (Sum.inl (0, [(0, .ref 22), (1, .ref 8), (2, .int l2), (3, .int l3)], [], s)) (F_X3_exileBy 22 8 l2 l3 s) (fun (y : xS) => Sum.inr (none, y)) := by
  unfold F_X3_exileBy
  refine xTr.ms 2 (g := (3, [(0, .ref 22), (1, .ref 8), (2, .int l2), (3, .int l3), (4, .int (0 : Int32))], [], s)) rfl ?_
  refine xTr.bind (J := F_X3_exileBy_L3_ex_22_8 l2 l3) (xTr.loop (hd := F_X3_exileBy_L3_hd_22_8 l2 l3) (fun aa => F_X3_exileBy_L3_ok_22_8 l2 l3 aa) 100000 ((0 : Int32), s)) (fun b11 => ?_)
  exact xTr.ret rfl rfl rfl
def F_X3_exileBy_L3_hd_34_27 (l2 : Int32) (l3 : Int32) (a : Int32 × xS) : xT := Sum.inl (3, [(0, .ref 34), (1, .ref 27), (2, .int l2), (3, .int l3), (4, .int a.1)], [], a.2)
def F_X3_exileBy_L3_ex_34_27 (l2 : Int32) (l3 : Int32) : (xS) → xT := (fun (z : xS) => Sum.inl (96, [], [], z))
set_option maxRecDepth 100000 in
theorem F_X3_exileBy_L3_J48_ok_34_27 (l2 : Int32) (l3 : Int32) (j4 : Int32) (t0 : Int32) (js : xS) : xTr xMs xFL xR_X3_exileBy (Sum.inl (48, [(0, .ref 34), (1, .ref 27), (2, .int l2), (3, .int l3), (4, .int j4)], [.int t0], js)) (F_X3_exileBy_L3_J48 34 27 l2 l3 j4 t0 js) (xhx (F_X3_exileBy_L3_hd_34_27 l2 l3) (F_X3_exileBy_L3_ex_34_27 l2 l3)) := by
  unfold F_X3_exileBy_L3_J48
  refine xTr.ms 2 (g := (52, [(0, .ref 34), (1, .ref 27), (2, .int l2), (3, .int l3), (4, .int j4), (5, .int t0)], [.int t0], js)) rfl ?_
  refine xTr.br (g1 := (90, [(0, .ref 34), (1, .ref 27), (2, .int l2), (3, .int l3), (4, .int j4), (5, .int t0)], [], js)) (g2 := (55, [(0, .ref 34), (1, .ref 27), (2, .int l2), (3, .int l3), (4, .int j4), (5, .int t0)], [], js)) rfl (fun h7 => ?_) (fun h7 => ?_)
  · refine xTr.ms 2 (g := (3, [(0, .ref 34), (1, .ref 27), (2, .int l2), (3, .int l3), (4, .int (j4 + (1 : Int32)))], [], js)) rfl ?_
    exact xTr.leaf rfl
  · refine xTr.ms 3 (g := (61, [(0, .ref 34), (1, .ref 27), (2, .int l2), (3, .int l3), (4, .int j4)], [.int j4, .ref 37], js)) rfl ?_
    refine xTr.ck (g := (62, [(0, .ref 34), (1, .ref 27), (2, .int l2), (3, .int l3), (4, .int j4)], [.int (js.1 37 j4.toNatClampNeg)], js)) rfl (fun h8 => ?_)
    refine xTr.ms 3 (g := (69, [(0, .ref 34), (1, .ref 27), (2, .int l2), (3, .int l3), (4, .int j4)], [.int (js.1 12 2), .int (js.1 37 j4.toNatClampNeg)], js)) rfl ?_
    refine xTr.br (g1 := (90, [(0, .ref 34), (1, .ref 27), (2, .int l2), (3, .int l3), (4, .int j4)], [], js)) (g2 := (72, [(0, .ref 34), (1, .ref 27), (2, .int l2), (3, .int l3), (4, .int j4)], [], js)) rfl (fun h9 => ?_) (fun h9 => ?_)
    · refine xTr.ms 2 (g := (3, [(0, .ref 34), (1, .ref 27), (2, .int l2), (3, .int l3), (4, .int (j4 + (1 : Int32)))], [], js)) rfl ?_
      exact xTr.leaf rfl
    · refine xTr.ms 7 (g := (84, [(0, .ref 34), (1, .ref 27), (2, .int l2), (3, .int l3), (4, .int j4)], [.int j4, .ref 28, .long (1 : Int64), .long (js.2 34 6), .ref 34], js)) rfl ?_
      refine xTr.ck (g := (85, [(0, .ref 34), (1, .ref 27), (2, .int l2), (3, .int l3), (4, .int j4)], [.int (js.1 28 j4.toNatClampNeg), .long (1 : Int64), .long (js.2 34 6), .ref 34], js)) rfl (fun h10 => ?_)
      refine xTr.ms 5 (g := (3, [(0, .ref 34), (1, .ref 27), (2, .int l2), (3, .int l3), (4, .int (j4 + (1 : Int32)))], [], (xul js 34 6 ((js.2 34 6) ||| (xlshl (1 : Int64) (js.1 28 j4.toNatClampNeg)))))) rfl ?_
      exact xTr.leaf rfl
set_option maxRecDepth 100000 in
theorem F_X3_exileBy_L3_J47_ok_34_27 (l2 : Int32) (l3 : Int32) (j4 : Int32) (js : xS) : xTr xMs xFL xR_X3_exileBy (Sum.inl (47, [(0, .ref 34), (1, .ref 27), (2, .int l2), (3, .int l3), (4, .int j4)], [], js)) (F_X3_exileBy_L3_J47 34 27 l2 l3 j4 js) (xhx (F_X3_exileBy_L3_hd_34_27 l2 l3) (F_X3_exileBy_L3_ex_34_27 l2 l3)) := by
  unfold F_X3_exileBy_L3_J47
  refine xTr.ms 1 (g := (48, [(0, .ref 34), (1, .ref 27), (2, .int l2), (3, .int l3), (4, .int j4)], [.int (0 : Int32)], js)) rfl ?_
  exact F_X3_exileBy_L3_J48_ok_34_27 l2 l3 j4 (0 : Int32) js
set_option maxRecDepth 100000 in
theorem F_X3_exileBy_L3_ok_34_27 (l2 : Int32) (l3 : Int32) (a : Int32 × xS) : xTr xMs xFL xR_X3_exileBy (F_X3_exileBy_L3_hd_34_27 l2 l3 a) (F_X3_exileBy_L3 34 27 l2 l3 a) (xhx (F_X3_exileBy_L3_hd_34_27 l2 l3) (F_X3_exileBy_L3_ex_34_27 l2 l3)) := by
  unfold F_X3_exileBy_L3
  refine xTr.ms 3 (g := (9, [(0, .ref 34), (1, .ref 27), (2, .int l2), (3, .int l3), (4, .int a.1)], [.int (a.2.1 27 3), .int a.1], a.2)) rfl ?_
  refine xTr.br (g1 := (96, [(0, .ref 34), (1, .ref 27), (2, .int l2), (3, .int l3), (4, .int a.1)], [], a.2)) (g2 := (12, [(0, .ref 34), (1, .ref 27), (2, .int l2), (3, .int l3), (4, .int a.1)], [], a.2)) rfl (fun h1 => ?_) (fun h1 => ?_)
  · refine xTr.mk (lv1 := []) rfl rfl ?_
    exact xTr.leaf rfl
  · refine xTr.ms 3 (g := (18, [(0, .ref 34), (1, .ref 27), (2, .int l2), (3, .int l3), (4, .int a.1)], [.int a.1, .ref 30], a.2)) rfl ?_
    refine xTr.ck (g := (19, [(0, .ref 34), (1, .ref 27), (2, .int l2), (3, .int l3), (4, .int a.1)], [.int (a.2.1 30 a.1.toNatClampNeg)], a.2)) rfl (fun h2 => ?_)
    refine xTr.ms 1 (g := (20, [(0, .ref 34), (1, .ref 27), (2, .int l2), (3, .int l3), (4, .int a.1)], [.int l3, .int (a.2.1 30 a.1.toNatClampNeg)], a.2)) rfl ?_
    refine xTr.br (g1 := (23, [(0, .ref 34), (1, .ref 27), (2, .int l2), (3, .int l3), (4, .int a.1)], [], a.2)) (g2 := (47, [(0, .ref 34), (1, .ref 27), (2, .int l2), (3, .int l3), (4, .int a.1)], [], a.2)) rfl (fun h3 => ?_) (fun h3 => ?_)
    · refine xTr.ms 6 (g := (30, [(0, .ref 34), (1, .ref 27), (2, .int l2), (3, .int l3), (4, .int a.1)], [.int (1 : Int32), .int ((xshr l2 a.1) &&& (1 : Int32))], a.2)) rfl ?_
      refine xTr.br (g1 := (33, [(0, .ref 34), (1, .ref 27), (2, .int l2), (3, .int l3), (4, .int a.1)], [], a.2)) (g2 := (47, [(0, .ref 34), (1, .ref 27), (2, .int l2), (3, .int l3), (4, .int a.1)], [], a.2)) rfl (fun h4 => ?_) (fun h4 => ?_)
      · refine xTr.ms 3 (g := (39, [(0, .ref 34), (1, .ref 27), (2, .int l2), (3, .int l3), (4, .int a.1)], [.int a.1, .ref 38], a.2)) rfl ?_
        refine xTr.ck (g := (40, [(0, .ref 34), (1, .ref 27), (2, .int l2), (3, .int l3), (4, .int a.1)], [.int (a.2.1 38 a.1.toNatClampNeg)], a.2)) rfl (fun h5 => ?_)
        refine xTr.br (g1 := (43, [(0, .ref 34), (1, .ref 27), (2, .int l2), (3, .int l3), (4, .int a.1)], [], a.2)) (g2 := (47, [(0, .ref 34), (1, .ref 27), (2, .int l2), (3, .int l3), (4, .int a.1)], [], a.2)) rfl (fun h6 => ?_) (fun h6 => ?_)
        · refine xTr.ms 2 (g := (48, [(0, .ref 34), (1, .ref 27), (2, .int l2), (3, .int l3), (4, .int a.1)], [.int (1 : Int32)], a.2)) rfl ?_
          exact F_X3_exileBy_L3_J48_ok_34_27 l2 l3 a.1 (1 : Int32) a.2
        · exact F_X3_exileBy_L3_J47_ok_34_27 l2 l3 a.1 a.2
      · exact F_X3_exileBy_L3_J47_ok_34_27 l2 l3 a.1 a.2
    · exact F_X3_exileBy_L3_J47_ok_34_27 l2 l3 a.1 a.2
set_option maxRecDepth 100000 in
theorem ok_X3_exileBy_34_27 (l2 : Int32) (l3 : Int32) (s : xS) : xTr xMs xFL xR_X3_exileBy (Sum.inl (0, [(0, .ref 34), (1, .ref 27), (2, .int l2), (3, .int l3)], [], s)) (F_X3_exileBy 34 27 l2 l3 s) (fun (y : xS) => Sum.inr (none, y)) := by
  unfold F_X3_exileBy
  refine xTr.ms 2 (g := (3, [(0, .ref 34), (1, .ref 27), (2, .int l2), (3, .int l3), (4, .int (0 : Int32))], [], s)) rfl ?_
  refine xTr.bind (J := F_X3_exileBy_L3_ex_34_27 l2 l3) (xTr.loop (hd := F_X3_exileBy_L3_hd_34_27 l2 l3) (fun aa => F_X3_exileBy_L3_ok_34_27 l2 l3 aa) 100000 ((0 : Int32), s)) (fun b11 => ?_)
  exact xTr.ret rfl rfl rfl
def F_X3_exileBy_L3_hd_34_8 (l2 : Int32) (l3 : Int32) (a : Int32 × xS) : xT := Sum.inl (3, [(0, .ref 34), (1, .ref 8), (2, .int l2), (3, .int l3), (4, .int a.1)], [], a.2)
def F_X3_exileBy_L3_ex_34_8 (l2 : Int32) (l3 : Int32) : (xS) → xT := (fun (z : xS) => Sum.inl (96, [], [], z))
set_option maxRecDepth 100000 in
theorem F_X3_exileBy_L3_J48_ok_34_8 (l2 : Int32) (l3 : Int32) (j4 : Int32) (t0 : Int32) (js : xS) : xTr xMs xFL xR_X3_exileBy (Sum.inl (48, [(0, .ref 34), (1, .ref 8), (2, .int l2), (3, .int l3), (4, .int j4)], [.int t0], js)) (F_X3_exileBy_L3_J48 34 8 l2 l3 j4 t0 js) (xhx (F_X3_exileBy_L3_hd_34_8 l2 l3) (F_X3_exileBy_L3_ex_34_8 l2 l3)) := by
  unfold F_X3_exileBy_L3_J48
  refine xTr.ms 2 (g := (52, [(0, .ref 34), (1, .ref 8), (2, .int l2), (3, .int l3), (4, .int j4), (5, .int t0)], [.int t0], js)) rfl ?_
  refine xTr.br (g1 := (90, [(0, .ref 34), (1, .ref 8), (2, .int l2), (3, .int l3), (4, .int j4), (5, .int t0)], [], js)) (g2 := (55, [(0, .ref 34), (1, .ref 8), (2, .int l2), (3, .int l3), (4, .int j4), (5, .int t0)], [], js)) rfl (fun h7 => ?_) (fun h7 => ?_)
  · refine xTr.ms 2 (g := (3, [(0, .ref 34), (1, .ref 8), (2, .int l2), (3, .int l3), (4, .int (j4 + (1 : Int32)))], [], js)) rfl ?_
    exact xTr.leaf rfl
  · refine xTr.ms 3 (g := (61, [(0, .ref 34), (1, .ref 8), (2, .int l2), (3, .int l3), (4, .int j4)], [.int j4, .ref 37], js)) rfl ?_
    refine xTr.ck (g := (62, [(0, .ref 34), (1, .ref 8), (2, .int l2), (3, .int l3), (4, .int j4)], [.int (js.1 37 j4.toNatClampNeg)], js)) rfl (fun h8 => ?_)
    refine xTr.ms 3 (g := (69, [(0, .ref 34), (1, .ref 8), (2, .int l2), (3, .int l3), (4, .int j4)], [.int (js.1 12 2), .int (js.1 37 j4.toNatClampNeg)], js)) rfl ?_
    refine xTr.br (g1 := (90, [(0, .ref 34), (1, .ref 8), (2, .int l2), (3, .int l3), (4, .int j4)], [], js)) (g2 := (72, [(0, .ref 34), (1, .ref 8), (2, .int l2), (3, .int l3), (4, .int j4)], [], js)) rfl (fun h9 => ?_) (fun h9 => ?_)
    · refine xTr.ms 2 (g := (3, [(0, .ref 34), (1, .ref 8), (2, .int l2), (3, .int l3), (4, .int (j4 + (1 : Int32)))], [], js)) rfl ?_
      exact xTr.leaf rfl
    · refine xTr.ms 7 (g := (84, [(0, .ref 34), (1, .ref 8), (2, .int l2), (3, .int l3), (4, .int j4)], [.int j4, .ref 9, .long (1 : Int64), .long (js.2 34 6), .ref 34], js)) rfl ?_
      refine xTr.ck (g := (85, [(0, .ref 34), (1, .ref 8), (2, .int l2), (3, .int l3), (4, .int j4)], [.int (js.1 9 j4.toNatClampNeg), .long (1 : Int64), .long (js.2 34 6), .ref 34], js)) rfl (fun h10 => ?_)
      refine xTr.ms 5 (g := (3, [(0, .ref 34), (1, .ref 8), (2, .int l2), (3, .int l3), (4, .int (j4 + (1 : Int32)))], [], (xul js 34 6 ((js.2 34 6) ||| (xlshl (1 : Int64) (js.1 9 j4.toNatClampNeg)))))) rfl ?_
      exact xTr.leaf rfl
set_option maxRecDepth 100000 in
theorem F_X3_exileBy_L3_J47_ok_34_8 (l2 : Int32) (l3 : Int32) (j4 : Int32) (js : xS) : xTr xMs xFL xR_X3_exileBy (Sum.inl (47, [(0, .ref 34), (1, .ref 8), (2, .int l2), (3, .int l3), (4, .int j4)], [], js)) (F_X3_exileBy_L3_J47 34 8 l2 l3 j4 js) (xhx (F_X3_exileBy_L3_hd_34_8 l2 l3) (F_X3_exileBy_L3_ex_34_8 l2 l3)) := by
  unfold F_X3_exileBy_L3_J47
  refine xTr.ms 1 (g := (48, [(0, .ref 34), (1, .ref 8), (2, .int l2), (3, .int l3), (4, .int j4)], [.int (0 : Int32)], js)) rfl ?_
  exact F_X3_exileBy_L3_J48_ok_34_8 l2 l3 j4 (0 : Int32) js
set_option maxRecDepth 100000 in
theorem F_X3_exileBy_L3_ok_34_8 (l2 : Int32) (l3 : Int32) (a : Int32 × xS) : xTr xMs xFL xR_X3_exileBy (F_X3_exileBy_L3_hd_34_8 l2 l3 a) (F_X3_exileBy_L3 34 8 l2 l3 a) (xhx (F_X3_exileBy_L3_hd_34_8 l2 l3) (F_X3_exileBy_L3_ex_34_8 l2 l3)) := by
  unfold F_X3_exileBy_L3
  refine xTr.ms 3 (g := (9, [(0, .ref 34), (1, .ref 8), (2, .int l2), (3, .int l3), (4, .int a.1)], [.int (a.2.1 8 3), .int a.1], a.2)) rfl ?_
  refine xTr.br (g1 := (96, [(0, .ref 34), (1, .ref 8), (2, .int l2), (3, .int l3), (4, .int a.1)], [], a.2)) (g2 := (12, [(0, .ref 34), (1, .ref 8), (2, .int l2), (3, .int l3), (4, .int a.1)], [], a.2)) rfl (fun h1 => ?_) (fun h1 => ?_)
  · refine xTr.mk (lv1 := []) rfl rfl ?_
    exact xTr.leaf rfl
  · refine xTr.ms 3 (g := (18, [(0, .ref 34), (1, .ref 8), (2, .int l2), (3, .int l3), (4, .int a.1)], [.int a.1, .ref 11], a.2)) rfl ?_
    refine xTr.ck (g := (19, [(0, .ref 34), (1, .ref 8), (2, .int l2), (3, .int l3), (4, .int a.1)], [.int (a.2.1 11 a.1.toNatClampNeg)], a.2)) rfl (fun h2 => ?_)
    refine xTr.ms 1 (g := (20, [(0, .ref 34), (1, .ref 8), (2, .int l2), (3, .int l3), (4, .int a.1)], [.int l3, .int (a.2.1 11 a.1.toNatClampNeg)], a.2)) rfl ?_
    refine xTr.br (g1 := (23, [(0, .ref 34), (1, .ref 8), (2, .int l2), (3, .int l3), (4, .int a.1)], [], a.2)) (g2 := (47, [(0, .ref 34), (1, .ref 8), (2, .int l2), (3, .int l3), (4, .int a.1)], [], a.2)) rfl (fun h3 => ?_) (fun h3 => ?_)
    · refine xTr.ms 6 (g := (30, [(0, .ref 34), (1, .ref 8), (2, .int l2), (3, .int l3), (4, .int a.1)], [.int (1 : Int32), .int ((xshr l2 a.1) &&& (1 : Int32))], a.2)) rfl ?_
      refine xTr.br (g1 := (33, [(0, .ref 34), (1, .ref 8), (2, .int l2), (3, .int l3), (4, .int a.1)], [], a.2)) (g2 := (47, [(0, .ref 34), (1, .ref 8), (2, .int l2), (3, .int l3), (4, .int a.1)], [], a.2)) rfl (fun h4 => ?_) (fun h4 => ?_)
      · refine xTr.ms 3 (g := (39, [(0, .ref 34), (1, .ref 8), (2, .int l2), (3, .int l3), (4, .int a.1)], [.int a.1, .ref 38], a.2)) rfl ?_
        refine xTr.ck (g := (40, [(0, .ref 34), (1, .ref 8), (2, .int l2), (3, .int l3), (4, .int a.1)], [.int (a.2.1 38 a.1.toNatClampNeg)], a.2)) rfl (fun h5 => ?_)
        refine xTr.br (g1 := (43, [(0, .ref 34), (1, .ref 8), (2, .int l2), (3, .int l3), (4, .int a.1)], [], a.2)) (g2 := (47, [(0, .ref 34), (1, .ref 8), (2, .int l2), (3, .int l3), (4, .int a.1)], [], a.2)) rfl (fun h6 => ?_) (fun h6 => ?_)
        · refine xTr.ms 2 (g := (48, [(0, .ref 34), (1, .ref 8), (2, .int l2), (3, .int l3), (4, .int a.1)], [.int (1 : Int32)], a.2)) rfl ?_
          exact F_X3_exileBy_L3_J48_ok_34_8 l2 l3 a.1 (1 : Int32) a.2
        · exact F_X3_exileBy_L3_J47_ok_34_8 l2 l3 a.1 a.2
      · exact F_X3_exileBy_L3_J47_ok_34_8 l2 l3 a.1 a.2
    · exact F_X3_exileBy_L3_J47_ok_34_8 l2 l3 a.1 a.2
set_option maxRecDepth 100000 in
theorem ok_X3_exileBy_34_8 (l2 : Int32) (l3 : Int32) (s : xS) : xTr xMs xFL xR_X3_exileBy (Sum.inl (0, [(0, .ref 34), (1, .ref 8), (2, .int l2), (3, .int l3)], [], s)) (F_X3_exileBy 34 8 l2 l3 s) (fun (y : xS) => Sum.inr (none, y)) := by
  unfold F_X3_exileBy
  refine xTr.ms 2 (g := (3, [(0, .ref 34), (1, .ref 8), (2, .int l2), (3, .int l3), (4, .int (0 : Int32))], [], s)) rfl ?_
  refine xTr.bind (J := F_X3_exileBy_L3_ex_34_8 l2 l3) (xTr.loop (hd := F_X3_exileBy_L3_hd_34_8 l2 l3) (fun aa => F_X3_exileBy_L3_ok_34_8 l2 l3 aa) 100000 ((0 : Int32), s)) (fun b11 => ?_)
  exact xTr.ret rfl rfl rfl
-- X3_pass
def F_X3_pass_L27 (p0 : Nat) (p1 : Nat) (p3 : Nat) (l2 : Int32) (a : Int32 × xS) : Option ((Int32 × xS) ⊕ (xS)) := if (a.2.1 p1 3) ≤ a.1 then (some (Sum.inr a.2)) else (if a.1 < 0 ∨ 8 ≤ a.1.toNatClampNeg then none else (if (a.2.1 (p1 + 2) a.1.toNatClampNeg) < 0 ∨ 4 ≤ ((a.2.1 (p1 + 2) a.1.toNatClampNeg)).toNatClampNeg then none else (if a.1 < 0 ∨ 8 ≤ a.1.toNatClampNeg then none else ((F_X4_left p3 (xra 1001 ((a.2.1 (p1 + 2) a.1.toNatClampNeg)).toNatClampNeg) (a.2.1 (p1 + 1) a.1.toNatClampNeg) a.2).bind fun v11 => (if a.1 < 0 ∨ 8 ≤ a.1.toNatClampNeg then none else (some (Sum.inl ((a.1 + (1 : Int32)), (xu a.2 (p0 + 3) a.1.toNatClampNeg v11)))))))))
def F_X3_pass_L93 (p0 : Nat) (p1 : Nat) (p3 : Nat) (l2 : Int32) (a : Int32 × Int32 × xS) : Option ((Int32 × Int32 × xS) ⊕ (xS)) := if (10 : Int32) ≤ a.2.1 then (some (Sum.inr a.2.2)) else (if (a.2.2.1 p0 5) = (-1 : Int32) then ((F_X3_doDeeds p0 p1 l2 a.2.1 a.2.2).bind fun q17 => ((F_X2_sumIn a.2.1 q17.2).bind fun v18 => (if a.2.1 < 0 ∨ 10 ≤ a.2.1.toNatClampNeg then none else (if a.2.1 < 0 ∨ 10 ≤ a.2.1.toNatClampNeg then none else (if (q17.1 + v18) ≤ a.1 then ((F_X3_exileBy p0 p1 l2 a.2.1 (xu (xu q17.2 (p0 + 2) a.2.1.toNatClampNeg a.1) (p0 + 1) a.2.1.toNatClampNeg (q17.1 + v18))).bind fun s23 => (if (q17.1 + v18) = 0 then (some (Sum.inl ((if (a.1 + (3 : Int32)) < (30 : Int32) then (a.1 + (3 : Int32)) else (30 : Int32)), (a.2.1 + (1 : Int32)), s23))) else (some (Sum.inl ((a.1 - ((q17.1 + v18) / (2 : Int32))), (a.2.1 + (1 : Int32)), s23))))) else (some (Sum.inl (a.1, (a.2.1 + (1 : Int32)), (xu (xu (xu q17.2 (p0 + 2) a.2.1.toNatClampNeg a.1) (p0 + 1) a.2.1.toNatClampNeg (q17.1 + v18)) p0 5 a.2.1))))))))) else (some (Sum.inr a.2.2)))
def F_X3_pass (p0 : Nat) (p1 : Nat) (p3 : Nat) (l2 : Int32) (s : xS) : Option (xS) := (F_J7_fill_53178 (p0 + 1) (-1 : Int32) s).bind fun s2 => ((F_J7_fill_53178 (p0 + 2) (-1 : Int32) s2).bind fun s4 => ((F_J7_fill_53178 (p0 + 4) (2 : Int32) s4).bind fun s6 => ((xlp (F_X3_pass_L27 p0 p1 p3 l2) 100000 ((0 : Int32), s6)).bind (fun b13 => ((xlp (F_X3_pass_L93 p0 p1 p3 l2) 100000 ((b13.1 12 1), (0 : Int32), (xul (xu b13 p0 5 (-1 : Int32)) p0 6 (0 : Int64)))).bind (fun b25 => (some b25)))))))
def F_X3_pass_L27_hd_22_8_19 (l2 : Int32) (a : Int32 × xS) : xT := Sum.inl (27, [(0, .ref 22), (1, .ref 8), (2, .int l2), (3, .ref 19), (4, .int a.1)], [], a.2)
def F_X3_pass_L27_ex_22_8_19 (l2 : Int32) : (xS) → xT := (fun (z : xS) => Sum.inl (71, [(0, .ref 22), (1, .ref 8), (2, .int l2)], [], z))
set_option maxRecDepth 100000 in
theorem F_X3_pass_L27_ok_22_8_19 (l2 : Int32) (a : Int32 × xS) : xTr xMs xFL xR_X3_pass (F_X3_pass_L27_hd_22_8_19 l2 a) (F_X3_pass_L27 22 8 19 l2 a) (xhx (F_X3_pass_L27_hd_22_8_19 l2) (F_X3_pass_L27_ex_22_8_19 l2)) := by
  unfold F_X3_pass_L27
  refine xTr.ms 3 (g := (33, [(0, .ref 22), (1, .ref 8), (2, .int l2), (3, .ref 19), (4, .int a.1)], [.int (a.2.1 8 3), .int a.1], a.2)) rfl ?_
  refine xTr.br (g1 := (71, [(0, .ref 22), (1, .ref 8), (2, .int l2), (3, .ref 19), (4, .int a.1)], [], a.2)) (g2 := (36, [(0, .ref 22), (1, .ref 8), (2, .int l2), (3, .ref 19), (4, .int a.1)], [], a.2)) rfl (fun h7 => ?_) (fun h7 => ?_)
  · refine xTr.mk (lv1 := [(0, .ref 22), (1, .ref 8), (2, .int l2)]) rfl rfl ?_
    exact xTr.leaf rfl
  · refine xTr.ms 8 (g := (52, [(0, .ref 22), (1, .ref 8), (2, .int l2), (3, .ref 19), (4, .int a.1)], [.int a.1, .ref 10, .ref 1001, .ref 19, .int a.1, .ref 25], a.2)) rfl ?_
    refine xTr.ck (g := (53, [(0, .ref 22), (1, .ref 8), (2, .int l2), (3, .ref 19), (4, .int a.1)], [.int (a.2.1 10 a.1.toNatClampNeg), .ref 1001, .ref 19, .int a.1, .ref 25], a.2)) rfl (fun h8 => ?_)
    refine xTr.ck (g := (54, [(0, .ref 22), (1, .ref 8), (2, .int l2), (3, .ref 19), (4, .int a.1)], [.int (xra 1001 ((a.2.1 10 a.1.toNatClampNeg)).toNatClampNeg), .ref 19, .int a.1, .ref 25], a.2)) rfl (fun h9 => ?_)
    refine xTr.ms 3 (g := (60, [(0, .ref 22), (1, .ref 8), (2, .int l2), (3, .ref 19), (4, .int a.1)], [.int a.1, .ref 9, .int (xra 1001 ((a.2.1 10 a.1.toNatClampNeg)).toNatClampNeg), .ref 19, .int a.1, .ref 25], a.2)) rfl ?_
    refine xTr.ck (g := (61, [(0, .ref 22), (1, .ref 8), (2, .int l2), (3, .ref 19), (4, .int a.1)], [.int (a.2.1 9 a.1.toNatClampNeg), .int (xra 1001 ((a.2.1 10 a.1.toNatClampNeg)).toNatClampNeg), .ref 19, .int a.1, .ref 25], a.2)) rfl (fun h10 => ?_)
    refine xTr.callip (R' := xR_X4_left) (as := [.ref 19, .int (xra 1001 ((a.2.1 10 a.1.toNatClampNeg)).toNatClampNeg), .int (a.2.1 9 a.1.toNatClampNeg)]) (lv := [(0, .ref 22), (1, .ref 8), (2, .int l2), (3, .ref 19), (4, .int a.1)]) (rest := [.int a.1, .ref 25]) (ok_X4_left_19 (xra 1001 ((a.2.1 10 a.1.toNatClampNeg)).toNatClampNeg) (a.2.1 9 a.1.toNatClampNeg) a.2) rfl rfl rfl rfl rfl (fun v11 => ?_)
    refine xTr.ck (g := (65, [(0, .ref 22), (1, .ref 8), (2, .int l2), (3, .ref 19), (4, .int a.1)], [], (xu a.2 25 a.1.toNatClampNeg v11))) rfl (fun h12 => ?_)
    refine xTr.ms 2 (g := (27, [(0, .ref 22), (1, .ref 8), (2, .int l2), (3, .ref 19), (4, .int (a.1 + (1 : Int32)))], [], (xu a.2 25 a.1.toNatClampNeg v11))) rfl ?_
    exact xTr.leaf rfl
def F_X3_pass_L93_hd_22_8_19 (l2 : Int32) (a : Int32 × Int32 × xS) : xT := Sum.inl (93, [(0, .ref 22), (1, .ref 8), (2, .int l2), (4, .int a.1), (5, .int a.2.1)], [], a.2.2)
def F_X3_pass_L93_ex_22_8_19 (l2 : Int32) : (xS) → xT := (fun (z : xS) => Sum.inl (205, [], [], z))
set_option maxRecDepth 100000 in
theorem F_X3_pass_L93_ok_22_8_19 (l2 : Int32) (a : Int32 × Int32 × xS) : xTr xMs xFL xR_X3_pass (F_X3_pass_L93_hd_22_8_19 l2 a) (F_X3_pass_L93 22 8 19 l2 a) (xhx (F_X3_pass_L93_hd_22_8_19 l2) (F_X3_pass_L93_ex_22_8_19 l2)) := by
  unfold F_X3_pass_L93
  refine xTr.ms 2 (g := (97, [(0, .ref 22), (1, .ref 8), (2, .int l2), (4, .int a.1), (5, .int a.2.1)], [.int (10 : Int32), .int a.2.1], a.2.2)) rfl ?_
  refine xTr.br (g1 := (205, [(0, .ref 22), (1, .ref 8), (2, .int l2), (4, .int a.1), (5, .int a.2.1)], [], a.2.2)) (g2 := (100, [(0, .ref 22), (1, .ref 8), (2, .int l2), (4, .int a.1), (5, .int a.2.1)], [], a.2.2)) rfl (fun h14 => ?_) (fun h14 => ?_)
  · refine xTr.mk (lv1 := []) rfl rfl ?_
    exact xTr.leaf rfl
  · refine xTr.ms 3 (g := (105, [(0, .ref 22), (1, .ref 8), (2, .int l2), (4, .int a.1), (5, .int a.2.1)], [.int (-1 : Int32), .int (a.2.2.1 22 5)], a.2.2)) rfl ?_
    refine xTr.br (g1 := (108, [(0, .ref 22), (1, .ref 8), (2, .int l2), (4, .int a.1), (5, .int a.2.1)], [], a.2.2)) (g2 := (205, [(0, .ref 22), (1, .ref 8), (2, .int l2), (4, .int a.1), (5, .int a.2.1)], [], a.2.2)) rfl (fun h15 => ?_) (fun h15 => ?_)
    · refine xTr.ms 4 (g := (113, [(0, .ref 22), (1, .ref 8), (2, .int l2), (4, .int a.1), (5, .int a.2.1)], [.int a.2.1, .int l2, .ref 8, .ref 22], a.2.2)) rfl ?_
      refine xTr.calli (R' := xR_X3_doDeeds) (as := [.ref 22, .ref 8, .int l2, .int a.2.1]) (lv := [(0, .ref 22), (1, .ref 8), (2, .int l2), (4, .int a.1), (5, .int a.2.1)]) (rest := []) (ok_X3_doDeeds_22_8 l2 a.2.1 a.2.2) rfl rfl rfl rfl rfl (fun v16 s16 => ?_)
      refine xTr.ms 4 (g := (125, [(0, .ref 22), (1, .ref 8), (2, .int l2), (4, .int a.1), (5, .int a.2.1)], [.int a.2.1, .ref 13, .int v16], s16)) rfl ?_
      refine xTr.callip (R' := xR_X2_sumIn) (as := [.ref 13, .int a.2.1]) (lv := [(0, .ref 22), (1, .ref 8), (2, .int l2), (4, .int a.1), (5, .int a.2.1)]) (rest := [.int v16]) (ok_X2_sumIn a.2.1 s16) rfl rfl rfl rfl rfl (fun v18 => ?_)
      refine xTr.ms 6 (g := (139, [(0, .ref 22), (1, .ref 8), (2, .int l2), (4, .int a.1), (5, .int a.2.1), (6, .int (v16 + v18))], [.int a.1, .int a.2.1, .ref 24], s16)) rfl ?_
      refine xTr.ck (g := (140, [(0, .ref 22), (1, .ref 8), (2, .int l2), (4, .int a.1), (5, .int a.2.1), (6, .int (v16 + v18))], [], (xu s16 24 a.2.1.toNatClampNeg a.1))) rfl (fun h19 => ?_)
      refine xTr.ms 4 (g := (148, [(0, .ref 22), (1, .ref 8), (2, .int l2), (4, .int a.1), (5, .int a.2.1), (6, .int (v16 + v18))], [.int (v16 + v18), .int a.2.1, .ref 23], (xu s16 24 a.2.1.toNatClampNeg a.1))) rfl ?_
      refine xTr.ck (g := (149, [(0, .ref 22), (1, .ref 8), (2, .int l2), (4, .int a.1), (5, .int a.2.1), (6, .int (v16 + v18))], [], (xu (xu s16 24 a.2.1.toNatClampNeg a.1) 23 a.2.1.toNatClampNeg (v16 + v18)))) rfl (fun h20 => ?_)
      refine xTr.ms 2 (g := (153, [(0, .ref 22), (1, .ref 8), (2, .int l2), (4, .int a.1), (5, .int a.2.1), (6, .int (v16 + v18))], [.int a.1, .int (v16 + v18)], (xu (xu s16 24 a.2.1.toNatClampNeg a.1) 23 a.2.1.toNatClampNeg (v16 + v18)))) rfl ?_
      refine xTr.br (g1 := (165, [(0, .ref 22), (1, .ref 8), (2, .int l2), (4, .int a.1), (5, .int a.2.1), (6, .int (v16 + v18))], [], (xu (xu s16 24 a.2.1.toNatClampNeg a.1) 23 a.2.1.toNatClampNeg (v16 + v18)))) (g2 := (156, [(0, .ref 22), (1, .ref 8), (2, .int l2), (4, .int a.1), (5, .int a.2.1), (6, .int (v16 + v18))], [], (xu (xu s16 24 a.2.1.toNatClampNeg a.1) 23 a.2.1.toNatClampNeg (v16 + v18)))) rfl (fun h21 => ?_) (fun h21 => ?_)
      · refine xTr.ms 4 (g := (170, [(0, .ref 22), (1, .ref 8), (2, .int l2), (4, .int a.1), (5, .int a.2.1), (6, .int (v16 + v18))], [.int a.2.1, .int l2, .ref 8, .ref 22], (xu (xu s16 24 a.2.1.toNatClampNeg a.1) 23 a.2.1.toNatClampNeg (v16 + v18)))) rfl ?_
        refine xTr.callv (R' := xR_X3_exileBy) (as := [.ref 22, .ref 8, .int l2, .int a.2.1]) (lv := [(0, .ref 22), (1, .ref 8), (2, .int l2), (4, .int a.1), (5, .int a.2.1), (6, .int (v16 + v18))]) (rest := []) (ok_X3_exileBy_22_8 l2 a.2.1 (xu (xu s16 24 a.2.1.toNatClampNeg a.1) 23 a.2.1.toNatClampNeg (v16 + v18))) rfl rfl rfl rfl rfl (fun s23 => ?_)
        refine xTr.ms 1 (g := (175, [(0, .ref 22), (1, .ref 8), (2, .int l2), (4, .int a.1), (5, .int a.2.1), (6, .int (v16 + v18))], [.int (v16 + v18)], s23)) rfl ?_
        refine xTr.br (g1 := (178, [(0, .ref 22), (1, .ref 8), (2, .int l2), (4, .int a.1), (5, .int a.2.1), (6, .int (v16 + v18))], [], s23)) (g2 := (190, [(0, .ref 22), (1, .ref 8), (2, .int l2), (4, .int a.1), (5, .int a.2.1), (6, .int (v16 + v18))], [], s23)) rfl (fun h24 => ?_) (fun h24 => ?_)
        · refine xTr.ms 9 (g := (93, [(0, .ref 22), (1, .ref 8), (2, .int l2), (4, .int (if (a.1 + (3 : Int32)) < (30 : Int32) then (a.1 + (3 : Int32)) else (30 : Int32))), (5, .int (a.2.1 + (1 : Int32)))], [], s23)) rfl ?_
          exact xTr.leaf rfl
        · refine xTr.ms 8 (g := (93, [(0, .ref 22), (1, .ref 8), (2, .int l2), (4, .int (a.1 - ((v16 + v18) / (2 : Int32)))), (5, .int (a.2.1 + (1 : Int32)))], [], s23)) rfl ?_
          exact xTr.leaf rfl
      · refine xTr.ms 6 (g := (93, [(0, .ref 22), (1, .ref 8), (2, .int l2), (4, .int a.1), (5, .int (a.2.1 + (1 : Int32)))], [], (xu (xu (xu s16 24 a.2.1.toNatClampNeg a.1) 23 a.2.1.toNatClampNeg (v16 + v18)) 22 5 a.2.1))) rfl ?_
        exact xTr.leaf rfl
    · refine xTr.mk (lv1 := []) rfl rfl ?_
      exact xTr.leaf rfl
set_option maxRecDepth 100000 in
theorem ok_X3_pass_22_8_19 (l2 : Int32) (s : xS) : xTr xMs xFL xR_X3_pass (Sum.inl (0, [(0, .ref 22), (1, .ref 8), (2, .int l2), (3, .ref 19)], [], s)) (F_X3_pass 22 8 19 l2 s) (fun (y : xS) => Sum.inr (none, y)) := by
  unfold F_X3_pass
  refine xTr.ms 3 (g := (5, [(0, .ref 22), (1, .ref 8), (2, .int l2), (3, .ref 19)], [.int (-1 : Int32), .ref 23], s)) rfl ?_
  refine xTr.callv (R' := xR_J7_fill_53178) (as := [.ref 23, .int (-1 : Int32)]) (lv := [(0, .ref 22), (1, .ref 8), (2, .int l2), (3, .ref 19)]) (rest := []) (ok_J7_fill_53178_23 (-1 : Int32) s) rfl rfl rfl rfl rfl (fun s2 => ?_)
  refine xTr.ms 3 (g := (13, [(0, .ref 22), (1, .ref 8), (2, .int l2), (3, .ref 19)], [.int (-1 : Int32), .ref 24], s2)) rfl ?_
  refine xTr.callv (R' := xR_J7_fill_53178) (as := [.ref 24, .int (-1 : Int32)]) (lv := [(0, .ref 22), (1, .ref 8), (2, .int l2), (3, .ref 19)]) (rest := []) (ok_J7_fill_53178_24 (-1 : Int32) s2) rfl rfl rfl rfl rfl (fun s4 => ?_)
  refine xTr.ms 3 (g := (21, [(0, .ref 22), (1, .ref 8), (2, .int l2), (3, .ref 19)], [.int (2 : Int32), .ref 26], s4)) rfl ?_
  refine xTr.callv (R' := xR_J7_fill_53178) (as := [.ref 26, .int (2 : Int32)]) (lv := [(0, .ref 22), (1, .ref 8), (2, .int l2), (3, .ref 19)]) (rest := []) (ok_J7_fill_53178_26 (2 : Int32) s4) rfl rfl rfl rfl rfl (fun s6 => ?_)
  refine xTr.ms 2 (g := (27, [(0, .ref 22), (1, .ref 8), (2, .int l2), (3, .ref 19), (4, .int (0 : Int32))], [], s6)) rfl ?_
  refine xTr.bind (J := F_X3_pass_L27_ex_22_8_19 l2) (xTr.loop (hd := F_X3_pass_L27_hd_22_8_19 l2) (fun aa => F_X3_pass_L27_ok_22_8_19 l2 aa) 100000 ((0 : Int32), s6)) (fun b13 => ?_)
  refine xTr.ms 12 (g := (93, [(0, .ref 22), (1, .ref 8), (2, .int l2), (4, .int (b13.1 12 1)), (5, .int (0 : Int32))], [], (xul (xu b13 22 5 (-1 : Int32)) 22 6 (0 : Int64)))) rfl ?_
  refine xTr.bind (J := F_X3_pass_L93_ex_22_8_19 l2) (xTr.loop (hd := F_X3_pass_L93_hd_22_8_19 l2) (fun aa => F_X3_pass_L93_ok_22_8_19 l2 aa) 100000 ((b13.1 12 1), (0 : Int32), (xul (xu b13 22 5 (-1 : Int32)) 22 6 (0 : Int64)))) (fun b25 => ?_)
  exact xTr.ret rfl rfl rfl
def F_X3_pass_L27_hd_34_27_19 (l2 : Int32) (a : Int32 × xS) : xT := Sum.inl (27, [(0, .ref 34), (1, .ref 27), (2, .int l2), (3, .ref 19), (4, .int a.1)], [], a.2)
def F_X3_pass_L27_ex_34_27_19 (l2 : Int32) : (xS) → xT := (fun (z : xS) => Sum.inl (71, [(0, .ref 34), (1, .ref 27), (2, .int l2)], [], z))
set_option maxRecDepth 100000 in
theorem F_X3_pass_L27_ok_34_27_19 (l2 : Int32) (a : Int32 × xS) : xTr xMs xFL xR_X3_pass (F_X3_pass_L27_hd_34_27_19 l2 a) (F_X3_pass_L27 34 27 19 l2 a) (xhx (F_X3_pass_L27_hd_34_27_19 l2) (F_X3_pass_L27_ex_34_27_19 l2)) := by
  unfold F_X3_pass_L27
  refine xTr.ms 3 (g := (33, [(0, .ref 34), (1, .ref 27), (2, .int l2), (3, .ref 19), (4, .int a.1)], [.int (a.2.1 27 3), .int a.1], a.2)) rfl ?_
  refine xTr.br (g1 := (71, [(0, .ref 34), (1, .ref 27), (2, .int l2), (3, .ref 19), (4, .int a.1)], [], a.2)) (g2 := (36, [(0, .ref 34), (1, .ref 27), (2, .int l2), (3, .ref 19), (4, .int a.1)], [], a.2)) rfl (fun h7 => ?_) (fun h7 => ?_)
  · refine xTr.mk (lv1 := [(0, .ref 34), (1, .ref 27), (2, .int l2)]) rfl rfl ?_
    exact xTr.leaf rfl
  · refine xTr.ms 8 (g := (52, [(0, .ref 34), (1, .ref 27), (2, .int l2), (3, .ref 19), (4, .int a.1)], [.int a.1, .ref 29, .ref 1001, .ref 19, .int a.1, .ref 37], a.2)) rfl ?_
    refine xTr.ck (g := (53, [(0, .ref 34), (1, .ref 27), (2, .int l2), (3, .ref 19), (4, .int a.1)], [.int (a.2.1 29 a.1.toNatClampNeg), .ref 1001, .ref 19, .int a.1, .ref 37], a.2)) rfl (fun h8 => ?_)
    refine xTr.ck (g := (54, [(0, .ref 34), (1, .ref 27), (2, .int l2), (3, .ref 19), (4, .int a.1)], [.int (xra 1001 ((a.2.1 29 a.1.toNatClampNeg)).toNatClampNeg), .ref 19, .int a.1, .ref 37], a.2)) rfl (fun h9 => ?_)
    refine xTr.ms 3 (g := (60, [(0, .ref 34), (1, .ref 27), (2, .int l2), (3, .ref 19), (4, .int a.1)], [.int a.1, .ref 28, .int (xra 1001 ((a.2.1 29 a.1.toNatClampNeg)).toNatClampNeg), .ref 19, .int a.1, .ref 37], a.2)) rfl ?_
    refine xTr.ck (g := (61, [(0, .ref 34), (1, .ref 27), (2, .int l2), (3, .ref 19), (4, .int a.1)], [.int (a.2.1 28 a.1.toNatClampNeg), .int (xra 1001 ((a.2.1 29 a.1.toNatClampNeg)).toNatClampNeg), .ref 19, .int a.1, .ref 37], a.2)) rfl (fun h10 => ?_)
    refine xTr.callip (R' := xR_X4_left) (as := [.ref 19, .int (xra 1001 ((a.2.1 29 a.1.toNatClampNeg)).toNatClampNeg), .int (a.2.1 28 a.1.toNatClampNeg)]) (lv := [(0, .ref 34), (1, .ref 27), (2, .int l2), (3, .ref 19), (4, .int a.1)]) (rest := [.int a.1, .ref 37]) (ok_X4_left_19 (xra 1001 ((a.2.1 29 a.1.toNatClampNeg)).toNatClampNeg) (a.2.1 28 a.1.toNatClampNeg) a.2) rfl rfl rfl rfl rfl (fun v11 => ?_)
    refine xTr.ck (g := (65, [(0, .ref 34), (1, .ref 27), (2, .int l2), (3, .ref 19), (4, .int a.1)], [], (xu a.2 37 a.1.toNatClampNeg v11))) rfl (fun h12 => ?_)
    refine xTr.ms 2 (g := (27, [(0, .ref 34), (1, .ref 27), (2, .int l2), (3, .ref 19), (4, .int (a.1 + (1 : Int32)))], [], (xu a.2 37 a.1.toNatClampNeg v11))) rfl ?_
    exact xTr.leaf rfl
def F_X3_pass_L93_hd_34_27_19 (l2 : Int32) (a : Int32 × Int32 × xS) : xT := Sum.inl (93, [(0, .ref 34), (1, .ref 27), (2, .int l2), (4, .int a.1), (5, .int a.2.1)], [], a.2.2)
def F_X3_pass_L93_ex_34_27_19 (l2 : Int32) : (xS) → xT := (fun (z : xS) => Sum.inl (205, [], [], z))
set_option maxRecDepth 100000 in
theorem F_X3_pass_L93_ok_34_27_19 (l2 : Int32) (a : Int32 × Int32 × xS) : xTr xMs xFL xR_X3_pass (F_X3_pass_L93_hd_34_27_19 l2 a) (F_X3_pass_L93 34 27 19 l2 a) (xhx (F_X3_pass_L93_hd_34_27_19 l2) (F_X3_pass_L93_ex_34_27_19 l2)) := by
  unfold F_X3_pass_L93
  refine xTr.ms 2 (g := (97, [(0, .ref 34), (1, .ref 27), (2, .int l2), (4, .int a.1), (5, .int a.2.1)], [.int (10 : Int32), .int a.2.1], a.2.2)) rfl ?_
  refine xTr.br (g1 := (205, [(0, .ref 34), (1, .ref 27), (2, .int l2), (4, .int a.1), (5, .int a.2.1)], [], a.2.2)) (g2 := (100, [(0, .ref 34), (1, .ref 27), (2, .int l2), (4, .int a.1), (5, .int a.2.1)], [], a.2.2)) rfl (fun h14 => ?_) (fun h14 => ?_)
  · refine xTr.mk (lv1 := []) rfl rfl ?_
    exact xTr.leaf rfl
  · refine xTr.ms 3 (g := (105, [(0, .ref 34), (1, .ref 27), (2, .int l2), (4, .int a.1), (5, .int a.2.1)], [.int (-1 : Int32), .int (a.2.2.1 34 5)], a.2.2)) rfl ?_
    refine xTr.br (g1 := (108, [(0, .ref 34), (1, .ref 27), (2, .int l2), (4, .int a.1), (5, .int a.2.1)], [], a.2.2)) (g2 := (205, [(0, .ref 34), (1, .ref 27), (2, .int l2), (4, .int a.1), (5, .int a.2.1)], [], a.2.2)) rfl (fun h15 => ?_) (fun h15 => ?_)
    · refine xTr.ms 4 (g := (113, [(0, .ref 34), (1, .ref 27), (2, .int l2), (4, .int a.1), (5, .int a.2.1)], [.int a.2.1, .int l2, .ref 27, .ref 34], a.2.2)) rfl ?_
      refine xTr.calli (R' := xR_X3_doDeeds) (as := [.ref 34, .ref 27, .int l2, .int a.2.1]) (lv := [(0, .ref 34), (1, .ref 27), (2, .int l2), (4, .int a.1), (5, .int a.2.1)]) (rest := []) (ok_X3_doDeeds_34_27 l2 a.2.1 a.2.2) rfl rfl rfl rfl rfl (fun v16 s16 => ?_)
      refine xTr.ms 4 (g := (125, [(0, .ref 34), (1, .ref 27), (2, .int l2), (4, .int a.1), (5, .int a.2.1)], [.int a.2.1, .ref 13, .int v16], s16)) rfl ?_
      refine xTr.callip (R' := xR_X2_sumIn) (as := [.ref 13, .int a.2.1]) (lv := [(0, .ref 34), (1, .ref 27), (2, .int l2), (4, .int a.1), (5, .int a.2.1)]) (rest := [.int v16]) (ok_X2_sumIn a.2.1 s16) rfl rfl rfl rfl rfl (fun v18 => ?_)
      refine xTr.ms 6 (g := (139, [(0, .ref 34), (1, .ref 27), (2, .int l2), (4, .int a.1), (5, .int a.2.1), (6, .int (v16 + v18))], [.int a.1, .int a.2.1, .ref 36], s16)) rfl ?_
      refine xTr.ck (g := (140, [(0, .ref 34), (1, .ref 27), (2, .int l2), (4, .int a.1), (5, .int a.2.1), (6, .int (v16 + v18))], [], (xu s16 36 a.2.1.toNatClampNeg a.1))) rfl (fun h19 => ?_)
      refine xTr.ms 4 (g := (148, [(0, .ref 34), (1, .ref 27), (2, .int l2), (4, .int a.1), (5, .int a.2.1), (6, .int (v16 + v18))], [.int (v16 + v18), .int a.2.1, .ref 35], (xu s16 36 a.2.1.toNatClampNeg a.1))) rfl ?_
      refine xTr.ck (g := (149, [(0, .ref 34), (1, .ref 27), (2, .int l2), (4, .int a.1), (5, .int a.2.1), (6, .int (v16 + v18))], [], (xu (xu s16 36 a.2.1.toNatClampNeg a.1) 35 a.2.1.toNatClampNeg (v16 + v18)))) rfl (fun h20 => ?_)
      refine xTr.ms 2 (g := (153, [(0, .ref 34), (1, .ref 27), (2, .int l2), (4, .int a.1), (5, .int a.2.1), (6, .int (v16 + v18))], [.int a.1, .int (v16 + v18)], (xu (xu s16 36 a.2.1.toNatClampNeg a.1) 35 a.2.1.toNatClampNeg (v16 + v18)))) rfl ?_
      refine xTr.br (g1 := (165, [(0, .ref 34), (1, .ref 27), (2, .int l2), (4, .int a.1), (5, .int a.2.1), (6, .int (v16 + v18))], [], (xu (xu s16 36 a.2.1.toNatClampNeg a.1) 35 a.2.1.toNatClampNeg (v16 + v18)))) (g2 := (156, [(0, .ref 34), (1, .ref 27), (2, .int l2), (4, .int a.1), (5, .int a.2.1), (6, .int (v16 + v18))], [], (xu (xu s16 36 a.2.1.toNatClampNeg a.1) 35 a.2.1.toNatClampNeg (v16 + v18)))) rfl (fun h21 => ?_) (fun h21 => ?_)
      · refine xTr.ms 4 (g := (170, [(0, .ref 34), (1, .ref 27), (2, .int l2), (4, .int a.1), (5, .int a.2.1), (6, .int (v16 + v18))], [.int a.2.1, .int l2, .ref 27, .ref 34], (xu (xu s16 36 a.2.1.toNatClampNeg a.1) 35 a.2.1.toNatClampNeg (v16 + v18)))) rfl ?_
        refine xTr.callv (R' := xR_X3_exileBy) (as := [.ref 34, .ref 27, .int l2, .int a.2.1]) (lv := [(0, .ref 34), (1, .ref 27), (2, .int l2), (4, .int a.1), (5, .int a.2.1), (6, .int (v16 + v18))]) (rest := []) (ok_X3_exileBy_34_27 l2 a.2.1 (xu (xu s16 36 a.2.1.toNatClampNeg a.1) 35 a.2.1.toNatClampNeg (v16 + v18))) rfl rfl rfl rfl rfl (fun s23 => ?_)
        refine xTr.ms 1 (g := (175, [(0, .ref 34), (1, .ref 27), (2, .int l2), (4, .int a.1), (5, .int a.2.1), (6, .int (v16 + v18))], [.int (v16 + v18)], s23)) rfl ?_
        refine xTr.br (g1 := (178, [(0, .ref 34), (1, .ref 27), (2, .int l2), (4, .int a.1), (5, .int a.2.1), (6, .int (v16 + v18))], [], s23)) (g2 := (190, [(0, .ref 34), (1, .ref 27), (2, .int l2), (4, .int a.1), (5, .int a.2.1), (6, .int (v16 + v18))], [], s23)) rfl (fun h24 => ?_) (fun h24 => ?_)
        · refine xTr.ms 9 (g := (93, [(0, .ref 34), (1, .ref 27), (2, .int l2), (4, .int (if (a.1 + (3 : Int32)) < (30 : Int32) then (a.1 + (3 : Int32)) else (30 : Int32))), (5, .int (a.2.1 + (1 : Int32)))], [], s23)) rfl ?_
          exact xTr.leaf rfl
        · refine xTr.ms 8 (g := (93, [(0, .ref 34), (1, .ref 27), (2, .int l2), (4, .int (a.1 - ((v16 + v18) / (2 : Int32)))), (5, .int (a.2.1 + (1 : Int32)))], [], s23)) rfl ?_
          exact xTr.leaf rfl
      · refine xTr.ms 6 (g := (93, [(0, .ref 34), (1, .ref 27), (2, .int l2), (4, .int a.1), (5, .int (a.2.1 + (1 : Int32)))], [], (xu (xu (xu s16 36 a.2.1.toNatClampNeg a.1) 35 a.2.1.toNatClampNeg (v16 + v18)) 34 5 a.2.1))) rfl ?_
        exact xTr.leaf rfl
    · refine xTr.mk (lv1 := []) rfl rfl ?_
      exact xTr.leaf rfl
set_option maxRecDepth 100000 in
theorem ok_X3_pass_34_27_19 (l2 : Int32) (s : xS) : xTr xMs xFL xR_X3_pass (Sum.inl (0, [(0, .ref 34), (1, .ref 27), (2, .int l2), (3, .ref 19)], [], s)) (F_X3_pass 34 27 19 l2 s) (fun (y : xS) => Sum.inr (none, y)) := by
  unfold F_X3_pass
  refine xTr.ms 3 (g := (5, [(0, .ref 34), (1, .ref 27), (2, .int l2), (3, .ref 19)], [.int (-1 : Int32), .ref 35], s)) rfl ?_
  refine xTr.callv (R' := xR_J7_fill_53178) (as := [.ref 35, .int (-1 : Int32)]) (lv := [(0, .ref 34), (1, .ref 27), (2, .int l2), (3, .ref 19)]) (rest := []) (ok_J7_fill_53178_35 (-1 : Int32) s) rfl rfl rfl rfl rfl (fun s2 => ?_)
  refine xTr.ms 3 (g := (13, [(0, .ref 34), (1, .ref 27), (2, .int l2), (3, .ref 19)], [.int (-1 : Int32), .ref 36], s2)) rfl ?_
  refine xTr.callv (R' := xR_J7_fill_53178) (as := [.ref 36, .int (-1 : Int32)]) (lv := [(0, .ref 34), (1, .ref 27), (2, .int l2), (3, .ref 19)]) (rest := []) (ok_J7_fill_53178_36 (-1 : Int32) s2) rfl rfl rfl rfl rfl (fun s4 => ?_)
  refine xTr.ms 3 (g := (21, [(0, .ref 34), (1, .ref 27), (2, .int l2), (3, .ref 19)], [.int (2 : Int32), .ref 38], s4)) rfl ?_
  refine xTr.callv (R' := xR_J7_fill_53178) (as := [.ref 38, .int (2 : Int32)]) (lv := [(0, .ref 34), (1, .ref 27), (2, .int l2), (3, .ref 19)]) (rest := []) (ok_J7_fill_53178_38 (2 : Int32) s4) rfl rfl rfl rfl rfl (fun s6 => ?_)
  refine xTr.ms 2 (g := (27, [(0, .ref 34), (1, .ref 27), (2, .int l2), (3, .ref 19), (4, .int (0 : Int32))], [], s6)) rfl ?_
  refine xTr.bind (J := F_X3_pass_L27_ex_34_27_19 l2) (xTr.loop (hd := F_X3_pass_L27_hd_34_27_19 l2) (fun aa => F_X3_pass_L27_ok_34_27_19 l2 aa) 100000 ((0 : Int32), s6)) (fun b13 => ?_)
  refine xTr.ms 12 (g := (93, [(0, .ref 34), (1, .ref 27), (2, .int l2), (4, .int (b13.1 12 1)), (5, .int (0 : Int32))], [], (xul (xu b13 34 5 (-1 : Int32)) 34 6 (0 : Int64)))) rfl ?_
  refine xTr.bind (J := F_X3_pass_L93_ex_34_27_19 l2) (xTr.loop (hd := F_X3_pass_L93_hd_34_27_19 l2) (fun aa => F_X3_pass_L93_ok_34_27_19 l2 aa) 100000 ((b13.1 12 1), (0 : Int32), (xul (xu b13 34 5 (-1 : Int32)) 34 6 (0 : Int64)))) (fun b25 => ?_)
  exact xTr.ret rfl rfl rfl
def F_X3_pass_L27_hd_34_8_31 (l2 : Int32) (a : Int32 × xS) : xT := Sum.inl (27, [(0, .ref 34), (1, .ref 8), (2, .int l2), (3, .ref 31), (4, .int a.1)], [], a.2)
def F_X3_pass_L27_ex_34_8_31 (l2 : Int32) : (xS) → xT := (fun (z : xS) => Sum.inl (71, [(0, .ref 34), (1, .ref 8), (2, .int l2)], [], z))
set_option maxRecDepth 100000 in
theorem F_X3_pass_L27_ok_34_8_31 (l2 : Int32) (a : Int32 × xS) : xTr xMs xFL xR_X3_pass (F_X3_pass_L27_hd_34_8_31 l2 a) (F_X3_pass_L27 34 8 31 l2 a) (xhx (F_X3_pass_L27_hd_34_8_31 l2) (F_X3_pass_L27_ex_34_8_31 l2)) := by
  unfold F_X3_pass_L27
  refine xTr.ms 3 (g := (33, [(0, .ref 34), (1, .ref 8), (2, .int l2), (3, .ref 31), (4, .int a.1)], [.int (a.2.1 8 3), .int a.1], a.2)) rfl ?_
  refine xTr.br (g1 := (71, [(0, .ref 34), (1, .ref 8), (2, .int l2), (3, .ref 31), (4, .int a.1)], [], a.2)) (g2 := (36, [(0, .ref 34), (1, .ref 8), (2, .int l2), (3, .ref 31), (4, .int a.1)], [], a.2)) rfl (fun h7 => ?_) (fun h7 => ?_)
  · refine xTr.mk (lv1 := [(0, .ref 34), (1, .ref 8), (2, .int l2)]) rfl rfl ?_
    exact xTr.leaf rfl
  · refine xTr.ms 8 (g := (52, [(0, .ref 34), (1, .ref 8), (2, .int l2), (3, .ref 31), (4, .int a.1)], [.int a.1, .ref 10, .ref 1001, .ref 31, .int a.1, .ref 37], a.2)) rfl ?_
    refine xTr.ck (g := (53, [(0, .ref 34), (1, .ref 8), (2, .int l2), (3, .ref 31), (4, .int a.1)], [.int (a.2.1 10 a.1.toNatClampNeg), .ref 1001, .ref 31, .int a.1, .ref 37], a.2)) rfl (fun h8 => ?_)
    refine xTr.ck (g := (54, [(0, .ref 34), (1, .ref 8), (2, .int l2), (3, .ref 31), (4, .int a.1)], [.int (xra 1001 ((a.2.1 10 a.1.toNatClampNeg)).toNatClampNeg), .ref 31, .int a.1, .ref 37], a.2)) rfl (fun h9 => ?_)
    refine xTr.ms 3 (g := (60, [(0, .ref 34), (1, .ref 8), (2, .int l2), (3, .ref 31), (4, .int a.1)], [.int a.1, .ref 9, .int (xra 1001 ((a.2.1 10 a.1.toNatClampNeg)).toNatClampNeg), .ref 31, .int a.1, .ref 37], a.2)) rfl ?_
    refine xTr.ck (g := (61, [(0, .ref 34), (1, .ref 8), (2, .int l2), (3, .ref 31), (4, .int a.1)], [.int (a.2.1 9 a.1.toNatClampNeg), .int (xra 1001 ((a.2.1 10 a.1.toNatClampNeg)).toNatClampNeg), .ref 31, .int a.1, .ref 37], a.2)) rfl (fun h10 => ?_)
    refine xTr.callip (R' := xR_X4_left) (as := [.ref 31, .int (xra 1001 ((a.2.1 10 a.1.toNatClampNeg)).toNatClampNeg), .int (a.2.1 9 a.1.toNatClampNeg)]) (lv := [(0, .ref 34), (1, .ref 8), (2, .int l2), (3, .ref 31), (4, .int a.1)]) (rest := [.int a.1, .ref 37]) (ok_X4_left_31 (xra 1001 ((a.2.1 10 a.1.toNatClampNeg)).toNatClampNeg) (a.2.1 9 a.1.toNatClampNeg) a.2) rfl rfl rfl rfl rfl (fun v11 => ?_)
    refine xTr.ck (g := (65, [(0, .ref 34), (1, .ref 8), (2, .int l2), (3, .ref 31), (4, .int a.1)], [], (xu a.2 37 a.1.toNatClampNeg v11))) rfl (fun h12 => ?_)
    refine xTr.ms 2 (g := (27, [(0, .ref 34), (1, .ref 8), (2, .int l2), (3, .ref 31), (4, .int (a.1 + (1 : Int32)))], [], (xu a.2 37 a.1.toNatClampNeg v11))) rfl ?_
    exact xTr.leaf rfl
def F_X3_pass_L93_hd_34_8_31 (l2 : Int32) (a : Int32 × Int32 × xS) : xT := Sum.inl (93, [(0, .ref 34), (1, .ref 8), (2, .int l2), (4, .int a.1), (5, .int a.2.1)], [], a.2.2)
def F_X3_pass_L93_ex_34_8_31 (l2 : Int32) : (xS) → xT := (fun (z : xS) => Sum.inl (205, [], [], z))
set_option maxRecDepth 100000 in
theorem F_X3_pass_L93_ok_34_8_31 (l2 : Int32) (a : Int32 × Int32 × xS) : xTr xMs xFL xR_X3_pass (F_X3_pass_L93_hd_34_8_31 l2 a) (F_X3_pass_L93 34 8 31 l2 a) (xhx (F_X3_pass_L93_hd_34_8_31 l2) (F_X3_pass_L93_ex_34_8_31 l2)) := by
  unfold F_X3_pass_L93
  refine xTr.ms 2 (g := (97, [(0, .ref 34), (1, .ref 8), (2, .int l2), (4, .int a.1), (5, .int a.2.1)], [.int (10 : Int32), .int a.2.1], a.2.2)) rfl ?_
  refine xTr.br (g1 := (205, [(0, .ref 34), (1, .ref 8), (2, .int l2), (4, .int a.1), (5, .int a.2.1)], [], a.2.2)) (g2 := (100, [(0, .ref 34), (1, .ref 8), (2, .int l2), (4, .int a.1), (5, .int a.2.1)], [], a.2.2)) rfl (fun h14 => ?_) (fun h14 => ?_)
  · refine xTr.mk (lv1 := []) rfl rfl ?_
    exact xTr.leaf rfl
  · refine xTr.ms 3 (g := (105, [(0, .ref 34), (1, .ref 8), (2, .int l2), (4, .int a.1), (5, .int a.2.1)], [.int (-1 : Int32), .int (a.2.2.1 34 5)], a.2.2)) rfl ?_
    refine xTr.br (g1 := (108, [(0, .ref 34), (1, .ref 8), (2, .int l2), (4, .int a.1), (5, .int a.2.1)], [], a.2.2)) (g2 := (205, [(0, .ref 34), (1, .ref 8), (2, .int l2), (4, .int a.1), (5, .int a.2.1)], [], a.2.2)) rfl (fun h15 => ?_) (fun h15 => ?_)
    · refine xTr.ms 4 (g := (113, [(0, .ref 34), (1, .ref 8), (2, .int l2), (4, .int a.1), (5, .int a.2.1)], [.int a.2.1, .int l2, .ref 8, .ref 34], a.2.2)) rfl ?_
      refine xTr.calli (R' := xR_X3_doDeeds) (as := [.ref 34, .ref 8, .int l2, .int a.2.1]) (lv := [(0, .ref 34), (1, .ref 8), (2, .int l2), (4, .int a.1), (5, .int a.2.1)]) (rest := []) (ok_X3_doDeeds_34_8 l2 a.2.1 a.2.2) rfl rfl rfl rfl rfl (fun v16 s16 => ?_)
      refine xTr.ms 4 (g := (125, [(0, .ref 34), (1, .ref 8), (2, .int l2), (4, .int a.1), (5, .int a.2.1)], [.int a.2.1, .ref 13, .int v16], s16)) rfl ?_
      refine xTr.callip (R' := xR_X2_sumIn) (as := [.ref 13, .int a.2.1]) (lv := [(0, .ref 34), (1, .ref 8), (2, .int l2), (4, .int a.1), (5, .int a.2.1)]) (rest := [.int v16]) (ok_X2_sumIn a.2.1 s16) rfl rfl rfl rfl rfl (fun v18 => ?_)
      refine xTr.ms 6 (g := (139, [(0, .ref 34), (1, .ref 8), (2, .int l2), (4, .int a.1), (5, .int a.2.1), (6, .int (v16 + v18))], [.int a.1, .int a.2.1, .ref 36], s16)) rfl ?_
      refine xTr.ck (g := (140, [(0, .ref 34), (1, .ref 8), (2, .int l2), (4, .int a.1), (5, .int a.2.1), (6, .int (v16 + v18))], [], (xu s16 36 a.2.1.toNatClampNeg a.1))) rfl (fun h19 => ?_)
      refine xTr.ms 4 (g := (148, [(0, .ref 34), (1, .ref 8), (2, .int l2), (4, .int a.1), (5, .int a.2.1), (6, .int (v16 + v18))], [.int (v16 + v18), .int a.2.1, .ref 35], (xu s16 36 a.2.1.toNatClampNeg a.1))) rfl ?_
      refine xTr.ck (g := (149, [(0, .ref 34), (1, .ref 8), (2, .int l2), (4, .int a.1), (5, .int a.2.1), (6, .int (v16 + v18))], [], (xu (xu s16 36 a.2.1.toNatClampNeg a.1) 35 a.2.1.toNatClampNeg (v16 + v18)))) rfl (fun h20 => ?_)
      refine xTr.ms 2 (g := (153, [(0, .ref 34), (1, .ref 8), (2, .int l2), (4, .int a.1), (5, .int a.2.1), (6, .int (v16 + v18))], [.int a.1, .int (v16 + v18)], (xu (xu s16 36 a.2.1.toNatClampNeg a.1) 35 a.2.1.toNatClampNeg (v16 + v18)))) rfl ?_
      refine xTr.br (g1 := (165, [(0, .ref 34), (1, .ref 8), (2, .int l2), (4, .int a.1), (5, .int a.2.1), (6, .int (v16 + v18))], [], (xu (xu s16 36 a.2.1.toNatClampNeg a.1) 35 a.2.1.toNatClampNeg (v16 + v18)))) (g2 := (156, [(0, .ref 34), (1, .ref 8), (2, .int l2), (4, .int a.1), (5, .int a.2.1), (6, .int (v16 + v18))], [], (xu (xu s16 36 a.2.1.toNatClampNeg a.1) 35 a.2.1.toNatClampNeg (v16 + v18)))) rfl (fun h21 => ?_) (fun h21 => ?_)
      · refine xTr.ms 4 (g := (170, [(0, .ref 34), (1, .ref 8), (2, .int l2), (4, .int a.1), (5, .int a.2.1), (6, .int (v16 + v18))], [.int a.2.1, .int l2, .ref 8, .ref 34], (xu (xu s16 36 a.2.1.toNatClampNeg a.1) 35 a.2.1.toNatClampNeg (v16 + v18)))) rfl ?_
        refine xTr.callv (R' := xR_X3_exileBy) (as := [.ref 34, .ref 8, .int l2, .int a.2.1]) (lv := [(0, .ref 34), (1, .ref 8), (2, .int l2), (4, .int a.1), (5, .int a.2.1), (6, .int (v16 + v18))]) (rest := []) (ok_X3_exileBy_34_8 l2 a.2.1 (xu (xu s16 36 a.2.1.toNatClampNeg a.1) 35 a.2.1.toNatClampNeg (v16 + v18))) rfl rfl rfl rfl rfl (fun s23 => ?_)
        refine xTr.ms 1 (g := (175, [(0, .ref 34), (1, .ref 8), (2, .int l2), (4, .int a.1), (5, .int a.2.1), (6, .int (v16 + v18))], [.int (v16 + v18)], s23)) rfl ?_
        refine xTr.br (g1 := (178, [(0, .ref 34), (1, .ref 8), (2, .int l2), (4, .int a.1), (5, .int a.2.1), (6, .int (v16 + v18))], [], s23)) (g2 := (190, [(0, .ref 34), (1, .ref 8), (2, .int l2), (4, .int a.1), (5, .int a.2.1), (6, .int (v16 + v18))], [], s23)) rfl (fun h24 => ?_) (fun h24 => ?_)
        · refine xTr.ms 9 (g := (93, [(0, .ref 34), (1, .ref 8), (2, .int l2), (4, .int (if (a.1 + (3 : Int32)) < (30 : Int32) then (a.1 + (3 : Int32)) else (30 : Int32))), (5, .int (a.2.1 + (1 : Int32)))], [], s23)) rfl ?_
          exact xTr.leaf rfl
        · refine xTr.ms 8 (g := (93, [(0, .ref 34), (1, .ref 8), (2, .int l2), (4, .int (a.1 - ((v16 + v18) / (2 : Int32)))), (5, .int (a.2.1 + (1 : Int32)))], [], s23)) rfl ?_
          exact xTr.leaf rfl
      · refine xTr.ms 6 (g := (93, [(0, .ref 34), (1, .ref 8), (2, .int l2), (4, .int a.1), (5, .int (a.2.1 + (1 : Int32)))], [], (xu (xu (xu s16 36 a.2.1.toNatClampNeg a.1) 35 a.2.1.toNatClampNeg (v16 + v18)) 34 5 a.2.1))) rfl ?_
        exact xTr.leaf rfl
    · refine xTr.mk (lv1 := []) rfl rfl ?_
      exact xTr.leaf rfl
set_option maxRecDepth 100000 in
theorem ok_X3_pass_34_8_31 (l2 : Int32) (s : xS) : xTr xMs xFL xR_X3_pass (Sum.inl (0, [(0, .ref 34), (1, .ref 8), (2, .int l2), (3, .ref 31)], [], s)) (F_X3_pass 34 8 31 l2 s) (fun (y : xS) => Sum.inr (none, y)) := by
  unfold F_X3_pass
  refine xTr.ms 3 (g := (5, [(0, .ref 34), (1, .ref 8), (2, .int l2), (3, .ref 31)], [.int (-1 : Int32), .ref 35], s)) rfl ?_
  refine xTr.callv (R' := xR_J7_fill_53178) (as := [.ref 35, .int (-1 : Int32)]) (lv := [(0, .ref 34), (1, .ref 8), (2, .int l2), (3, .ref 31)]) (rest := []) (ok_J7_fill_53178_35 (-1 : Int32) s) rfl rfl rfl rfl rfl (fun s2 => ?_)
  refine xTr.ms 3 (g := (13, [(0, .ref 34), (1, .ref 8), (2, .int l2), (3, .ref 31)], [.int (-1 : Int32), .ref 36], s2)) rfl ?_
  refine xTr.callv (R' := xR_J7_fill_53178) (as := [.ref 36, .int (-1 : Int32)]) (lv := [(0, .ref 34), (1, .ref 8), (2, .int l2), (3, .ref 31)]) (rest := []) (ok_J7_fill_53178_36 (-1 : Int32) s2) rfl rfl rfl rfl rfl (fun s4 => ?_)
  refine xTr.ms 3 (g := (21, [(0, .ref 34), (1, .ref 8), (2, .int l2), (3, .ref 31)], [.int (2 : Int32), .ref 38], s4)) rfl ?_
  refine xTr.callv (R' := xR_J7_fill_53178) (as := [.ref 38, .int (2 : Int32)]) (lv := [(0, .ref 34), (1, .ref 8), (2, .int l2), (3, .ref 31)]) (rest := []) (ok_J7_fill_53178_38 (2 : Int32) s4) rfl rfl rfl rfl rfl (fun s6 => ?_)
  refine xTr.ms 2 (g := (27, [(0, .ref 34), (1, .ref 8), (2, .int l2), (3, .ref 31), (4, .int (0 : Int32))], [], s6)) rfl ?_
  refine xTr.bind (J := F_X3_pass_L27_ex_34_8_31 l2) (xTr.loop (hd := F_X3_pass_L27_hd_34_8_31 l2) (fun aa => F_X3_pass_L27_ok_34_8_31 l2 aa) 100000 ((0 : Int32), s6)) (fun b13 => ?_)
  refine xTr.ms 12 (g := (93, [(0, .ref 34), (1, .ref 8), (2, .int l2), (4, .int (b13.1 12 1)), (5, .int (0 : Int32))], [], (xul (xu b13 34 5 (-1 : Int32)) 34 6 (0 : Int64)))) rfl ?_
  refine xTr.bind (J := F_X3_pass_L93_ex_34_8_31 l2) (xTr.loop (hd := F_X3_pass_L93_hd_34_8_31 l2) (fun aa => F_X3_pass_L93_ok_34_8_31 l2 aa) 100000 ((b13.1 12 1), (0 : Int32), (xul (xu b13 34 5 (-1 : Int32)) 34 6 (0 : Int64)))) (fun b25 => ?_)
  exact xTr.ret rfl rfl rfl
def F_X3_pass_L27_hd_34_8_19 (l2 : Int32) (a : Int32 × xS) : xT := Sum.inl (27, [(0, .ref 34), (1, .ref 8), (2, .int l2), (3, .ref 19), (4, .int a.1)], [], a.2)
def F_X3_pass_L27_ex_34_8_19 (l2 : Int32) : (xS) → xT := (fun (z : xS) => Sum.inl (71, [(0, .ref 34), (1, .ref 8), (2, .int l2)], [], z))
set_option maxRecDepth 100000 in
theorem F_X3_pass_L27_ok_34_8_19 (l2 : Int32) (a : Int32 × xS) : xTr xMs xFL xR_X3_pass (F_X3_pass_L27_hd_34_8_19 l2 a) (F_X3_pass_L27 34 8 19 l2 a) (xhx (F_X3_pass_L27_hd_34_8_19 l2) (F_X3_pass_L27_ex_34_8_19 l2)) := by
  unfold F_X3_pass_L27
  refine xTr.ms 3 (g := (33, [(0, .ref 34), (1, .ref 8), (2, .int l2), (3, .ref 19), (4, .int a.1)], [.int (a.2.1 8 3), .int a.1], a.2)) rfl ?_
  refine xTr.br (g1 := (71, [(0, .ref 34), (1, .ref 8), (2, .int l2), (3, .ref 19), (4, .int a.1)], [], a.2)) (g2 := (36, [(0, .ref 34), (1, .ref 8), (2, .int l2), (3, .ref 19), (4, .int a.1)], [], a.2)) rfl (fun h7 => ?_) (fun h7 => ?_)
  · refine xTr.mk (lv1 := [(0, .ref 34), (1, .ref 8), (2, .int l2)]) rfl rfl ?_
    exact xTr.leaf rfl
  · refine xTr.ms 8 (g := (52, [(0, .ref 34), (1, .ref 8), (2, .int l2), (3, .ref 19), (4, .int a.1)], [.int a.1, .ref 10, .ref 1001, .ref 19, .int a.1, .ref 37], a.2)) rfl ?_
    refine xTr.ck (g := (53, [(0, .ref 34), (1, .ref 8), (2, .int l2), (3, .ref 19), (4, .int a.1)], [.int (a.2.1 10 a.1.toNatClampNeg), .ref 1001, .ref 19, .int a.1, .ref 37], a.2)) rfl (fun h8 => ?_)
    refine xTr.ck (g := (54, [(0, .ref 34), (1, .ref 8), (2, .int l2), (3, .ref 19), (4, .int a.1)], [.int (xra 1001 ((a.2.1 10 a.1.toNatClampNeg)).toNatClampNeg), .ref 19, .int a.1, .ref 37], a.2)) rfl (fun h9 => ?_)
    refine xTr.ms 3 (g := (60, [(0, .ref 34), (1, .ref 8), (2, .int l2), (3, .ref 19), (4, .int a.1)], [.int a.1, .ref 9, .int (xra 1001 ((a.2.1 10 a.1.toNatClampNeg)).toNatClampNeg), .ref 19, .int a.1, .ref 37], a.2)) rfl ?_
    refine xTr.ck (g := (61, [(0, .ref 34), (1, .ref 8), (2, .int l2), (3, .ref 19), (4, .int a.1)], [.int (a.2.1 9 a.1.toNatClampNeg), .int (xra 1001 ((a.2.1 10 a.1.toNatClampNeg)).toNatClampNeg), .ref 19, .int a.1, .ref 37], a.2)) rfl (fun h10 => ?_)
    refine xTr.callip (R' := xR_X4_left) (as := [.ref 19, .int (xra 1001 ((a.2.1 10 a.1.toNatClampNeg)).toNatClampNeg), .int (a.2.1 9 a.1.toNatClampNeg)]) (lv := [(0, .ref 34), (1, .ref 8), (2, .int l2), (3, .ref 19), (4, .int a.1)]) (rest := [.int a.1, .ref 37]) (ok_X4_left_19 (xra 1001 ((a.2.1 10 a.1.toNatClampNeg)).toNatClampNeg) (a.2.1 9 a.1.toNatClampNeg) a.2) rfl rfl rfl rfl rfl (fun v11 => ?_)
    refine xTr.ck (g := (65, [(0, .ref 34), (1, .ref 8), (2, .int l2), (3, .ref 19), (4, .int a.1)], [], (xu a.2 37 a.1.toNatClampNeg v11))) rfl (fun h12 => ?_)
    refine xTr.ms 2 (g := (27, [(0, .ref 34), (1, .ref 8), (2, .int l2), (3, .ref 19), (4, .int (a.1 + (1 : Int32)))], [], (xu a.2 37 a.1.toNatClampNeg v11))) rfl ?_
    exact xTr.leaf rfl
def F_X3_pass_L93_hd_34_8_19 (l2 : Int32) (a : Int32 × Int32 × xS) : xT := Sum.inl (93, [(0, .ref 34), (1, .ref 8), (2, .int l2), (4, .int a.1), (5, .int a.2.1)], [], a.2.2)
def F_X3_pass_L93_ex_34_8_19 (l2 : Int32) : (xS) → xT := (fun (z : xS) => Sum.inl (205, [], [], z))
set_option maxRecDepth 100000 in
theorem F_X3_pass_L93_ok_34_8_19 (l2 : Int32) (a : Int32 × Int32 × xS) : xTr xMs xFL xR_X3_pass (F_X3_pass_L93_hd_34_8_19 l2 a) (F_X3_pass_L93 34 8 19 l2 a) (xhx (F_X3_pass_L93_hd_34_8_19 l2) (F_X3_pass_L93_ex_34_8_19 l2)) := by
  unfold F_X3_pass_L93
  refine xTr.ms 2 (g := (97, [(0, .ref 34), (1, .ref 8), (2, .int l2), (4, .int a.1), (5, .int a.2.1)], [.int (10 : Int32), .int a.2.1], a.2.2)) rfl ?_
  refine xTr.br (g1 := (205, [(0, .ref 34), (1, .ref 8), (2, .int l2), (4, .int a.1), (5, .int a.2.1)], [], a.2.2)) (g2 := (100, [(0, .ref 34), (1, .ref 8), (2, .int l2), (4, .int a.1), (5, .int a.2.1)], [], a.2.2)) rfl (fun h14 => ?_) (fun h14 => ?_)
  · refine xTr.mk (lv1 := []) rfl rfl ?_
    exact xTr.leaf rfl
  · refine xTr.ms 3 (g := (105, [(0, .ref 34), (1, .ref 8), (2, .int l2), (4, .int a.1), (5, .int a.2.1)], [.int (-1 : Int32), .int (a.2.2.1 34 5)], a.2.2)) rfl ?_
    refine xTr.br (g1 := (108, [(0, .ref 34), (1, .ref 8), (2, .int l2), (4, .int a.1), (5, .int a.2.1)], [], a.2.2)) (g2 := (205, [(0, .ref 34), (1, .ref 8), (2, .int l2), (4, .int a.1), (5, .int a.2.1)], [], a.2.2)) rfl (fun h15 => ?_) (fun h15 => ?_)
    · refine xTr.ms 4 (g := (113, [(0, .ref 34), (1, .ref 8), (2, .int l2), (4, .int a.1), (5, .int a.2.1)], [.int a.2.1, .int l2, .ref 8, .ref 34], a.2.2)) rfl ?_
      refine xTr.calli (R' := xR_X3_doDeeds) (as := [.ref 34, .ref 8, .int l2, .int a.2.1]) (lv := [(0, .ref 34), (1, .ref 8), (2, .int l2), (4, .int a.1), (5, .int a.2.1)]) (rest := []) (ok_X3_doDeeds_34_8 l2 a.2.1 a.2.2) rfl rfl rfl rfl rfl (fun v16 s16 => ?_)
      refine xTr.ms 4 (g := (125, [(0, .ref 34), (1, .ref 8), (2, .int l2), (4, .int a.1), (5, .int a.2.1)], [.int a.2.1, .ref 13, .int v16], s16)) rfl ?_
      refine xTr.callip (R' := xR_X2_sumIn) (as := [.ref 13, .int a.2.1]) (lv := [(0, .ref 34), (1, .ref 8), (2, .int l2), (4, .int a.1), (5, .int a.2.1)]) (rest := [.int v16]) (ok_X2_sumIn a.2.1 s16) rfl rfl rfl rfl rfl (fun v18 => ?_)
      refine xTr.ms 6 (g := (139, [(0, .ref 34), (1, .ref 8), (2, .int l2), (4, .int a.1), (5, .int a.2.1), (6, .int (v16 + v18))], [.int a.1, .int a.2.1, .ref 36], s16)) rfl ?_
      refine xTr.ck (g := (140, [(0, .ref 34), (1, .ref 8), (2, .int l2), (4, .int a.1), (5, .int a.2.1), (6, .int (v16 + v18))], [], (xu s16 36 a.2.1.toNatClampNeg a.1))) rfl (fun h19 => ?_)
      refine xTr.ms 4 (g := (148, [(0, .ref 34), (1, .ref 8), (2, .int l2), (4, .int a.1), (5, .int a.2.1), (6, .int (v16 + v18))], [.int (v16 + v18), .int a.2.1, .ref 35], (xu s16 36 a.2.1.toNatClampNeg a.1))) rfl ?_
      refine xTr.ck (g := (149, [(0, .ref 34), (1, .ref 8), (2, .int l2), (4, .int a.1), (5, .int a.2.1), (6, .int (v16 + v18))], [], (xu (xu s16 36 a.2.1.toNatClampNeg a.1) 35 a.2.1.toNatClampNeg (v16 + v18)))) rfl (fun h20 => ?_)
      refine xTr.ms 2 (g := (153, [(0, .ref 34), (1, .ref 8), (2, .int l2), (4, .int a.1), (5, .int a.2.1), (6, .int (v16 + v18))], [.int a.1, .int (v16 + v18)], (xu (xu s16 36 a.2.1.toNatClampNeg a.1) 35 a.2.1.toNatClampNeg (v16 + v18)))) rfl ?_
      refine xTr.br (g1 := (165, [(0, .ref 34), (1, .ref 8), (2, .int l2), (4, .int a.1), (5, .int a.2.1), (6, .int (v16 + v18))], [], (xu (xu s16 36 a.2.1.toNatClampNeg a.1) 35 a.2.1.toNatClampNeg (v16 + v18)))) (g2 := (156, [(0, .ref 34), (1, .ref 8), (2, .int l2), (4, .int a.1), (5, .int a.2.1), (6, .int (v16 + v18))], [], (xu (xu s16 36 a.2.1.toNatClampNeg a.1) 35 a.2.1.toNatClampNeg (v16 + v18)))) rfl (fun h21 => ?_) (fun h21 => ?_)
      · refine xTr.ms 4 (g := (170, [(0, .ref 34), (1, .ref 8), (2, .int l2), (4, .int a.1), (5, .int a.2.1), (6, .int (v16 + v18))], [.int a.2.1, .int l2, .ref 8, .ref 34], (xu (xu s16 36 a.2.1.toNatClampNeg a.1) 35 a.2.1.toNatClampNeg (v16 + v18)))) rfl ?_
        refine xTr.callv (R' := xR_X3_exileBy) (as := [.ref 34, .ref 8, .int l2, .int a.2.1]) (lv := [(0, .ref 34), (1, .ref 8), (2, .int l2), (4, .int a.1), (5, .int a.2.1), (6, .int (v16 + v18))]) (rest := []) (ok_X3_exileBy_34_8 l2 a.2.1 (xu (xu s16 36 a.2.1.toNatClampNeg a.1) 35 a.2.1.toNatClampNeg (v16 + v18))) rfl rfl rfl rfl rfl (fun s23 => ?_)
        refine xTr.ms 1 (g := (175, [(0, .ref 34), (1, .ref 8), (2, .int l2), (4, .int a.1), (5, .int a.2.1), (6, .int (v16 + v18))], [.int (v16 + v18)], s23)) rfl ?_
        refine xTr.br (g1 := (178, [(0, .ref 34), (1, .ref 8), (2, .int l2), (4, .int a.1), (5, .int a.2.1), (6, .int (v16 + v18))], [], s23)) (g2 := (190, [(0, .ref 34), (1, .ref 8), (2, .int l2), (4, .int a.1), (5, .int a.2.1), (6, .int (v16 + v18))], [], s23)) rfl (fun h24 => ?_) (fun h24 => ?_)
        · refine xTr.ms 9 (g := (93, [(0, .ref 34), (1, .ref 8), (2, .int l2), (4, .int (if (a.1 + (3 : Int32)) < (30 : Int32) then (a.1 + (3 : Int32)) else (30 : Int32))), (5, .int (a.2.1 + (1 : Int32)))], [], s23)) rfl ?_
          exact xTr.leaf rfl
        · refine xTr.ms 8 (g := (93, [(0, .ref 34), (1, .ref 8), (2, .int l2), (4, .int (a.1 - ((v16 + v18) / (2 : Int32)))), (5, .int (a.2.1 + (1 : Int32)))], [], s23)) rfl ?_
          exact xTr.leaf rfl
      · refine xTr.ms 6 (g := (93, [(0, .ref 34), (1, .ref 8), (2, .int l2), (4, .int a.1), (5, .int (a.2.1 + (1 : Int32)))], [], (xu (xu (xu s16 36 a.2.1.toNatClampNeg a.1) 35 a.2.1.toNatClampNeg (v16 + v18)) 34 5 a.2.1))) rfl ?_
        exact xTr.leaf rfl
    · refine xTr.mk (lv1 := []) rfl rfl ?_
      exact xTr.leaf rfl
set_option maxRecDepth 100000 in
theorem ok_X3_pass_34_8_19 (l2 : Int32) (s : xS) : xTr xMs xFL xR_X3_pass (Sum.inl (0, [(0, .ref 34), (1, .ref 8), (2, .int l2), (3, .ref 19)], [], s)) (F_X3_pass 34 8 19 l2 s) (fun (y : xS) => Sum.inr (none, y)) := by
  unfold F_X3_pass
  refine xTr.ms 3 (g := (5, [(0, .ref 34), (1, .ref 8), (2, .int l2), (3, .ref 19)], [.int (-1 : Int32), .ref 35], s)) rfl ?_
  refine xTr.callv (R' := xR_J7_fill_53178) (as := [.ref 35, .int (-1 : Int32)]) (lv := [(0, .ref 34), (1, .ref 8), (2, .int l2), (3, .ref 19)]) (rest := []) (ok_J7_fill_53178_35 (-1 : Int32) s) rfl rfl rfl rfl rfl (fun s2 => ?_)
  refine xTr.ms 3 (g := (13, [(0, .ref 34), (1, .ref 8), (2, .int l2), (3, .ref 19)], [.int (-1 : Int32), .ref 36], s2)) rfl ?_
  refine xTr.callv (R' := xR_J7_fill_53178) (as := [.ref 36, .int (-1 : Int32)]) (lv := [(0, .ref 34), (1, .ref 8), (2, .int l2), (3, .ref 19)]) (rest := []) (ok_J7_fill_53178_36 (-1 : Int32) s2) rfl rfl rfl rfl rfl (fun s4 => ?_)
  refine xTr.ms 3 (g := (21, [(0, .ref 34), (1, .ref 8), (2, .int l2), (3, .ref 19)], [.int (2 : Int32), .ref 38], s4)) rfl ?_
  refine xTr.callv (R' := xR_J7_fill_53178) (as := [.ref 38, .int (2 : Int32)]) (lv := [(0, .ref 34), (1, .ref 8), (2, .int l2), (3, .ref 19)]) (rest := []) (ok_J7_fill_53178_38 (2 : Int32) s4) rfl rfl rfl rfl rfl (fun s6 => ?_)
  refine xTr.ms 2 (g := (27, [(0, .ref 34), (1, .ref 8), (2, .int l2), (3, .ref 19), (4, .int (0 : Int32))], [], s6)) rfl ?_
  refine xTr.bind (J := F_X3_pass_L27_ex_34_8_19 l2) (xTr.loop (hd := F_X3_pass_L27_hd_34_8_19 l2) (fun aa => F_X3_pass_L27_ok_34_8_19 l2 aa) 100000 ((0 : Int32), s6)) (fun b13 => ?_)
  refine xTr.ms 12 (g := (93, [(0, .ref 34), (1, .ref 8), (2, .int l2), (4, .int (b13.1 12 1)), (5, .int (0 : Int32))], [], (xul (xu b13 34 5 (-1 : Int32)) 34 6 (0 : Int64)))) rfl ?_
  refine xTr.bind (J := F_X3_pass_L93_ex_34_8_19 l2) (xTr.loop (hd := F_X3_pass_L93_hd_34_8_19 l2) (fun aa => F_X3_pass_L93_ok_34_8_19 l2 aa) 100000 ((b13.1 12 1), (0 : Int32), (xul (xu b13 34 5 (-1 : Int32)) 34 6 (0 : Int64)))) (fun b25 => ?_)
  exact xTr.ret rfl rfl rfl
