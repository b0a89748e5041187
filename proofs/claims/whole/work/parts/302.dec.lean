-- X7_has
def F_X7_has (l1 : Int32) (s : xS) : Option (Int32) := if l1 < 0 then (some (0 : Int32)) else (if (s.1 5 2) ≤ l1 then (some (0 : Int32)) else (some (1 : Int32)))
set_option maxRecDepth 100000 in
theorem ok_X7_has (l1 : Int32) (s : xS) : xTr xMs xFL xR_X7_has (Sum.inl (0, [(0, .ref 5), (1, .int l1)], [], s)) (F_X7_has l1 s) (fun (y : Int32) => Sum.inr (some (.int y), s)) := by
  unfold F_X7_has
  refine xTr.ms 1 (g := (1, [(0, .ref 5), (1, .int l1)], [.int l1], s)) rfl ?_
  refine xTr.br (g1 := (16, [(0, .ref 5), (1, .int l1)], [], s)) (g2 := (4, [(0, .ref 5), (1, .int l1)], [], s)) rfl (fun h1 => ?_) (fun h1 => ?_)
  · refine xTr.ms 1 (g := (17, [], [.int (0 : Int32)], s)) rfl ?_
    exact xTr.ret rfl rfl rfl
  · refine xTr.ms 3 (g := (9, [(0, .ref 5), (1, .int l1)], [.int (s.1 5 2), .int l1], s)) rfl ?_
    refine xTr.br (g1 := (16, [(0, .ref 5), (1, .int l1)], [], s)) (g2 := (12, [(0, .ref 5), (1, .int l1)], [], s)) rfl (fun h2 => ?_) (fun h2 => ?_)
    · refine xTr.ms 1 (g := (17, [], [.int (0 : Int32)], s)) rfl ?_
      exact xTr.ret rfl rfl rfl
    · refine xTr.ms 2 (g := (17, [], [.int (1 : Int32)], s)) rfl ?_
      exact xTr.ret rfl rfl rfl
-- X4_leastBeside
def F_X4_leastBeside_L6 (p0 : Nat) (l2 : Int32) (s : xS) (a : Int32 × Int32) : Option ((Int32 × Int32) ⊕ (Int32)) := if (4 : Int32) ≤ a.2 then (some (Sum.inr a.1)) else (if ((l2 * (4 : Int32)) + a.2) < 0 ∨ 144 ≤ (((l2 * (4 : Int32)) + a.2)).toNatClampNeg then none else (if (s.1 7 (((l2 * (4 : Int32)) + a.2)).toNatClampNeg) = (-1 : Int32) then (some (Sum.inl (a.1, (a.2 + (1 : Int32))))) else (if (s.1 7 (((l2 * (4 : Int32)) + a.2)).toNatClampNeg) < 0 ∨ 36 ≤ ((s.1 7 (((l2 * (4 : Int32)) + a.2)).toNatClampNeg)).toNatClampNeg then none else (if (s.1 7 (((l2 * (4 : Int32)) + a.2)).toNatClampNeg) < 0 ∨ 36 ≤ ((s.1 7 (((l2 * (4 : Int32)) + a.2)).toNatClampNeg)).toNatClampNeg then none else (if a.1 ≤ ((s.1 (p0 + 2) ((s.1 7 (((l2 * (4 : Int32)) + a.2)).toNatClampNeg)).toNatClampNeg) + (s.1 (p0 + 1) ((s.1 7 (((l2 * (4 : Int32)) + a.2)).toNatClampNeg)).toNatClampNeg)) then (some (Sum.inl (a.1, (a.2 + (1 : Int32))))) else (if (s.1 7 (((l2 * (4 : Int32)) + a.2)).toNatClampNeg) < 0 ∨ 36 ≤ ((s.1 7 (((l2 * (4 : Int32)) + a.2)).toNatClampNeg)).toNatClampNeg then none else (if (s.1 7 (((l2 * (4 : Int32)) + a.2)).toNatClampNeg) < 0 ∨ 36 ≤ ((s.1 7 (((l2 * (4 : Int32)) + a.2)).toNatClampNeg)).toNatClampNeg then none else (some (Sum.inl (((s.1 (p0 + 2) ((s.1 7 (((l2 * (4 : Int32)) + a.2)).toNatClampNeg)).toNatClampNeg) + (s.1 (p0 + 1) ((s.1 7 (((l2 * (4 : Int32)) + a.2)).toNatClampNeg)).toNatClampNeg)), (a.2 + (1 : Int32))))))))))))
def F_X4_leastBeside (p0 : Nat) (l2 : Int32) (s : xS) : Option (Int32) := (xlp (F_X4_leastBeside_L6 p0 l2 s) 100000 ((1000000 : Int32), (0 : Int32))).bind (fun b9 => (some b9))
def F_X4_leastBeside_L6_hd_19 (l2 : Int32) (s : xS) (a : Int32 × Int32) : xT := Sum.inl (6, [(0, .ref 19), (1, .ref 5), (2, .int l2), (3, .int a.1), (4, .int a.2)], [], s)
def F_X4_leastBeside_L6_ex_19 (l2 : Int32) (s : xS) : (Int32) → xT := (fun (z : Int32) => Sum.inl (72, [(3, .int z)], [], s))
set_option maxRecDepth 100000 in
theorem F_X4_leastBeside_L6_ok_19 (l2 : Int32) (s : xS) (a : Int32 × Int32) : xTr xMs xFL xR_X4_leastBeside (F_X4_leastBeside_L6_hd_19 l2 s a) (F_X4_leastBeside_L6 19 l2 s a) (xhx (F_X4_leastBeside_L6_hd_19 l2 s) (F_X4_leastBeside_L6_ex_19 l2 s)) := by
  unfold F_X4_leastBeside_L6
  refine xTr.ms 2 (g := (9, [(0, .ref 19), (1, .ref 5), (2, .int l2), (3, .int a.1), (4, .int a.2)], [.int (4 : Int32), .int a.2], s)) rfl ?_
  refine xTr.br (g1 := (72, [(0, .ref 19), (1, .ref 5), (2, .int l2), (3, .int a.1), (4, .int a.2)], [], s)) (g2 := (12, [(0, .ref 19), (1, .ref 5), (2, .int l2), (3, .int a.1), (4, .int a.2)], [], s)) rfl (fun h1 => ?_) (fun h1 => ?_)
  · refine xTr.mk (lv1 := [(3, .int a.1)]) rfl rfl ?_
    exact xTr.leaf rfl
  · refine xTr.ms 7 (g := (22, [(0, .ref 19), (1, .ref 5), (2, .int l2), (3, .int a.1), (4, .int a.2)], [.int ((l2 * (4 : Int32)) + a.2), .ref 7], s)) rfl ?_
    refine xTr.ck (g := (23, [(0, .ref 19), (1, .ref 5), (2, .int l2), (3, .int a.1), (4, .int a.2)], [.int (s.1 7 (((l2 * (4 : Int32)) + a.2)).toNatClampNeg)], s)) rfl (fun h2 => ?_)
    refine xTr.ms 3 (g := (28, [(0, .ref 19), (1, .ref 5), (2, .int l2), (3, .int a.1), (4, .int a.2), (5, .int (s.1 7 (((l2 * (4 : Int32)) + a.2)).toNatClampNeg))], [.int (-1 : Int32), .int (s.1 7 (((l2 * (4 : Int32)) + a.2)).toNatClampNeg)], s)) rfl ?_
    refine xTr.br (g1 := (66, [(0, .ref 19), (1, .ref 5), (2, .int l2), (3, .int a.1), (4, .int a.2), (5, .int (s.1 7 (((l2 * (4 : Int32)) + a.2)).toNatClampNeg))], [], s)) (g2 := (31, [(0, .ref 19), (1, .ref 5), (2, .int l2), (3, .int a.1), (4, .int a.2), (5, .int (s.1 7 (((l2 * (4 : Int32)) + a.2)).toNatClampNeg))], [], s)) rfl (fun h3 => ?_) (fun h3 => ?_)
    · refine xTr.ms 2 (g := (6, [(0, .ref 19), (1, .ref 5), (2, .int l2), (3, .int a.1), (4, .int (a.2 + (1 : Int32)))], [], s)) rfl ?_
      exact xTr.leaf rfl
    · refine xTr.ms 3 (g := (37, [(0, .ref 19), (1, .ref 5), (2, .int l2), (3, .int a.1), (4, .int a.2), (5, .int (s.1 7 (((l2 * (4 : Int32)) + a.2)).toNatClampNeg))], [.int (s.1 7 (((l2 * (4 : Int32)) + a.2)).toNatClampNeg), .ref 21], s)) rfl ?_
      refine xTr.ck (g := (38, [(0, .ref 19), (1, .ref 5), (2, .int l2), (3, .int a.1), (4, .int a.2), (5, .int (s.1 7 (((l2 * (4 : Int32)) + a.2)).toNatClampNeg))], [.int (s.1 21 ((s.1 7 (((l2 * (4 : Int32)) + a.2)).toNatClampNeg)).toNatClampNeg)], s)) rfl (fun h4 => ?_)
      refine xTr.ms 3 (g := (44, [(0, .ref 19), (1, .ref 5), (2, .int l2), (3, .int a.1), (4, .int a.2), (5, .int (s.1 7 (((l2 * (4 : Int32)) + a.2)).toNatClampNeg))], [.int (s.1 7 (((l2 * (4 : Int32)) + a.2)).toNatClampNeg), .ref 20, .int (s.1 21 ((s.1 7 (((l2 * (4 : Int32)) + a.2)).toNatClampNeg)).toNatClampNeg)], s)) rfl ?_
      refine xTr.ck (g := (45, [(0, .ref 19), (1, .ref 5), (2, .int l2), (3, .int a.1), (4, .int a.2), (5, .int (s.1 7 (((l2 * (4 : Int32)) + a.2)).toNatClampNeg))], [.int (s.1 20 ((s.1 7 (((l2 * (4 : Int32)) + a.2)).toNatClampNeg)).toNatClampNeg), .int (s.1 21 ((s.1 7 (((l2 * (4 : Int32)) + a.2)).toNatClampNeg)).toNatClampNeg)], s)) rfl (fun h5 => ?_)
      refine xTr.ms 2 (g := (47, [(0, .ref 19), (1, .ref 5), (2, .int l2), (3, .int a.1), (4, .int a.2), (5, .int (s.1 7 (((l2 * (4 : Int32)) + a.2)).toNatClampNeg))], [.int a.1, .int ((s.1 21 ((s.1 7 (((l2 * (4 : Int32)) + a.2)).toNatClampNeg)).toNatClampNeg) + (s.1 20 ((s.1 7 (((l2 * (4 : Int32)) + a.2)).toNatClampNeg)).toNatClampNeg))], s)) rfl ?_
      refine xTr.br (g1 := (66, [(0, .ref 19), (1, .ref 5), (2, .int l2), (3, .int a.1), (4, .int a.2), (5, .int (s.1 7 (((l2 * (4 : Int32)) + a.2)).toNatClampNeg))], [], s)) (g2 := (50, [(0, .ref 19), (1, .ref 5), (2, .int l2), (3, .int a.1), (4, .int a.2), (5, .int (s.1 7 (((l2 * (4 : Int32)) + a.2)).toNatClampNeg))], [], s)) rfl (fun h6 => ?_) (fun h6 => ?_)
      · refine xTr.ms 2 (g := (6, [(0, .ref 19), (1, .ref 5), (2, .int l2), (3, .int a.1), (4, .int (a.2 + (1 : Int32)))], [], s)) rfl ?_
        exact xTr.leaf rfl
      · refine xTr.ms 3 (g := (56, [(0, .ref 19), (1, .ref 5), (2, .int l2), (4, .int a.2), (5, .int (s.1 7 (((l2 * (4 : Int32)) + a.2)).toNatClampNeg))], [.int (s.1 7 (((l2 * (4 : Int32)) + a.2)).toNatClampNeg), .ref 21], s)) rfl ?_
        refine xTr.ck (g := (57, [(0, .ref 19), (1, .ref 5), (2, .int l2), (4, .int a.2), (5, .int (s.1 7 (((l2 * (4 : Int32)) + a.2)).toNatClampNeg))], [.int (s.1 21 ((s.1 7 (((l2 * (4 : Int32)) + a.2)).toNatClampNeg)).toNatClampNeg)], s)) rfl (fun h7 => ?_)
        refine xTr.ms 3 (g := (63, [(0, .ref 19), (1, .ref 5), (2, .int l2), (4, .int a.2), (5, .int (s.1 7 (((l2 * (4 : Int32)) + a.2)).toNatClampNeg))], [.int (s.1 7 (((l2 * (4 : Int32)) + a.2)).toNatClampNeg), .ref 20, .int (s.1 21 ((s.1 7 (((l2 * (4 : Int32)) + a.2)).toNatClampNeg)).toNatClampNeg)], s)) rfl ?_
        refine xTr.ck (g := (64, [(0, .ref 19), (1, .ref 5), (2, .int l2), (4, .int a.2), (5, .int (s.1 7 (((l2 * (4 : Int32)) + a.2)).toNatClampNeg))], [.int (s.1 20 ((s.1 7 (((l2 * (4 : Int32)) + a.2)).toNatClampNeg)).toNatClampNeg), .int (s.1 21 ((s.1 7 (((l2 * (4 : Int32)) + a.2)).toNatClampNeg)).toNatClampNeg)], s)) rfl (fun h8 => ?_)
        refine xTr.ms 4 (g := (6, [(0, .ref 19), (1, .ref 5), (2, .int l2), (3, .int ((s.1 21 ((s.1 7 (((l2 * (4 : Int32)) + a.2)).toNatClampNeg)).toNatClampNeg) + (s.1 20 ((s.1 7 (((l2 * (4 : Int32)) + a.2)).toNatClampNeg)).toNatClampNeg))), (4, .int (a.2 + (1 : Int32)))], [], s)) rfl ?_
        exact xTr.leaf rfl
set_option maxRecDepth 100000 in
theorem ok_X4_leastBeside_19 (l2 : Int32) (s : xS) : xTr xMs xFL xR_X4_leastBeside (Sum.inl (0, [(0, .ref 19), (1, .ref 5), (2, .int l2)], [], s)) (F_X4_leastBeside 19 l2 s) (fun (y : Int32) => Sum.inr (some (.int y), s)) := by
  unfold F_X4_leastBeside
  refine xTr.ms 4 (g := (6, [(0, .ref 19), (1, .ref 5), (2, .int l2), (3, .int (1000000 : Int32)), (4, .int (0 : Int32))], [], s)) rfl ?_
  refine xTr.bind (J := F_X4_leastBeside_L6_ex_19 l2 s) (xTr.loop (hd := F_X4_leastBeside_L6_hd_19 l2 s) (fun aa => F_X4_leastBeside_L6_ok_19 l2 s aa) 100000 ((1000000 : Int32), (0 : Int32))) (fun b9 => ?_)
  refine xTr.ms 1 (g := (73, [(3, .int b9)], [.int b9], s)) rfl ?_
  exact xTr.ret rfl rfl rfl
def F_X4_leastBeside_L6_hd_31 (l2 : Int32) (s : xS) (a : Int32 × Int32) : xT := Sum.inl (6, [(0, .ref 31), (1, .ref 5), (2, .int l2), (3, .int a.1), (4, .int a.2)], [], s)
def F_X4_leastBeside_L6_ex_31 (l2 : Int32) (s : xS) : (Int32) → xT := (fun (z : Int32) => Sum.inl (72, [(3, .int z)], [], s))
set_option maxRecDepth 100000 in
theorem F_X4_leastBeside_L6_ok_31 (l2 : Int32) (s : xS) (a : Int32 × Int32) : xTr xMs xFL xR_X4_leastBeside (F_X4_leastBeside_L6_hd_31 l2 s a) (F_X4_leastBeside_L6 31 l2 s a) (xhx (F_X4_leastBeside_L6_hd_31 l2 s) (F_X4_leastBeside_L6_ex_31 l2 s)) := by
  unfold F_X4_leastBeside_L6
  refine xTr.ms 2 (g := (9, [(0, .ref 31), (1, .ref 5), (2, .int l2), (3, .int a.1), (4, .int a.2)], [.int (4 : Int32), .int a.2], s)) rfl ?_
  refine xTr.br (g1 := (72, [(0, .ref 31), (1, .ref 5), (2, .int l2), (3, .int a.1), (4, .int a.2)], [], s)) (g2 := (12, [(0, .ref 31), (1, .ref 5), (2, .int l2), (3, .int a.1), (4, .int a.2)], [], s)) rfl (fun h1 => ?_) (fun h1 => ?_)
  · refine xTr.mk (lv1 := [(3, .int a.1)]) rfl rfl ?_
    exact xTr.leaf rfl
  · refine xTr.ms 7 (g := (22, [(0, .ref 31), (1, .ref 5), (2, .int l2), (3, .int a.1), (4, .int a.2)], [.int ((l2 * (4 : Int32)) + a.2), .ref 7], s)) rfl ?_
    refine xTr.ck (g := (23, [(0, .ref 31), (1, .ref 5), (2, .int l2), (3, .int a.1), (4, .int a.2)], [.int (s.1 7 (((l2 * (4 : Int32)) + a.2)).toNatClampNeg)], s)) rfl (fun h2 => ?_)
    refine xTr.ms 3 (g := (28, [(0, .ref 31), (1, .ref 5), (2, .int l2), (3, .int a.1), (4, .int a.2), (5, .int (s.1 7 (((l2 * (4 : Int32)) + a.2)).toNatClampNeg))], [.int (-1 : Int32), .int (s.1 7 (((l2 * (4 : Int32)) + a.2)).toNatClampNeg)], s)) rfl ?_
    refine xTr.br (g1 := (66, [(0, .ref 31), (1, .ref 5), (2, .int l2), (3, .int a.1), (4, .int a.2), (5, .int (s.1 7 (((l2 * (4 : Int32)) + a.2)).toNatClampNeg))], [], s)) (g2 := (31, [(0, .ref 31), (1, .ref 5), (2, .int l2), (3, .int a.1), (4, .int a.2), (5, .int (s.1 7 (((l2 * (4 : Int32)) + a.2)).toNatClampNeg))], [], s)) rfl (fun h3 => ?_) (fun h3 => ?_)
    · refine xTr.ms 2 (g := (6, [(0, .ref 31), (1, .ref 5), (2, .int l2), (3, .int a.1), (4, .int (a.2 + (1 : Int32)))], [], s)) rfl ?_
      exact xTr.leaf rfl
    · refine xTr.ms 3 (g := (37, [(0, .ref 31), (1, .ref 5), (2, .int l2), (3, .int a.1), (4, .int a.2), (5, .int (s.1 7 (((l2 * (4 : Int32)) + a.2)).toNatClampNeg))], [.int (s.1 7 (((l2 * (4 : Int32)) + a.2)).toNatClampNeg), .ref 33], s)) rfl ?_
      refine xTr.ck (g := (38, [(0, .ref 31), (1, .ref 5), (2, .int l2), (3, .int a.1), (4, .int a.2), (5, .int (s.1 7 (((l2 * (4 : Int32)) + a.2)).toNatClampNeg))], [.int (s.1 33 ((s.1 7 (((l2 * (4 : Int32)) + a.2)).toNatClampNeg)).toNatClampNeg)], s)) rfl (fun h4 => ?_)
      refine xTr.ms 3 (g := (44, [(0, .ref 31), (1, .ref 5), (2, .int l2), (3, .int a.1), (4, .int a.2), (5, .int (s.1 7 (((l2 * (4 : Int32)) + a.2)).toNatClampNeg))], [.int (s.1 7 (((l2 * (4 : Int32)) + a.2)).toNatClampNeg), .ref 32, .int (s.1 33 ((s.1 7 (((l2 * (4 : Int32)) + a.2)).toNatClampNeg)).toNatClampNeg)], s)) rfl ?_
      refine xTr.ck (g := (45, [(0, .ref 31), (1, .ref 5), (2, .int l2), (3, .int a.1), (4, .int a.2), (5, .int (s.1 7 (((l2 * (4 : Int32)) + a.2)).toNatClampNeg))], [.int (s.1 32 ((s.1 7 (((l2 * (4 : Int32)) + a.2)).toNatClampNeg)).toNatClampNeg), .int (s.1 33 ((s.1 7 (((l2 * (4 : Int32)) + a.2)).toNatClampNeg)).toNatClampNeg)], s)) rfl (fun h5 => ?_)
      refine xTr.ms 2 (g := (47, [(0, .ref 31), (1, .ref 5), (2, .int l2), (3, .int a.1), (4, .int a.2), (5, .int (s.1 7 (((l2 * (4 : Int32)) + a.2)).toNatClampNeg))], [.int a.1, .int ((s.1 33 ((s.1 7 (((l2 * (4 : Int32)) + a.2)).toNatClampNeg)).toNatClampNeg) + (s.1 32 ((s.1 7 (((l2 * (4 : Int32)) + a.2)).toNatClampNeg)).toNatClampNeg))], s)) rfl ?_
      refine xTr.br (g1 := (66, [(0, .ref 31), (1, .ref 5), (2, .int l2), (3, .int a.1), (4, .int a.2), (5, .int (s.1 7 (((l2 * (4 : Int32)) + a.2)).toNatClampNeg))], [], s)) (g2 := (50, [(0, .ref 31), (1, .ref 5), (2, .int l2), (3, .int a.1), (4, .int a.2), (5, .int (s.1 7 (((l2 * (4 : Int32)) + a.2)).toNatClampNeg))], [], s)) rfl (fun h6 => ?_) (fun h6 => ?_)
      · refine xTr.ms 2 (g := (6, [(0, .ref 31), (1, .ref 5), (2, .int l2), (3, .int a.1), (4, .int (a.2 + (1 : Int32)))], [], s)) rfl ?_
        exact xTr.leaf rfl
      · refine xTr.ms 3 (g := (56, [(0, .ref 31), (1, .ref 5), (2, .int l2), (4, .int a.2), (5, .int (s.1 7 (((l2 * (4 : Int32)) + a.2)).toNatClampNeg))], [.int (s.1 7 (((l2 * (4 : Int32)) + a.2)).toNatClampNeg), .ref 33], s)) rfl ?_
        refine xTr.ck (g := (57, [(0, .ref 31), (1, .ref 5), (2, .int l2), (4, .int a.2), (5, .int (s.1 7 (((l2 * (4 : Int32)) + a.2)).toNatClampNeg))], [.int (s.1 33 ((s.1 7 (((l2 * (4 : Int32)) + a.2)).toNatClampNeg)).toNatClampNeg)], s)) rfl (fun h7 => ?_)
        refine xTr.ms 3 (g := (63, [(0, .ref 31), (1, .ref 5), (2, .int l2), (4, .int a.2), (5, .int (s.1 7 (((l2 * (4 : Int32)) + a.2)).toNatClampNeg))], [.int (s.1 7 (((l2 * (4 : Int32)) + a.2)).toNatClampNeg), .ref 32, .int (s.1 33 ((s.1 7 (((l2 * (4 : Int32)) + a.2)).toNatClampNeg)).toNatClampNeg)], s)) rfl ?_
        refine xTr.ck (g := (64, [(0, .ref 31), (1, .ref 5), (2, .int l2), (4, .int a.2), (5, .int (s.1 7 (((l2 * (4 : Int32)) + a.2)).toNatClampNeg))], [.int (s.1 32 ((s.1 7 (((l2 * (4 : Int32)) + a.2)).toNatClampNeg)).toNatClampNeg), .int (s.1 33 ((s.1 7 (((l2 * (4 : Int32)) + a.2)).toNatClampNeg)).toNatClampNeg)], s)) rfl (fun h8 => ?_)
        refine xTr.ms 4 (g := (6, [(0, .ref 31), (1, .ref 5), (2, .int l2), (3, .int ((s.1 33 ((s.1 7 (((l2 * (4 : Int32)) + a.2)).toNatClampNeg)).toNatClampNeg) + (s.1 32 ((s.1 7 (((l2 * (4 : Int32)) + a.2)).toNatClampNeg)).toNatClampNeg))), (4, .int (a.2 + (1 : Int32)))], [], s)) rfl ?_
        exact xTr.leaf rfl
set_option maxRecDepth 100000 in
theorem ok_X4_leastBeside_31 (l2 : Int32) (s : xS) : xTr xMs xFL xR_X4_leastBeside (Sum.inl (0, [(0, .ref 31), (1, .ref 5), (2, .int l2)], [], s)) (F_X4_leastBeside 31 l2 s) (fun (y : Int32) => Sum.inr (some (.int y), s)) := by
  unfold F_X4_leastBeside
  refine xTr.ms 4 (g := (6, [(0, .ref 31), (1, .ref 5), (2, .int l2), (3, .int (1000000 : Int32)), (4, .int (0 : Int32))], [], s)) rfl ?_
  refine xTr.bind (J := F_X4_leastBeside_L6_ex_31 l2 s) (xTr.loop (hd := F_X4_leastBeside_L6_hd_31 l2 s) (fun aa => F_X4_leastBeside_L6_ok_31 l2 s aa) 100000 ((1000000 : Int32), (0 : Int32))) (fun b9 => ?_)
  refine xTr.ms 1 (g := (73, [(3, .int b9)], [.int b9], s)) rfl ?_
  exact xTr.ret rfl rfl rfl
-- X4_spread
def F_X4_spread_L46_J76 (p0 : Nat) (l4 : Int32) (j3 : Int32) (j5 : Int32) (t0 : Int32) (js : xS) : Option ((Int32 × Int32 × xS) ⊕ (Int32 × xS)) := (F_X4_leastBeside p0 t0 js).bind fun v10 => (if t0 < 0 ∨ 36 ≤ t0.toNatClampNeg then none else (if (js.1 (p0 + 2) t0.toNatClampNeg) ≤ v10 then (some (Sum.inl (j3, (j5 + (1 : Int32)), js))) else (if t0 < 0 ∨ 36 ≤ t0.toNatClampNeg then none else (some (Sum.inl ((1 : Int32), (j5 + (1 : Int32)), (xu js (p0 + 2) t0.toNatClampNeg v10)))))))
def F_X4_spread_L46 (p0 : Nat) (l4 : Int32) (a : Int32 × Int32 × xS) : Option ((Int32 × Int32 × xS) ⊕ (Int32 × xS)) := if (a.2.2.1 5 2) ≤ a.2.1 then (some (Sum.inr (a.1, a.2.2))) else (if (xrem l4 (2 : Int32)) = 0 then (F_X4_spread_L46_J76 p0 l4 a.1 a.2.1 a.2.1 a.2.2) else (F_X4_spread_L46_J76 p0 l4 a.1 a.2.1 (((a.2.2.1 5 2) - (1 : Int32)) - a.2.1) a.2.2))
def F_X4_spread_L30 (p0 : Nat) (a : Int32 × Int32 × xS) : Option ((Int32 × Int32 × xS) ⊕ (xS)) := if a.1 = 0 then (some (Sum.inr a.2.2)) else (if (36 : Int32) ≤ a.2.1 then (some (Sum.inr a.2.2)) else ((xlp (F_X4_spread_L46 p0 a.2.1) 100000 ((0 : Int32), (0 : Int32), a.2.2)).bind (fun b14 => (some (Sum.inl (b14.1, (a.2.1 + (1 : Int32)), b14.2))))))
def F_X4_spread (p0 : Nat) (l2 : Int32) (s : xS) : Option (xS) := (F_J7_fill_53178 (p0 + 2) (1000000 : Int32) s).bind fun s2 => ((F_X7_has l2 s2).bind fun v3 => (if v3 = 0 then (some s2) else (if l2 < 0 ∨ 36 ≤ l2.toNatClampNeg then none else ((xlp (F_X4_spread_L30 p0) 100000 ((1 : Int32), (0 : Int32), (xu s2 (p0 + 2) l2.toNatClampNeg (0 : Int32)))).bind (fun b15 => (some b15))))))
def F_X4_spread_L30_hd_19 (a : Int32 × Int32 × xS) : xT := Sum.inl (30, [(0, .ref 19), (1, .ref 5), (3, .int a.1), (4, .int a.2.1)], [], a.2.2)
def F_X4_spread_L30_ex_19 : (xS) → xT := (fun (z : xS) => Sum.inl (122, [], [], z))
def F_X4_spread_L46_hd_19 (l4 : Int32) (a : Int32 × Int32 × xS) : xT := Sum.inl (46, [(0, .ref 19), (1, .ref 5), (3, .int a.1), (4, .int l4), (5, .int a.2.1)], [], a.2.2)
def F_X4_spread_L46_ex_19 (l4 : Int32) : (Int32 × xS) → xT := (fun (z : Int32 × xS) => Sum.inl (116, [(0, .ref 19), (1, .ref 5), (3, .int z.1), (4, .int l4)], [], z.2))
set_option maxRecDepth 100000 in
theorem F_X4_spread_L46_J76_ok_19 (l4 : Int32) (j3 : Int32) (j5 : Int32) (t0 : Int32) (js : xS) : xTr xMs xFL xR_X4_spread (Sum.inl (76, [(0, .ref 19), (1, .ref 5), (3, .int j3), (4, .int l4), (5, .int j5)], [.int t0], js)) (F_X4_spread_L46_J76 19 l4 j3 j5 t0 js) (xhx (F_X4_spread_L46_hd_19 l4) (F_X4_spread_L46_ex_19 l4)) := by
  unfold F_X4_spread_L46_J76
  refine xTr.ms 4 (g := (82, [(0, .ref 19), (1, .ref 5), (3, .int j3), (4, .int l4), (5, .int j5), (6, .int t0)], [.int t0, .ref 5, .ref 19], js)) rfl ?_
  refine xTr.callip (R' := xR_X4_leastBeside) (as := [.ref 19, .ref 5, .int t0]) (lv := [(0, .ref 19), (1, .ref 5), (3, .int j3), (4, .int l4), (5, .int j5), (6, .int t0)]) (rest := []) (ok_X4_leastBeside_19 t0 js) rfl rfl rfl rfl rfl (fun v10 => ?_)
  refine xTr.ms 5 (g := (95, [(0, .ref 19), (1, .ref 5), (3, .int j3), (4, .int l4), (5, .int j5), (6, .int t0), (7, .int v10)], [.int t0, .ref 21, .int v10], js)) rfl ?_
  refine xTr.ck (g := (96, [(0, .ref 19), (1, .ref 5), (3, .int j3), (4, .int l4), (5, .int j5), (6, .int t0), (7, .int v10)], [.int (js.1 21 t0.toNatClampNeg), .int v10], js)) rfl (fun h11 => ?_)
  refine xTr.br (g1 := (110, [(0, .ref 19), (1, .ref 5), (3, .int j3), (4, .int l4), (5, .int j5), (6, .int t0), (7, .int v10)], [], js)) (g2 := (99, [(0, .ref 19), (1, .ref 5), (3, .int j3), (4, .int l4), (5, .int j5), (6, .int t0), (7, .int v10)], [], js)) rfl (fun h12 => ?_) (fun h12 => ?_)
  · refine xTr.ms 2 (g := (46, [(0, .ref 19), (1, .ref 5), (3, .int j3), (4, .int l4), (5, .int (j5 + (1 : Int32)))], [], js)) rfl ?_
    exact xTr.leaf rfl
  · refine xTr.ms 4 (g := (107, [(0, .ref 19), (1, .ref 5), (4, .int l4), (5, .int j5), (6, .int t0), (7, .int v10)], [.int v10, .int t0, .ref 21], js)) rfl ?_
    refine xTr.ck (g := (108, [(0, .ref 19), (1, .ref 5), (4, .int l4), (5, .int j5), (6, .int t0), (7, .int v10)], [], (xu js 21 t0.toNatClampNeg v10))) rfl (fun h13 => ?_)
    refine xTr.ms 4 (g := (46, [(0, .ref 19), (1, .ref 5), (3, .int (1 : Int32)), (4, .int l4), (5, .int (j5 + (1 : Int32)))], [], (xu js 21 t0.toNatClampNeg v10))) rfl ?_
    exact xTr.leaf rfl
set_option maxRecDepth 100000 in
theorem F_X4_spread_L46_ok_19 (l4 : Int32) (a : Int32 × Int32 × xS) : xTr xMs xFL xR_X4_spread (F_X4_spread_L46_hd_19 l4 a) (F_X4_spread_L46 19 l4 a) (xhx (F_X4_spread_L46_hd_19 l4) (F_X4_spread_L46_ex_19 l4)) := by
  unfold F_X4_spread_L46
  refine xTr.ms 3 (g := (52, [(0, .ref 19), (1, .ref 5), (3, .int a.1), (4, .int l4), (5, .int a.2.1)], [.int (a.2.2.1 5 2), .int a.2.1], a.2.2)) rfl ?_
  refine xTr.br (g1 := (116, [(0, .ref 19), (1, .ref 5), (3, .int a.1), (4, .int l4), (5, .int a.2.1)], [], a.2.2)) (g2 := (55, [(0, .ref 19), (1, .ref 5), (3, .int a.1), (4, .int l4), (5, .int a.2.1)], [], a.2.2)) rfl (fun h8 => ?_) (fun h8 => ?_)
  · refine xTr.mk (lv1 := [(0, .ref 19), (1, .ref 5), (3, .int a.1), (4, .int l4)]) rfl rfl ?_
    exact xTr.leaf rfl
  · refine xTr.ms 3 (g := (59, [(0, .ref 19), (1, .ref 5), (3, .int a.1), (4, .int l4), (5, .int a.2.1)], [.int (xrem l4 (2 : Int32))], a.2.2)) rfl ?_
    refine xTr.br (g1 := (62, [(0, .ref 19), (1, .ref 5), (3, .int a.1), (4, .int l4), (5, .int a.2.1)], [], a.2.2)) (g2 := (67, [(0, .ref 19), (1, .ref 5), (3, .int a.1), (4, .int l4), (5, .int a.2.1)], [], a.2.2)) rfl (fun h9 => ?_) (fun h9 => ?_)
    · refine xTr.ms 2 (g := (76, [(0, .ref 19), (1, .ref 5), (3, .int a.1), (4, .int l4), (5, .int a.2.1)], [.int a.2.1], a.2.2)) rfl ?_
      exact F_X4_spread_L46_J76_ok_19 l4 a.1 a.2.1 a.2.1 a.2.2
    · refine xTr.ms 6 (g := (76, [(0, .ref 19), (1, .ref 5), (3, .int a.1), (4, .int l4), (5, .int a.2.1)], [.int (((a.2.2.1 5 2) - (1 : Int32)) - a.2.1)], a.2.2)) rfl ?_
      exact F_X4_spread_L46_J76_ok_19 l4 a.1 a.2.1 (((a.2.2.1 5 2) - (1 : Int32)) - a.2.1) a.2.2
set_option maxRecDepth 100000 in
theorem F_X4_spread_L30_ok_19 (a : Int32 × Int32 × xS) : xTr xMs xFL xR_X4_spread (F_X4_spread_L30_hd_19 a) (F_X4_spread_L30 19 a) (xhx (F_X4_spread_L30_hd_19) (F_X4_spread_L30_ex_19)) := by
  unfold F_X4_spread_L30
  refine xTr.ms 1 (g := (31, [(0, .ref 19), (1, .ref 5), (3, .int a.1), (4, .int a.2.1)], [.int a.1], a.2.2)) rfl ?_
  refine xTr.br (g1 := (122, [(0, .ref 19), (1, .ref 5), (3, .int a.1), (4, .int a.2.1)], [], a.2.2)) (g2 := (34, [(0, .ref 19), (1, .ref 5), (3, .int a.1), (4, .int a.2.1)], [], a.2.2)) rfl (fun h6 => ?_) (fun h6 => ?_)
  · refine xTr.mk (lv1 := []) rfl rfl ?_
    exact xTr.leaf rfl
  · refine xTr.ms 2 (g := (38, [(0, .ref 19), (1, .ref 5), (4, .int a.2.1)], [.int (36 : Int32), .int a.2.1], a.2.2)) rfl ?_
    refine xTr.br (g1 := (122, [(0, .ref 19), (1, .ref 5), (4, .int a.2.1)], [], a.2.2)) (g2 := (41, [(0, .ref 19), (1, .ref 5), (4, .int a.2.1)], [], a.2.2)) rfl (fun h7 => ?_) (fun h7 => ?_)
    · refine xTr.mk (lv1 := []) rfl rfl ?_
      exact xTr.leaf rfl
    · refine xTr.ms 4 (g := (46, [(0, .ref 19), (1, .ref 5), (3, .int (0 : Int32)), (4, .int a.2.1), (5, .int (0 : Int32))], [], a.2.2)) rfl ?_
      refine xTr.bind (J := F_X4_spread_L46_ex_19 a.2.1) (xTr.loop (hd := F_X4_spread_L46_hd_19 a.2.1) (fun aa => F_X4_spread_L46_ok_19 a.2.1 aa) 100000 ((0 : Int32), (0 : Int32), a.2.2)) (fun b14 => ?_)
      refine xTr.ms 2 (g := (30, [(0, .ref 19), (1, .ref 5), (3, .int b14.1), (4, .int (a.2.1 + (1 : Int32)))], [], b14.2)) rfl ?_
      exact xTr.leaf rfl
set_option maxRecDepth 100000 in
theorem ok_X4_spread_19 (l2 : Int32) (s : xS) : xTr xMs xFL xR_X4_spread (Sum.inl (0, [(0, .ref 19), (1, .ref 5), (2, .int l2)], [], s)) (F_X4_spread 19 l2 s) (fun (y : xS) => Sum.inr (none, y)) := by
  unfold F_X4_spread
  refine xTr.ms 3 (g := (6, [(0, .ref 19), (1, .ref 5), (2, .int l2)], [.int (1000000 : Int32), .ref 21], s)) rfl ?_
  refine xTr.callv (R' := xR_J7_fill_53178) (as := [.ref 21, .int (1000000 : Int32)]) (lv := [(0, .ref 19), (1, .ref 5), (2, .int l2)]) (rest := []) (ok_J7_fill_53178_21 (1000000 : Int32) s) rfl rfl rfl rfl rfl (fun s2 => ?_)
  refine xTr.ms 2 (g := (11, [(0, .ref 19), (1, .ref 5), (2, .int l2)], [.int l2, .ref 5], s2)) rfl ?_
  refine xTr.callip (R' := xR_X7_has) (as := [.ref 5, .int l2]) (lv := [(0, .ref 19), (1, .ref 5), (2, .int l2)]) (rest := []) (ok_X7_has l2 s2) rfl rfl rfl rfl rfl (fun v3 => ?_)
  refine xTr.br (g1 := (17, [(0, .ref 19), (1, .ref 5), (2, .int l2)], [], s2)) (g2 := (18, [(0, .ref 19), (1, .ref 5), (2, .int l2)], [], s2)) rfl (fun h4 => ?_) (fun h4 => ?_)
  · exact xTr.ret rfl rfl rfl
  · refine xTr.ms 4 (g := (24, [(0, .ref 19), (1, .ref 5), (2, .int l2)], [.int (0 : Int32), .int l2, .ref 21], s2)) rfl ?_
    refine xTr.ck (g := (25, [(0, .ref 19), (1, .ref 5), (2, .int l2)], [], (xu s2 21 l2.toNatClampNeg (0 : Int32)))) rfl (fun h5 => ?_)
    refine xTr.ms 4 (g := (30, [(0, .ref 19), (1, .ref 5), (2, .int l2), (3, .int (1 : Int32)), (4, .int (0 : Int32))], [], (xu s2 21 l2.toNatClampNeg (0 : Int32)))) rfl ?_
    refine xTr.mk (lv1 := [(0, .ref 19), (1, .ref 5), (3, .int (1 : Int32)), (4, .int (0 : Int32))]) rfl rfl ?_
    refine xTr.bind (J := F_X4_spread_L30_ex_19) (xTr.loop (hd := F_X4_spread_L30_hd_19) (fun aa => F_X4_spread_L30_ok_19 aa) 100000 ((1 : Int32), (0 : Int32), (xu s2 21 l2.toNatClampNeg (0 : Int32)))) (fun b15 => ?_)
    exact xTr.ret rfl rfl rfl
def F_X4_spread_L30_hd_31 (a : Int32 × Int32 × xS) : xT := Sum.inl (30, [(0, .ref 31), (1, .ref 5), (3, .int a.1), (4, .int a.2.1)], [], a.2.2)
def F_X4_spread_L30_ex_31 : (xS) → xT := (fun (z : xS) => Sum.inl (122, [], [], z))
def F_X4_spread_L46_hd_31 (l4 : Int32) (a : Int32 × Int32 × xS) : xT := Sum.inl (46, [(0, .ref 31), (1, .ref 5), (3, .int a.1), (4, .int l4), (5, .int a.2.1)], [], a.2.2)
def F_X4_spread_L46_ex_31 (l4 : Int32) : (Int32 × xS) → xT := (fun (z : Int32 × xS) => Sum.inl (116, [(0, .ref 31), (1, .ref 5), (3, .int z.1), (4, .int l4)], [], z.2))
set_option maxRecDepth 100000 in
theorem F_X4_spread_L46_J76_ok_31 (l4 : Int32) (j3 : Int32) (j5 : Int32) (t0 : Int32) (js : xS) : xTr xMs xFL xR_X4_spread (Sum.inl (76, [(0, .ref 31), (1, .ref 5), (3, .int j3), (4, .int l4), (5, .int j5)], [.int t0], js)) (F_X4_spread_L46_J76 31 l4 j3 j5 t0 js) (xhx (F_X4_spread_L46_hd_31 l4) (F_X4_spread_L46_ex_31 l4)) := by
  unfold F_X4_spread_L46_J76
  refine xTr.ms 4 (g := (82, [(0, .ref 31), (1, .ref 5), (3, .int j3), (4, .int l4), (5, .int j5), (6, .int t0)], [.int t0, .ref 5, .ref 31], js)) rfl ?_
  refine xTr.callip (R' := xR_X4_leastBeside) (as := [.ref 31, .ref 5, .int t0]) (lv := [(0, .ref 31), (1, .ref 5), (3, .int j3), (4, .int l4), (5, .int j5), (6, .int t0)]) (rest := []) (ok_X4_leastBeside_31 t0 js) rfl rfl rfl rfl rfl (fun v10 => ?_)
  refine xTr.ms 5 (g := (95, [(0, .ref 31), (1, .ref 5), (3, .int j3), (4, .int l4), (5, .int j5), (6, .int t0), (7, .int v10)], [.int t0, .ref 33, .int v10], js)) rfl ?_
  refine xTr.ck (g := (96, [(0, .ref 31), (1, .ref 5), (3, .int j3), (4, .int l4), (5, .int j5), (6, .int t0), (7, .int v10)], [.int (js.1 33 t0.toNatClampNeg), .int v10], js)) rfl (fun h11 => ?_)
  refine xTr.br (g1 := (110, [(0, .ref 31), (1, .ref 5), (3, .int j3), (4, .int l4), (5, .int j5), (6, .int t0), (7, .int v10)], [], js)) (g2 := (99, [(0, .ref 31), (1, .ref 5), (3, .int j3), (4, .int l4), (5, .int j5), (6, .int t0), (7, .int v10)], [], js)) rfl (fun h12 => ?_) (fun h12 => ?_)
  · refine xTr.ms 2 (g := (46, [(0, .ref 31), (1, .ref 5), (3, .int j3), (4, .int l4), (5, .int (j5 + (1 : Int32)))], [], js)) rfl ?_
    exact xTr.leaf rfl
  · refine xTr.ms 4 (g := (107, [(0, .ref 31), (1, .ref 5), (4, .int l4), (5, .int j5), (6, .int t0), (7, .int v10)], [.int v10, .int t0, .ref 33], js)) rfl ?_
    refine xTr.ck (g := (108, [(0, .ref 31), (1, .ref 5), (4, .int l4), (5, .int j5), (6, .int t0), (7, .int v10)], [], (xu js 33 t0.toNatClampNeg v10))) rfl (fun h13 => ?_)
    refine xTr.ms 4 (g := (46, [(0, .ref 31), (1, .ref 5), (3, .int (1 : Int32)), (4, .int l4), (5, .int (j5 + (1 : Int32)))], [], (xu js 33 t0.toNatClampNeg v10))) rfl ?_
    exact xTr.leaf rfl
set_option maxRecDepth 100000 in
theorem F_X4_spread_L46_ok_31 (l4 : Int32) (a : Int32 × Int32 × xS) : xTr xMs xFL xR_X4_spread (F_X4_spread_L46_hd_31 l4 a) (F_X4_spread_L46 31 l4 a) (xhx (F_X4_spread_L46_hd_31 l4) (F_X4_spread_L46_ex_31 l4)) := by
  unfold F_X4_spread_L46
  refine xTr.ms 3 (g := (52, [(0, .ref 31), (1, .ref 5), (3, .int a.1), (4, .int l4), (5, .int a.2.1)], [.int (a.2.2.1 5 2), .int a.2.1], a.2.2)) rfl ?_
  refine xTr.br (g1 := (116, [(0, .ref 31), (1, .ref 5), (3, .int a.1), (4, .int l4), (5, .int a.2.1)], [], a.2.2)) (g2 := (55, [(0, .ref 31), (1, .ref 5), (3, .int a.1), (4, .int l4), (5, .int a.2.1)], [], a.2.2)) rfl (fun h8 => ?_) (fun h8 => ?_)
  · refine xTr.mk (lv1 := [(0, .ref 31), (1, .ref 5), (3, .int a.1), (4, .int l4)]) rfl rfl ?_
    exact xTr.leaf rfl
  · refine xTr.ms 3 (g := (59, [(0, .ref 31), (1, .ref 5), (3, .int a.1), (4, .int l4), (5, .int a.2.1)], [.int (xrem l4 (2 : Int32))], a.2.2)) rfl ?_
    refine xTr.br (g1 := (62, [(0, .ref 31), (1, .ref 5), (3, .int a.1), (4, .int l4), (5, .int a.2.1)], [], a.2.2)) (g2 := (67, [(0, .ref 31), (1, .ref 5), (3, .int a.1), (4, .int l4), (5, .int a.2.1)], [], a.2.2)) rfl (fun h9 => ?_) (fun h9 => ?_)
    · refine xTr.ms 2 (g := (76, [(0, .ref 31), (1, .ref 5), (3, .int a.1), (4, .int l4), (5, .int a.2.1)], [.int a.2.1], a.2.2)) rfl ?_
      exact F_X4_spread_L46_J76_ok_31 l4 a.1 a.2.1 a.2.1 a.2.2
    · refine xTr.ms 6 (g := (76, [(0, .ref 31), (1, .ref 5), (3, .int a.1), (4, .int l4), (5, .int a.2.1)], [.int (((a.2.2.1 5 2) - (1 : Int32)) - a.2.1)], a.2.2)) rfl ?_
      exact F_X4_spread_L46_J76_ok_31 l4 a.1 a.2.1 (((a.2.2.1 5 2) - (1 : Int32)) - a.2.1) a.2.2
set_option maxRecDepth 100000 in
theorem F_X4_spread_L30_ok_31 (a : Int32 × Int32 × xS) : xTr xMs xFL xR_X4_spread (F_X4_spread_L30_hd_31 a) (F_X4_spread_L30 31 a) (xhx (F_X4_spread_L30_hd_31) (F_X4_spread_L30_ex_31)) := by
  unfold F_X4_spread_L30
  refine xTr.ms 1 (g := (31, [(0, .ref 31), (1, .ref 5), (3, .int a.1), (4, .int a.2.1)], [.int a.1], a.2.2)) rfl ?_
  refine xTr.br (g1 := (122, [(0, .ref 31), (1, .ref 5), (3, .int a.1), (4, .int a.2.1)], [], a.2.2)) (g2 := (34, [(0, .ref 31), (1, .ref 5), (3, .int a.1), (4, .int a.2.1)], [], a.2.2)) rfl (fun h6 => ?_) (fun h6 => ?_)
  · refine xTr.mk (lv1 := []) rfl rfl ?_
    exact xTr.leaf rfl
  · refine xTr.ms 2 (g := (38, [(0, .ref 31), (1, .ref 5), (4, .int a.2.1)], [.int (36 : Int32), .int a.2.1], a.2.2)) rfl ?_
    refine xTr.br (g1 := (122, [(0, .ref 31), (1, .ref 5), (4, .int a.2.1)], [], a.2.2)) (g2 := (41, [(0, .ref 31), (1, .ref 5), (4, .int a.2.1)], [], a.2.2)) rfl (fun h7 => ?_) (fun h7 => ?_)
    · refine xTr.mk (lv1 := []) rfl rfl ?_
      exact xTr.leaf rfl
    · refine xTr.ms 4 (g := (46, [(0, .ref 31), (1, .ref 5), (3, .int (0 : Int32)), (4, .int a.2.1), (5, .int (0 : Int32))], [], a.2.2)) rfl ?_
      refine xTr.bind (J := F_X4_spread_L46_ex_31 a.2.1) (xTr.loop (hd := F_X4_spread_L46_hd_31 a.2.1) (fun aa => F_X4_spread_L46_ok_31 a.2.1 aa) 100000 ((0 : Int32), (0 : Int32), a.2.2)) (fun b14 => ?_)
      refine xTr.ms 2 (g := (30, [(0, .ref 31), (1, .ref 5), (3, .int b14.1), (4, .int (a.2.1 + (1 : Int32)))], [], b14.2)) rfl ?_
      exact xTr.leaf rfl
set_option maxRecDepth 100000 in
theorem ok_X4_spread_31 (l2 : Int32) (s : xS) : xTr xMs xFL xR_X4_spread (Sum.inl (0, [(0, .ref 31), (1, .ref 5), (2, .int l2)], [], s)) (F_X4_spread 31 l2 s) (fun (y : xS) => Sum.inr (none, y)) := by
  unfold F_X4_spread
  refine xTr.ms 3 (g := (6, [(0, .ref 31), (1, .ref 5), (2, .int l2)], [.int (1000000 : Int32), .ref 33], s)) rfl ?_
  refine xTr.callv (R' := xR_J7_fill_53178) (as := [.ref 33, .int (1000000 : Int32)]) (lv := [(0, .ref 31), (1, .ref 5), (2, .int l2)]) (rest := []) (ok_J7_fill_53178_33 (1000000 : Int32) s) rfl rfl rfl rfl rfl (fun s2 => ?_)
  refine xTr.ms 2 (g := (11, [(0, .ref 31), (1, .ref 5), (2, .int l2)], [.int l2, .ref 5], s2)) rfl ?_
  refine xTr.callip (R' := xR_X7_has) (as := [.ref 5, .int l2]) (lv := [(0, .ref 31), (1, .ref 5), (2, .int l2)]) (rest := []) (ok_X7_has l2 s2) rfl rfl rfl rfl rfl (fun v3 => ?_)
  refine xTr.br (g1 := (17, [(0, .ref 31), (1, .ref 5), (2, .int l2)], [], s2)) (g2 := (18, [(0, .ref 31), (1, .ref 5), (2, .int l2)], [], s2)) rfl (fun h4 => ?_) (fun h4 => ?_)
  · exact xTr.ret rfl rfl rfl
  · refine xTr.ms 4 (g := (24, [(0, .ref 31), (1, .ref 5), (2, .int l2)], [.int (0 : Int32), .int l2, .ref 33], s2)) rfl ?_
    refine xTr.ck (g := (25, [(0, .ref 31), (1, .ref 5), (2, .int l2)], [], (xu s2 33 l2.toNatClampNeg (0 : Int32)))) rfl (fun h5 => ?_)
    refine xTr.ms 4 (g := (30, [(0, .ref 31), (1, .ref 5), (2, .int l2), (3, .int (1 : Int32)), (4, .int (0 : Int32))], [], (xu s2 33 l2.toNatClampNeg (0 : Int32)))) rfl ?_
    refine xTr.mk (lv1 := [(0, .ref 31), (1, .ref 5), (3, .int (1 : Int32)), (4, .int (0 : Int32))]) rfl rfl ?_
    refine xTr.bind (J := F_X4_spread_L30_ex_31) (xTr.loop (hd := F_X4_spread_L30_hd_31) (fun aa => F_X4_spread_L30_ok_31 aa) 100000 ((1 : Int32), (0 : Int32), (xu s2 33 l2.toNatClampNeg (0 : Int32)))) (fun b15 => ?_)
    exact xTr.ret rfl rfl rfl
-- X4_left
def F_X4_left (p0 : Nat) (l1 : Int32) (l2 : Int32) (s : xS) : Option (Int32) := if l2 < 0 then (some (0 : Int32)) else (if (36 : Int32) ≤ l2 then (some (0 : Int32)) else (if l2 < 0 ∨ 36 ≤ l2.toNatClampNeg then none else (if l1 ≤ (s.1 (p0 + 2) l2.toNatClampNeg) then (some (0 : Int32)) else (if l2 < 0 ∨ 36 ≤ l2.toNatClampNeg then none else (some (l1 - (s.1 (p0 + 2) l2.toNatClampNeg)))))))
set_option maxRecDepth 100000 in
theorem ok_X4_left_19 (l1 : Int32) (l2 : Int32) (s : xS) : xTr xMs xFL xR_X4_left (Sum.inl (0, [(0, .ref 19), (1, .int l1), (2, .int l2)], [], s)) (F_X4_left 19 l1 l2 s) (fun (y : Int32) => Sum.inr (some (.int y), s)) := by
  unfold F_X4_left
  refine xTr.ms 1 (g := (1, [(0, .ref 19), (1, .int l1), (2, .int l2)], [.int l2], s)) rfl ?_
  refine xTr.br (g1 := (31, [(0, .ref 19), (1, .int l1), (2, .int l2)], [], s)) (g2 := (4, [(0, .ref 19), (1, .int l1), (2, .int l2)], [], s)) rfl (fun h1 => ?_) (fun h1 => ?_)
  · refine xTr.ms 1 (g := (32, [], [.int (0 : Int32)], s)) rfl ?_
    exact xTr.ret rfl rfl rfl
  · refine xTr.ms 2 (g := (7, [(0, .ref 19), (1, .int l1), (2, .int l2)], [.int (36 : Int32), .int l2], s)) rfl ?_
    refine xTr.br (g1 := (31, [(0, .ref 19), (1, .int l1), (2, .int l2)], [], s)) (g2 := (10, [(0, .ref 19), (1, .int l1), (2, .int l2)], [], s)) rfl (fun h2 => ?_) (fun h2 => ?_)
    · refine xTr.ms 1 (g := (32, [], [.int (0 : Int32)], s)) rfl ?_
      exact xTr.ret rfl rfl rfl
    · refine xTr.ms 4 (g := (16, [(0, .ref 19), (1, .int l1), (2, .int l2)], [.int l2, .ref 21, .int l1], s)) rfl ?_
      refine xTr.ck (g := (17, [(0, .ref 19), (1, .int l1), (2, .int l2)], [.int (s.1 21 l2.toNatClampNeg), .int l1], s)) rfl (fun h3 => ?_)
      refine xTr.br (g1 := (31, [(0, .ref 19), (1, .int l1), (2, .int l2)], [], s)) (g2 := (20, [(0, .ref 19), (1, .int l1), (2, .int l2)], [], s)) rfl (fun h4 => ?_) (fun h4 => ?_)
      · refine xTr.ms 1 (g := (32, [], [.int (0 : Int32)], s)) rfl ?_
        exact xTr.ret rfl rfl rfl
      · refine xTr.ms 4 (g := (26, [(0, .ref 19), (1, .int l1), (2, .int l2)], [.int l2, .ref 21, .int l1], s)) rfl ?_
        refine xTr.ck (g := (27, [(0, .ref 19), (1, .int l1), (2, .int l2)], [.int (s.1 21 l2.toNatClampNeg), .int l1], s)) rfl (fun h5 => ?_)
        refine xTr.ms 2 (g := (32, [(0, .ref 19), (1, .int l1), (2, .int l2)], [.int (l1 - (s.1 21 l2.toNatClampNeg))], s)) rfl ?_
        exact xTr.ret rfl rfl rfl
set_option maxRecDepth 100000 in
theorem ok_X4_left_31 (l1 : Int32) (l2 : Int32) (s : xS) : xTr xMs xFL xR_X4_left (Sum.inl (0, [(0, .ref 31), (1, .int l1), (2, .int l2)], [], s)) (F_X4_left 31 l1 l2 s) (fun (y : Int32) => Sum.inr (some (.int y), s)) := by
  unfold F_X4_left
  refine xTr.ms 1 (g := (1, [(0, .ref 31), (1, .int l1), (2, .int l2)], [.int l2], s)) rfl ?_
  refine xTr.br (g1 := (31, [(0, .ref 31), (1, .int l1), (2, .int l2)], [], s)) (g2 := (4, [(0, .ref 31), (1, .int l1), (2, .int l2)], [], s)) rfl (fun h1 => ?_) (fun h1 => ?_)
  · refine xTr.ms 1 (g := (32, [], [.int (0 : Int32)], s)) rfl ?_
    exact xTr.ret rfl rfl rfl
  · refine xTr.ms 2 (g := (7, [(0, .ref 31), (1, .int l1), (2, .int l2)], [.int (36 : Int32), .int l2], s)) rfl ?_
    refine xTr.br (g1 := (31, [(0, .ref 31), (1, .int l1), (2, .int l2)], [], s)) (g2 := (10, [(0, .ref 31), (1, .int l1), (2, .int l2)], [], s)) rfl (fun h2 => ?_) (fun h2 => ?_)
    · refine xTr.ms 1 (g := (32, [], [.int (0 : Int32)], s)) rfl ?_
      exact xTr.ret rfl rfl rfl
    · refine xTr.ms 4 (g := (16, [(0, .ref 31), (1, .int l1), (2, .int l2)], [.int l2, .ref 33, .int l1], s)) rfl ?_
      refine xTr.ck (g := (17, [(0, .ref 31), (1, .int l1), (2, .int l2)], [.int (s.1 33 l2.toNatClampNeg), .int l1], s)) rfl (fun h3 => ?_)
      refine xTr.br (g1 := (31, [(0, .ref 31), (1, .int l1), (2, .int l2)], [], s)) (g2 := (20, [(0, .ref 31), (1, .int l1), (2, .int l2)], [], s)) rfl (fun h4 => ?_) (fun h4 => ?_)
      · refine xTr.ms 1 (g := (32, [], [.int (0 : Int32)], s)) rfl ?_
        exact xTr.ret rfl rfl rfl
      · refine xTr.ms 4 (g := (26, [(0, .ref 31), (1, .int l1), (2, .int l2)], [.int l2, .ref 33, .int l1], s)) rfl ?_
        refine xTr.ck (g := (27, [(0, .ref 31), (1, .int l1), (2, .int l2)], [.int (s.1 33 l2.toNatClampNeg), .int l1], s)) rfl (fun h5 => ?_)
        refine xTr.ms 2 (g := (32, [(0, .ref 31), (1, .int l1), (2, .int l2)], [.int (l1 - (s.1 33 l2.toNatClampNeg))], s)) rfl ?_
        exact xTr.ret rfl rfl rfl
-- X3_doDeeds
def F_X3_doDeeds_L6 (p0 : Nat) (p1 : Nat) (l2 : Int32) (l3 : Int32) (a : Int32 × Int32 × xS) : Option ((Int32 × Int32 × xS) ⊕ (Int32 × xS)) := if (a.2.2.1 p1 3) ≤ a.2.1 then (some (Sum.inr (a.1, a.2.2))) else (if a.2.1 < 0 ∨ 8 ≤ a.2.1.toNatClampNeg then none else (if (a.2.2.1 (p1 + 3) a.2.1.toNatClampNeg) = l3 then (if ((xshr l2 a.2.1) &&& (1 : Int32)) = (1 : Int32) then (if a.2.1 < 0 ∨ 8 ≤ a.2.1.toNatClampNeg then none else (if (lg_cmp ((xlshr (a.2.2.2 p0 6) (a.2.2.1 (p1 + 1) a.2.1.toNatClampNeg)) &&& (1 : Int64)) (1 : Int64)) = 0 then (if a.2.1 < 0 ∨ 8 ≤ a.2.1.toNatClampNeg then none else (some (Sum.inl (a.1, (a.2.1 + (1 : Int32)), (xu a.2.2 (p0 + 4) a.2.1.toNatClampNeg (1 : Int32)))))) else (if a.2.1 < 0 ∨ 8 ≤ a.2.1.toNatClampNeg then none else (if a.2.1 < 0 ∨ 8 ≤ a.2.1.toNatClampNeg then none else (some (Sum.inl ((a.1 + (a.2.2.1 (p0 + 3) a.2.1.toNatClampNeg)), (a.2.1 + (1 : Int32)), (xu a.2.2 (p0 + 4) a.2.1.toNatClampNeg (0 : Int32))))))))) else (some (Sum.inl (a.1, (a.2.1 + (1 : Int32)), a.2.2)))) else (some (Sum.inl (a.1, (a.2.1 + (1 : Int32)), a.2.2)))))
def F_X3_doDeeds (p0 : Nat) (p1 : Nat) (l2 : Int32) (l3 : Int32) (s : xS) : Option (Int32 × xS) := (xlp (F_X3_doDeeds_L6 p0 p1 l2 l3) 100000 ((0 : Int32), (0 : Int32), s)).bind (fun b10 => (some (b10.1, b10.2)))
def F_X3_doDeeds_L6_hd_22_8 (l2 : Int32) (l3 : Int32) (a : Int32 × Int32 × xS) : xT := Sum.inl (6, [(0, .ref 22), (1, .ref 8), (2, .int l2), (3, .int l3), (4, .int a.1), (5, .int a.2.1)], [], a.2.2)
def F_X3_doDeeds_L6_ex_22_8 (l2 : Int32) (l3 : Int32) : (Int32 × xS) → xT := (fun (z : Int32 × xS) => Sum.inl (92, [(4, .int z.1)], [], z.2))
set_option maxRecDepth 100000 in
theorem F_X3_doDeeds_L6_ok_22_8 (l2 : Int32) (l3 : Int32) (a : Int32 × Int32 × xS) : xTr xMs xFL xR_X3_doDeeds (F_X3_doDeeds_L6_hd_22_8 l2 l3 a) (F_X3_doDeeds_L6 22 8 l2 l3 a) (xhx (F_X3_doDeeds_L6_hd_22_8 l2 l3) (F_X3_doDeeds_L6_ex_22_8 l2 l3)) := by
  unfold F_X3_doDeeds_L6
  refine xTr.ms 3 (g := (12, [(0, .ref 22), (1, .ref 8), (2, .int l2), (3, .int l3), (4, .int a.1), (5, .int a.2.1)], [.int (a.2.2.1 8 3), .int a.2.1], a.2.2)) rfl ?_
  refine xTr.br (g1 := (92, [(0, .ref 22), (1, .ref 8), (2, .int l2), (3, .int l3), (4, .int a.1), (5, .int a.2.1)], [], a.2.2)) (g2 := (15, [(0, .ref 22), (1, .ref 8), (2, .int l2), (3, .int l3), (4, .int a.1), (5, .int a.2.1)], [], a.2.2)) rfl (fun h1 => ?_) (fun h1 => ?_)
  · refine xTr.mk (lv1 := [(4, .int a.1)]) rfl rfl ?_
    exact xTr.leaf rfl
  · refine xTr.ms 3 (g := (21, [(0, .ref 22), (1, .ref 8), (2, .int l2), (3, .int l3), (4, .int a.1), (5, .int a.2.1)], [.int a.2.1, .ref 11], a.2.2)) rfl ?_
    refine xTr.ck (g := (22, [(0, .ref 22), (1, .ref 8), (2, .int l2), (3, .int l3), (4, .int a.1), (5, .int a.2.1)], [.int (a.2.2.1 11 a.2.1.toNatClampNeg)], a.2.2)) rfl (fun h2 => ?_)
    refine xTr.ms 1 (g := (23, [(0, .ref 22), (1, .ref 8), (2, .int l2), (3, .int l3), (4, .int a.1), (5, .int a.2.1)], [.int l3, .int (a.2.2.1 11 a.2.1.toNatClampNeg)], a.2.2)) rfl ?_
    refine xTr.br (g1 := (26, [(0, .ref 22), (1, .ref 8), (2, .int l2), (3, .int l3), (4, .int a.1), (5, .int a.2.1)], [], a.2.2)) (g2 := (86, [(0, .ref 22), (1, .ref 8), (2, .int l2), (3, .int l3), (4, .int a.1), (5, .int a.2.1)], [], a.2.2)) rfl (fun h3 => ?_) (fun h3 => ?_)
    · refine xTr.ms 6 (g := (33, [(0, .ref 22), (1, .ref 8), (2, .int l2), (3, .int l3), (4, .int a.1), (5, .int a.2.1)], [.int (1 : Int32), .int ((xshr l2 a.2.1) &&& (1 : Int32))], a.2.2)) rfl ?_
      refine xTr.br (g1 := (36, [(0, .ref 22), (1, .ref 8), (2, .int l2), (3, .int l3), (4, .int a.1), (5, .int a.2.1)], [], a.2.2)) (g2 := (86, [(0, .ref 22), (1, .ref 8), (2, .int l2), (3, .int l3), (4, .int a.1), (5, .int a.2.1)], [], a.2.2)) rfl (fun h4 => ?_) (fun h4 => ?_)
      · refine xTr.ms 5 (g := (46, [(0, .ref 22), (1, .ref 8), (2, .int l2), (3, .int l3), (4, .int a.1), (5, .int a.2.1)], [.int a.2.1, .ref 9, .long (a.2.2.2 22 6)], a.2.2)) rfl ?_
        refine xTr.ck (g := (47, [(0, .ref 22), (1, .ref 8), (2, .int l2), (3, .int l3), (4, .int a.1), (5, .int a.2.1)], [.int (a.2.2.1 9 a.2.1.toNatClampNeg), .long (a.2.2.2 22 6)], a.2.2)) rfl (fun h5 => ?_)
        refine xTr.ms 5 (g := (52, [(0, .ref 22), (1, .ref 8), (2, .int l2), (3, .int l3), (4, .int a.1), (5, .int a.2.1)], [.int (lg_cmp ((xlshr (a.2.2.2 22 6) (a.2.2.1 9 a.2.1.toNatClampNeg)) &&& (1 : Int64)) (1 : Int64))], a.2.2)) rfl ?_
        refine xTr.br (g1 := (55, [(0, .ref 22), (1, .ref 8), (2, .int l2), (3, .int l3), (4, .int a.1), (5, .int a.2.1)], [], a.2.2)) (g2 := (66, [(0, .ref 22), (1, .ref 8), (2, .int l2), (3, .int l3), (4, .int a.1), (5, .int a.2.1)], [], a.2.2)) rfl (fun h6 => ?_) (fun h6 => ?_)
        · refine xTr.ms 4 (g := (62, [(0, .ref 22), (1, .ref 8), (2, .int l2), (3, .int l3), (4, .int a.1), (5, .int a.2.1)], [.int (1 : Int32), .int a.2.1, .ref 26], a.2.2)) rfl ?_
          refine xTr.ck (g := (63, [(0, .ref 22), (1, .ref 8), (2, .int l2), (3, .int l3), (4, .int a.1), (5, .int a.2.1)], [], (xu a.2.2 26 a.2.1.toNatClampNeg (1 : Int32)))) rfl (fun h7 => ?_)
          refine xTr.ms 3 (g := (6, [(0, .ref 22), (1, .ref 8), (2, .int l2), (3, .int l3), (4, .int a.1), (5, .int (a.2.1 + (1 : Int32)))], [], (xu a.2.2 26 a.2.1.toNatClampNeg (1 : Int32)))) rfl ?_
          exact xTr.leaf rfl
        · refine xTr.ms 4 (g := (73, [(0, .ref 22), (1, .ref 8), (2, .int l2), (3, .int l3), (4, .int a.1), (5, .int a.2.1)], [.int (0 : Int32), .int a.2.1, .ref 26], a.2.2)) rfl ?_
          refine xTr.ck (g := (74, [(0, .ref 22), (1, .ref 8), (2, .int l2), (3, .int l3), (4, .int a.1), (5, .int a.2.1)], [], (xu a.2.2 26 a.2.1.toNatClampNeg (0 : Int32)))) rfl (fun h8 => ?_)
          refine xTr.ms 4 (g := (82, [(0, .ref 22), (1, .ref 8), (2, .int l2), (3, .int l3), (4, .int a.1), (5, .int a.2.1)], [.int a.2.1, .ref 25, .int a.1], (xu a.2.2 26 a.2.1.toNatClampNeg (0 : Int32)))) rfl ?_
          refine xTr.ck (g := (83, [(0, .ref 22), (1, .ref 8), (2, .int l2), (3, .int l3), (4, .int a.1), (5, .int a.2.1)], [.int (a.2.2.1 25 a.2.1.toNatClampNeg), .int a.1], (xu a.2.2 26 a.2.1.toNatClampNeg (0 : Int32)))) rfl (fun h9 => ?_)
          refine xTr.ms 4 (g := (6, [(0, .ref 22), (1, .ref 8), (2, .int l2), (3, .int l3), (4, .int (a.1 + (a.2.2.1 25 a.2.1.toNatClampNeg))), (5, .int (a.2.1 + (1 : Int32)))], [], (xu a.2.2 26 a.2.1.toNatClampNeg (0 : Int32)))) rfl ?_
          exact xTr.leaf rfl
      · refine xTr.ms 2 (g := (6, [(0, .ref 22), (1, .ref 8), (2, .int l2), (3, .int l3), (4, .int a.1), (5, .int (a.2.1 + (1 : Int32)))], [], a.2.2)) rfl ?_
        exact xTr.leaf rfl
    · refine xTr.ms 2 (g := (6, [(0, .ref 22), (1, .ref 8), (2, .int l2), (3, .int l3), (4, .int a.1), (5, .int (a.2.1 + (1 : Int32)))], [], a.2.2)) rfl ?_
      exact xTr.leaf rfl
set_option maxRecDepth 100000 in
theorem ok_X3_doDeeds_22_8 (l2 : Int32) (l3 : Int32) (s : xS) : xTr xMs xFL xR_X3_doDeeds (Sum.inl (0, [(0, .ref 22), (1, .ref 8), (2, .int l2), (3, .int l3)], [], s)) (F_X3_doDeeds 22 8 l2 l3 s) (fun (y : Int32 × xS) => Sum.inr (some (.int y.1), y.2)) := by
  unfold F_X3_doDeeds
  refine xTr.ms 4 (g := (6, [(0, .ref 22), (1, .ref 8), (2, .int l2), (3, .int l3), (4, .int (0 : Int32)), (5, .int (0 : Int32))], [], s)) rfl ?_
  refine xTr.bind (J := F_X3_doDeeds_L6_ex_22_8 l2 l3) (xTr.loop (hd := F_X3_doDeeds_L6_hd_22_8 l2 l3) (fun aa => F_X3_doDeeds_L6_ok_22_8 l2 l3 aa) 100000 ((0 : Int32), (0 : Int32), s)) (fun b10 => ?_)
  refine xTr.ms 1 (g := (94, [(4, .int b10.1)], [.int b10.1], b10.2)) rfl ?_
  exact xTr.ret rfl rfl rfl
def F_X3_doDeeds_L6_hd_34_27 (l2 : Int32) (l3 : Int32) (a : Int32 × Int32 × xS) : xT := Sum.inl (6, [(0, .ref 34), (1, .ref 27), (2, .int l2), (3, .int l3), (4, .int a.1), (5, .int a.2.1)], [], a.2.2)
def F_X3_doDeeds_L6_ex_34_27 (l2 : Int32) (l3 : Int32) : (Int32 × xS) → xT := (fun (z : Int32 × xS) => Sum.inl (92, [(4, .int z.1)], [], z.2))
set_option maxRecDepth 100000 in
theorem F_X3_doDeeds_L6_ok_34_27 (l2 : Int32) (l3 : Int32) (a : Int32 × Int32 × xS) : xTr xMs xFL xR_X3_doDeeds (F_X3_doDeeds_L6_hd_34_27 l2 l3 a) (F_X3_doDeeds_L6 34 27 l2 l3 a) (xhx (F_X3_doDeeds_L6_hd_34_27 l2 l3) (F_X3_doDeeds_L6_ex_34_27 l2 l3)) := by
  unfold F_X3_doDeeds_L6
  refine xTr.ms 3 (g := (12, [(0, .ref 34), (1, .ref 27), (2, .int l2), (3, .int l3), (4, .int a.1), (5, .int a.2.1)], [.int (a.2.2.1 27 3), .int a.2.1], a.2.2)) rfl ?_
  refine xTr.br (g1 := (92, [(0, .ref 34), (1, .ref 27), (2, .int l2), (3, .int l3), (4, .int a.1), (5, .int a.2.1)], [], a.2.2)) (g2 := (15, [(0, .ref 34), (1, .ref 27), (2, .int l2), (3, .int l3), (4, .int a.1), (5, .int a.2.1)], [], a.2.2)) rfl (fun h1 => ?_) (fun h1 => ?_)
  · refine xTr.mk (lv1 := [(4, .int a.1)]) rfl rfl ?_
    exact xTr.leaf rfl
  · refine xTr.ms 3 (g := (21, [(0, .ref 34), (1, .ref 27), (2, .int l2), (3, .int l3), (4, .int a.1), (5, .int a.2.1)], [.int a.2.1, .ref 30], a.2.2)) rfl ?_
    refine xTr.ck (g := (22, [(0, .ref 34), (1, .ref 27), (2, .int l2), (3, .int l3), (4, .int a.1), (5, .int a.2.1)], [.int (a.2.2.1 30 a.2.1.toNatClampNeg)], a.2.2)) rfl (fun h2 => ?_)
    refine xTr.ms 1 (g := (23, [(0, .ref 34), (1, .ref 27), (2, .int l2), (3, .int l3), (4, .int a.1), (5, .int a.2.1)], [.int l3, .int (a.2.2.1 30 a.2.1.toNatClampNeg)], a.2.2)) rfl ?_
    refine xTr.br (g1 := (26, [(0, .ref 34), (1, .ref 27), (2, .int l2), (3, .int l3), (4, .int a.1), (5, .int a.2.1)], [], a.2.2)) (g2 := (86, [(0, .ref 34), (1, .ref 27), (2, .int l2), (3, .int l3), (4, .int a.1), (5, .int a.2.1)], [], a.2.2)) rfl (fun h3 => ?_) (fun h3 => ?_)
    · refine xTr.ms 6 (g := (33, [(0, .ref 34), (1, .ref 27), (2, .int l2), (3, .int l3), (4, .int a.1), (5, .int a.2.1)], [.int (1 : Int32), .int ((xshr l2 a.2.1) &&& (1 : Int32))], a.2.2)) rfl ?_
      refine xTr.br (g1 := (36, [(0, .ref 34), (1, .ref 27), (2, .int l2), (3, .int l3), (4, .int a.1), (5, .int a.2.1)], [], a.2.2)) (g2 := (86, [(0, .ref 34), (1, .ref 27), (2, .int l2), (3, .int l3), (4, .int a.1), (5, .int a.2.1)], [], a.2.2)) rfl (fun h4 => ?_) (fun h4 => ?_)
      · refine xTr.ms 5 (g := (46, [(0, .ref 34), (1, .ref 27), (2, .int l2), (3, .int l3), (4, .int a.1), (5, .int a.2.1)], [.int a.2.1, .ref 28, .long (a.2.2.2 34 6)], a.2.2)) rfl ?_
        refine xTr.ck (g := (47, [(0, .ref 34), (1, .ref 27), (2, .int l2), (3, .int l3), (4, .int a.1), (5, .int a.2.1)], [.int (a.2.2.1 28 a.2.1.toNatClampNeg), .long (a.2.2.2 34 6)], a.2.2)) rfl (fun h5 => ?_)
        refine xTr.ms 5 (g := (52, [(0, .ref 34), (1, .ref 27), (2, .int l2), (3, .int l3), (4, .int a.1), (5, .int a.2.1)], [.int (lg_cmp ((xlshr (a.2.2.2 34 6) (a.2.2.1 28 a.2.1.toNatClampNeg)) &&& (1 : Int64)) (1 : Int64))], a.2.2)) rfl ?_
        refine xTr.br (g1 := (55, [(0, .ref 34), (1, .ref 27), (2, .int l2), (3, .int l3), (4, .int a.1), (5, .int a.2.1)], [], a.2.2)) (g2 := (66, [(0, .ref 34), (1, .ref 27), (2, .int l2), (3, .int l3), (4, .int a.1), (5, .int a.2.1)], [], a.2.2)) rfl (fun h6 => ?_) (fun h6 => ?_)
        · refine xTr.ms 4 (g := (62, [(0, .ref 34), (1, .ref 27), (2, .int l2), (3, .int l3), (4, .int a.1), (5, .int a.2.1)], [.int (1 : Int32), .int a.2.1, .ref 38], a.2.2)) rfl ?_
          refine xTr.ck (g := (63, [(0, .ref 34), (1, .ref 27), (2, .int l2), (3, .int l3), (4, .int a.1), (5, .int a.2.1)], [], (xu a.2.2 38 a.2.1.toNatClampNeg (1 : Int32)))) rfl (fun h7 => ?_)
          refine xTr.ms 3 (g := (6, [(0, .ref 34), (1, .ref 27), (2, .int l2), (3, .int l3), (4, .int a.1), (5, .int (a.2.1 + (1 : Int32)))], [], (xu a.2.2 38 a.2.1.toNatClampNeg (1 : Int32)))) rfl ?_
          exact xTr.leaf rfl
        · refine xTr.ms 4 (g := (73, [(0, .ref 34), (1, .ref 27), (2, .int l2), (3, .int l3), (4, .int a.1), (5, .int a.2.1)], [.int (0 : Int32), .int a.2.1, .ref 38], a.2.2)) rfl ?_
          refine xTr.ck (g := (74, [(0, .ref 34), (1, .ref 27), (2, .int l2), (3, .int l3), (4, .int a.1), (5, .int a.2.1)], [], (xu a.2.2 38 a.2.1.toNatClampNeg (0 : Int32)))) rfl (fun h8 => ?_)
          refine xTr.ms 4 (g := (82, [(0, .ref 34), (1, .ref 27), (2, .int l2), (3, .int l3), (4, .int a.1), (5, .int a.2.1)], [.int a.2.1, .ref 37, .int a.1], (xu a.2.2 38 a.2.1.toNatClampNeg (0 : Int32)))) rfl ?_
          refine xTr.ck (g := (83, [(0, .ref 34), (1, .ref 27), (2, .int l2), (3, .int l3), (4, .int a.1), (5, .int a.2.1)], [.int (a.2.2.1 37 a.2.1.toNatClampNeg), .int a.1], (xu a.2.2 38 a.2.1.toNatClampNeg (0 : Int32)))) rfl (fun h9 => ?_)
          refine xTr.ms 4 (g := (6, [(0, .ref 34), (1, .ref 27), (2, .int l2), (3, .int l3), (4, .int (a.1 + (a.2.2.1 37 a.2.1.toNatClampNeg))), (5, .int (a.2.1 + (1 : Int32)))], [], (xu a.2.2 38 a.2.1.toNatClampNeg (0 : Int32)))) rfl ?_
          exact xTr.leaf rfl
      · refine xTr.ms 2 (g := (6, [(0, .ref 34), (1, .ref 27), (2, .int l2), (3, .int l3), (4, .int a.1), (5, .int (a.2.1 + (1 : Int32)))], [], a.2.2)) rfl ?_
        exact xTr.leaf rfl
    · refine xTr.ms 2 (g := (6, [(0, .ref 34), (1, .ref 27), (2, .int l2), (3, .int l3), (4, .int a.1), (5, .int (a.2.1 + (1 : Int32)))], [], a.2.2)) rfl ?_
      exact xTr.leaf rfl
set_option maxRecDepth 100000 in
theorem ok_X3_doDeeds_34_27 (l2 : Int32) (l3 : Int32) (s : xS) : xTr xMs xFL xR_X3_doDeeds (Sum.inl (0, [(0, .ref 34), (1, .ref 27), (2, .int l2), (3, .int l3)], [], s)) (F_X3_doDeeds 34 27 l2 l3 s) (fun (y : Int32 × xS) => Sum.inr (some (.int y.1), y.2)) := by
  unfold F_X3_doDeeds
  refine xTr.ms 4 (g := (6, [(0, .ref 34), (1, .ref 27), (2, .int l2), (3, .int l3), (4, .int (0 : Int32)), (5, .int (0 : Int32))], [], s)) rfl ?_
  refine xTr.bind (J := F_X3_doDeeds_L6_ex_34_27 l2 l3) (xTr.loop (hd := F_X3_doDeeds_L6_hd_34_27 l2 l3) (fun aa => F_X3_doDeeds_L6_ok_34_27 l2 l3 aa) 100000 ((0 : Int32), (0 : Int32), s)) (fun b10 => ?_)
  refine xTr.ms 1 (g := (94, [(4, .int b10.1)], [.int b10.1], b10.2)) rfl ?_
  exact xTr.ret rfl rfl rfl
def F_X3_doDeeds_L6_hd_34_8 (l2 : Int32) (l3 : Int32) (a : Int32 × Int32 × xS) : xT := Sum.inl (6, [(0, .ref 34), (1, .ref 8), (2, .int l2), (3, .int l3), (4, .int a.1), (5, .int a.2.1)], [], a.2.2)
def F_X3_doDeeds_L6_ex_34_8 (l2 : Int32) (l3 : Int32) : (Int32 × xS) → xT := (fun (z : Int32 × xS) => Sum.inl (92, [(4, .int z.1)], [], z.2))
set_option maxRecDepth 100000 in
theorem F_X3_doDeeds_L6_ok_34_8 (l2 : Int32) (l3 : Int32) (a : Int32 × Int32 × xS) : xTr xMs xFL xR_X3_doDeeds (F_X3_doDeeds_L6_hd_34_8 l2 l3 a) (F_X3_doDeeds_L6 34 8 l2 l3 a) (xhx (F_X3_doDeeds_L6_hd_34_8 l2 l3) (F_X3_doDeeds_L6_ex_34_8 l2 l3)) := by
  unfold F_X3_doDeeds_L6
  refine xTr.ms 3 (g := (12, [(0, .ref 34), (1, .ref 8), (2, .int l2), (3, .int l3), (4, .int a.1), (5, .int a.2.1)], [.int (a.2.2.1 8 3), .int a.2.1], a.2.2)) rfl ?_
  refine xTr.br (g1 := (92, [(0, .ref 34), (1, .ref 8), (2, .int l2), (3, .int l3), (4, .int a.1), (5, .int a.2.1)], [], a.2.2)) (g2 := (15, [(0, .ref 34), (1, .ref 8), (2, .int l2), (3, .int l3), (4, .int a.1), (5, .int a.2.1)], [], a.2.2)) rfl (fun h1 => ?_) (fun h1 => ?_)
  · refine xTr.mk (lv1 := [(4, .int a.1)]) rfl rfl ?_
    exact xTr.leaf rfl
  · refine xTr.ms 3 (g := (21, [(0, .ref 34), (1, .ref 8), (2, .int l2), (3, .int l3), (4, .int a.1), (5, .int a.2.1)], [.int a.2.1, .ref 11], a.2.2)) rfl ?_
    refine xTr.ck (g := (22, [(0, .ref 34), (1, .ref 8), (2, .int l2), (3, .int l3), (4, .int a.1), (5, .int a.2.1)], [.int (a.2.2.1 11 a.2.1.toNatClampNeg)], a.2.2)) rfl (fun h2 => ?_)
    refine xTr.ms 1 (g := (23, [(0, .ref 34), (1, .ref 8), (2, .int l2), (3, .int l3), (4, .int a.1), (5, .int a.2.1)], [.int l3, .int (a.2.2.1 11 a.2.1.toNatClampNeg)], a.2.2)) rfl ?_
    refine xTr.br (g1 := (26, [(0, .ref 34), (1, .ref 8), (2, .int l2), (3, .int l3), (4, .int a.1), (5, .int a.2.1)], [], a.2.2)) (g2 := (86, [(0, .ref 34), (1, .ref 8), (2, .int l2), (3, .int l3), (4, .int a.1), (5, .int a.2.1)], [], a.2.2)) rfl (fun h3 => ?_) (fun h3 => ?_)
    · refine xTr.ms 6 (g := (33, [(0, .ref 34), (1, .ref 8), (2, .int l2), (3, .int l3), (4, .int a.1), (5, .int a.2.1)], [.int (1 : Int32), .int ((xshr l2 a.2.1) &&& (1 : Int32))], a.2.2)) rfl ?_
      refine xTr.br (g1 := (36, [(0, .ref 34), (1, .ref 8), (2, .int l2), (3, .int l3), (4, .int a.1), (5, .int a.2.1)], [], a.2.2)) (g2 := (86, [(0, .ref 34), (1, .ref 8), (2, .int l2), (3, .int l3), (4, .int a.1), (5, .int a.2.1)], [], a.2.2)) rfl (fun h4 => ?_) (fun h4 => ?_)
      · refine xTr.ms 5 (g := (46, [(0, .ref 34), (1, .ref 8), (2, .int l2), (3, .int l3), (4, .int a.1), (5, .int a.2.1)], [.int a.2.1, .ref 9, .long (a.2.2.2 34 6)], a.2.2)) rfl ?_
        refine xTr.ck (g := (47, [(0, .ref 34), (1, .ref 8), (2, .int l2), (3, .int l3), (4, .int a.1), (5, .int a.2.1)], [.int (a.2.2.1 9 a.2.1.toNatClampNeg), .long (a.2.2.2 34 6)], a.2.2)) rfl (fun h5 => ?_)
        refine xTr.ms 5 (g := (52, [(0, .ref 34), (1, .ref 8), (2, .int l2), (3, .int l3), (4, .int a.1), (5, .int a.2.1)], [.int (lg_cmp ((xlshr (a.2.2.2 34 6) (a.2.2.1 9 a.2.1.toNatClampNeg)) &&& (1 : Int64)) (1 : Int64))], a.2.2)) rfl ?_
        refine xTr.br (g1 := (55, [(0, .ref 34), (1, .ref 8), (2, .int l2), (3, .int l3), (4, .int a.1), (5, .int a.2.1)], [], a.2.2)) (g2 := (66, [(0, .ref 34), (1, .ref 8), (2, .int l2), (3, .int l3), (4, .int a.1), (5, .int a.2.1)], [], a.2.2)) rfl (fun h6 => ?_) (fun h6 => ?_)
        · refine xTr.ms 4 (g := (62, [(0, .ref 34), (1, .ref 8), (2, .int l2), (3, .int l3), (4, .int a.1), (5, .int a.2.1)], [.int (1 : Int32), .int a.2.1, .ref 38], a.2.2)) rfl ?_
          refine xTr.ck (g := (63, [(0, .ref 34), (1, .ref 8), (2, .int l2), (3, .int l3), (4, .int a.1), (5, .int a.2.1)], [], (xu a.2.2 38 a.2.1.toNatClampNeg (1 : Int32)))) rfl (fun h7 => ?_)
          refine xTr.ms 3 (g := (6, [(0, .ref 34), (1, .ref 8), (2, .int l2), (3, .int l3), (4, .int a.1), (5, .int (a.2.1 + (1 : Int32)))], [], (xu a.2.2 38 a.2.1.toNatClampNeg (1 : Int32)))) rfl ?_
          exact xTr.leaf rfl
        · refine xTr.ms 4 (g := (73, [(0, .ref 34), (1, .ref 8), (2, .int l2), (3, .int l3), (4, .int a.1), (5, .int a.2.1)], [.int (0 : Int32), .int a.2.1, .ref 38], a.2.2)) rfl ?_
          refine xTr.ck (g := (74, [(0, .ref 34), (1, .ref 8), (2, .int l2), (3, .int l3), (4, .int a.1), (5, .int a.2.1)], [], (xu a.2.2 38 a.2.1.toNatClampNeg (0 : Int32)))) rfl (fun h8 => ?_)
          refine xTr.ms 4 (g := (82, [(0, .ref 34), (1, .ref 8), (2, .int l2), (3, .int l3), (4, .int a.1), (5, .int a.2.1)], [.int a.2.1, .ref 37, .int a.1], (xu a.2.2 38 a.2.1.toNatClampNeg (0 : Int32)))) rfl ?_
          refine xTr.ck (g := (83, [(0, .ref 34), (1, .ref 8), (2, .int l2), (3, .int l3), (4, .int a.1), (5, .int a.2.1)], [.int (a.2.2.1 37 a.2.1.toNatClampNeg), .int a.1], (xu a.2.2 38 a.2.1.toNatClampNeg (0 : Int32)))) rfl (fun h9 => ?_)
          refine xTr.ms 4 (g := (6, [(0, .ref 34), (1, .ref 8), (2, .int l2), (3, .int l3), (4, .int (a.1 + (a.2.2.1 37 a.2.1.toNatClampNeg))), (5, .int (a.2.1 + (1 : Int32)))], [], (xu a.2.2 38 a.2.1.toNatClampNeg (0 : Int32)))) rfl ?_
          exact xTr.leaf rfl
      · refine xTr.ms 2 (g := (6, [(0, .ref 34), (1, .ref 8), (2, .int l2), (3, .int l3), (4, .int a.1), (5, .int (a.2.1 + (1 : Int32)))], [], a.2.2)) rfl ?_
        exact xTr.leaf rfl
    · refine xTr.ms 2 (g := (6, [(0, .ref 34), (1, .ref 8), (2, .int l2), (3, .int l3), (4, .int a.1), (5, .int (a.2.1 + (1 : Int32)))], [], a.2.2)) rfl ?_
      exact xTr.leaf rfl
set_option maxRecDepth 100000 in
theorem ok_X3_doDeeds_34_8 (l2 : Int32) (l3 : Int32) (s : xS) : xTr xMs xFL xR_X3_doDeeds (Sum.inl (0, [(0, .ref 34), (1, .ref 8), (2, .int l2), (3, .int l3)], [], s)) (F_X3_doDeeds 34 8 l2 l3 s) (fun (y : Int32 × xS) => Sum.inr (some (.int y.1), y.2)) := by
  unfold F_X3_doDeeds
  refine xTr.ms 4 (g := (6, [(0, .ref 34), (1, .ref 8), (2, .int l2), (3, .int l3), (4, .int (0 : Int32)), (5, .int (0 : Int32))], [], s)) rfl ?_
  refine xTr.bind (J := F_X3_doDeeds_L6_ex_34_8 l2 l3) (xTr.loop (hd := F_X3_doDeeds_L6_hd_34_8 l2 l3) (fun aa => F_X3_doDeeds_L6_ok_34_8 l2 l3 aa) 100000 ((0 : Int32), (0 : Int32), s)) (fun b10 => ?_)
  refine xTr.ms 1 (g := (94, [(4, .int b10.1)], [.int b10.1], b10.2)) rfl ?_
  exact xTr.ret rfl rfl rfl
