-- X8_isOutside
def F_X8_isOutside (l0 : Int32) (l1 : Int32) (s : xS) : Option (Int32) := if l0 < 0 then (some (1 : Int32)) else (if l0 < l1 then (some (0 : Int32)) else (some (1 : Int32)))
set_option maxRecDepth 100000 in
theorem ok_X8_isOutside (l0 : Int32) (l1 : Int32) (s : xS) : xTr xMs xFL xR_X8_isOutside (Sum.inl (0, [(0, .int l0), (1, .int l1)], [], s)) (F_X8_isOutside l0 l1 s) (fun (y : Int32) => Sum.inr (some (.int y), s)) := by
  unfold F_X8_isOutside
  refine xTr.ms 1 (g := (1, [(0, .int l0), (1, .int l1)], [.int l0], s)) rfl ?_
  refine xTr.br (g1 := (9, [(0, .int l0), (1, .int l1)], [], s)) (g2 := (4, [(0, .int l0), (1, .int l1)], [], s)) rfl (fun h1 => ?_) (fun h1 => ?_)
  · refine xTr.ms 2 (g := (14, [], [.int (1 : Int32)], s)) rfl ?_
    exact xTr.ret rfl rfl rfl
  · refine xTr.ms 2 (g := (6, [(0, .int l0), (1, .int l1)], [.int l1, .int l0], s)) rfl ?_
    refine xTr.br (g1 := (13, [(0, .int l0), (1, .int l1)], [], s)) (g2 := (9, [(0, .int l0), (1, .int l1)], [], s)) rfl (fun h2 => ?_) (fun h2 => ?_)
    · refine xTr.ms 1 (g := (14, [], [.int (0 : Int32)], s)) rfl ?_
      exact xTr.ret rfl rfl rfl
    · refine xTr.ms 2 (g := (14, [], [.int (1 : Int32)], s)) rfl ?_
      exact xTr.ret rfl rfl rfl
-- X8_textOf
def F_X8_textOf (l1 : Int32) (s : xS) : Option (Nat) := if l1 = 0 then (some 1) else (some 3)
set_option maxRecDepth 100000 in
theorem ok_X8_textOf (l1 : Int32) (s : xS) : xTr xMs xFL xR_X8_textOf (Sum.inl (0, [(0, .ref 0), (1, .int l1)], [], s)) (F_X8_textOf l1 s) (fun (y : Nat) => Sum.inr (some (.ref y), s)) := by
  unfold F_X8_textOf
  refine xTr.ms 1 (g := (1, [(0, .ref 0), (1, .int l1)], [.int l1], s)) rfl ?_
  refine xTr.br (g1 := (4, [(0, .ref 0), (1, .int l1)], [], s)) (g2 := (11, [(0, .ref 0), (1, .int l1)], [], s)) rfl (fun h1 => ?_) (fun h1 => ?_)
  · refine xTr.ms 3 (g := (15, [(0, .ref 0)], [.ref 1], s)) rfl ?_
    exact xTr.ret rfl rfl rfl
  · refine xTr.ms 2 (g := (15, [(0, .ref 0)], [.ref 3], s)) rfl ?_
    exact xTr.ret rfl rfl rfl
theorem F_X8_textOf_1 (l1 : Int32) (s : xS) (h : l1 = 0) : xTr xMs xFL xR_X8_textOf (Sum.inl (0, [(0, .ref 0), (1, .int l1)], [], s)) (some 1) (fun (y : Nat) => Sum.inr (some (.ref y), s)) := by
  have H := ok_X8_textOf l1 s
  unfold F_X8_textOf at H
  rw [if_pos h] at H
  exact H
theorem F_X8_textOf_3 (l1 : Int32) (s : xS) (h : ¬ l1 = 0) : xTr xMs xFL xR_X8_textOf (Sum.inl (0, [(0, .ref 0), (1, .int l1)], [], s)) (some 3) (fun (y : Nat) => Sum.inr (some (.ref y), s)) := by
  have H := ok_X8_textOf l1 s
  unfold F_X8_textOf at H
  rw [if_neg h] at H
  exact H
-- X6_isFull
def F_X6_isFull (p0 : Nat) (s : xS) : Option (Int32) := if (s.1 p0 2) < (s.1 p0 1) then (some (0 : Int32)) else (some (1 : Int32))
set_option maxRecDepth 100000 in
theorem ok_X6_isFull_1 (s : xS) : xTr xMs xFL xR_X6_isFull (Sum.inl (0, [(0, .ref 1)], [], s)) (F_X6_isFull 1 s) (fun (y : Int32) => Sum.inr (some (.int y), s)) := by
  unfold F_X6_isFull
  refine xTr.ms 4 (g := (8, [(0, .ref 1)], [.int (s.1 1 1), .int (s.1 1 2)], s)) rfl ?_
  refine xTr.br (g1 := (15, [(0, .ref 1)], [], s)) (g2 := (11, [(0, .ref 1)], [], s)) rfl (fun h1 => ?_) (fun h1 => ?_)
  · refine xTr.ms 1 (g := (16, [], [.int (0 : Int32)], s)) rfl ?_
    exact xTr.ret rfl rfl rfl
  · refine xTr.ms 2 (g := (16, [], [.int (1 : Int32)], s)) rfl ?_
    exact xTr.ret rfl rfl rfl
set_option maxRecDepth 100000 in
theorem ok_X6_isFull_3 (s : xS) : xTr xMs xFL xR_X6_isFull (Sum.inl (0, [(0, .ref 3)], [], s)) (F_X6_isFull 3 s) (fun (y : Int32) => Sum.inr (some (.int y), s)) := by
  unfold F_X6_isFull
  refine xTr.ms 4 (g := (8, [(0, .ref 3)], [.int (s.1 3 1), .int (s.1 3 2)], s)) rfl ?_
  refine xTr.br (g1 := (15, [(0, .ref 3)], [], s)) (g2 := (11, [(0, .ref 3)], [], s)) rfl (fun h1 => ?_) (fun h1 => ?_)
  · refine xTr.ms 1 (g := (16, [], [.int (0 : Int32)], s)) rfl ?_
    exact xTr.ret rfl rfl rfl
  · refine xTr.ms 2 (g := (16, [], [.int (1 : Int32)], s)) rfl ?_
    exact xTr.ret rfl rfl rfl
-- X6_append
def F_X6_append (p0 : Nat) (l1 : Int32) (s : xS) : Option (xS) := if (s.1 p0 2) < 0 then (some s) else (if (41 : Int32) ≤ (s.1 p0 2) then (some s) else (if (s.1 p0 2) < 0 ∨ 41 ≤ ((s.1 p0 2)).toNatClampNeg then none else (some (xu (xu s (p0 + 1) ((s.1 p0 2)).toNatClampNeg l1) p0 2 ((s.1 p0 2) + (1 : Int32))))))
set_option maxRecDepth 100000 in
theorem ok_X6_append_1 (l1 : Int32) (s : xS) : xTr xMs xFL xR_X6_append (Sum.inl (0, [(0, .ref 1), (1, .int l1)], [], s)) (F_X6_append 1 l1 s) (fun (y : xS) => Sum.inr (none, y)) := by
  unfold F_X6_append
  refine xTr.ms 2 (g := (4, [(0, .ref 1), (1, .int l1)], [.int (s.1 1 2)], s)) rfl ?_
  refine xTr.br (g1 := (39, [(0, .ref 1), (1, .int l1)], [], s)) (g2 := (7, [(0, .ref 1), (1, .int l1)], [], s)) rfl (fun h1 => ?_) (fun h1 => ?_)
  · exact xTr.ret rfl rfl rfl
  · refine xTr.ms 5 (g := (16, [(0, .ref 1), (1, .int l1)], [.int (41 : Int32), .int (s.1 1 2)], s)) rfl ?_
    refine xTr.br (g1 := (39, [(0, .ref 1), (1, .int l1)], [], s)) (g2 := (19, [(0, .ref 1), (1, .int l1)], [], s)) rfl (fun h2 => ?_) (fun h2 => ?_)
    · exact xTr.ret rfl rfl rfl
    · refine xTr.ms 5 (g := (28, [(0, .ref 1), (1, .int l1)], [.int l1, .int (s.1 1 2), .ref 2], s)) rfl ?_
      refine xTr.ck (g := (29, [(0, .ref 1), (1, .int l1)], [], (xu s 2 ((s.1 1 2)).toNatClampNeg l1))) rfl (fun h3 => ?_)
      refine xTr.ms 6 (g := (39, [(0, .ref 1), (1, .int l1)], [], (xu (xu s 2 ((s.1 1 2)).toNatClampNeg l1) 1 2 ((s.1 1 2) + (1 : Int32))))) rfl ?_
      exact xTr.ret rfl rfl rfl
set_option maxRecDepth 100000 in
theorem ok_X6_append_3 (l1 : Int32) (s : xS) : xTr xMs xFL xR_X6_append (Sum.inl (0, [(0, .ref 3), (1, .int l1)], [], s)) (F_X6_append 3 l1 s) (fun (y : xS) => Sum.inr (none, y)) := by
  unfold F_X6_append
  refine xTr.ms 2 (g := (4, [(0, .ref 3), (1, .int l1)], [.int (s.1 3 2)], s)) rfl ?_
  refine xTr.br (g1 := (39, [(0, .ref 3), (1, .int l1)], [], s)) (g2 := (7, [(0, .ref 3), (1, .int l1)], [], s)) rfl (fun h1 => ?_) (fun h1 => ?_)
  · exact xTr.ret rfl rfl rfl
  · refine xTr.ms 5 (g := (16, [(0, .ref 3), (1, .int l1)], [.int (41 : Int32), .int (s.1 3 2)], s)) rfl ?_
    refine xTr.br (g1 := (39, [(0, .ref 3), (1, .int l1)], [], s)) (g2 := (19, [(0, .ref 3), (1, .int l1)], [], s)) rfl (fun h2 => ?_) (fun h2 => ?_)
    · exact xTr.ret rfl rfl rfl
    · refine xTr.ms 5 (g := (28, [(0, .ref 3), (1, .int l1)], [.int l1, .int (s.1 3 2), .ref 4], s)) rfl ?_
      refine xTr.ck (g := (29, [(0, .ref 3), (1, .int l1)], [], (xu s 4 ((s.1 3 2)).toNatClampNeg l1))) rfl (fun h3 => ?_)
      refine xTr.ms 6 (g := (39, [(0, .ref 3), (1, .int l1)], [], (xu (xu s 4 ((s.1 3 2)).toNatClampNeg l1) 3 2 ((s.1 3 2) + (1 : Int32))))) rfl ?_
      exact xTr.ret rfl rfl rfl
-- X7_empty
def F_X7_empty (s : xS) : Option (xS) := some (xu (xu (xu s 5 2 (0 : Int32)) 5 3 (0 : Int32)) 5 4 (-1 : Int32))
set_option maxRecDepth 100000 in
theorem ok_X7_empty (s : xS) : xTr xMs xFL xR_X7_empty (Sum.inl (0, [(0, .ref 5)], [], s)) (F_X7_empty s) (fun (y : xS) => Sum.inr (none, y)) := by
  unfold F_X7_empty
  refine xTr.ms 9 (g := (15, [(0, .ref 5)], [], (xu (xu (xu s 5 2 (0 : Int32)) 5 3 (0 : Int32)) 5 4 (-1 : Int32)))) rfl ?_
  exact xTr.ret rfl rfl rfl
-- X7_isTooShort
def F_X7_isTooShort (l1 : Int32) (s : xS) : Option (Int32) := if l1 = 0 then (some (1 : Int32)) else (if (s.1 5 3) ≤ l1 then (some (0 : Int32)) else (some (1 : Int32)))
set_option maxRecDepth 100000 in
theorem ok_X7_isTooShort (l1 : Int32) (s : xS) : xTr xMs xFL xR_X7_isTooShort (Sum.inl (0, [(0, .ref 5), (1, .int l1)], [], s)) (F_X7_isTooShort l1 s) (fun (y : Int32) => Sum.inr (some (.int y), s)) := by
  unfold F_X7_isTooShort
  refine xTr.ms 1 (g := (1, [(0, .ref 5), (1, .int l1)], [.int l1], s)) rfl ?_
  refine xTr.br (g1 := (12, [(0, .ref 5), (1, .int l1)], [], s)) (g2 := (4, [(0, .ref 5), (1, .int l1)], [], s)) rfl (fun h1 => ?_) (fun h1 => ?_)
  · refine xTr.ms 2 (g := (17, [], [.int (1 : Int32)], s)) rfl ?_
    exact xTr.ret rfl rfl rfl
  · refine xTr.ms 3 (g := (9, [(0, .ref 5), (1, .int l1)], [.int (s.1 5 3), .int l1], s)) rfl ?_
    refine xTr.br (g1 := (16, [(0, .ref 5), (1, .int l1)], [], s)) (g2 := (12, [(0, .ref 5), (1, .int l1)], [], s)) rfl (fun h2 => ?_) (fun h2 => ?_)
    · refine xTr.ms 1 (g := (17, [], [.int (0 : Int32)], s)) rfl ?_
      exact xTr.ret rfl rfl rfl
    · refine xTr.ms 2 (g := (17, [], [.int (1 : Int32)], s)) rfl ?_
      exact xTr.ret rfl rfl rfl
-- J0_isLatin1_aae02
def F_J0_isLatin1_aae02 (p0 : Nat) (s : xS) : Option (Int32) := some (1 : Int32)
set_option maxRecDepth 100000 in
theorem ok_J0_isLatin1_aae02_1002 (s : xS) : xTr xMs xFL xR_J0_isLatin1_aae02 (Sum.inl (0, [(0, .ref 1002)], [], s)) (F_J0_isLatin1_aae02 1002 s) (fun (y : Int32) => Sum.inr (some (.int y), s)) := by
  unfold F_J0_isLatin1_aae02
  refine xTr.ms 7 (g := (18, [], [.int (1 : Int32)], s)) rfl ?_
  exact xTr.ret rfl rfl rfl
set_option maxRecDepth 100000 in
theorem ok_J0_isLatin1_aae02_1003 (s : xS) : xTr xMs xFL xR_J0_isLatin1_aae02 (Sum.inl (0, [(0, .ref 1003)], [], s)) (F_J0_isLatin1_aae02 1003 s) (fun (y : Int32) => Sum.inr (some (.int y), s)) := by
  unfold F_J0_isLatin1_aae02
  refine xTr.ms 7 (g := (18, [], [.int (1 : Int32)], s)) rfl ?_
  exact xTr.ret rfl rfl rfl
-- J0_coder_7d493
def F_J0_coder_7d493 (p0 : Nat) (s : xS) : Option (Int32) := some (0 : Int32)
set_option maxRecDepth 100000 in
theorem ok_J0_coder_7d493_1002 (s : xS) : xTr xMs xFL xR_J0_coder_7d493 (Sum.inl (0, [(0, .ref 1002)], [], s)) (F_J0_coder_7d493 1002 s) (fun (y : Int32) => Sum.inr (some (.int y), s)) := by
  unfold F_J0_coder_7d493
  refine xTr.ms 5 (g := (14, [(0, .ref 1002)], [.int (0 : Int32)], s)) rfl ?_
  exact xTr.ret rfl rfl rfl
set_option maxRecDepth 100000 in
theorem ok_J0_coder_7d493_1003 (s : xS) : xTr xMs xFL xR_J0_coder_7d493 (Sum.inl (0, [(0, .ref 1003)], [], s)) (F_J0_coder_7d493 1003 s) (fun (y : Int32) => Sum.inr (some (.int y), s)) := by
  unfold F_J0_coder_7d493
  refine xTr.ms 5 (g := (14, [(0, .ref 1003)], [.int (0 : Int32)], s)) rfl ?_
  exact xTr.ret rfl rfl rfl
-- J0_length_8abf5
def F_J0_length_8abf5 (p0 : Nat) (s : xS) : Option (Int32) := (F_J0_coder_7d493 p0 s).bind fun v1 => (some (xshr (4 : Int32) v1))
set_option maxRecDepth 100000 in
theorem ok_J0_length_8abf5_1002 (s : xS) : xTr xMs xFL xR_J0_length_8abf5 (Sum.inl (0, [(0, .ref 1002)], [], s)) (F_J0_length_8abf5 1002 s) (fun (y : Int32) => Sum.inr (some (.int y), s)) := by
  unfold F_J0_length_8abf5
  refine xTr.ms 4 (g := (6, [(0, .ref 1002)], [.ref 1002, .int (4 : Int32)], s)) rfl ?_
  refine xTr.callip (R' := xR_J0_coder_7d493) (as := [.ref 1002]) (lv := [(0, .ref 1002)]) (rest := [.int (4 : Int32)]) (ok_J0_coder_7d493_1002 s) rfl rfl rfl rfl rfl (fun v1 => ?_)
  refine xTr.ms 1 (g := (10, [(0, .ref 1002)], [.int (xshr (4 : Int32) v1)], s)) rfl ?_
  exact xTr.ret rfl rfl rfl
set_option maxRecDepth 100000 in
theorem ok_J0_length_8abf5_1003 (s : xS) : xTr xMs xFL xR_J0_length_8abf5 (Sum.inl (0, [(0, .ref 1003)], [], s)) (F_J0_length_8abf5 1003 s) (fun (y : Int32) => Sum.inr (some (.int y), s)) := by
  unfold F_J0_length_8abf5
  refine xTr.ms 4 (g := (6, [(0, .ref 1003)], [.ref 1003, .int (4 : Int32)], s)) rfl ?_
  refine xTr.callip (R' := xR_J0_coder_7d493) (as := [.ref 1003]) (lv := [(0, .ref 1003)]) (rest := [.int (4 : Int32)]) (ok_J0_coder_7d493_1003 s) rfl rfl rfl rfl rfl (fun v1 => ?_)
  refine xTr.ms 1 (g := (10, [(0, .ref 1003)], [.int (xshr (4 : Int32) v1)], s)) rfl ?_
  exact xTr.ret rfl rfl rfl
-- J1_canEncode_9a6ad
def F_J1_canEncode_9a6ad (l0 : Int32) (s : xS) : Option (Int32) := if l0 < 0 then (some (0 : Int32)) else (if (255 : Int32) < l0 then (some (0 : Int32)) else (some (1 : Int32)))
set_option maxRecDepth 100000 in
theorem ok_J1_canEncode_9a6ad (l0 : Int32) (s : xS) : xTr xMs xFL xR_J1_canEncode_9a6ad (Sum.inl (0, [(0, .int l0)], [], s)) (F_J1_canEncode_9a6ad l0 s) (fun (y : Int32) => Sum.inr (some (.int y), s)) := by
  unfold F_J1_canEncode_9a6ad
  refine xTr.ms 1 (g := (1, [(0, .int l0)], [.int l0], s)) rfl ?_
  refine xTr.br (g1 := (15, [(0, .int l0)], [], s)) (g2 := (4, [(0, .int l0)], [], s)) rfl (fun h1 => ?_) (fun h1 => ?_)
  · refine xTr.ms 1 (g := (16, [], [.int (0 : Int32)], s)) rfl ?_
    exact xTr.ret rfl rfl rfl
  · refine xTr.ms 2 (g := (8, [(0, .int l0)], [.int (255 : Int32), .int l0], s)) rfl ?_
    refine xTr.br (g1 := (15, [(0, .int l0)], [], s)) (g2 := (11, [(0, .int l0)], [], s)) rfl (fun h2 => ?_) (fun h2 => ?_)
    · refine xTr.ms 1 (g := (16, [], [.int (0 : Int32)], s)) rfl ?_
      exact xTr.ret rfl rfl rfl
    · refine xTr.ms 2 (g := (16, [], [.int (1 : Int32)], s)) rfl ?_
      exact xTr.ret rfl rfl rfl
-- J1_indexOfChar_4cfef
def F_J1_indexOfChar_4cfef_L7 (p0 : Nat) (l3 : Int32) (l4 : Int32) (s : xS) (a : Int32) : Option ((Int32) ⊕ ((Int32) ⊕ (Unit))) := if l3 ≤ a then (some (Sum.inr (Sum.inr ()))) else (if a < 0 ∨ 4 ≤ a.toNatClampNeg then none else (if (xra p0 a.toNatClampNeg) = l4 then (some (Sum.inr (Sum.inl a))) else (some (Sum.inl (a + (1 : Int32))))))
def F_J1_indexOfChar_4cfef (p0 : Nat) (l1 : Int32) (l2 : Int32) (l3 : Int32) (s : xS) : Option (Int32) := (xlp (F_J1_indexOfChar_4cfef_L7 p0 l3 (l1).toInt8.toInt32 s) 100000 l2).bind (Sum.elim (fun b4_0 => (some b4_0)) (fun b4_1 => (some (-1 : Int32))))
def F_J1_indexOfChar_4cfef_L7_hd_1004 (l3 : Int32) (l4 : Int32) (s : xS) (a : Int32) : xT := Sum.inl (7, [(0, .ref 1004), (3, .int l3), (4, .int l4), (5, .int a)], [], s)
def F_J1_indexOfChar_4cfef_L7_ex_1004 (l3 : Int32) (l4 : Int32) (s : xS) : ((Int32) ⊕ (Unit)) → xT := (Sum.elim (fun (z : Int32) => Sum.inl (22, [(5, .int z)], [], s)) (fun (z : Unit) => Sum.inl (31, [], [], s)))
set_option maxRecDepth 100000 in
theorem F_J1_indexOfChar_4cfef_L7_ok_1004 (l3 : Int32) (l4 : Int32) (s : xS) (a : Int32) : xTr xMs xFL xR_J1_indexOfChar_4cfef (F_J1_indexOfChar_4cfef_L7_hd_1004 l3 l4 s a) (F_J1_indexOfChar_4cfef_L7 1004 l3 l4 s a) (xhx (F_J1_indexOfChar_4cfef_L7_hd_1004 l3 l4 s) (F_J1_indexOfChar_4cfef_L7_ex_1004 l3 l4 s)) := by
  unfold F_J1_indexOfChar_4cfef_L7
  refine xTr.ms 2 (g := (10, [(0, .ref 1004), (3, .int l3), (4, .int l4), (5, .int a)], [.int l3, .int a], s)) rfl ?_
  refine xTr.br (g1 := (31, [(0, .ref 1004), (3, .int l3), (4, .int l4), (5, .int a)], [], s)) (g2 := (13, [(0, .ref 1004), (3, .int l3), (4, .int l4), (5, .int a)], [], s)) rfl (fun h1 => ?_) (fun h1 => ?_)
  · refine xTr.mk (lv1 := []) rfl rfl ?_
    exact xTr.leaf rfl
  · refine xTr.ms 2 (g := (16, [(0, .ref 1004), (3, .int l3), (4, .int l4), (5, .int a)], [.int a, .ref 1004], s)) rfl ?_
    refine xTr.ck (g := (17, [(0, .ref 1004), (3, .int l3), (4, .int l4), (5, .int a)], [.int (xra 1004 a.toNatClampNeg)], s)) rfl (fun h2 => ?_)
    refine xTr.ms 1 (g := (19, [(0, .ref 1004), (3, .int l3), (4, .int l4), (5, .int a)], [.int l4, .int (xra 1004 a.toNatClampNeg)], s)) rfl ?_
    refine xTr.br (g1 := (22, [(0, .ref 1004), (3, .int l3), (4, .int l4), (5, .int a)], [], s)) (g2 := (25, [(0, .ref 1004), (3, .int l3), (4, .int l4), (5, .int a)], [], s)) rfl (fun h3 => ?_) (fun h3 => ?_)
    · refine xTr.mk (lv1 := [(5, .int a)]) rfl rfl ?_
      exact xTr.leaf rfl
    · refine xTr.ms 2 (g := (7, [(0, .ref 1004), (3, .int l3), (4, .int l4), (5, .int (a + (1 : Int32)))], [], s)) rfl ?_
      exact xTr.leaf rfl
set_option maxRecDepth 100000 in
theorem ok_J1_indexOfChar_4cfef_1004 (l1 : Int32) (l2 : Int32) (l3 : Int32) (s : xS) : xTr xMs xFL xR_J1_indexOfChar_4cfef (Sum.inl (0, [(0, .ref 1004), (1, .int l1), (2, .int l2), (3, .int l3)], [], s)) (F_J1_indexOfChar_4cfef 1004 l1 l2 l3 s) (fun (y : Int32) => Sum.inr (some (.int y), s)) := by
  unfold F_J1_indexOfChar_4cfef
  refine xTr.ms 5 (g := (7, [(0, .ref 1004), (1, .int l1), (2, .int l2), (3, .int l3), (4, .int (l1).toInt8.toInt32), (5, .int l2)], [], s)) rfl ?_
  refine xTr.mk (lv1 := [(0, .ref 1004), (3, .int l3), (4, .int (l1).toInt8.toInt32), (5, .int l2)]) rfl rfl ?_
  refine xTr.bind (J := F_J1_indexOfChar_4cfef_L7_ex_1004 l3 (l1).toInt8.toInt32 s) (xTr.loop (hd := F_J1_indexOfChar_4cfef_L7_hd_1004 l3 (l1).toInt8.toInt32 s) (fun aa => F_J1_indexOfChar_4cfef_L7_ok_1004 l3 (l1).toInt8.toInt32 s aa) 100000 l2) (fun b4 => ?_)
  rcases b4 with b4_0 | b4_1
  · refine xTr.ms 1 (g := (24, [(5, .int b4_0)], [.int b4_0], s)) rfl ?_
    exact xTr.ret rfl rfl rfl
  · refine xTr.ms 1 (g := (32, [], [.int (-1 : Int32)], s)) rfl ?_
    exact xTr.ret rfl rfl rfl
def F_J1_indexOfChar_4cfef_L7_hd_1005 (l3 : Int32) (l4 : Int32) (s : xS) (a : Int32) : xT := Sum.inl (7, [(0, .ref 1005), (3, .int l3), (4, .int l4), (5, .int a)], [], s)
def F_J1_indexOfChar_4cfef_L7_ex_1005 (l3 : Int32) (l4 : Int32) (s : xS) : ((Int32) ⊕ (Unit)) → xT := (Sum.elim (fun (z : Int32) => Sum.inl (22, [(5, .int z)], [], s)) (fun (z : Unit) => Sum.inl (31, [], [], s)))
set_option maxRecDepth 100000 in
theorem F_J1_indexOfChar_4cfef_L7_ok_1005 (l3 : Int32) (l4 : Int32) (s : xS) (a : Int32) : xTr xMs xFL xR_J1_indexOfChar_4cfef (F_J1_indexOfChar_4cfef_L7_hd_1005 l3 l4 s a) (F_J1_indexOfChar_4cfef_L7 1005 l3 l4 s a) (xhx (F_J1_indexOfChar_4cfef_L7_hd_1005 l3 l4 s) (F_J1_indexOfChar_4cfef_L7_ex_1005 l3 l4 s)) := by
  unfold F_J1_indexOfChar_4cfef_L7
  refine xTr.ms 2 (g := (10, [(0, .ref 1005), (3, .int l3), (4, .int l4), (5, .int a)], [.int l3, .int a], s)) rfl ?_
  refine xTr.br (g1 := (31, [(0, .ref 1005), (3, .int l3), (4, .int l4), (5, .int a)], [], s)) (g2 := (13, [(0, .ref 1005), (3, .int l3), (4, .int l4), (5, .int a)], [], s)) rfl (fun h1 => ?_) (fun h1 => ?_)
  · refine xTr.mk (lv1 := []) rfl rfl ?_
    exact xTr.leaf rfl
  · refine xTr.ms 2 (g := (16, [(0, .ref 1005), (3, .int l3), (4, .int l4), (5, .int a)], [.int a, .ref 1005], s)) rfl ?_
    refine xTr.ck (g := (17, [(0, .ref 1005), (3, .int l3), (4, .int l4), (5, .int a)], [.int (xra 1005 a.toNatClampNeg)], s)) rfl (fun h2 => ?_)
    refine xTr.ms 1 (g := (19, [(0, .ref 1005), (3, .int l3), (4, .int l4), (5, .int a)], [.int l4, .int (xra 1005 a.toNatClampNeg)], s)) rfl ?_
    refine xTr.br (g1 := (22, [(0, .ref 1005), (3, .int l3), (4, .int l4), (5, .int a)], [], s)) (g2 := (25, [(0, .ref 1005), (3, .int l3), (4, .int l4), (5, .int a)], [], s)) rfl (fun h3 => ?_) (fun h3 => ?_)
    · refine xTr.mk (lv1 := [(5, .int a)]) rfl rfl ?_
      exact xTr.leaf rfl
    · refine xTr.ms 2 (g := (7, [(0, .ref 1005), (3, .int l3), (4, .int l4), (5, .int (a + (1 : Int32)))], [], s)) rfl ?_
      exact xTr.leaf rfl
set_option maxRecDepth 100000 in
theorem ok_J1_indexOfChar_4cfef_1005 (l1 : Int32) (l2 : Int32) (l3 : Int32) (s : xS) : xTr xMs xFL xR_J1_indexOfChar_4cfef (Sum.inl (0, [(0, .ref 1005), (1, .int l1), (2, .int l2), (3, .int l3)], [], s)) (F_J1_indexOfChar_4cfef 1005 l1 l2 l3 s) (fun (y : Int32) => Sum.inr (some (.int y), s)) := by
  unfold F_J1_indexOfChar_4cfef
  refine xTr.ms 5 (g := (7, [(0, .ref 1005), (1, .int l1), (2, .int l2), (3, .int l3), (4, .int (l1).toInt8.toInt32), (5, .int l2)], [], s)) rfl ?_
  refine xTr.mk (lv1 := [(0, .ref 1005), (3, .int l3), (4, .int (l1).toInt8.toInt32), (5, .int l2)]) rfl rfl ?_
  refine xTr.bind (J := F_J1_indexOfChar_4cfef_L7_ex_1005 l3 (l1).toInt8.toInt32 s) (xTr.loop (hd := F_J1_indexOfChar_4cfef_L7_hd_1005 l3 (l1).toInt8.toInt32 s) (fun aa => F_J1_indexOfChar_4cfef_L7_ok_1005 l3 (l1).toInt8.toInt32 s aa) 100000 l2) (fun b4 => ?_)
  rcases b4 with b4_0 | b4_1
  · refine xTr.ms 1 (g := (24, [(5, .int b4_0)], [.int b4_0], s)) rfl ?_
    exact xTr.ret rfl rfl rfl
  · refine xTr.ms 1 (g := (32, [], [.int (-1 : Int32)], s)) rfl ?_
    exact xTr.ret rfl rfl rfl
-- J1_indexOf_4cfef
def F_J1_indexOf_4cfef (p0 : Nat) (l1 : Int32) (l2 : Int32) (l3 : Int32) (s : xS) : Option (Int32) := (F_J1_canEncode_9a6ad l1 s).bind fun v1 => (if v1 = 0 then (some (-1 : Int32)) else (if (if l2 < (0 : Int32) then (0 : Int32) else l2) < (if (4 : Int32) < l3 then (4 : Int32) else l3) then ((F_J1_indexOfChar_4cfef p0 l1 (if l2 < (0 : Int32) then (0 : Int32) else l2) (if (4 : Int32) < l3 then (4 : Int32) else l3) s).bind fun v4 => (some v4)) else (some (-1 : Int32))))
set_option maxRecDepth 100000 in
theorem ok_J1_indexOf_4cfef_1004 (l1 : Int32) (l2 : Int32) (l3 : Int32) (s : xS) : xTr xMs xFL xR_J1_indexOf_4cfef (Sum.inl (0, [(0, .ref 1004), (1, .int l1), (2, .int l2), (3, .int l3)], [], s)) (F_J1_indexOf_4cfef 1004 l1 l2 l3 s) (fun (y : Int32) => Sum.inr (some (.int y), s)) := by
  unfold F_J1_indexOf_4cfef
  refine xTr.ms 1 (g := (1, [(0, .ref 1004), (1, .int l1), (2, .int l2), (3, .int l3)], [.int l1], s)) rfl ?_
  refine xTr.callip (R' := xR_J1_canEncode_9a6ad) (as := [.int l1]) (lv := [(0, .ref 1004), (1, .int l1), (2, .int l2), (3, .int l3)]) (rest := []) (ok_J1_canEncode_9a6ad l1 s) rfl rfl rfl rfl rfl (fun v1 => ?_)
  refine xTr.br (g1 := (7, [(0, .ref 1004), (1, .int l1), (2, .int l2), (3, .int l3)], [], s)) (g2 := (9, [(0, .ref 1004), (1, .int l1), (2, .int l2), (3, .int l3)], [], s)) rfl (fun h2 => ?_) (fun h2 => ?_)
  · refine xTr.ms 1 (g := (8, [], [.int (-1 : Int32)], s)) rfl ?_
    exact xTr.ret rfl rfl rfl
  · refine xTr.ms 11 (g := (24, [(0, .ref 1004), (1, .int l1), (2, .int (if l2 < (0 : Int32) then (0 : Int32) else l2)), (3, .int (if (4 : Int32) < l3 then (4 : Int32) else l3))], [.int (if (4 : Int32) < l3 then (4 : Int32) else l3), .int (if l2 < (0 : Int32) then (0 : Int32) else l2)], s)) rfl ?_
    refine xTr.br (g1 := (29, [(0, .ref 1004), (1, .int l1), (2, .int (if l2 < (0 : Int32) then (0 : Int32) else l2)), (3, .int (if (4 : Int32) < l3 then (4 : Int32) else l3))], [], s)) (g2 := (27, [(0, .ref 1004), (1, .int l1), (2, .int (if l2 < (0 : Int32) then (0 : Int32) else l2)), (3, .int (if (4 : Int32) < l3 then (4 : Int32) else l3))], [], s)) rfl (fun h3 => ?_) (fun h3 => ?_)
    · refine xTr.ms 4 (g := (33, [(0, .ref 1004), (1, .int l1), (2, .int (if l2 < (0 : Int32) then (0 : Int32) else l2)), (3, .int (if (4 : Int32) < l3 then (4 : Int32) else l3))], [.int (if (4 : Int32) < l3 then (4 : Int32) else l3), .int (if l2 < (0 : Int32) then (0 : Int32) else l2), .int l1, .ref 1004], s)) rfl ?_
      refine xTr.callip (R' := xR_J1_indexOfChar_4cfef) (as := [.ref 1004, .int l1, .int (if l2 < (0 : Int32) then (0 : Int32) else l2), .int (if (4 : Int32) < l3 then (4 : Int32) else l3)]) (lv := [(0, .ref 1004), (1, .int l1), (2, .int (if l2 < (0 : Int32) then (0 : Int32) else l2)), (3, .int (if (4 : Int32) < l3 then (4 : Int32) else l3))]) (rest := []) (ok_J1_indexOfChar_4cfef_1004 l1 (if l2 < (0 : Int32) then (0 : Int32) else l2) (if (4 : Int32) < l3 then (4 : Int32) else l3) s) rfl rfl rfl rfl rfl (fun v4 => ?_)
      exact xTr.ret rfl rfl rfl
    · refine xTr.ms 1 (g := (28, [], [.int (-1 : Int32)], s)) rfl ?_
      exact xTr.ret rfl rfl rfl
set_option maxRecDepth 100000 in
theorem ok_J1_indexOf_4cfef_1005 (l1 : Int32) (l2 : Int32) (l3 : Int32) (s : xS) : xTr xMs xFL xR_J1_indexOf_4cfef (Sum.inl (0, [(0, .ref 1005), (1, .int l1), (2, .int l2), (3, .int l3)], [], s)) (F_J1_indexOf_4cfef 1005 l1 l2 l3 s) (fun (y : Int32) => Sum.inr (some (.int y), s)) := by
  unfold F_J1_indexOf_4cfef
  refine xTr.ms 1 (g := (1, [(0, .ref 1005), (1, .int l1), (2, .int l2), (3, .int l3)], [.int l1], s)) rfl ?_
  refine xTr.callip (R' := xR_J1_canEncode_9a6ad) (as := [.int l1]) (lv := [(0, .ref 1005), (1, .int l1), (2, .int l2), (3, .int l3)]) (rest := []) (ok_J1_canEncode_9a6ad l1 s) rfl rfl rfl rfl rfl (fun v1 => ?_)
  refine xTr.br (g1 := (7, [(0, .ref 1005), (1, .int l1), (2, .int l2), (3, .int l3)], [], s)) (g2 := (9, [(0, .ref 1005), (1, .int l1), (2, .int l2), (3, .int l3)], [], s)) rfl (fun h2 => ?_) (fun h2 => ?_)
  · refine xTr.ms 1 (g := (8, [], [.int (-1 : Int32)], s)) rfl ?_
    exact xTr.ret rfl rfl rfl
  · refine xTr.ms 11 (g := (24, [(0, .ref 1005), (1, .int l1), (2, .int (if l2 < (0 : Int32) then (0 : Int32) else l2)), (3, .int (if (4 : Int32) < l3 then (4 : Int32) else l3))], [.int (if (4 : Int32) < l3 then (4 : Int32) else l3), .int (if l2 < (0 : Int32) then (0 : Int32) else l2)], s)) rfl ?_
    refine xTr.br (g1 := (29, [(0, .ref 1005), (1, .int l1), (2, .int (if l2 < (0 : Int32) then (0 : Int32) else l2)), (3, .int (if (4 : Int32) < l3 then (4 : Int32) else l3))], [], s)) (g2 := (27, [(0, .ref 1005), (1, .int l1), (2, .int (if l2 < (0 : Int32) then (0 : Int32) else l2)), (3, .int (if (4 : Int32) < l3 then (4 : Int32) else l3))], [], s)) rfl (fun h3 => ?_) (fun h3 => ?_)
    · refine xTr.ms 4 (g := (33, [(0, .ref 1005), (1, .int l1), (2, .int (if l2 < (0 : Int32) then (0 : Int32) else l2)), (3, .int (if (4 : Int32) < l3 then (4 : Int32) else l3))], [.int (if (4 : Int32) < l3 then (4 : Int32) else l3), .int (if l2 < (0 : Int32) then (0 : Int32) else l2), .int l1, .ref 1005], s)) rfl ?_
      refine xTr.callip (R' := xR_J1_indexOfChar_4cfef) (as := [.ref 1005, .int l1, .int (if l2 < (0 : Int32) then (0 : Int32) else l2), .int (if (4 : Int32) < l3 then (4 : Int32) else l3)]) (lv := [(0, .ref 1005), (1, .int l1), (2, .int (if l2 < (0 : Int32) then (0 : Int32) else l2)), (3, .int (if (4 : Int32) < l3 then (4 : Int32) else l3))]) (rest := []) (ok_J1_indexOfChar_4cfef_1005 l1 (if l2 < (0 : Int32) then (0 : Int32) else l2) (if (4 : Int32) < l3 then (4 : Int32) else l3) s) rfl rfl rfl rfl rfl (fun v4 => ?_)
      exact xTr.ret rfl rfl rfl
    · refine xTr.ms 1 (g := (28, [], [.int (-1 : Int32)], s)) rfl ?_
      exact xTr.ret rfl rfl rfl
-- J0_indexOf_7cf53
def F_J0_indexOf_7cf53 (p0 : Nat) (l1 : Int32) (l2 : Int32) (s : xS) : Option (Int32) := (F_J0_isLatin1_aae02 p0 s).bind fun v1 => (if v1 = 0 then ((F_J0_length_8abf5 p0 s).bind fun v3 => (none)) else ((F_J0_length_8abf5 p0 s).bind fun v4 => ((F_J1_indexOf_4cfef (p0 + 2) l1 l2 v4 s).bind fun v5 => (some v5))))
set_option maxRecDepth 100000 in
theorem ok_J0_indexOf_7cf53_1002 (l1 : Int32) (l2 : Int32) (s : xS) : xTr xMs xFL xR_J0_indexOf_7cf53 (Sum.inl (0, [(0, .ref 1002), (1, .int l1), (2, .int l2)], [], s)) (F_J0_indexOf_7cf53 1002 l1 l2 s) (fun (y : Int32) => Sum.inr (some (.int y), s)) := by
  unfold F_J0_indexOf_7cf53
  refine xTr.ms 1 (g := (1, [(0, .ref 1002), (1, .int l1), (2, .int l2)], [.ref 1002], s)) rfl ?_
  refine xTr.callip (R' := xR_J0_isLatin1_aae02) (as := [.ref 1002]) (lv := [(0, .ref 1002), (1, .int l1), (2, .int l2)]) (rest := []) (ok_J0_isLatin1_aae02_1002 s) rfl rfl rfl rfl rfl (fun v1 => ?_)
  refine xTr.br (g1 := (23, [(0, .ref 1002), (1, .int l1), (2, .int l2)], [], s)) (g2 := (7, [(0, .ref 1002), (1, .int l1), (2, .int l2)], [], s)) rfl (fun h2 => ?_) (fun h2 => ?_)
  · refine xTr.ms 5 (g := (30, [(0, .ref 1002), (1, .int l1), (2, .int l2)], [.ref 1002, .int l2, .int l1, .ref 1004], s)) rfl ?_
    refine xTr.callip (R' := xR_J0_length_8abf5) (as := [.ref 1002]) (lv := [(0, .ref 1002), (1, .int l1), (2, .int l2)]) (rest := [.int l2, .int l1, .ref 1004]) (ok_J0_length_8abf5_1002 s) rfl rfl rfl rfl rfl (fun v3 => ?_)
    exact xTr.none
  · refine xTr.ms 5 (g := (14, [(0, .ref 1002), (1, .int l1), (2, .int l2)], [.ref 1002, .int l2, .int l1, .ref 1004], s)) rfl ?_
    refine xTr.callip (R' := xR_J0_length_8abf5) (as := [.ref 1002]) (lv := [(0, .ref 1002), (1, .int l1), (2, .int l2)]) (rest := [.int l2, .int l1, .ref 1004]) (ok_J0_length_8abf5_1002 s) rfl rfl rfl rfl rfl (fun v4 => ?_)
    refine xTr.callip (R' := xR_J1_indexOf_4cfef) (as := [.ref 1004, .int l1, .int l2, .int v4]) (lv := [(0, .ref 1002), (1, .int l1), (2, .int l2)]) (rest := []) (ok_J1_indexOf_4cfef_1004 l1 l2 v4 s) rfl rfl rfl rfl rfl (fun v5 => ?_)
    refine xTr.ms 1 (g := (36, [(0, .ref 1002), (1, .int l1), (2, .int l2)], [.int v5], s)) rfl ?_
    exact xTr.ret rfl rfl rfl
set_option maxRecDepth 100000 in
theorem ok_J0_indexOf_7cf53_1003 (l1 : Int32) (l2 : Int32) (s : xS) : xTr xMs xFL xR_J0_indexOf_7cf53 (Sum.inl (0, [(0, .ref 1003), (1, .int l1), (2, .int l2)], [], s)) (F_J0_indexOf_7cf53 1003 l1 l2 s) (fun (y : Int32) => Sum.inr (some (.int y), s)) := by
  unfold F_J0_indexOf_7cf53
  refine xTr.ms 1 (g := (1, [(0, .ref 1003), (1, .int l1), (2, .int l2)], [.ref 1003], s)) rfl ?_
  refine xTr.callip (R' := xR_J0_isLatin1_aae02) (as := [.ref 1003]) (lv := [(0, .ref 1003), (1, .int l1), (2, .int l2)]) (rest := []) (ok_J0_isLatin1_aae02_1003 s) rfl rfl rfl rfl rfl (fun v1 => ?_)
  refine xTr.br (g1 := (23, [(0, .ref 1003), (1, .int l1), (2, .int l2)], [], s)) (g2 := (7, [(0, .ref 1003), (1, .int l1), (2, .int l2)], [], s)) rfl (fun h2 => ?_) (fun h2 => ?_)
  · refine xTr.ms 5 (g := (30, [(0, .ref 1003), (1, .int l1), (2, .int l2)], [.ref 1003, .int l2, .int l1, .ref 1005], s)) rfl ?_
    refine xTr.callip (R' := xR_J0_length_8abf5) (as := [.ref 1003]) (lv := [(0, .ref 1003), (1, .int l1), (2, .int l2)]) (rest := [.int l2, .int l1, .ref 1005]) (ok_J0_length_8abf5_1003 s) rfl rfl rfl rfl rfl (fun v3 => ?_)
    exact xTr.none
  · refine xTr.ms 5 (g := (14, [(0, .ref 1003), (1, .int l1), (2, .int l2)], [.ref 1003, .int l2, .int l1, .ref 1005], s)) rfl ?_
    refine xTr.callip (R' := xR_J0_length_8abf5) (as := [.ref 1003]) (lv := [(0, .ref 1003), (1, .int l1), (2, .int l2)]) (rest := [.int l2, .int l1, .ref 1005]) (ok_J0_length_8abf5_1003 s) rfl rfl rfl rfl rfl (fun v4 => ?_)
    refine xTr.callip (R' := xR_J1_indexOf_4cfef) (as := [.ref 1005, .int l1, .int l2, .int v4]) (lv := [(0, .ref 1003), (1, .int l1), (2, .int l2)]) (rest := []) (ok_J1_indexOf_4cfef_1005 l1 l2 v4 s) rfl rfl rfl rfl rfl (fun v5 => ?_)
    refine xTr.ms 1 (g := (36, [(0, .ref 1003), (1, .int l1), (2, .int l2)], [.int v5], s)) rfl ?_
    exact xTr.ret rfl rfl rfl
-- J0_indexOf_0f7a4
def F_J0_indexOf_0f7a4 (p0 : Nat) (l1 : Int32) (s : xS) : Option (Int32) := (F_J0_indexOf_7cf53 p0 l1 (0 : Int32) s).bind fun v1 => (some v1)
set_option maxRecDepth 100000 in
theorem ok_J0_indexOf_0f7a4_1002 (l1 : Int32) (s : xS) : xTr xMs xFL xR_J0_indexOf_0f7a4 (Sum.inl (0, [(0, .ref 1002), (1, .int l1)], [], s)) (F_J0_indexOf_0f7a4 1002 l1 s) (fun (y : Int32) => Sum.inr (some (.int y), s)) := by
  unfold F_J0_indexOf_0f7a4
  refine xTr.ms 3 (g := (3, [(0, .ref 1002), (1, .int l1)], [.int (0 : Int32), .int l1, .ref 1002], s)) rfl ?_
  refine xTr.callip (R' := xR_J0_indexOf_7cf53) (as := [.ref 1002, .int l1, .int (0 : Int32)]) (lv := [(0, .ref 1002), (1, .int l1)]) (rest := []) (ok_J0_indexOf_7cf53_1002 l1 (0 : Int32) s) rfl rfl rfl rfl rfl (fun v1 => ?_)
  exact xTr.ret rfl rfl rfl
set_option maxRecDepth 100000 in
theorem ok_J0_indexOf_0f7a4_1003 (l1 : Int32) (s : xS) : xTr xMs xFL xR_J0_indexOf_0f7a4 (Sum.inl (0, [(0, .ref 1003), (1, .int l1)], [], s)) (F_J0_indexOf_0f7a4 1003 l1 s) (fun (y : Int32) => Sum.inr (some (.int y), s)) := by
  unfold F_J0_indexOf_0f7a4
  refine xTr.ms 3 (g := (3, [(0, .ref 1003), (1, .int l1)], [.int (0 : Int32), .int l1, .ref 1003], s)) rfl ?_
  refine xTr.callip (R' := xR_J0_indexOf_7cf53) (as := [.ref 1003, .int l1, .int (0 : Int32)]) (lv := [(0, .ref 1003), (1, .int l1)]) (rest := []) (ok_J0_indexOf_7cf53_1003 l1 (0 : Int32) s) rfl rfl rfl rfl rfl (fun v1 => ?_)
  exact xTr.ret rfl rfl rfl
-- X7_mayStand
def F_X7_mayStand_J13 (l1 : Int32) (l2 : Int32) (l3 : Int32) (s : xS) (t0 : Int32) : Option (Int32) := if l1 < 0 then (some (0 : Int32)) else (if (6 : Int32) ≤ l2 then (some (0 : Int32)) else (if t0 ≤ l3 then (some (0 : Int32)) else (if (s.1 5 2) < (36 : Int32) then (if l1 = (3 : Int32) then (if (s.1 5 4) = (-1 : Int32) then (some (1 : Int32)) else (some (0 : Int32))) else (some (1 : Int32))) else (some (0 : Int32)))))
def F_X7_mayStand (l1 : Int32) (l2 : Int32) (l3 : Int32) (s : xS) : Option (Int32) := if l2 = 0 then (F_X7_mayStand_J13 l1 l2 l3 s (6 : Int32)) else (F_X7_mayStand_J13 l1 l2 l3 s (s.1 5 3))
set_option maxRecDepth 100000 in
theorem F_X7_mayStand_J13_ok (l1 : Int32) (l2 : Int32) (l3 : Int32) (s : xS) (t0 : Int32) : xTr xMs xFL xR_X7_mayStand (Sum.inl (13, [(0, .ref 5), (1, .int l1), (2, .int l2), (3, .int l3)], [.int t0], s)) (F_X7_mayStand_J13 l1 l2 l3 s t0) (fun (y : Int32) => Sum.inr (some (.int y), s)) := by
  unfold F_X7_mayStand_J13
  refine xTr.ms 2 (g := (16, [(0, .ref 5), (1, .int l1), (2, .int l2), (3, .int l3), (4, .int t0)], [.int l1], s)) rfl ?_
  refine xTr.br (g1 := (40, [(0, .ref 5), (1, .int l1), (2, .int l2), (3, .int l3), (4, .int t0)], [], s)) (g2 := (19, [(0, .ref 5), (1, .int l1), (2, .int l2), (3, .int l3), (4, .int t0)], [], s)) rfl (fun h2 => ?_) (fun h2 => ?_)
  · refine xTr.ms 1 (g := (41, [], [.int (0 : Int32)], s)) rfl ?_
    exact xTr.ret rfl rfl rfl
  · refine xTr.ms 2 (g := (22, [(0, .ref 5), (1, .int l1), (2, .int l2), (3, .int l3), (4, .int t0)], [.int (6 : Int32), .int l2], s)) rfl ?_
    refine xTr.br (g1 := (40, [(0, .ref 5), (1, .int l1), (2, .int l2), (3, .int l3), (4, .int t0)], [], s)) (g2 := (25, [(0, .ref 5), (1, .int l1), (2, .int l2), (3, .int l3), (4, .int t0)], [], s)) rfl (fun h3 => ?_) (fun h3 => ?_)
    · refine xTr.ms 1 (g := (41, [], [.int (0 : Int32)], s)) rfl ?_
      exact xTr.ret rfl rfl rfl
    · refine xTr.ms 2 (g := (28, [(0, .ref 5), (1, .int l1), (3, .int l3), (4, .int t0)], [.int t0, .int l3], s)) rfl ?_
      refine xTr.br (g1 := (40, [(0, .ref 5), (1, .int l1), (3, .int l3), (4, .int t0)], [], s)) (g2 := (31, [(0, .ref 5), (1, .int l1), (3, .int l3), (4, .int t0)], [], s)) rfl (fun h4 => ?_) (fun h4 => ?_)
      · refine xTr.ms 1 (g := (41, [], [.int (0 : Int32)], s)) rfl ?_
        exact xTr.ret rfl rfl rfl
      · refine xTr.ms 3 (g := (37, [(0, .ref 5), (1, .int l1)], [.int (36 : Int32), .int (s.1 5 2)], s)) rfl ?_
        refine xTr.br (g1 := (42, [(0, .ref 5), (1, .int l1)], [], s)) (g2 := (40, [(0, .ref 5), (1, .int l1)], [], s)) rfl (fun h5 => ?_) (fun h5 => ?_)
        · refine xTr.ms 2 (g := (44, [(0, .ref 5), (1, .int l1)], [.int (3 : Int32), .int l1], s)) rfl ?_
          refine xTr.br (g1 := (47, [(0, .ref 5), (1, .int l1)], [], s)) (g2 := (55, [(0, .ref 5), (1, .int l1)], [], s)) rfl (fun h6 => ?_) (fun h6 => ?_)
          · refine xTr.ms 3 (g := (52, [(0, .ref 5)], [.int (-1 : Int32), .int (s.1 5 4)], s)) rfl ?_
            refine xTr.br (g1 := (55, [(0, .ref 5)], [], s)) (g2 := (59, [(0, .ref 5)], [], s)) rfl (fun h7 => ?_) (fun h7 => ?_)
            · refine xTr.ms 2 (g := (60, [], [.int (1 : Int32)], s)) rfl ?_
              exact xTr.ret rfl rfl rfl
            · refine xTr.ms 1 (g := (60, [], [.int (0 : Int32)], s)) rfl ?_
              exact xTr.ret rfl rfl rfl
          · refine xTr.ms 2 (g := (60, [], [.int (1 : Int32)], s)) rfl ?_
            exact xTr.ret rfl rfl rfl
        · refine xTr.ms 1 (g := (41, [], [.int (0 : Int32)], s)) rfl ?_
          exact xTr.ret rfl rfl rfl
set_option maxRecDepth 100000 in
theorem ok_X7_mayStand (l1 : Int32) (l2 : Int32) (l3 : Int32) (s : xS) : xTr xMs xFL xR_X7_mayStand (Sum.inl (0, [(0, .ref 5), (1, .int l1), (2, .int l2), (3, .int l3)], [], s)) (F_X7_mayStand l1 l2 l3 s) (fun (y : Int32) => Sum.inr (some (.int y), s)) := by
  unfold F_X7_mayStand
  refine xTr.ms 1 (g := (1, [(0, .ref 5), (1, .int l1), (2, .int l2), (3, .int l3)], [.int l2], s)) rfl ?_
  refine xTr.br (g1 := (4, [(0, .ref 5), (1, .int l1), (2, .int l2), (3, .int l3)], [], s)) (g2 := (9, [(0, .ref 5), (1, .int l1), (2, .int l2), (3, .int l3)], [], s)) rfl (fun h1 => ?_) (fun h1 => ?_)
  · refine xTr.ms 2 (g := (13, [(0, .ref 5), (1, .int l1), (2, .int l2), (3, .int l3)], [.int (6 : Int32)], s)) rfl ?_
    exact F_X7_mayStand_J13_ok l1 l2 l3 s (6 : Int32)
  · refine xTr.ms 2 (g := (13, [(0, .ref 5), (1, .int l1), (2, .int l2), (3, .int l3)], [.int (s.1 5 3)], s)) rfl ?_
    exact F_X7_mayStand_J13_ok l1 l2 l3 s (s.1 5 3)
-- X7_add
def F_X7_add (l1 : Int32) (s : xS) : Option (xS) := if l1 = (3 : Int32) then (if (s.1 5 2) < 0 ∨ 36 ≤ ((s.1 5 2)).toNatClampNeg then none else (some (xu (xu (xu s 5 4 (s.1 5 2)) 6 ((s.1 5 2)).toNatClampNeg l1) 5 2 ((s.1 5 2) + (1 : Int32))))) else (if (s.1 5 2) < 0 ∨ 36 ≤ ((s.1 5 2)).toNatClampNeg then none else (some (xu (xu s 6 ((s.1 5 2)).toNatClampNeg l1) 5 2 ((s.1 5 2) + (1 : Int32)))))
set_option maxRecDepth 100000 in
theorem ok_X7_add (l1 : Int32) (s : xS) : xTr xMs xFL xR_X7_add (Sum.inl (0, [(0, .ref 5), (1, .int l1)], [], s)) (F_X7_add l1 s) (fun (y : xS) => Sum.inr (none, y)) := by
  unfold F_X7_add
  refine xTr.ms 2 (g := (2, [(0, .ref 5), (1, .int l1)], [.int (3 : Int32), .int l1], s)) rfl ?_
  refine xTr.br (g1 := (5, [(0, .ref 5), (1, .int l1)], [], s)) (g2 := (13, [(0, .ref 5), (1, .int l1)], [], s)) rfl (fun h1 => ?_) (fun h1 => ?_)
  · refine xTr.ms 9 (g := (22, [(0, .ref 5), (1, .int l1)], [.int l1, .int (s.1 5 2), .ref 6], (xu s 5 4 (s.1 5 2)))) rfl ?_
    refine xTr.ck (g := (23, [(0, .ref 5), (1, .int l1)], [], (xu (xu s 5 4 (s.1 5 2)) 6 ((s.1 5 2)).toNatClampNeg l1))) rfl (fun h2 => ?_)
    refine xTr.ms 6 (g := (33, [(0, .ref 5), (1, .int l1)], [], (xu (xu (xu s 5 4 (s.1 5 2)) 6 ((s.1 5 2)).toNatClampNeg l1) 5 2 ((s.1 5 2) + (1 : Int32))))) rfl ?_
    exact xTr.ret rfl rfl rfl
  · refine xTr.ms 5 (g := (22, [(0, .ref 5), (1, .int l1)], [.int l1, .int (s.1 5 2), .ref 6], s)) rfl ?_
    refine xTr.ck (g := (23, [(0, .ref 5), (1, .int l1)], [], (xu s 6 ((s.1 5 2)).toNatClampNeg l1))) rfl (fun h3 => ?_)
    refine xTr.ms 6 (g := (33, [(0, .ref 5), (1, .int l1)], [], (xu (xu s 6 ((s.1 5 2)).toNatClampNeg l1) 5 2 ((s.1 5 2) + (1 : Int32))))) rfl ?_
    exact xTr.ret rfl rfl rfl
-- X7_place
def F_X7_place_L7 (a : Int32 × Int32 × Int32 × xS) : Option ((Int32 × Int32 × Int32 × xS) ⊕ ((Int32 × xS) ⊕ ((Int32 × xS) ⊕ (Int32 × xS)))) := if (a.2.2.2.1 1 2) ≤ a.2.2.1 then (some (Sum.inr (Sum.inr (Sum.inr (a.2.1, a.2.2.2))))) else (if a.2.2.1 < 0 ∨ 41 ≤ a.2.2.1.toNatClampNeg then none else (if (a.2.2.2.1 2 a.2.2.1.toNatClampNeg) = (59 : Int32) then ((F_X7_isTooShort a.2.1 a.2.2.2).bind fun v4 => (if v4 = 0 then (some (Sum.inl ((a.1 + (1 : Int32)), (0 : Int32), (a.2.2.1 + (1 : Int32)), a.2.2.2))) else (some (Sum.inr (Sum.inl (a.2.2.1, a.2.2.2)))))) else ((F_J0_indexOf_0f7a4 1002 (((a.2.2.2.1 2 a.2.2.1.toNatClampNeg)).toUInt32 % 65536).toInt32 a.2.2.2).bind fun v6 => ((F_X7_mayStand v6 a.1 a.2.1 a.2.2.2).bind fun v7 => (if v7 = 0 then (some (Sum.inr (Sum.inr (Sum.inl (a.2.2.1, a.2.2.2))))) else ((F_X7_add v6 a.2.2.2).bind fun s10 => (if a.1 = 0 then (some (Sum.inl (a.1, (a.2.1 + (1 : Int32)), (a.2.2.1 + (1 : Int32)), (xu s10 5 3 (a.2.1 + (1 : Int32)))))) else (some (Sum.inl (a.1, (a.2.1 + (1 : Int32)), (a.2.2.1 + (1 : Int32)), s10))))))))))
def F_X7_place (s : xS) : Option (Int32 × xS) := (xlp (F_X7_place_L7) 100000 ((0 : Int32), (0 : Int32), (0 : Int32), s)).bind (Sum.elim (fun b12_0 => (some (b12_0.1, b12_0.2))) (Sum.elim (fun b12_1 => (some (b12_1.1, b12_1.2))) (fun b12_2 => (if (b12_2.2.1 1 2) ≤ 0 then (some ((-1 : Int32), b12_2.2)) else ((F_X7_isTooShort b12_2.1 b12_2.2).bind fun v14 => (if v14 = 0 then (some ((-1 : Int32), b12_2.2)) else (some ((b12_2.2.1 1 2), b12_2.2))))))))
def F_X7_place_L7_hd (a : Int32 × Int32 × Int32 × xS) : xT := Sum.inl (7, [(0, .ref 5), (1, .ref 1), (2, .int a.1), (3, .int a.2.1), (4, .int a.2.2.1)], [], a.2.2.2)
def F_X7_place_L7_ex : ((Int32 × xS) ⊕ ((Int32 × xS) ⊕ (Int32 × xS))) → xT := (Sum.elim (fun (z : Int32 × xS) => Sum.inl (40, [(4, .int z.1)], [], z.2)) (Sum.elim (fun (z : Int32 × xS) => Sum.inl (72, [(4, .int z.1)], [], z.2)) (fun (z : Int32 × xS) => Sum.inl (99, [(0, .ref 5), (1, .ref 1), (3, .int z.1)], [], z.2))))
set_option maxRecDepth 100000 in
theorem F_X7_place_L7_ok (a : Int32 × Int32 × Int32 × xS) : xTr xMs xFL xR_X7_place (F_X7_place_L7_hd a) (F_X7_place_L7 a) (xhx (F_X7_place_L7_hd) (F_X7_place_L7_ex)) := by
  unfold F_X7_place_L7
  refine xTr.ms 3 (g := (13, [(0, .ref 5), (1, .ref 1), (2, .int a.1), (3, .int a.2.1), (4, .int a.2.2.1)], [.int (a.2.2.2.1 1 2), .int a.2.2.1], a.2.2.2)) rfl ?_
  refine xTr.br (g1 := (99, [(0, .ref 5), (1, .ref 1), (2, .int a.1), (3, .int a.2.1), (4, .int a.2.2.1)], [], a.2.2.2)) (g2 := (16, [(0, .ref 5), (1, .ref 1), (2, .int a.1), (3, .int a.2.1), (4, .int a.2.2.1)], [], a.2.2.2)) rfl (fun h1 => ?_) (fun h1 => ?_)
  · refine xTr.mk (lv1 := [(0, .ref 5), (1, .ref 1), (3, .int a.2.1)]) rfl rfl ?_
    exact xTr.leaf rfl
  · refine xTr.ms 3 (g := (22, [(0, .ref 5), (1, .ref 1), (2, .int a.1), (3, .int a.2.1), (4, .int a.2.2.1)], [.int a.2.2.1, .ref 2], a.2.2.2)) rfl ?_
    refine xTr.ck (g := (23, [(0, .ref 5), (1, .ref 1), (2, .int a.1), (3, .int a.2.1), (4, .int a.2.2.1)], [.int (a.2.2.2.1 2 a.2.2.1.toNatClampNeg)], a.2.2.2)) rfl (fun h2 => ?_)
    refine xTr.ms 3 (g := (29, [(0, .ref 5), (1, .ref 1), (2, .int a.1), (3, .int a.2.1), (4, .int a.2.2.1), (5, .int (a.2.2.2.1 2 a.2.2.1.toNatClampNeg))], [.int (59 : Int32), .int (a.2.2.2.1 2 a.2.2.1.toNatClampNeg)], a.2.2.2)) rfl ?_
    refine xTr.br (g1 := (32, [(0, .ref 5), (1, .ref 1), (2, .int a.1), (3, .int a.2.1), (4, .int a.2.2.1), (5, .int (a.2.2.2.1 2 a.2.2.1.toNatClampNeg))], [], a.2.2.2)) (g2 := (51, [(0, .ref 5), (1, .ref 1), (2, .int a.1), (3, .int a.2.1), (4, .int a.2.2.1), (5, .int (a.2.2.2.1 2 a.2.2.1.toNatClampNeg))], [], a.2.2.2)) rfl (fun h3 => ?_) (fun h3 => ?_)
    · refine xTr.ms 2 (g := (34, [(0, .ref 5), (1, .ref 1), (2, .int a.1), (3, .int a.2.1), (4, .int a.2.2.1)], [.int a.2.1, .ref 5], a.2.2.2)) rfl ?_
      refine xTr.callip (R' := xR_X7_isTooShort) (as := [.ref 5, .int a.2.1]) (lv := [(0, .ref 5), (1, .ref 1), (2, .int a.1), (3, .int a.2.1), (4, .int a.2.2.1)]) (rest := []) (ok_X7_isTooShort a.2.1 a.2.2.2) rfl rfl rfl rfl rfl (fun v4 => ?_)
      refine xTr.br (g1 := (43, [(0, .ref 5), (1, .ref 1), (2, .int a.1), (3, .int a.2.1), (4, .int a.2.2.1)], [], a.2.2.2)) (g2 := (40, [(0, .ref 5), (1, .ref 1), (2, .int a.1), (3, .int a.2.1), (4, .int a.2.2.1)], [], a.2.2.2)) rfl (fun h5 => ?_) (fun h5 => ?_)
      · refine xTr.ms 6 (g := (7, [(0, .ref 5), (1, .ref 1), (2, .int (a.1 + (1 : Int32))), (3, .int (0 : Int32)), (4, .int (a.2.2.1 + (1 : Int32)))], [], a.2.2.2)) rfl ?_
        exact xTr.leaf rfl
      · refine xTr.mk (lv1 := [(4, .int a.2.2.1)]) rfl rfl ?_
        exact xTr.leaf rfl
    · refine xTr.ms 3 (g := (56, [(0, .ref 5), (1, .ref 1), (2, .int a.1), (3, .int a.2.1), (4, .int a.2.2.1), (5, .int (a.2.2.2.1 2 a.2.2.1.toNatClampNeg))], [.int (((a.2.2.2.1 2 a.2.2.1.toNatClampNeg)).toUInt32 % 65536).toInt32, .ref 1002], a.2.2.2)) rfl ?_
      refine xTr.callip (R' := xR_J0_indexOf_0f7a4) (as := [.ref 1002, .int (((a.2.2.2.1 2 a.2.2.1.toNatClampNeg)).toUInt32 % 65536).toInt32]) (lv := [(0, .ref 5), (1, .ref 1), (2, .int a.1), (3, .int a.2.1), (4, .int a.2.2.1), (5, .int (a.2.2.2.1 2 a.2.2.1.toNatClampNeg))]) (rest := []) (ok_J0_indexOf_0f7a4_1002 (((a.2.2.2.1 2 a.2.2.1.toNatClampNeg)).toUInt32 % 65536).toInt32 a.2.2.2) rfl rfl rfl rfl rfl (fun v6 => ?_)
      refine xTr.ms 5 (g := (66, [(0, .ref 5), (1, .ref 1), (2, .int a.1), (3, .int a.2.1), (4, .int a.2.2.1), (5, .int (a.2.2.2.1 2 a.2.2.1.toNatClampNeg)), (6, .int v6)], [.int a.2.1, .int a.1, .int v6, .ref 5], a.2.2.2)) rfl ?_
      refine xTr.callip (R' := xR_X7_mayStand) (as := [.ref 5, .int v6, .int a.1, .int a.2.1]) (lv := [(0, .ref 5), (1, .ref 1), (2, .int a.1), (3, .int a.2.1), (4, .int a.2.2.1), (5, .int (a.2.2.2.1 2 a.2.2.1.toNatClampNeg)), (6, .int v6)]) (rest := []) (ok_X7_mayStand v6 a.1 a.2.1 a.2.2.2) rfl rfl rfl rfl rfl (fun v7 => ?_)
      refine xTr.br (g1 := (72, [(0, .ref 5), (1, .ref 1), (2, .int a.1), (3, .int a.2.1), (4, .int a.2.2.1), (5, .int (a.2.2.2.1 2 a.2.2.1.toNatClampNeg)), (6, .int v6)], [], a.2.2.2)) (g2 := (75, [(0, .ref 5), (1, .ref 1), (2, .int a.1), (3, .int a.2.1), (4, .int a.2.2.1), (5, .int (a.2.2.2.1 2 a.2.2.1.toNatClampNeg)), (6, .int v6)], [], a.2.2.2)) rfl (fun h8 => ?_) (fun h8 => ?_)
      · refine xTr.mk (lv1 := [(4, .int a.2.2.1)]) rfl rfl ?_
        exact xTr.leaf rfl
      · refine xTr.ms 2 (g := (78, [(0, .ref 5), (1, .ref 1), (2, .int a.1), (3, .int a.2.1), (4, .int a.2.2.1), (6, .int v6)], [.int v6, .ref 5], a.2.2.2)) rfl ?_
        refine xTr.callv (R' := xR_X7_add) (as := [.ref 5, .int v6]) (lv := [(0, .ref 5), (1, .ref 1), (2, .int a.1), (3, .int a.2.1), (4, .int a.2.2.1), (6, .int v6)]) (rest := []) (ok_X7_add v6 a.2.2.2) rfl rfl rfl rfl rfl (fun s10 => ?_)
        refine xTr.ms 2 (g := (85, [(0, .ref 5), (1, .ref 1), (2, .int a.1), (3, .int (a.2.1 + (1 : Int32))), (4, .int a.2.2.1), (6, .int v6)], [.int a.1], s10)) rfl ?_
        refine xTr.br (g1 := (88, [(0, .ref 5), (1, .ref 1), (2, .int a.1), (3, .int (a.2.1 + (1 : Int32))), (4, .int a.2.2.1), (6, .int v6)], [], s10)) (g2 := (93, [(0, .ref 5), (1, .ref 1), (2, .int a.1), (3, .int (a.2.1 + (1 : Int32))), (4, .int a.2.2.1), (6, .int v6)], [], s10)) rfl (fun h11 => ?_) (fun h11 => ?_)
        · refine xTr.ms 5 (g := (7, [(0, .ref 5), (1, .ref 1), (2, .int a.1), (3, .int (a.2.1 + (1 : Int32))), (4, .int (a.2.2.1 + (1 : Int32)))], [], (xu s10 5 3 (a.2.1 + (1 : Int32))))) rfl ?_
          exact xTr.leaf rfl
        · refine xTr.ms 2 (g := (7, [(0, .ref 5), (1, .ref 1), (2, .int a.1), (3, .int (a.2.1 + (1 : Int32))), (4, .int (a.2.2.1 + (1 : Int32)))], [], s10)) rfl ?_
          exact xTr.leaf rfl
set_option maxRecDepth 100000 in
theorem ok_X7_place (s : xS) : xTr xMs xFL xR_X7_place (Sum.inl (0, [(0, .ref 5), (1, .ref 1)], [], s)) (F_X7_place s) (fun (y : Int32 × xS) => Sum.inr (some (.int y.1), y.2)) := by
  unfold F_X7_place
  refine xTr.ms 6 (g := (7, [(0, .ref 5), (1, .ref 1), (2, .int (0 : Int32)), (3, .int (0 : Int32)), (4, .int (0 : Int32))], [], s)) rfl ?_
  refine xTr.bind (J := F_X7_place_L7_ex) (xTr.loop (hd := F_X7_place_L7_hd) (fun aa => F_X7_place_L7_ok aa) 100000 ((0 : Int32), (0 : Int32), (0 : Int32), s)) (fun b12 => ?_)
  rcases b12 with b12_0 | b12_1 | b12_2
  · refine xTr.ms 1 (g := (42, [(4, .int b12_0.1)], [.int b12_0.1], b12_0.2)) rfl ?_
    exact xTr.ret rfl rfl rfl
  · refine xTr.ms 1 (g := (74, [(4, .int b12_1.1)], [.int b12_1.1], b12_1.2)) rfl ?_
    exact xTr.ret rfl rfl rfl
  · refine xTr.ms 2 (g := (103, [(0, .ref 5), (1, .ref 1), (3, .int b12_2.1)], [.int (b12_2.2.1 1 2)], b12_2.2)) rfl ?_
    refine xTr.br (g1 := (121, [(0, .ref 5), (1, .ref 1), (3, .int b12_2.1)], [], b12_2.2)) (g2 := (106, [(0, .ref 5), (1, .ref 1), (3, .int b12_2.1)], [], b12_2.2)) rfl (fun h13 => ?_) (fun h13 => ?_)
    · refine xTr.ms 1 (g := (122, [], [.int (-1 : Int32)], b12_2.2)) rfl ?_
      exact xTr.ret rfl rfl rfl
    · refine xTr.ms 2 (g := (108, [(0, .ref 5), (1, .ref 1), (3, .int b12_2.1)], [.int b12_2.1, .ref 5], b12_2.2)) rfl ?_
      refine xTr.callip (R' := xR_X7_isTooShort) (as := [.ref 5, .int b12_2.1]) (lv := [(0, .ref 5), (1, .ref 1), (3, .int b12_2.1)]) (rest := []) (ok_X7_isTooShort b12_2.1 b12_2.2) rfl rfl rfl rfl rfl (fun v14 => ?_)
      refine xTr.br (g1 := (121, [(0, .ref 5), (1, .ref 1), (3, .int b12_2.1)], [], b12_2.2)) (g2 := (114, [(0, .ref 5), (1, .ref 1), (3, .int b12_2.1)], [], b12_2.2)) rfl (fun h15 => ?_) (fun h15 => ?_)
      · refine xTr.ms 1 (g := (122, [], [.int (-1 : Int32)], b12_2.2)) rfl ?_
        exact xTr.ret rfl rfl rfl
      · refine xTr.ms 3 (g := (122, [(1, .ref 1)], [.int (b12_2.2.1 1 2)], b12_2.2)) rfl ?_
        exact xTr.ret rfl rfl rfl
