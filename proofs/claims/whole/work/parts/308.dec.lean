-- X8_day
def F_X8_day (l1 : Int32) (l2 : Int32) (l3 : Int32) (s : xS) : Option (Int32 × xS) := if l2 < (1 : Int32) then (some ((-2 : Int32), s)) else (if (8 : Int32) < l2 then (some ((-2 : Int32), s)) else ((F_X8_isOutside l3 (2 : Int32) s).bind fun v3 => (if v3 = 0 then ((F_X8_drawDeeds l1 l2 s).bind fun s6 => ((F_X3_pass 34 27 19 (255 : Int32) s6).bind fun s8 => (if l3 = 0 then (some ((s8.1 34 5), s8)) else ((F_J13_bitCount_95d88 (s8.2 34 6) s8).bind fun v10 => (some (v10, s8)))))) else (some ((-2 : Int32), s)))))
set_option maxRecDepth 100000 in
theorem ok_X8_day (l1 : Int32) (l2 : Int32) (l3 : Int32) (s : xS) : xTr xMs xFL xR_X8_day (Sum.inl (0, [(0, .ref 0), (1, .int l1), (2, .int l2), (3, .int l3)], [], s)) (F_X8_day l1 l2 l3 s) (fun (y : Int32 × xS) => Sum.inr (some (.int y.1), y.2)) := by
  unfold F_X8_day
  refine xTr.ms 2 (g := (2, [(0, .ref 0), (1, .int l1), (2, .int l2), (3, .int l3)], [.int (1 : Int32), .int l2], s)) rfl ?_
  refine xTr.br (g1 := (19, [(0, .ref 0), (1, .int l1), (2, .int l2), (3, .int l3)], [], s)) (g2 := (5, [(0, .ref 0), (1, .int l1), (2, .int l2), (3, .int l3)], [], s)) rfl (fun h1 => ?_) (fun h1 => ?_)
  · refine xTr.ms 1 (g := (21, [], [.int (-2 : Int32)], s)) rfl ?_
    exact xTr.ret rfl rfl rfl
  · refine xTr.ms 2 (g := (8, [(0, .ref 0), (1, .int l1), (2, .int l2), (3, .int l3)], [.int (8 : Int32), .int l2], s)) rfl ?_
    refine xTr.br (g1 := (19, [(0, .ref 0), (1, .int l1), (2, .int l2), (3, .int l3)], [], s)) (g2 := (11, [(0, .ref 0), (1, .int l1), (2, .int l2), (3, .int l3)], [], s)) rfl (fun h2 => ?_) (fun h2 => ?_)
    · refine xTr.ms 1 (g := (21, [], [.int (-2 : Int32)], s)) rfl ?_
      exact xTr.ret rfl rfl rfl
    · refine xTr.ms 2 (g := (13, [(0, .ref 0), (1, .int l1), (2, .int l2), (3, .int l3)], [.int (2 : Int32), .int l3], s)) rfl ?_
      refine xTr.callip (R' := xR_X8_isOutside) (as := [.int l3, .int (2 : Int32)]) (lv := [(0, .ref 0), (1, .int l1), (2, .int l2), (3, .int l3)]) (rest := []) (ok_X8_isOutside l3 (2 : Int32) s) rfl rfl rfl rfl rfl (fun v3 => ?_)
      refine xTr.br (g1 := (22, [(0, .ref 0), (1, .int l1), (2, .int l2), (3, .int l3)], [], s)) (g2 := (19, [(0, .ref 0), (1, .int l1), (2, .int l2), (3, .int l3)], [], s)) rfl (fun h4 => ?_) (fun h4 => ?_)
      · refine xTr.ms 3 (g := (25, [(0, .ref 0), (1, .int l1), (2, .int l2), (3, .int l3)], [.int l2, .int l1, .ref 0], s)) rfl ?_
        refine xTr.callv (R' := xR_X8_drawDeeds) (as := [.ref 0, .int l1, .int l2]) (lv := [(0, .ref 0), (1, .int l1), (2, .int l2), (3, .int l3)]) (rest := []) (ok_X8_drawDeeds l1 l2 s) rfl rfl rfl rfl rfl (fun s6 => ?_)
        refine xTr.ms 7 (g := (43, [(0, .ref 0), (1, .int l1), (2, .int l2), (3, .int l3)], [.ref 19, .int (255 : Int32), .ref 27, .ref 34], s6)) rfl ?_
        refine xTr.callv (R' := xR_X3_pass) (as := [.ref 34, .ref 27, .int (255 : Int32), .ref 19]) (lv := [(0, .ref 0), (1, .int l1), (2, .int l2), (3, .int l3)]) (rest := []) (ok_X3_pass_34_27_19 (255 : Int32) s6) rfl rfl rfl rfl rfl (fun s8 => ?_)
        refine xTr.ms 1 (g := (47, [(0, .ref 0), (1, .int l1), (2, .int l2), (3, .int l3)], [.int l3], s8)) rfl ?_
        refine xTr.br (g1 := (50, [(0, .ref 0), (1, .int l1), (2, .int l2), (3, .int l3)], [], s8)) (g2 := (60, [(0, .ref 0), (1, .int l1), (2, .int l2), (3, .int l3)], [], s8)) rfl (fun h9 => ?_) (fun h9 => ?_)
        · refine xTr.ms 4 (g := (70, [(0, .ref 0)], [.int (s8.1 34 5)], s8)) rfl ?_
          exact xTr.ret rfl rfl rfl
        · refine xTr.ms 3 (g := (67, [(0, .ref 0)], [.long (s8.2 34 6)], s8)) rfl ?_
          refine xTr.callip (R' := xR_J13_bitCount_95d88) (as := [.long (s8.2 34 6)]) (lv := [(0, .ref 0)]) (rest := []) (ok_J13_bitCount_95d88 (s8.2 34 6) s8) rfl rfl rfl rfl rfl (fun v10 => ?_)
          exact xTr.ret rfl rfl rfl
      · refine xTr.ms 1 (g := (21, [], [.int (-2 : Int32)], s)) rfl ?_
        exact xTr.ret rfl rfl rfl
-- X5_renew
def F_X5_renew_L17 (l1 : Int32) (l3 : Int32) (a : Int32 × xS) : Option ((Int32 × xS) ⊕ (xS)) := if l3 ≤ a.1 then (some (Sum.inr a.2)) else (if ((l1 * (60 : Int32)) + a.1) < 0 ∨ 240 ≤ (((l1 * (60 : Int32)) + a.1)).toNatClampNeg then none else (some (Sum.inl ((a.1 + (1 : Int32)), (xu a.2 45 (((l1 * (60 : Int32)) + a.1)).toNatClampNeg (0 : Int32))))))
def F_X5_renew (l1 : Int32) (l2 : Int32) (l3 : Int32) (s : xS) : Option (xS) := if l1 < 0 ∨ 4 ≤ l1.toNatClampNeg then none else (if l1 < 0 ∨ 4 ≤ l1.toNatClampNeg then none else ((xlp (F_X5_renew_L17 l1 l3) 100000 ((0 : Int32), (xu (xu s 43 l1.toNatClampNeg l2) 44 l1.toNatClampNeg l3))).bind (fun b5 => (some b5))))
def F_X5_renew_L17_hd (l1 : Int32) (l3 : Int32) (a : Int32 × xS) : xT := Sum.inl (17, [(0, .ref 42), (1, .int l1), (3, .int l3), (4, .int a.1)], [], a.2)
def F_X5_renew_L17_ex (l1 : Int32) (l3 : Int32) : (xS) → xT := (fun (z : xS) => Sum.inl (42, [], [], z))
set_option maxRecDepth 100000 in
theorem F_X5_renew_L17_ok (l1 : Int32) (l3 : Int32) (a : Int32 × xS) : xTr xMs xFL xR_X5_renew (F_X5_renew_L17_hd l1 l3 a) (F_X5_renew_L17 l1 l3 a) (xhx (F_X5_renew_L17_hd l1 l3) (F_X5_renew_L17_ex l1 l3)) := by
  unfold F_X5_renew_L17
  refine xTr.ms 2 (g := (20, [(0, .ref 42), (1, .int l1), (3, .int l3), (4, .int a.1)], [.int l3, .int a.1], a.2)) rfl ?_
  refine xTr.br (g1 := (42, [(0, .ref 42), (1, .int l1), (3, .int l3), (4, .int a.1)], [], a.2)) (g2 := (23, [(0, .ref 42), (1, .int l1), (3, .int l3), (4, .int a.1)], [], a.2)) rfl (fun h3 => ?_) (fun h3 => ?_)
  · refine xTr.mk (lv1 := []) rfl rfl ?_
    exact xTr.leaf rfl
  · refine xTr.ms 8 (g := (35, [(0, .ref 42), (1, .int l1), (3, .int l3), (4, .int a.1)], [.int (0 : Int32), .int ((l1 * (60 : Int32)) + a.1), .ref 45], a.2)) rfl ?_
    refine xTr.ck (g := (36, [(0, .ref 42), (1, .int l1), (3, .int l3), (4, .int a.1)], [], (xu a.2 45 (((l1 * (60 : Int32)) + a.1)).toNatClampNeg (0 : Int32)))) rfl (fun h4 => ?_)
    refine xTr.ms 2 (g := (17, [(0, .ref 42), (1, .int l1), (3, .int l3), (4, .int (a.1 + (1 : Int32)))], [], (xu a.2 45 (((l1 * (60 : Int32)) + a.1)).toNatClampNeg (0 : Int32)))) rfl ?_
    exact xTr.leaf rfl
set_option maxRecDepth 100000 in
theorem ok_X5_renew (l1 : Int32) (l2 : Int32) (l3 : Int32) (s : xS) : xTr xMs xFL xR_X5_renew (Sum.inl (0, [(0, .ref 42), (1, .int l1), (2, .int l2), (3, .int l3)], [], s)) (F_X5_renew l1 l2 l3 s) (fun (y : xS) => Sum.inr (none, y)) := by
  unfold F_X5_renew
  refine xTr.ms 4 (g := (6, [(0, .ref 42), (1, .int l1), (2, .int l2), (3, .int l3)], [.int l2, .int l1, .ref 43], s)) rfl ?_
  refine xTr.ck (g := (7, [(0, .ref 42), (1, .int l1), (2, .int l2), (3, .int l3)], [], (xu s 43 l1.toNatClampNeg l2))) rfl (fun h1 => ?_)
  refine xTr.ms 4 (g := (13, [(0, .ref 42), (1, .int l1), (2, .int l2), (3, .int l3)], [.int l3, .int l1, .ref 44], (xu s 43 l1.toNatClampNeg l2))) rfl ?_
  refine xTr.ck (g := (14, [(0, .ref 42), (1, .int l1), (2, .int l2), (3, .int l3)], [], (xu (xu s 43 l1.toNatClampNeg l2) 44 l1.toNatClampNeg l3))) rfl (fun h2 => ?_)
  refine xTr.ms 2 (g := (17, [(0, .ref 42), (1, .int l1), (2, .int l2), (3, .int l3), (4, .int (0 : Int32))], [], (xu (xu s 43 l1.toNatClampNeg l2) 44 l1.toNatClampNeg l3))) rfl ?_
  refine xTr.mk (lv1 := [(0, .ref 42), (1, .int l1), (3, .int l3), (4, .int (0 : Int32))]) rfl rfl ?_
  refine xTr.bind (J := F_X5_renew_L17_ex l1 l3) (xTr.loop (hd := F_X5_renew_L17_hd l1 l3) (fun aa => F_X5_renew_L17_ok l1 l3 aa) 100000 ((0 : Int32), (xu (xu s 43 l1.toNatClampNeg l2) 44 l1.toNatClampNeg l3))) (fun b5 => ?_)
  exact xTr.ret rfl rfl rfl
-- X8_sheet
def F_X8_sheet (l1 : Int32) (l2 : Int32) (l3 : Int32) (s : xS) : Option (Int32 × xS) := (F_X8_isOutside l1 (4 : Int32) s).bind fun v1 => (if v1 = 0 then ((F_X8_isOutside l2 (3 : Int32) s).bind fun v3 => (if v3 = 0 then (if l3 ≤ (60 : Int32) then (if 0 ≤ l3 then ((F_X5_renew l1 l2 l3 s).bind fun s8 => (some (l3, s8))) else ((F_X8_find (5 : Int32) s).bind fun q10 => (some (q10.1, q10.2)))) else (some ((-2 : Int32), s))) else (some ((-2 : Int32), s)))) else (some ((-2 : Int32), s)))
set_option maxRecDepth 100000 in
theorem ok_X8_sheet (l1 : Int32) (l2 : Int32) (l3 : Int32) (s : xS) : xTr xMs xFL xR_X8_sheet (Sum.inl (0, [(0, .ref 0), (1, .int l1), (2, .int l2), (3, .int l3)], [], s)) (F_X8_sheet l1 l2 l3 s) (fun (y : Int32 × xS) => Sum.inr (some (.int y.1), y.2)) := by
  unfold F_X8_sheet
  refine xTr.ms 2 (g := (2, [(0, .ref 0), (1, .int l1), (2, .int l2), (3, .int l3)], [.int (4 : Int32), .int l1], s)) rfl ?_
  refine xTr.callip (R' := xR_X8_isOutside) (as := [.int l1, .int (4 : Int32)]) (lv := [(0, .ref 0), (1, .int l1), (2, .int l2), (3, .int l3)]) (rest := []) (ok_X8_isOutside l1 (4 : Int32) s) rfl rfl rfl rfl rfl (fun v1 => ?_)
  refine xTr.br (g1 := (8, [(0, .ref 0), (1, .int l1), (2, .int l2), (3, .int l3)], [], s)) (g2 := (22, [(0, .ref 0), (1, .int l1), (2, .int l2), (3, .int l3)], [], s)) rfl (fun h2 => ?_) (fun h2 => ?_)
  · refine xTr.ms 2 (g := (10, [(0, .ref 0), (1, .int l1), (2, .int l2), (3, .int l3)], [.int (3 : Int32), .int l2], s)) rfl ?_
    refine xTr.callip (R' := xR_X8_isOutside) (as := [.int l2, .int (3 : Int32)]) (lv := [(0, .ref 0), (1, .int l1), (2, .int l2), (3, .int l3)]) (rest := []) (ok_X8_isOutside l2 (3 : Int32) s) rfl rfl rfl rfl rfl (fun v3 => ?_)
    refine xTr.br (g1 := (16, [(0, .ref 0), (1, .int l1), (2, .int l2), (3, .int l3)], [], s)) (g2 := (22, [(0, .ref 0), (1, .int l1), (2, .int l2), (3, .int l3)], [], s)) rfl (fun h4 => ?_) (fun h4 => ?_)
    · refine xTr.ms 2 (g := (19, [(0, .ref 0), (1, .int l1), (2, .int l2), (3, .int l3)], [.int (60 : Int32), .int l3], s)) rfl ?_
      refine xTr.br (g1 := (25, [(0, .ref 0), (1, .int l1), (2, .int l2), (3, .int l3)], [], s)) (g2 := (22, [(0, .ref 0), (1, .int l1), (2, .int l2), (3, .int l3)], [], s)) rfl (fun h5 => ?_) (fun h5 => ?_)
      · refine xTr.ms 1 (g := (26, [(0, .ref 0), (1, .int l1), (2, .int l2), (3, .int l3)], [.int l3], s)) rfl ?_
        refine xTr.br (g1 := (35, [(0, .ref 0), (1, .int l1), (2, .int l2), (3, .int l3)], [], s)) (g2 := (29, [(0, .ref 0), (1, .int l1), (2, .int l2), (3, .int l3)], [], s)) rfl (fun h6 => ?_) (fun h6 => ?_)
        · refine xTr.ms 5 (g := (42, [(0, .ref 0), (1, .int l1), (2, .int l2), (3, .int l3)], [.int l3, .int l2, .int l1, .ref 42], s)) rfl ?_
          refine xTr.callv (R' := xR_X5_renew) (as := [.ref 42, .int l1, .int l2, .int l3]) (lv := [(0, .ref 0), (1, .int l1), (2, .int l2), (3, .int l3)]) (rest := []) (ok_X5_renew l1 l2 l3 s) rfl rfl rfl rfl rfl (fun s8 => ?_)
          refine xTr.ms 1 (g := (46, [(0, .ref 0), (1, .int l1), (2, .int l2), (3, .int l3)], [.int l3], s8)) rfl ?_
          exact xTr.ret rfl rfl rfl
        · refine xTr.ms 2 (g := (31, [(0, .ref 0)], [.int (5 : Int32), .ref 0], s)) rfl ?_
          refine xTr.calli (R' := xR_X8_find) (as := [.ref 0, .int (5 : Int32)]) (lv := [(0, .ref 0)]) (rest := []) (ok_X8_find (5 : Int32) s) rfl rfl rfl rfl rfl (fun v9 s9 => ?_)
          exact xTr.ret rfl rfl rfl
      · refine xTr.ms 1 (g := (24, [], [.int (-2 : Int32)], s)) rfl ?_
        exact xTr.ret rfl rfl rfl
    · refine xTr.ms 1 (g := (24, [], [.int (-2 : Int32)], s)) rfl ?_
      exact xTr.ret rfl rfl rfl
  · refine xTr.ms 1 (g := (24, [], [.int (-2 : Int32)], s)) rfl ?_
    exact xTr.ret rfl rfl rfl
-- X8_lose
def F_X8_lose (l1 : Int32) (s : xS) : Option (Int32 × xS) := (F_X8_isOutside l1 (4 : Int32) s).bind fun v1 => (if v1 = 0 then ((F_X5_isLost l1 s).bind fun v3 => (if v3 = 0 then (if l1 < 0 ∨ 4 ≤ l1.toNatClampNeg then none else ((F_X5_renew l1 (-1 : Int32) (0 : Int32) s).bind fun s7 => (some ((s.1 44 l1.toNatClampNeg), s7)))) else ((F_X8_find (1 : Int32) s).bind fun q9 => (some (q9.1, q9.2))))) else (some ((-2 : Int32), s)))
set_option maxRecDepth 100000 in
theorem ok_X8_lose (l1 : Int32) (s : xS) : xTr xMs xFL xR_X8_lose (Sum.inl (0, [(0, .ref 0), (1, .int l1)], [], s)) (F_X8_lose l1 s) (fun (y : Int32 × xS) => Sum.inr (some (.int y.1), y.2)) := by
  unfold F_X8_lose
  refine xTr.ms 2 (g := (2, [(0, .ref 0), (1, .int l1)], [.int (4 : Int32), .int l1], s)) rfl ?_
  refine xTr.callip (R' := xR_X8_isOutside) (as := [.int l1, .int (4 : Int32)]) (lv := [(0, .ref 0), (1, .int l1)]) (rest := []) (ok_X8_isOutside l1 (4 : Int32) s) rfl rfl rfl rfl rfl (fun v1 => ?_)
  refine xTr.br (g1 := (11, [(0, .ref 0), (1, .int l1)], [], s)) (g2 := (8, [(0, .ref 0), (1, .int l1)], [], s)) rfl (fun h2 => ?_) (fun h2 => ?_)
  · refine xTr.ms 3 (g := (16, [(0, .ref 0), (1, .int l1)], [.int l1, .ref 42], s)) rfl ?_
    refine xTr.callip (R' := xR_X5_isLost) (as := [.ref 42, .int l1]) (lv := [(0, .ref 0), (1, .int l1)]) (rest := []) (ok_X5_isLost l1 s) rfl rfl rfl rfl rfl (fun v3 => ?_)
    refine xTr.br (g1 := (28, [(0, .ref 0), (1, .int l1)], [], s)) (g2 := (22, [(0, .ref 0), (1, .int l1)], [], s)) rfl (fun h4 => ?_) (fun h4 => ?_)
    · refine xTr.ms 4 (g := (36, [(0, .ref 0), (1, .int l1)], [.int l1, .ref 44], s)) rfl ?_
      refine xTr.ck (g := (37, [(0, .ref 0), (1, .int l1)], [.int (s.1 44 l1.toNatClampNeg)], s)) rfl (fun h5 => ?_)
      refine xTr.ms 6 (g := (45, [(0, .ref 0), (1, .int l1), (2, .int (s.1 44 l1.toNatClampNeg))], [.int (0 : Int32), .int (-1 : Int32), .int l1, .ref 42], s)) rfl ?_
      refine xTr.callv (R' := xR_X5_renew) (as := [.ref 42, .int l1, .int (-1 : Int32), .int (0 : Int32)]) (lv := [(0, .ref 0), (1, .int l1), (2, .int (s.1 44 l1.toNatClampNeg))]) (rest := []) (ok_X5_renew l1 (-1 : Int32) (0 : Int32) s) rfl rfl rfl rfl rfl (fun s7 => ?_)
      refine xTr.ms 1 (g := (49, [(0, .ref 0), (1, .int l1), (2, .int (s.1 44 l1.toNatClampNeg))], [.int (s.1 44 l1.toNatClampNeg)], s7)) rfl ?_
      exact xTr.ret rfl rfl rfl
    · refine xTr.ms 2 (g := (24, [(0, .ref 0)], [.int (1 : Int32), .ref 0], s)) rfl ?_
      refine xTr.calli (R' := xR_X8_find) (as := [.ref 0, .int (1 : Int32)]) (lv := [(0, .ref 0)]) (rest := []) (ok_X8_find (1 : Int32) s) rfl rfl rfl rfl rfl (fun v8 s8 => ?_)
      exact xTr.ret rfl rfl rfl
  · refine xTr.ms 1 (g := (10, [], [.int (-2 : Int32)], s)) rfl ?_
    exact xTr.ret rfl rfl rfl
-- X8_refusalOfItem
def F_X8_refusalOfItem (l1 : Int32) (l2 : Int32) (l3 : Int32) (s : xS) : Option (Int32 × xS) := (F_X8_isOutside l1 (4 : Int32) s).bind fun v1 => (if v1 = 0 then ((F_X8_isOutside l2 (3 : Int32) s).bind fun v3 => (if v3 = 0 then ((F_X5_isLost l1 s).bind fun v5 => (if v5 = 0 then (if l1 < 0 ∨ 4 ≤ l1.toNatClampNeg then none else (if (s.1 43 l1.toNatClampNeg) = l2 then ((F_X5_hasItem l1 l3 s).bind fun v9 => (if v9 = 0 then ((F_X8_find (2 : Int32) s).bind fun q12 => (some (q12.1, q12.2))) else (some ((0 : Int32), s)))) else ((F_X8_find (3 : Int32) s).bind fun q14 => (some (q14.1, q14.2))))) else ((F_X8_find (1 : Int32) s).bind fun q16 => (some (q16.1, q16.2))))) else (some ((-2 : Int32), s)))) else (some ((-2 : Int32), s)))
set_option maxRecDepth 100000 in
theorem ok_X8_refusalOfItem (l1 : Int32) (l2 : Int32) (l3 : Int32) (s : xS) : xTr xMs xFL xR_X8_refusalOfItem (Sum.inl (0, [(0, .ref 0), (1, .int l1), (2, .int l2), (3, .int l3)], [], s)) (F_X8_refusalOfItem l1 l2 l3 s) (fun (y : Int32 × xS) => Sum.inr (some (.int y.1), y.2)) := by
  unfold F_X8_refusalOfItem
  refine xTr.ms 2 (g := (2, [(0, .ref 0), (1, .int l1), (2, .int l2), (3, .int l3)], [.int (4 : Int32), .int l1], s)) rfl ?_
  refine xTr.callip (R' := xR_X8_isOutside) (as := [.int l1, .int (4 : Int32)]) (lv := [(0, .ref 0), (1, .int l1), (2, .int l2), (3, .int l3)]) (rest := []) (ok_X8_isOutside l1 (4 : Int32) s) rfl rfl rfl rfl rfl (fun v1 => ?_)
  refine xTr.br (g1 := (8, [(0, .ref 0), (1, .int l1), (2, .int l2), (3, .int l3)], [], s)) (g2 := (16, [(0, .ref 0), (1, .int l1), (2, .int l2), (3, .int l3)], [], s)) rfl (fun h2 => ?_) (fun h2 => ?_)
  · refine xTr.ms 2 (g := (10, [(0, .ref 0), (1, .int l1), (2, .int l2), (3, .int l3)], [.int (3 : Int32), .int l2], s)) rfl ?_
    refine xTr.callip (R' := xR_X8_isOutside) (as := [.int l2, .int (3 : Int32)]) (lv := [(0, .ref 0), (1, .int l1), (2, .int l2), (3, .int l3)]) (rest := []) (ok_X8_isOutside l2 (3 : Int32) s) rfl rfl rfl rfl rfl (fun v3 => ?_)
    refine xTr.br (g1 := (19, [(0, .ref 0), (1, .int l1), (2, .int l2), (3, .int l3)], [], s)) (g2 := (16, [(0, .ref 0), (1, .int l1), (2, .int l2), (3, .int l3)], [], s)) rfl (fun h4 => ?_) (fun h4 => ?_)
    · refine xTr.ms 3 (g := (24, [(0, .ref 0), (1, .int l1), (2, .int l2), (3, .int l3)], [.int l1, .ref 42], s)) rfl ?_
      refine xTr.callip (R' := xR_X5_isLost) (as := [.ref 42, .int l1]) (lv := [(0, .ref 0), (1, .int l1), (2, .int l2), (3, .int l3)]) (rest := []) (ok_X5_isLost l1 s) rfl rfl rfl rfl rfl (fun v5 => ?_)
      refine xTr.br (g1 := (36, [(0, .ref 0), (1, .int l1), (2, .int l2), (3, .int l3)], [], s)) (g2 := (30, [(0, .ref 0), (1, .int l1), (2, .int l2), (3, .int l3)], [], s)) rfl (fun h6 => ?_) (fun h6 => ?_)
      · refine xTr.ms 4 (g := (44, [(0, .ref 0), (1, .int l1), (2, .int l2), (3, .int l3)], [.int l1, .ref 43], s)) rfl ?_
        refine xTr.ck (g := (45, [(0, .ref 0), (1, .int l1), (2, .int l2), (3, .int l3)], [.int (s.1 43 l1.toNatClampNeg)], s)) rfl (fun h7 => ?_)
        refine xTr.ms 1 (g := (46, [(0, .ref 0), (1, .int l1), (2, .int l2), (3, .int l3)], [.int l2, .int (s.1 43 l1.toNatClampNeg)], s)) rfl ?_
        refine xTr.br (g1 := (55, [(0, .ref 0), (1, .int l1), (2, .int l2), (3, .int l3)], [], s)) (g2 := (49, [(0, .ref 0), (1, .int l1), (2, .int l2), (3, .int l3)], [], s)) rfl (fun h8 => ?_) (fun h8 => ?_)
        · refine xTr.ms 4 (g := (61, [(0, .ref 0), (1, .int l1), (3, .int l3)], [.int l3, .int l1, .ref 42], s)) rfl ?_
          refine xTr.callip (R' := xR_X5_hasItem) (as := [.ref 42, .int l1, .int l3]) (lv := [(0, .ref 0), (1, .int l1), (3, .int l3)]) (rest := []) (ok_X5_hasItem l1 l3 s) rfl rfl rfl rfl rfl (fun v9 => ?_)
          refine xTr.br (g1 := (71, [(0, .ref 0), (1, .int l1), (3, .int l3)], [], s)) (g2 := (67, [(0, .ref 0), (1, .int l1), (3, .int l3)], [], s)) rfl (fun h10 => ?_) (fun h10 => ?_)
          · refine xTr.ms 2 (g := (73, [(0, .ref 0)], [.int (2 : Int32), .ref 0], s)) rfl ?_
            refine xTr.calli (R' := xR_X8_find) (as := [.ref 0, .int (2 : Int32)]) (lv := [(0, .ref 0)]) (rest := []) (ok_X8_find (2 : Int32) s) rfl rfl rfl rfl rfl (fun v11 s11 => ?_)
            exact xTr.ret rfl rfl rfl
          · refine xTr.ms 2 (g := (76, [], [.int (0 : Int32)], s)) rfl ?_
            exact xTr.ret rfl rfl rfl
        · refine xTr.ms 2 (g := (51, [(0, .ref 0)], [.int (3 : Int32), .ref 0], s)) rfl ?_
          refine xTr.calli (R' := xR_X8_find) (as := [.ref 0, .int (3 : Int32)]) (lv := [(0, .ref 0)]) (rest := []) (ok_X8_find (3 : Int32) s) rfl rfl rfl rfl rfl (fun v13 s13 => ?_)
          exact xTr.ret rfl rfl rfl
      · refine xTr.ms 2 (g := (32, [(0, .ref 0)], [.int (1 : Int32), .ref 0], s)) rfl ?_
        refine xTr.calli (R' := xR_X8_find) (as := [.ref 0, .int (1 : Int32)]) (lv := [(0, .ref 0)]) (rest := []) (ok_X8_find (1 : Int32) s) rfl rfl rfl rfl rfl (fun v15 s15 => ?_)
        exact xTr.ret rfl rfl rfl
    · refine xTr.ms 1 (g := (18, [], [.int (-2 : Int32)], s)) rfl ?_
      exact xTr.ret rfl rfl rfl
  · refine xTr.ms 1 (g := (18, [], [.int (-2 : Int32)], s)) rfl ?_
    exact xTr.ret rfl rfl rfl
-- X5_cut
def F_X5_cut (l0 : Int32) (l1 : Int32) (s : xS) : Option (Int32) := if l0 = (0 : Int32) then (some (l1).toInt8.toInt32) else (if l0 = (1 : Int32) then (some (l1).toInt16.toInt32) else (some l1))
set_option maxRecDepth 100000 in
theorem ok_X5_cut (l0 : Int32) (l1 : Int32) (s : xS) : xTr xMs xFL xR_X5_cut (Sum.inl (0, [(0, .int l0), (1, .int l1)], [], s)) (F_X5_cut l0 l1 s) (fun (y : Int32) => Sum.inr (some (.int y), s)) := by
  unfold F_X5_cut
  refine xTr.ms 1 (g := (1, [(0, .int l0), (1, .int l1)], [.int l0], s)) rfl ?_
  refine xTr.cs (fun h1 => ?_) (fun h1 => ?_)
  · refine xTr.sw (n := (if l0 = (0 : Int32) then 28 else if l0 = (1 : Int32) then 31 else 34)) (m := 28) (lv := [(0, .int l0), (1, .int l1)]) (st := []) (s := s) rfl (by rw [if_pos h1]) ?_
    refine xTr.ms 2 (g := (30, [(1, .int l1)], [.int (l1).toInt8.toInt32], s)) rfl ?_
    exact xTr.ret rfl rfl rfl
  refine xTr.cs (fun h2 => ?_) (fun h2 => ?_)
  · refine xTr.sw (n := (if l0 = (0 : Int32) then 28 else if l0 = (1 : Int32) then 31 else 34)) (m := 31) (lv := [(0, .int l0), (1, .int l1)]) (st := []) (s := s) rfl (by rw [if_neg h1, if_pos h2]) ?_
    refine xTr.ms 2 (g := (33, [(1, .int l1)], [.int (l1).toInt16.toInt32], s)) rfl ?_
    exact xTr.ret rfl rfl rfl
  refine xTr.sw (n := (if l0 = (0 : Int32) then 28 else if l0 = (1 : Int32) then 31 else 34)) (m := 34) (lv := [(0, .int l0), (1, .int l1)]) (st := []) (s := s) rfl (by rw [if_neg h1, if_neg h2]) ?_
  refine xTr.ms 1 (g := (35, [(1, .int l1)], [.int l1], s)) rfl ?_
  exact xTr.ret rfl rfl rfl
-- X5_store
def F_X5_store (l1 : Int32) (l2 : Int32) (l3 : Int32) (s : xS) : Option (xS) := (F_X5_hasItem l1 l2 s).bind fun v1 => (if v1 = 0 then (some s) else (if l1 < 0 ∨ 4 ≤ l1.toNatClampNeg then none else ((F_X5_cut (s.1 43 l1.toNatClampNeg) l3 s).bind fun v4 => (if ((l1 * (60 : Int32)) + l2) < 0 ∨ 240 ≤ (((l1 * (60 : Int32)) + l2)).toNatClampNeg then none else (some (xu s 45 (((l1 * (60 : Int32)) + l2)).toNatClampNeg v4))))))
set_option maxRecDepth 100000 in
theorem ok_X5_store (l1 : Int32) (l2 : Int32) (l3 : Int32) (s : xS) : xTr xMs xFL xR_X5_store (Sum.inl (0, [(0, .ref 42), (1, .int l1), (2, .int l2), (3, .int l3)], [], s)) (F_X5_store l1 l2 l3 s) (fun (y : xS) => Sum.inr (none, y)) := by
  unfold F_X5_store
  refine xTr.ms 3 (g := (3, [(0, .ref 42), (1, .int l1), (2, .int l2), (3, .int l3)], [.int l2, .int l1, .ref 42], s)) rfl ?_
  refine xTr.callip (R' := xR_X5_hasItem) (as := [.ref 42, .int l1, .int l2]) (lv := [(0, .ref 42), (1, .int l1), (2, .int l2), (3, .int l3)]) (rest := []) (ok_X5_hasItem l1 l2 s) rfl rfl rfl rfl rfl (fun v1 => ?_)
  refine xTr.br (g1 := (30, [(0, .ref 42), (1, .int l1), (2, .int l2), (3, .int l3)], [], s)) (g2 := (9, [(0, .ref 42), (1, .int l1), (2, .int l2), (3, .int l3)], [], s)) rfl (fun h2 => ?_) (fun h2 => ?_)
  · exact xTr.ret rfl rfl rfl
  · refine xTr.ms 10 (g := (24, [(0, .ref 42), (1, .int l1), (2, .int l2), (3, .int l3)], [.int l1, .ref 43, .int ((l1 * (60 : Int32)) + l2), .ref 45], s)) rfl ?_
    refine xTr.ck (g := (25, [(0, .ref 42), (1, .int l1), (2, .int l2), (3, .int l3)], [.int (s.1 43 l1.toNatClampNeg), .int ((l1 * (60 : Int32)) + l2), .ref 45], s)) rfl (fun h3 => ?_)
    refine xTr.ms 1 (g := (26, [(0, .ref 42), (1, .int l1), (2, .int l2), (3, .int l3)], [.int l3, .int (s.1 43 l1.toNatClampNeg), .int ((l1 * (60 : Int32)) + l2), .ref 45], s)) rfl ?_
    refine xTr.callip (R' := xR_X5_cut) (as := [.int (s.1 43 l1.toNatClampNeg), .int l3]) (lv := [(0, .ref 42), (1, .int l1), (2, .int l2), (3, .int l3)]) (rest := [.int ((l1 * (60 : Int32)) + l2), .ref 45]) (ok_X5_cut (s.1 43 l1.toNatClampNeg) l3 s) rfl rfl rfl rfl rfl (fun v4 => ?_)
    refine xTr.ck (g := (30, [(0, .ref 42), (1, .int l1), (2, .int l2), (3, .int l3)], [], (xu s 45 (((l1 * (60 : Int32)) + l2)).toNatClampNeg v4))) rfl (fun h5 => ?_)
    exact xTr.ret rfl rfl rfl
-- X8_put
def F_X8_put (l1 : Int32) (l2 : Int32) (l3 : Int32) (l4 : Int32) (s : xS) : Option (Int32 × xS) := (F_X8_refusalOfItem l1 l2 l3 s).bind fun q2 => (if q2.1 = 0 then ((F_X5_store l1 l3 l4 q2.2).bind fun s5 => (some ((1 : Int32), s5))) else (some (q2.1, q2.2)))
set_option maxRecDepth 100000 in
theorem ok_X8_put (l1 : Int32) (l2 : Int32) (l3 : Int32) (l4 : Int32) (s : xS) : xTr xMs xFL xR_X8_put (Sum.inl (0, [(0, .ref 0), (1, .int l1), (2, .int l2), (3, .int l3), (4, .int l4)], [], s)) (F_X8_put l1 l2 l3 l4 s) (fun (y : Int32 × xS) => Sum.inr (some (.int y.1), y.2)) := by
  unfold F_X8_put
  refine xTr.ms 4 (g := (4, [(0, .ref 0), (1, .int l1), (2, .int l2), (3, .int l3), (4, .int l4)], [.int l3, .int l2, .int l1, .ref 0], s)) rfl ?_
  refine xTr.calli (R' := xR_X8_refusalOfItem) (as := [.ref 0, .int l1, .int l2, .int l3]) (lv := [(0, .ref 0), (1, .int l1), (2, .int l2), (3, .int l3), (4, .int l4)]) (rest := []) (ok_X8_refusalOfItem l1 l2 l3 s) rfl rfl rfl rfl rfl (fun v1 s1 => ?_)
  refine xTr.ms 2 (g := (11, [(0, .ref 0), (1, .int l1), (2, .int l2), (3, .int l3), (4, .int l4), (5, .int v1)], [.int v1], s1)) rfl ?_
  refine xTr.br (g1 := (17, [(0, .ref 0), (1, .int l1), (2, .int l2), (3, .int l3), (4, .int l4), (5, .int v1)], [], s1)) (g2 := (14, [(0, .ref 0), (1, .int l1), (2, .int l2), (3, .int l3), (4, .int l4), (5, .int v1)], [], s1)) rfl (fun h3 => ?_) (fun h3 => ?_)
  · refine xTr.ms 5 (g := (25, [(0, .ref 0), (1, .int l1), (3, .int l3), (4, .int l4)], [.int l4, .int l3, .int l1, .ref 42], s1)) rfl ?_
    refine xTr.callv (R' := xR_X5_store) (as := [.ref 42, .int l1, .int l3, .int l4]) (lv := [(0, .ref 0), (1, .int l1), (3, .int l3), (4, .int l4)]) (rest := []) (ok_X5_store l1 l3 l4 s1) rfl rfl rfl rfl rfl (fun s5 => ?_)
    refine xTr.ms 1 (g := (29, [(0, .ref 0), (1, .int l1), (3, .int l3), (4, .int l4)], [.int (1 : Int32)], s5)) rfl ?_
    exact xTr.ret rfl rfl rfl
  · refine xTr.ms 1 (g := (16, [(5, .int v1)], [.int v1], s1)) rfl ?_
    exact xTr.ret rfl rfl rfl
-- X8_get
def F_X8_get (l1 : Int32) (l2 : Int32) (l3 : Int32) (s : xS) : Option (Int32 × xS) := (F_X8_refusalOfItem l1 l2 l3 s).bind fun q2 => (if q2.1 = 0 then ((F_X5_item l1 l3 q2.2).bind fun v4 => (some (v4, q2.2))) else (some ((-2147483648 : Int32), q2.2)))
set_option maxRecDepth 100000 in
theorem ok_X8_get (l1 : Int32) (l2 : Int32) (l3 : Int32) (s : xS) : xTr xMs xFL xR_X8_get (Sum.inl (0, [(0, .ref 0), (1, .int l1), (2, .int l2), (3, .int l3)], [], s)) (F_X8_get l1 l2 l3 s) (fun (y : Int32 × xS) => Sum.inr (some (.int y.1), y.2)) := by
  unfold F_X8_get
  refine xTr.ms 4 (g := (4, [(0, .ref 0), (1, .int l1), (2, .int l2), (3, .int l3)], [.int l3, .int l2, .int l1, .ref 0], s)) rfl ?_
  refine xTr.calli (R' := xR_X8_refusalOfItem) (as := [.ref 0, .int l1, .int l2, .int l3]) (lv := [(0, .ref 0), (1, .int l1), (2, .int l2), (3, .int l3)]) (rest := []) (ok_X8_refusalOfItem l1 l2 l3 s) rfl rfl rfl rfl rfl (fun v1 s1 => ?_)
  refine xTr.br (g1 := (16, [(0, .ref 0), (1, .int l1), (2, .int l2), (3, .int l3)], [], s1)) (g2 := (10, [(0, .ref 0), (1, .int l1), (2, .int l2), (3, .int l3)], [], s1)) rfl (fun h3 => ?_) (fun h3 => ?_)
  · refine xTr.ms 4 (g := (22, [(0, .ref 0), (1, .int l1), (3, .int l3)], [.int l3, .int l1, .ref 42], s1)) rfl ?_
    refine xTr.callip (R' := xR_X5_item) (as := [.ref 42, .int l1, .int l3]) (lv := [(0, .ref 0), (1, .int l1), (3, .int l3)]) (rest := []) (ok_X5_item l1 l3 s1) rfl rfl rfl rfl rfl (fun v4 => ?_)
    exact xTr.ret rfl rfl rfl
  · refine xTr.ms 2 (g := (25, [], [.int (-2147483648 : Int32)], s1)) rfl ?_
    exact xTr.ret rfl rfl rfl
-- X5_hasItems
def F_X5_hasItems (l1 : Int32) (l2 : Int32) (l3 : Int32) (s : xS) : Option (Int32) := if l3 < 0 then (some (0 : Int32)) else (if l2 < 0 then (some (0 : Int32)) else (if l1 < 0 ∨ 4 ≤ l1.toNatClampNeg then none else (if ((s.1 44 l1.toNatClampNeg) - l3) < l2 then (some (0 : Int32)) else (some (1 : Int32)))))
set_option maxRecDepth 100000 in
theorem ok_X5_hasItems (l1 : Int32) (l2 : Int32) (l3 : Int32) (s : xS) : xTr xMs xFL xR_X5_hasItems (Sum.inl (0, [(0, .ref 42), (1, .int l1), (2, .int l2), (3, .int l3)], [], s)) (F_X5_hasItems l1 l2 l3 s) (fun (y : Int32) => Sum.inr (some (.int y), s)) := by
  unfold F_X5_hasItems
  refine xTr.ms 1 (g := (1, [(0, .ref 42), (1, .int l1), (2, .int l2), (3, .int l3)], [.int l3], s)) rfl ?_
  refine xTr.br (g1 := (24, [(0, .ref 42), (1, .int l1), (2, .int l2), (3, .int l3)], [], s)) (g2 := (4, [(0, .ref 42), (1, .int l1), (2, .int l2), (3, .int l3)], [], s)) rfl (fun h1 => ?_) (fun h1 => ?_)
  · refine xTr.ms 1 (g := (25, [], [.int (0 : Int32)], s)) rfl ?_
    exact xTr.ret rfl rfl rfl
  · refine xTr.ms 1 (g := (5, [(0, .ref 42), (1, .int l1), (2, .int l2), (3, .int l3)], [.int l2], s)) rfl ?_
    refine xTr.br (g1 := (24, [(0, .ref 42), (1, .int l1), (2, .int l2), (3, .int l3)], [], s)) (g2 := (8, [(0, .ref 42), (1, .int l1), (2, .int l2), (3, .int l3)], [], s)) rfl (fun h2 => ?_) (fun h2 => ?_)
    · refine xTr.ms 1 (g := (25, [], [.int (0 : Int32)], s)) rfl ?_
      exact xTr.ret rfl rfl rfl
    · refine xTr.ms 4 (g := (14, [(0, .ref 42), (1, .int l1), (2, .int l2), (3, .int l3)], [.int l1, .ref 44, .int l2], s)) rfl ?_
      refine xTr.ck (g := (15, [(0, .ref 42), (1, .int l1), (2, .int l2), (3, .int l3)], [.int (s.1 44 l1.toNatClampNeg), .int l2], s)) rfl (fun h3 => ?_)
      refine xTr.ms 2 (g := (17, [(0, .ref 42), (1, .int l1), (2, .int l2), (3, .int l3)], [.int ((s.1 44 l1.toNatClampNeg) - l3), .int l2], s)) rfl ?_
      refine xTr.br (g1 := (24, [(0, .ref 42), (1, .int l1), (2, .int l2), (3, .int l3)], [], s)) (g2 := (20, [(0, .ref 42), (1, .int l1), (2, .int l2), (3, .int l3)], [], s)) rfl (fun h4 => ?_) (fun h4 => ?_)
      · refine xTr.ms 1 (g := (25, [], [.int (0 : Int32)], s)) rfl ?_
        exact xTr.ret rfl rfl rfl
      · refine xTr.ms 2 (g := (25, [], [.int (1 : Int32)], s)) rfl ?_
        exact xTr.ret rfl rfl rfl
-- X5_move
def F_X5_move (l1 : Int32) (l2 : Int32) (l3 : Int32) (l4 : Int32) (l5 : Int32) (s : xS) : Option (xS) := (F_X5_hasItems l1 l2 l5 s).bind fun v1 => (if v1 = 0 then (some s) else ((F_X5_hasItems l3 l4 l5 s).bind fun v3 => (if v3 = 0 then (some s) else (if ((l1 * (60 : Int32)) + l2) < 0 ∨ ((l3 * (60 : Int32)) + l4) < 0 ∨ l5 < 0 ∨ 240 < (((l1 * (60 : Int32)) + l2)).toNatClampNeg + l5.toNatClampNeg ∨ 240 < (((l3 * (60 : Int32)) + l4)).toNatClampNeg + l5.toNatClampNeg ∨ 8 < xcat [] then none else (some (xcp s 45 (((l1 * (60 : Int32)) + l2)).toNatClampNeg 45 (((l3 * (60 : Int32)) + l4)).toNatClampNeg l5.toNatClampNeg))))))
set_option maxRecDepth 100000 in
theorem ok_X5_move (l1 : Int32) (l2 : Int32) (l3 : Int32) (l4 : Int32) (l5 : Int32) (s : xS) : xTr xMs xFL xR_X5_move (Sum.inl (0, [(0, .ref 42), (1, .int l1), (2, .int l2), (3, .int l3), (4, .int l4), (5, .int l5)], [], s)) (F_X5_move l1 l2 l3 l4 l5 s) (fun (y : xS) => Sum.inr (none, y)) := by
  unfold F_X5_move
  refine xTr.ms 4 (g := (5, [(0, .ref 42), (1, .int l1), (2, .int l2), (3, .int l3), (4, .int l4), (5, .int l5)], [.int l5, .int l2, .int l1, .ref 42], s)) rfl ?_
  refine xTr.callip (R' := xR_X5_hasItems) (as := [.ref 42, .int l1, .int l2, .int l5]) (lv := [(0, .ref 42), (1, .int l1), (2, .int l2), (3, .int l3), (4, .int l4), (5, .int l5)]) (rest := []) (ok_X5_hasItems l1 l2 l5 s) rfl rfl rfl rfl rfl (fun v1 => ?_)
  refine xTr.br (g1 := (49, [(0, .ref 42), (1, .int l1), (2, .int l2), (3, .int l3), (4, .int l4), (5, .int l5)], [], s)) (g2 := (11, [(0, .ref 42), (1, .int l1), (2, .int l2), (3, .int l3), (4, .int l4), (5, .int l5)], [], s)) rfl (fun h2 => ?_) (fun h2 => ?_)
  · exact xTr.ret rfl rfl rfl
  · refine xTr.ms 4 (g := (17, [(0, .ref 42), (1, .int l1), (2, .int l2), (3, .int l3), (4, .int l4), (5, .int l5)], [.int l5, .int l4, .int l3, .ref 42], s)) rfl ?_
    refine xTr.callip (R' := xR_X5_hasItems) (as := [.ref 42, .int l3, .int l4, .int l5]) (lv := [(0, .ref 42), (1, .int l1), (2, .int l2), (3, .int l3), (4, .int l4), (5, .int l5)]) (rest := []) (ok_X5_hasItems l3 l4 l5 s) rfl rfl rfl rfl rfl (fun v3 => ?_)
    refine xTr.br (g1 := (49, [(0, .ref 42), (1, .int l1), (2, .int l2), (3, .int l3), (4, .int l4), (5, .int l5)], [], s)) (g2 := (23, [(0, .ref 42), (1, .int l1), (2, .int l2), (3, .int l3), (4, .int l4), (5, .int l5)], [], s)) rfl (fun h4 => ?_) (fun h4 => ?_)
    · exact xTr.ret rfl rfl rfl
    · refine xTr.ms 15 (g := (46, [(0, .ref 42), (1, .int l1), (2, .int l2), (3, .int l3), (4, .int l4), (5, .int l5)], [.int l5, .int ((l3 * (60 : Int32)) + l4), .ref 45, .int ((l1 * (60 : Int32)) + l2), .ref 45], s)) rfl ?_
      refine xTr.ck (g := (49, [(0, .ref 42), (1, .int l1), (2, .int l2), (3, .int l3), (4, .int l4), (5, .int l5)], [], (xcp s 45 (((l1 * (60 : Int32)) + l2)).toNatClampNeg 45 (((l3 * (60 : Int32)) + l4)).toNatClampNeg l5.toNatClampNeg))) rfl (fun h5 => ?_)
      exact xTr.ret rfl rfl rfl
-- X8_copy
def F_X8_copy (l1 : Int32) (l2 : Int32) (l3 : Int32) (l4 : Int32) (l5 : Int32) (s : xS) : Option (Int32 × xS) := (F_X8_isOutside l1 (4 : Int32) s).bind fun v1 => (if v1 = 0 then ((F_X8_isOutside l3 (4 : Int32) s).bind fun v3 => (if v3 = 0 then ((F_X5_isLost l1 s).bind fun v5 => (if v5 = 0 then ((F_X5_isLost l3 s).bind fun v7 => (if v7 = 0 then (if l1 < 0 ∨ 4 ≤ l1.toNatClampNeg then none else (if l3 < 0 ∨ 4 ≤ l3.toNatClampNeg then none else (if (s.1 43 l1.toNatClampNeg) = (s.1 43 l3.toNatClampNeg) then ((F_X5_hasItems l1 l2 l5 s).bind fun v12 => (if v12 = 0 then ((F_X8_find (2 : Int32) s).bind fun q15 => (some (q15.1, q15.2))) else ((F_X5_hasItems l3 l4 l5 s).bind fun v16 => (if v16 = 0 then ((F_X8_find (2 : Int32) s).bind fun q19 => (some (q19.1, q19.2))) else ((F_X5_move l1 l2 l3 l4 l5 s).bind fun s21 => (some ((1 : Int32), s21))))))) else ((F_X8_find (4 : Int32) s).bind fun q23 => (some (q23.1, q23.2)))))) else ((F_X8_find (1 : Int32) s).bind fun q25 => (some (q25.1, q25.2))))) else ((F_X8_find (1 : Int32) s).bind fun q27 => (some (q27.1, q27.2))))) else (some ((-2 : Int32), s)))) else (some ((-2 : Int32), s)))
set_option maxRecDepth 100000 in
theorem ok_X8_copy (l1 : Int32) (l2 : Int32) (l3 : Int32) (l4 : Int32) (l5 : Int32) (s : xS) : xTr xMs xFL xR_X8_copy (Sum.inl (0, [(0, .ref 0), (1, .int l1), (2, .int l2), (3, .int l3), (4, .int l4), (5, .int l5)], [], s)) (F_X8_copy l1 l2 l3 l4 l5 s) (fun (y : Int32 × xS) => Sum.inr (some (.int y.1), y.2)) := by
  unfold F_X8_copy
  refine xTr.ms 2 (g := (2, [(0, .ref 0), (1, .int l1), (2, .int l2), (3, .int l3), (4, .int l4), (5, .int l5)], [.int (4 : Int32), .int l1], s)) rfl ?_
  refine xTr.callip (R' := xR_X8_isOutside) (as := [.int l1, .int (4 : Int32)]) (lv := [(0, .ref 0), (1, .int l1), (2, .int l2), (3, .int l3), (4, .int l4), (5, .int l5)]) (rest := []) (ok_X8_isOutside l1 (4 : Int32) s) rfl rfl rfl rfl rfl (fun v1 => ?_)
  refine xTr.br (g1 := (8, [(0, .ref 0), (1, .int l1), (2, .int l2), (3, .int l3), (4, .int l4), (5, .int l5)], [], s)) (g2 := (16, [(0, .ref 0), (1, .int l1), (2, .int l2), (3, .int l3), (4, .int l4), (5, .int l5)], [], s)) rfl (fun h2 => ?_) (fun h2 => ?_)
  · refine xTr.ms 2 (g := (10, [(0, .ref 0), (1, .int l1), (2, .int l2), (3, .int l3), (4, .int l4), (5, .int l5)], [.int (4 : Int32), .int l3], s)) rfl ?_
    refine xTr.callip (R' := xR_X8_isOutside) (as := [.int l3, .int (4 : Int32)]) (lv := [(0, .ref 0), (1, .int l1), (2, .int l2), (3, .int l3), (4, .int l4), (5, .int l5)]) (rest := []) (ok_X8_isOutside l3 (4 : Int32) s) rfl rfl rfl rfl rfl (fun v3 => ?_)
    refine xTr.br (g1 := (19, [(0, .ref 0), (1, .int l1), (2, .int l2), (3, .int l3), (4, .int l4), (5, .int l5)], [], s)) (g2 := (16, [(0, .ref 0), (1, .int l1), (2, .int l2), (3, .int l3), (4, .int l4), (5, .int l5)], [], s)) rfl (fun h4 => ?_) (fun h4 => ?_)
    · refine xTr.ms 3 (g := (24, [(0, .ref 0), (1, .int l1), (2, .int l2), (3, .int l3), (4, .int l4), (5, .int l5)], [.int l1, .ref 42], s)) rfl ?_
      refine xTr.callip (R' := xR_X5_isLost) (as := [.ref 42, .int l1]) (lv := [(0, .ref 0), (1, .int l1), (2, .int l2), (3, .int l3), (4, .int l4), (5, .int l5)]) (rest := []) (ok_X5_isLost l1 s) rfl rfl rfl rfl rfl (fun v5 => ?_)
      refine xTr.br (g1 := (30, [(0, .ref 0), (1, .int l1), (2, .int l2), (3, .int l3), (4, .int l4), (5, .int l5)], [], s)) (g2 := (41, [(0, .ref 0), (1, .int l1), (2, .int l2), (3, .int l3), (4, .int l4), (5, .int l5)], [], s)) rfl (fun h6 => ?_) (fun h6 => ?_)
      · refine xTr.ms 3 (g := (35, [(0, .ref 0), (1, .int l1), (2, .int l2), (3, .int l3), (4, .int l4), (5, .int l5)], [.int l3, .ref 42], s)) rfl ?_
        refine xTr.callip (R' := xR_X5_isLost) (as := [.ref 42, .int l3]) (lv := [(0, .ref 0), (1, .int l1), (2, .int l2), (3, .int l3), (4, .int l4), (5, .int l5)]) (rest := []) (ok_X5_isLost l3 s) rfl rfl rfl rfl rfl (fun v7 => ?_)
        refine xTr.br (g1 := (47, [(0, .ref 0), (1, .int l1), (2, .int l2), (3, .int l3), (4, .int l4), (5, .int l5)], [], s)) (g2 := (41, [(0, .ref 0), (1, .int l1), (2, .int l2), (3, .int l3), (4, .int l4), (5, .int l5)], [], s)) rfl (fun h8 => ?_) (fun h8 => ?_)
        · refine xTr.ms 4 (g := (55, [(0, .ref 0), (1, .int l1), (2, .int l2), (3, .int l3), (4, .int l4), (5, .int l5)], [.int l1, .ref 43], s)) rfl ?_
          refine xTr.ck (g := (56, [(0, .ref 0), (1, .int l1), (2, .int l2), (3, .int l3), (4, .int l4), (5, .int l5)], [.int (s.1 43 l1.toNatClampNeg)], s)) rfl (fun h9 => ?_)
          refine xTr.ms 4 (g := (64, [(0, .ref 0), (1, .int l1), (2, .int l2), (3, .int l3), (4, .int l4), (5, .int l5)], [.int l3, .ref 43, .int (s.1 43 l1.toNatClampNeg)], s)) rfl ?_
          refine xTr.ck (g := (65, [(0, .ref 0), (1, .int l1), (2, .int l2), (3, .int l3), (4, .int l4), (5, .int l5)], [.int (s.1 43 l3.toNatClampNeg), .int (s.1 43 l1.toNatClampNeg)], s)) rfl (fun h10 => ?_)
          refine xTr.br (g1 := (74, [(0, .ref 0), (1, .int l1), (2, .int l2), (3, .int l3), (4, .int l4), (5, .int l5)], [], s)) (g2 := (68, [(0, .ref 0), (1, .int l1), (2, .int l2), (3, .int l3), (4, .int l4), (5, .int l5)], [], s)) rfl (fun h11 => ?_) (fun h11 => ?_)
          · refine xTr.ms 5 (g := (82, [(0, .ref 0), (1, .int l1), (2, .int l2), (3, .int l3), (4, .int l4), (5, .int l5)], [.int l5, .int l2, .int l1, .ref 42], s)) rfl ?_
            refine xTr.callip (R' := xR_X5_hasItems) (as := [.ref 42, .int l1, .int l2, .int l5]) (lv := [(0, .ref 0), (1, .int l1), (2, .int l2), (3, .int l3), (4, .int l4), (5, .int l5)]) (rest := []) (ok_X5_hasItems l1 l2 l5 s) rfl rfl rfl rfl rfl (fun v12 => ?_)
            refine xTr.br (g1 := (103, [(0, .ref 0), (1, .int l1), (2, .int l2), (3, .int l3), (4, .int l4), (5, .int l5)], [], s)) (g2 := (88, [(0, .ref 0), (1, .int l1), (2, .int l2), (3, .int l3), (4, .int l4), (5, .int l5)], [], s)) rfl (fun h13 => ?_) (fun h13 => ?_)
            · refine xTr.ms 2 (g := (105, [(0, .ref 0)], [.int (2 : Int32), .ref 0], s)) rfl ?_
              refine xTr.calli (R' := xR_X8_find) (as := [.ref 0, .int (2 : Int32)]) (lv := [(0, .ref 0)]) (rest := []) (ok_X8_find (2 : Int32) s) rfl rfl rfl rfl rfl (fun v14 s14 => ?_)
              exact xTr.ret rfl rfl rfl
            · refine xTr.ms 5 (g := (97, [(0, .ref 0), (1, .int l1), (2, .int l2), (3, .int l3), (4, .int l4), (5, .int l5)], [.int l5, .int l4, .int l3, .ref 42], s)) rfl ?_
              refine xTr.callip (R' := xR_X5_hasItems) (as := [.ref 42, .int l3, .int l4, .int l5]) (lv := [(0, .ref 0), (1, .int l1), (2, .int l2), (3, .int l3), (4, .int l4), (5, .int l5)]) (rest := []) (ok_X5_hasItems l3 l4 l5 s) rfl rfl rfl rfl rfl (fun v16 => ?_)
              refine xTr.br (g1 := (103, [(0, .ref 0), (1, .int l1), (2, .int l2), (3, .int l3), (4, .int l4), (5, .int l5)], [], s)) (g2 := (109, [(0, .ref 0), (1, .int l1), (2, .int l2), (3, .int l3), (4, .int l4), (5, .int l5)], [], s)) rfl (fun h17 => ?_) (fun h17 => ?_)
              · refine xTr.ms 2 (g := (105, [(0, .ref 0)], [.int (2 : Int32), .ref 0], s)) rfl ?_
                refine xTr.calli (R' := xR_X8_find) (as := [.ref 0, .int (2 : Int32)]) (lv := [(0, .ref 0)]) (rest := []) (ok_X8_find (2 : Int32) s) rfl rfl rfl rfl rfl (fun v18 s18 => ?_)
                exact xTr.ret rfl rfl rfl
              · refine xTr.ms 7 (g := (120, [(0, .ref 0), (1, .int l1), (2, .int l2), (3, .int l3), (4, .int l4), (5, .int l5)], [.int l5, .int l4, .int l3, .int l2, .int l1, .ref 42], s)) rfl ?_
                refine xTr.callv (R' := xR_X5_move) (as := [.ref 42, .int l1, .int l2, .int l3, .int l4, .int l5]) (lv := [(0, .ref 0), (1, .int l1), (2, .int l2), (3, .int l3), (4, .int l4), (5, .int l5)]) (rest := []) (ok_X5_move l1 l2 l3 l4 l5 s) rfl rfl rfl rfl rfl (fun s21 => ?_)
                refine xTr.ms 1 (g := (124, [(0, .ref 0), (1, .int l1), (2, .int l2), (3, .int l3), (4, .int l4), (5, .int l5)], [.int (1 : Int32)], s21)) rfl ?_
                exact xTr.ret rfl rfl rfl
          · refine xTr.ms 2 (g := (70, [(0, .ref 0)], [.int (4 : Int32), .ref 0], s)) rfl ?_
            refine xTr.calli (R' := xR_X8_find) (as := [.ref 0, .int (4 : Int32)]) (lv := [(0, .ref 0)]) (rest := []) (ok_X8_find (4 : Int32) s) rfl rfl rfl rfl rfl (fun v22 s22 => ?_)
            exact xTr.ret rfl rfl rfl
        · refine xTr.ms 2 (g := (43, [(0, .ref 0)], [.int (1 : Int32), .ref 0], s)) rfl ?_
          refine xTr.calli (R' := xR_X8_find) (as := [.ref 0, .int (1 : Int32)]) (lv := [(0, .ref 0)]) (rest := []) (ok_X8_find (1 : Int32) s) rfl rfl rfl rfl rfl (fun v24 s24 => ?_)
          exact xTr.ret rfl rfl rfl
      · refine xTr.ms 2 (g := (43, [(0, .ref 0)], [.int (1 : Int32), .ref 0], s)) rfl ?_
        refine xTr.calli (R' := xR_X8_find) (as := [.ref 0, .int (1 : Int32)]) (lv := [(0, .ref 0)]) (rest := []) (ok_X8_find (1 : Int32) s) rfl rfl rfl rfl rfl (fun v26 s26 => ?_)
        exact xTr.ret rfl rfl rfl
    · refine xTr.ms 1 (g := (18, [], [.int (-2 : Int32)], s)) rfl ?_
      exact xTr.ret rfl rfl rfl
  · refine xTr.ms 1 (g := (18, [], [.int (-2 : Int32)], s)) rfl ?_
    exact xTr.ret rfl rfl rfl
-- X8_write
def F_X8_write_L45 (l1 : Int32) (l2 : Int32) (a : Int32 × xS) : Option ((Int32 × xS) ⊕ (xS)) := if l2 ≤ a.1 then (some (Sum.inr a.2)) else (if a.1 < 0 ∨ 10 ≤ a.1.toNatClampNeg then none else ((F_X5_store l1 a.1 (a.2.1 23 a.1.toNatClampNeg) a.2).bind fun s9 => (some (Sum.inl ((a.1 + (1 : Int32)), s9)))))
def F_X8_write (l1 : Int32) (s : xS) : Option (Int32 × xS) := (F_X8_isOutside l1 (4 : Int32) s).bind fun v1 => (if v1 = 0 then ((F_X5_isLost l1 s).bind fun v3 => (if v3 = 0 then (if l1 < 0 ∨ 4 ≤ l1.toNatClampNeg then none else ((xlp (F_X8_write_L45 l1 (if (s.1 44 l1.toNatClampNeg) < (10 : Int32) then (s.1 44 l1.toNatClampNeg) else (10 : Int32))) 100000 ((0 : Int32), s)).bind (fun b10 => (some ((if (s.1 44 l1.toNatClampNeg) < (10 : Int32) then (s.1 44 l1.toNatClampNeg) else (10 : Int32)), b10))))) else ((F_X8_find (1 : Int32) s).bind fun q12 => (some (q12.1, q12.2))))) else (some ((-2 : Int32), s)))
def F_X8_write_L45_hd (l1 : Int32) (l2 : Int32) (a : Int32 × xS) : xT := Sum.inl (45, [(0, .ref 0), (1, .int l1), (2, .int l2), (3, .int a.1)], [], a.2)
def F_X8_write_L45_ex (l1 : Int32) (l2 : Int32) : (xS) → xT := (fun (z : xS) => Sum.inl (74, [(2, .int l2)], [], z))
set_option maxRecDepth 100000 in
theorem F_X8_write_L45_ok (l1 : Int32) (l2 : Int32) (a : Int32 × xS) : xTr xMs xFL xR_X8_write (F_X8_write_L45_hd l1 l2 a) (F_X8_write_L45 l1 l2 a) (xhx (F_X8_write_L45_hd l1 l2) (F_X8_write_L45_ex l1 l2)) := by
  unfold F_X8_write_L45
  refine xTr.ms 2 (g := (47, [(0, .ref 0), (1, .int l1), (2, .int l2), (3, .int a.1)], [.int l2, .int a.1], a.2)) rfl ?_
  refine xTr.br (g1 := (74, [(0, .ref 0), (1, .int l1), (2, .int l2), (3, .int a.1)], [], a.2)) (g2 := (50, [(0, .ref 0), (1, .int l1), (2, .int l2), (3, .int a.1)], [], a.2)) rfl (fun h6 => ?_) (fun h6 => ?_)
  · refine xTr.mk (lv1 := [(2, .int l2)]) rfl rfl ?_
    exact xTr.leaf rfl
  · refine xTr.ms 8 (g := (64, [(0, .ref 0), (1, .int l1), (2, .int l2), (3, .int a.1)], [.int a.1, .ref 23, .int a.1, .int l1, .ref 42], a.2)) rfl ?_
    refine xTr.ck (g := (65, [(0, .ref 0), (1, .int l1), (2, .int l2), (3, .int a.1)], [.int (a.2.1 23 a.1.toNatClampNeg), .int a.1, .int l1, .ref 42], a.2)) rfl (fun h7 => ?_)
    refine xTr.callv (R' := xR_X5_store) (as := [.ref 42, .int l1, .int a.1, .int (a.2.1 23 a.1.toNatClampNeg)]) (lv := [(0, .ref 0), (1, .int l1), (2, .int l2), (3, .int a.1)]) (rest := []) (ok_X5_store l1 a.1 (a.2.1 23 a.1.toNatClampNeg) a.2) rfl rfl rfl rfl rfl (fun s9 => ?_)
    refine xTr.ms 2 (g := (45, [(0, .ref 0), (1, .int l1), (2, .int l2), (3, .int (a.1 + (1 : Int32)))], [], s9)) rfl ?_
    exact xTr.leaf rfl
set_option maxRecDepth 100000 in
theorem ok_X8_write (l1 : Int32) (s : xS) : xTr xMs xFL xR_X8_write (Sum.inl (0, [(0, .ref 0), (1, .int l1)], [], s)) (F_X8_write l1 s) (fun (y : Int32 × xS) => Sum.inr (some (.int y.1), y.2)) := by
  unfold F_X8_write
  refine xTr.ms 2 (g := (2, [(0, .ref 0), (1, .int l1)], [.int (4 : Int32), .int l1], s)) rfl ?_
  refine xTr.callip (R' := xR_X8_isOutside) (as := [.int l1, .int (4 : Int32)]) (lv := [(0, .ref 0), (1, .int l1)]) (rest := []) (ok_X8_isOutside l1 (4 : Int32) s) rfl rfl rfl rfl rfl (fun v1 => ?_)
  refine xTr.br (g1 := (11, [(0, .ref 0), (1, .int l1)], [], s)) (g2 := (8, [(0, .ref 0), (1, .int l1)], [], s)) rfl (fun h2 => ?_) (fun h2 => ?_)
  · refine xTr.ms 3 (g := (16, [(0, .ref 0), (1, .int l1)], [.int l1, .ref 42], s)) rfl ?_
    refine xTr.callip (R' := xR_X5_isLost) (as := [.ref 42, .int l1]) (lv := [(0, .ref 0), (1, .int l1)]) (rest := []) (ok_X5_isLost l1 s) rfl rfl rfl rfl rfl (fun v3 => ?_)
    refine xTr.br (g1 := (28, [(0, .ref 0), (1, .int l1)], [], s)) (g2 := (22, [(0, .ref 0), (1, .int l1)], [], s)) rfl (fun h4 => ?_) (fun h4 => ?_)
    · refine xTr.ms 5 (g := (38, [(0, .ref 0), (1, .int l1)], [.int l1, .ref 44, .int (10 : Int32)], s)) rfl ?_
      refine xTr.ck (g := (39, [(0, .ref 0), (1, .int l1)], [.int (s.1 44 l1.toNatClampNeg), .int (10 : Int32)], s)) rfl (fun h5 => ?_)
      refine xTr.ms 4 (g := (45, [(0, .ref 0), (1, .int l1), (2, .int (if (s.1 44 l1.toNatClampNeg) < (10 : Int32) then (s.1 44 l1.toNatClampNeg) else (10 : Int32))), (3, .int (0 : Int32))], [], s)) rfl ?_
      refine xTr.bind (J := F_X8_write_L45_ex l1 (if (s.1 44 l1.toNatClampNeg) < (10 : Int32) then (s.1 44 l1.toNatClampNeg) else (10 : Int32))) (xTr.loop (hd := F_X8_write_L45_hd l1 (if (s.1 44 l1.toNatClampNeg) < (10 : Int32) then (s.1 44 l1.toNatClampNeg) else (10 : Int32))) (fun aa => F_X8_write_L45_ok l1 (if (s.1 44 l1.toNatClampNeg) < (10 : Int32) then (s.1 44 l1.toNatClampNeg) else (10 : Int32)) aa) 100000 ((0 : Int32), s)) (fun b10 => ?_)
      refine xTr.ms 1 (g := (75, [(2, .int (if (s.1 44 l1.toNatClampNeg) < (10 : Int32) then (s.1 44 l1.toNatClampNeg) else (10 : Int32)))], [.int (if (s.1 44 l1.toNatClampNeg) < (10 : Int32) then (s.1 44 l1.toNatClampNeg) else (10 : Int32))], b10)) rfl ?_
      exact xTr.ret rfl rfl rfl
    · refine xTr.ms 2 (g := (24, [(0, .ref 0)], [.int (1 : Int32), .ref 0], s)) rfl ?_
      refine xTr.calli (R' := xR_X8_find) (as := [.ref 0, .int (1 : Int32)]) (lv := [(0, .ref 0)]) (rest := []) (ok_X8_find (1 : Int32) s) rfl rfl rfl rfl rfl (fun v11 s11 => ?_)
      exact xTr.ret rfl rfl rfl
  · refine xTr.ms 1 (g := (10, [], [.int (-2 : Int32)], s)) rfl ?_
    exact xTr.ret rfl rfl rfl
