-- X8_planFelt
def F_X8_planFelt (s : xS) : Option (xS) := if (s.1 0 15) = 0 then (if (s.1 22 5) = (-1 : Int32) then (some (xu (xu (xu (xu s 0 15 (1 : Int32)) 41 0 (-1 : Int32)) 41 1 (-1 : Int32)) 0 14 (0 : Int32))) else ((F_X8_isStillWithOne (xu (xu (xu s 0 15 (1 : Int32)) 41 0 (-1 : Int32)) 41 1 (-1 : Int32))).bind fun q4 => (if q4.1 = 0 then ((F_X8_isStillWithTwo q4.2).bind fun q7 => (if q7.1 = 0 then (some (xu q7.2 0 14 (-1 : Int32))) else (some (xu q7.2 0 14 (2 : Int32))))) else (some (xu q4.2 0 14 (1 : Int32)))))) else (some s)
set_option maxRecDepth 100000 in
theorem ok_X8_planFelt (s : xS) : xTr xMs xFL xR_X8_planFelt (Sum.inl (0, [(0, .ref 0)], [], s)) (F_X8_planFelt s) (fun (y : xS) => Sum.inr (none, y)) := by
  unfold F_X8_planFelt
  refine xTr.ms 2 (g := (4, [(0, .ref 0)], [.int (s.1 0 15)], s)) rfl ?_
  refine xTr.br (g1 := (8, [(0, .ref 0)], [], s)) (g2 := (7, [(0, .ref 0)], [], s)) rfl (fun h1 => ?_) (fun h1 => ?_)
  · refine xTr.ms 17 (g := (35, [(0, .ref 0)], [.int (-1 : Int32), .int (s.1 22 5)], (xu (xu (xu s 0 15 (1 : Int32)) 41 0 (-1 : Int32)) 41 1 (-1 : Int32)))) rfl ?_
    refine xTr.br (g1 := (38, [(0, .ref 0)], [], (xu (xu (xu s 0 15 (1 : Int32)) 41 0 (-1 : Int32)) 41 1 (-1 : Int32)))) (g2 := (46, [(0, .ref 0)], [], (xu (xu (xu s 0 15 (1 : Int32)) 41 0 (-1 : Int32)) 41 1 (-1 : Int32)))) rfl (fun h2 => ?_) (fun h2 => ?_)
    · refine xTr.ms 4 (g := (77, [(0, .ref 0)], [], (xu (xu (xu (xu s 0 15 (1 : Int32)) 41 0 (-1 : Int32)) 41 1 (-1 : Int32)) 0 14 (0 : Int32)))) rfl ?_
      exact xTr.ret rfl rfl rfl
    · refine xTr.ms 1 (g := (47, [(0, .ref 0)], [.ref 0], (xu (xu (xu s 0 15 (1 : Int32)) 41 0 (-1 : Int32)) 41 1 (-1 : Int32)))) rfl ?_
      refine xTr.calli (R' := xR_X8_isStillWithOne) (as := [.ref 0]) (lv := [(0, .ref 0)]) (rest := []) (ok_X8_isStillWithOne (xu (xu (xu s 0 15 (1 : Int32)) 41 0 (-1 : Int32)) 41 1 (-1 : Int32))) rfl rfl rfl rfl rfl (fun v3 s3 => ?_)
      refine xTr.br (g1 := (61, [(0, .ref 0)], [], s3)) (g2 := (53, [(0, .ref 0)], [], s3)) rfl (fun h5 => ?_) (fun h5 => ?_)
      · refine xTr.ms 2 (g := (63, [(0, .ref 0)], [.ref 0, .ref 0], s3)) rfl ?_
        refine xTr.calli (R' := xR_X8_isStillWithTwo) (as := [.ref 0]) (lv := [(0, .ref 0)]) (rest := [.ref 0]) (ok_X8_isStillWithTwo s3) rfl rfl rfl rfl rfl (fun v6 s6 => ?_)
        refine xTr.br (g1 := (73, [(0, .ref 0)], [.ref 0], s6)) (g2 := (69, [(0, .ref 0)], [.ref 0], s6)) rfl (fun h8 => ?_) (fun h8 => ?_)
        · refine xTr.ms 2 (g := (77, [], [], (xu s6 0 14 (-1 : Int32)))) rfl ?_
          exact xTr.ret rfl rfl rfl
        · refine xTr.ms 3 (g := (77, [], [], (xu s6 0 14 (2 : Int32)))) rfl ?_
          exact xTr.ret rfl rfl rfl
      · refine xTr.ms 4 (g := (77, [(0, .ref 0)], [], (xu s3 0 14 (1 : Int32)))) rfl ?_
        exact xTr.ret rfl rfl rfl
  · exact xTr.ret rfl rfl rfl
-- X8_felt
def F_X8_felt (l1 : Int32) (s : xS) : Option (Int32 × xS) := if l1 < (-1 : Int32) then (some ((-2 : Int32), s)) else (if l1 ≤ (1 : Int32) then ((F_X8_planFelt s).bind fun s4 => (if l1 = (-1 : Int32) then (some ((s4.1 0 14), s4)) else (if l1 < 0 ∨ 2 ≤ l1.toNatClampNeg then none else (some ((s4.1 41 l1.toNatClampNeg), s4))))) else (some ((-2 : Int32), s)))
set_option maxRecDepth 100000 in
theorem ok_X8_felt (l1 : Int32) (s : xS) : xTr xMs xFL xR_X8_felt (Sum.inl (0, [(0, .ref 0), (1, .int l1)], [], s)) (F_X8_felt l1 s) (fun (y : Int32 × xS) => Sum.inr (some (.int y.1), y.2)) := by
  unfold F_X8_felt
  refine xTr.ms 2 (g := (2, [(0, .ref 0), (1, .int l1)], [.int (-1 : Int32), .int l1], s)) rfl ?_
  refine xTr.br (g1 := (10, [(0, .ref 0), (1, .int l1)], [], s)) (g2 := (5, [(0, .ref 0), (1, .int l1)], [], s)) rfl (fun h1 => ?_) (fun h1 => ?_)
  · refine xTr.ms 1 (g := (12, [], [.int (-2 : Int32)], s)) rfl ?_
    exact xTr.ret rfl rfl rfl
  · refine xTr.ms 2 (g := (7, [(0, .ref 0), (1, .int l1)], [.int (1 : Int32), .int l1], s)) rfl ?_
    refine xTr.br (g1 := (13, [(0, .ref 0), (1, .int l1)], [], s)) (g2 := (10, [(0, .ref 0), (1, .int l1)], [], s)) rfl (fun h2 => ?_) (fun h2 => ?_)
    · refine xTr.ms 1 (g := (14, [(0, .ref 0), (1, .int l1)], [.ref 0], s)) rfl ?_
      refine xTr.callv (R' := xR_X8_planFelt) (as := [.ref 0]) (lv := [(0, .ref 0), (1, .int l1)]) (rest := []) (ok_X8_planFelt s) rfl rfl rfl rfl rfl (fun s4 => ?_)
      refine xTr.ms 2 (g := (19, [(0, .ref 0), (1, .int l1)], [.int (-1 : Int32), .int l1], s4)) rfl ?_
      refine xTr.br (g1 := (22, [(0, .ref 0), (1, .int l1)], [], s4)) (g2 := (29, [(0, .ref 0), (1, .int l1)], [], s4)) rfl (fun h5 => ?_) (fun h5 => ?_)
      · refine xTr.ms 3 (g := (35, [(0, .ref 0)], [.int (s4.1 0 14)], s4)) rfl ?_
        exact xTr.ret rfl rfl rfl
      · refine xTr.ms 3 (g := (34, [(0, .ref 0), (1, .int l1)], [.int l1, .ref 41], s4)) rfl ?_
        refine xTr.ck (g := (35, [(0, .ref 0), (1, .int l1)], [.int (s4.1 41 l1.toNatClampNeg)], s4)) rfl (fun h6 => ?_)
        exact xTr.ret rfl rfl rfl
    · refine xTr.ms 1 (g := (12, [], [.int (-2 : Int32)], s)) rfl ?_
      exact xTr.ret rfl rfl rfl
-- X8_latenessWithBed
def F_X8_latenessWithBed (l1 : Int32) (s : xS) : Option (Int32 × xS) := (F_X4_takeTolls 31 s).bind fun s2 => ((F_X4_spread 31 l1 s2).bind fun s4 => ((F_X3_pass 34 8 31 (255 : Int32) s4).bind fun s6 => ((F_X3_lateness s6).bind fun v7 => (some (v7, s6)))))
set_option maxRecDepth 100000 in
theorem ok_X8_latenessWithBed (l1 : Int32) (s : xS) : xTr xMs xFL xR_X8_latenessWithBed (Sum.inl (0, [(0, .ref 0), (1, .int l1)], [], s)) (F_X8_latenessWithBed l1 s) (fun (y : Int32 × xS) => Sum.inr (some (.int y.1), y.2)) := by
  unfold F_X8_latenessWithBed
  refine xTr.ms 4 (g := (8, [(0, .ref 0), (1, .int l1)], [.ref 5, .ref 31], s)) rfl ?_
  refine xTr.callv (R' := xR_X4_takeTolls) (as := [.ref 31, .ref 5]) (lv := [(0, .ref 0), (1, .int l1)]) (rest := []) (ok_X4_takeTolls_31 s) rfl rfl rfl rfl rfl (fun s2 => ?_)
  refine xTr.ms 5 (g := (20, [(0, .ref 0), (1, .int l1)], [.int l1, .ref 5, .ref 31], s2)) rfl ?_
  refine xTr.callv (R' := xR_X4_spread) (as := [.ref 31, .ref 5, .int l1]) (lv := [(0, .ref 0), (1, .int l1)]) (rest := []) (ok_X4_spread_31 l1 s2) rfl rfl rfl rfl rfl (fun s4 => ?_)
  refine xTr.ms 7 (g := (38, [(0, .ref 0), (1, .int l1)], [.ref 31, .int (255 : Int32), .ref 8, .ref 34], s4)) rfl ?_
  refine xTr.callv (R' := xR_X3_pass) (as := [.ref 34, .ref 8, .int (255 : Int32), .ref 31]) (lv := [(0, .ref 0), (1, .int l1)]) (rest := []) (ok_X3_pass_34_8_31 (255 : Int32) s4) rfl rfl rfl rfl rfl (fun s6 => ?_)
  refine xTr.ms 2 (g := (45, [(0, .ref 0), (1, .int l1)], [.ref 34], s6)) rfl ?_
  refine xTr.callip (R' := xR_X3_lateness) (as := [.ref 34]) (lv := [(0, .ref 0), (1, .int l1)]) (rest := []) (ok_X3_lateness s6) rfl rfl rfl rfl rfl (fun v7 => ?_)
  exact xTr.ret rfl rfl rfl
-- X8_bestBed
def F_X8_bestBed_L6 (a : Int32 × Int32 × Int32 × xS) : Option ((Int32 × Int32 × Int32 × xS) ⊕ (Int32 × xS)) := if (a.2.2.2.1 5 2) ≤ a.2.2.1 then (some (Sum.inr (a.1, a.2.2.2))) else ((F_X7_isOpen a.2.2.1 a.2.2.2).bind fun v2 => (if v2 = 0 then (if (-1 : Int32) ≤ a.2.1 then (some (Sum.inl (a.1, a.2.1, (a.2.2.1 + (1 : Int32)), a.2.2.2))) else (some (Sum.inl (a.2.2.1, (-1 : Int32), (a.2.2.1 + (1 : Int32)), a.2.2.2)))) else ((F_X8_latenessWithBed a.2.2.1 a.2.2.2).bind fun q6 => (if q6.1 ≤ a.2.1 then (some (Sum.inl (a.1, a.2.1, (a.2.2.1 + (1 : Int32)), q6.2))) else (some (Sum.inl (a.2.2.1, q6.1, (a.2.2.1 + (1 : Int32)), q6.2)))))))
def F_X8_bestBed (s : xS) : Option (Int32 × xS) := (xlp (F_X8_bestBed_L6) 100000 ((-1 : Int32), (-1 : Int32), (0 : Int32), s)).bind (fun b8 => (some (b8.1, b8.2)))
def F_X8_bestBed_L6_hd (a : Int32 × Int32 × Int32 × xS) : xT := Sum.inl (6, [(0, .ref 0), (1, .int a.1), (2, .int a.2.1), (3, .int a.2.2.1)], [], a.2.2.2)
def F_X8_bestBed_L6_ex : (Int32 × xS) → xT := (fun (z : Int32 × xS) => Sum.inl (56, [(1, .int z.1)], [], z.2))
set_option maxRecDepth 100000 in
theorem F_X8_bestBed_L6_ok (a : Int32 × Int32 × Int32 × xS) : xTr xMs xFL xR_X8_bestBed (F_X8_bestBed_L6_hd a) (F_X8_bestBed_L6 a) (xhx (F_X8_bestBed_L6_hd) (F_X8_bestBed_L6_ex)) := by
  unfold F_X8_bestBed_L6
  refine xTr.ms 4 (g := (14, [(0, .ref 0), (1, .int a.1), (2, .int a.2.1), (3, .int a.2.2.1)], [.int (a.2.2.2.1 5 2), .int a.2.2.1], a.2.2.2)) rfl ?_
  refine xTr.br (g1 := (56, [(0, .ref 0), (1, .int a.1), (2, .int a.2.1), (3, .int a.2.2.1)], [], a.2.2.2)) (g2 := (17, [(0, .ref 0), (1, .int a.1), (2, .int a.2.1), (3, .int a.2.2.1)], [], a.2.2.2)) rfl (fun h1 => ?_) (fun h1 => ?_)
  · refine xTr.mk (lv1 := [(1, .int a.1)]) rfl rfl ?_
    exact xTr.leaf rfl
  · refine xTr.ms 3 (g := (22, [(0, .ref 0), (1, .int a.1), (2, .int a.2.1), (3, .int a.2.2.1)], [.int a.2.2.1, .ref 5], a.2.2.2)) rfl ?_
    refine xTr.callip (R' := xR_X7_isOpen) (as := [.ref 5, .int a.2.2.1]) (lv := [(0, .ref 0), (1, .int a.1), (2, .int a.2.1), (3, .int a.2.2.1)]) (rest := []) (ok_X7_isOpen a.2.2.1 a.2.2.2) rfl rfl rfl rfl rfl (fun v2 => ?_)
    refine xTr.br (g1 := (36, [(0, .ref 0), (1, .int a.1), (2, .int a.2.1), (3, .int a.2.2.1)], [], a.2.2.2)) (g2 := (28, [(0, .ref 0), (1, .int a.1), (2, .int a.2.1), (3, .int a.2.2.1)], [], a.2.2.2)) rfl (fun h3 => ?_) (fun h3 => ?_)
    · refine xTr.ms 4 (g := (42, [(0, .ref 0), (1, .int a.1), (2, .int a.2.1), (3, .int a.2.2.1), (4, .int (-1 : Int32))], [.int a.2.1, .int (-1 : Int32)], a.2.2.2)) rfl ?_
      refine xTr.br (g1 := (50, [(0, .ref 0), (1, .int a.1), (2, .int a.2.1), (3, .int a.2.2.1), (4, .int (-1 : Int32))], [], a.2.2.2)) (g2 := (45, [(0, .ref 0), (1, .int a.1), (2, .int a.2.1), (3, .int a.2.2.1), (4, .int (-1 : Int32))], [], a.2.2.2)) rfl (fun h4 => ?_) (fun h4 => ?_)
      · refine xTr.ms 2 (g := (6, [(0, .ref 0), (1, .int a.1), (2, .int a.2.1), (3, .int (a.2.2.1 + (1 : Int32)))], [], a.2.2.2)) rfl ?_
        exact xTr.leaf rfl
      · refine xTr.ms 6 (g := (6, [(0, .ref 0), (1, .int a.2.2.1), (2, .int (-1 : Int32)), (3, .int (a.2.2.1 + (1 : Int32)))], [], a.2.2.2)) rfl ?_
        exact xTr.leaf rfl
    · refine xTr.ms 2 (g := (30, [(0, .ref 0), (1, .int a.1), (2, .int a.2.1), (3, .int a.2.2.1)], [.int a.2.2.1, .ref 0], a.2.2.2)) rfl ?_
      refine xTr.calli (R' := xR_X8_latenessWithBed) (as := [.ref 0, .int a.2.2.1]) (lv := [(0, .ref 0), (1, .int a.1), (2, .int a.2.1), (3, .int a.2.2.1)]) (rest := []) (ok_X8_latenessWithBed a.2.2.1 a.2.2.2) rfl rfl rfl rfl rfl (fun v5 s5 => ?_)
      refine xTr.ms 4 (g := (42, [(0, .ref 0), (1, .int a.1), (2, .int a.2.1), (3, .int a.2.2.1), (4, .int v5)], [.int a.2.1, .int v5], s5)) rfl ?_
      refine xTr.br (g1 := (50, [(0, .ref 0), (1, .int a.1), (2, .int a.2.1), (3, .int a.2.2.1), (4, .int v5)], [], s5)) (g2 := (45, [(0, .ref 0), (1, .int a.1), (2, .int a.2.1), (3, .int a.2.2.1), (4, .int v5)], [], s5)) rfl (fun h7 => ?_) (fun h7 => ?_)
      · refine xTr.ms 2 (g := (6, [(0, .ref 0), (1, .int a.1), (2, .int a.2.1), (3, .int (a.2.2.1 + (1 : Int32)))], [], s5)) rfl ?_
        exact xTr.leaf rfl
      · refine xTr.ms 6 (g := (6, [(0, .ref 0), (1, .int a.2.2.1), (2, .int v5), (3, .int (a.2.2.1 + (1 : Int32)))], [], s5)) rfl ?_
        exact xTr.leaf rfl
set_option maxRecDepth 100000 in
theorem ok_X8_bestBed (s : xS) : xTr xMs xFL xR_X8_bestBed (Sum.inl (0, [(0, .ref 0)], [], s)) (F_X8_bestBed s) (fun (y : Int32 × xS) => Sum.inr (some (.int y.1), y.2)) := by
  unfold F_X8_bestBed
  refine xTr.ms 6 (g := (6, [(0, .ref 0), (1, .int (-1 : Int32)), (2, .int (-1 : Int32)), (3, .int (0 : Int32))], [], s)) rfl ?_
  refine xTr.bind (J := F_X8_bestBed_L6_ex) (xTr.loop (hd := F_X8_bestBed_L6_hd) (fun aa => F_X8_bestBed_L6_ok aa) 100000 ((-1 : Int32), (-1 : Int32), (0 : Int32), s)) (fun b8 => ?_)
  refine xTr.ms 1 (g := (57, [(1, .int b8.1)], [.int b8.1], b8.2)) rfl ?_
  exact xTr.ret rfl rfl rfl
-- X8_lay
def F_X8_lay (l1 : Int32) (s : xS) : Option (Int32 × xS) := (F_X8_isOutside l1 (2 : Int32) s).bind fun v1 => (if v1 = 0 then ((F_X8_bestBed s).bind fun q4 => (if l1 = 0 then (some (q4.1, q4.2)) else (if q4.1 = (-1 : Int32) then (some (q4.1, q4.2)) else ((F_X8_latenessWithBed q4.1 q4.2).bind fun q8 => ((F_X8_asHour q8.1 q8.2).bind fun v9 => (some (v9, q8.2))))))) else (some ((-2 : Int32), s)))
set_option maxRecDepth 100000 in
theorem ok_X8_lay (l1 : Int32) (s : xS) : xTr xMs xFL xR_X8_lay (Sum.inl (0, [(0, .ref 0), (1, .int l1)], [], s)) (F_X8_lay l1 s) (fun (y : Int32 × xS) => Sum.inr (some (.int y.1), y.2)) := by
  unfold F_X8_lay
  refine xTr.ms 2 (g := (2, [(0, .ref 0), (1, .int l1)], [.int (2 : Int32), .int l1], s)) rfl ?_
  refine xTr.callip (R' := xR_X8_isOutside) (as := [.int l1, .int (2 : Int32)]) (lv := [(0, .ref 0), (1, .int l1)]) (rest := []) (ok_X8_isOutside l1 (2 : Int32) s) rfl rfl rfl rfl rfl (fun v1 => ?_)
  refine xTr.br (g1 := (11, [(0, .ref 0), (1, .int l1)], [], s)) (g2 := (8, [(0, .ref 0), (1, .int l1)], [], s)) rfl (fun h2 => ?_) (fun h2 => ?_)
  · refine xTr.ms 1 (g := (12, [(0, .ref 0), (1, .int l1)], [.ref 0], s)) rfl ?_
    refine xTr.calli (R' := xR_X8_bestBed) (as := [.ref 0]) (lv := [(0, .ref 0), (1, .int l1)]) (rest := []) (ok_X8_bestBed s) rfl rfl rfl rfl rfl (fun v3 s3 => ?_)
    refine xTr.ms 2 (g := (17, [(0, .ref 0), (1, .int l1), (2, .int v3)], [.int l1], s3)) rfl ?_
    refine xTr.br (g1 := (25, [(0, .ref 0), (1, .int l1), (2, .int v3)], [], s3)) (g2 := (20, [(0, .ref 0), (1, .int l1), (2, .int v3)], [], s3)) rfl (fun h5 => ?_) (fun h5 => ?_)
    · refine xTr.ms 1 (g := (26, [(2, .int v3)], [.int v3], s3)) rfl ?_
      exact xTr.ret rfl rfl rfl
    · refine xTr.ms 2 (g := (22, [(0, .ref 0), (2, .int v3)], [.int (-1 : Int32), .int v3], s3)) rfl ?_
      refine xTr.br (g1 := (25, [(0, .ref 0), (2, .int v3)], [], s3)) (g2 := (27, [(0, .ref 0), (2, .int v3)], [], s3)) rfl (fun h6 => ?_) (fun h6 => ?_)
      · refine xTr.ms 1 (g := (26, [(2, .int v3)], [.int v3], s3)) rfl ?_
        exact xTr.ret rfl rfl rfl
      · refine xTr.ms 2 (g := (29, [(0, .ref 0), (2, .int v3)], [.int v3, .ref 0], s3)) rfl ?_
        refine xTr.calli (R' := xR_X8_latenessWithBed) (as := [.ref 0, .int v3]) (lv := [(0, .ref 0), (2, .int v3)]) (rest := []) (ok_X8_latenessWithBed v3 s3) rfl rfl rfl rfl rfl (fun v7 s7 => ?_)
        refine xTr.callip (R' := xR_X8_asHour) (as := [.int v7]) (lv := [(0, .ref 0), (2, .int v3)]) (rest := []) (ok_X8_asHour v7 s7) rfl rfl rfl rfl rfl (fun v9 => ?_)
        exact xTr.ret rfl rfl rfl
  · refine xTr.ms 1 (g := (10, [], [.int (-2 : Int32)], s)) rfl ?_
    exact xTr.ret rfl rfl rfl
-- X8_way
def F_X8_way_L51 (l1 : Int32) (l2 : Int32) (a : Int32 × xS) : Option ((Int32 × xS) ⊕ (xS)) := if (a.2.1 5 2) ≤ a.1 then (some (Sum.inr a.2)) else ((F_X7_isOpen a.1 a.2).bind fun v10 => (if v10 = 0 then (if a.1 < 0 ∨ 36 ≤ a.1.toNatClampNeg then none else (some (Sum.inl ((a.1 + (1 : Int32)), (xu a.2 32 a.1.toNatClampNeg (1000000 : Int32)))))) else ((F_X4_left 19 (xra 1001 2) a.1 a.2).bind fun v13 => (if a.1 < 0 ∨ 36 ≤ a.1.toNatClampNeg then none else (some (Sum.inl ((a.1 + (1 : Int32)), (xu a.2 32 a.1.toNatClampNeg v13))))))))
def F_X8_way (l1 : Int32) (l2 : Int32) (s : xS) : Option (Int32 × xS) := (F_X7_has l1 s).bind fun v1 => (if v1 = 0 then (some ((-2 : Int32), s)) else ((F_X7_has l2 s).bind fun v3 => (if v3 = 0 then (some ((-2 : Int32), s)) else ((F_X7_isOpen l1 s).bind fun v5 => (if v5 = 0 then (some ((-1 : Int32), s)) else ((F_X7_isOpen l2 s).bind fun v7 => (if v7 = 0 then (some ((-1 : Int32), s)) else ((xlp (F_X8_way_L51 l1 l2) 100000 ((0 : Int32), s)).bind (fun b15 => ((F_X4_spread 31 l2 b15).bind fun s17 => (if l1 < 0 ∨ 36 ≤ l1.toNatClampNeg then none else (if (s17.1 33 l1.toNatClampNeg) < (1000000 : Int32) then (if l1 < 0 ∨ 36 ≤ l1.toNatClampNeg then none else (some (((s17.1 33 l1.toNatClampNeg) + (s17.1 32 l1.toNatClampNeg)), s17))) else (some ((-1 : Int32), s17))))))))))))))
def F_X8_way_L51_hd (l1 : Int32) (l2 : Int32) (a : Int32 × xS) : xT := Sum.inl (51, [(0, .ref 0), (1, .int l1), (2, .int l2), (3, .int a.1)], [], a.2)
def F_X8_way_L51_ex (l1 : Int32) (l2 : Int32) : (xS) → xT := (fun (z : xS) => Sum.inl (106, [(0, .ref 0), (1, .int l1), (2, .int l2)], [], z))
set_option maxRecDepth 100000 in
theorem F_X8_way_L51_ok (l1 : Int32) (l2 : Int32) (a : Int32 × xS) : xTr xMs xFL xR_X8_way (F_X8_way_L51_hd l1 l2 a) (F_X8_way_L51 l1 l2 a) (xhx (F_X8_way_L51_hd l1 l2) (F_X8_way_L51_ex l1 l2)) := by
  unfold F_X8_way_L51
  refine xTr.ms 4 (g := (59, [(0, .ref 0), (1, .int l1), (2, .int l2), (3, .int a.1)], [.int (a.2.1 5 2), .int a.1], a.2)) rfl ?_
  refine xTr.br (g1 := (106, [(0, .ref 0), (1, .int l1), (2, .int l2), (3, .int a.1)], [], a.2)) (g2 := (62, [(0, .ref 0), (1, .int l1), (2, .int l2), (3, .int a.1)], [], a.2)) rfl (fun h9 => ?_) (fun h9 => ?_)
  · refine xTr.mk (lv1 := [(0, .ref 0), (1, .int l1), (2, .int l2)]) rfl rfl ?_
    exact xTr.leaf rfl
  · refine xTr.ms 7 (g := (75, [(0, .ref 0), (1, .int l1), (2, .int l2), (3, .int a.1)], [.int a.1, .ref 5, .int a.1, .ref 32], a.2)) rfl ?_
    refine xTr.callip (R' := xR_X7_isOpen) (as := [.ref 5, .int a.1]) (lv := [(0, .ref 0), (1, .int l1), (2, .int l2), (3, .int a.1)]) (rest := [.int a.1, .ref 32]) (ok_X7_isOpen a.1 a.2) rfl rfl rfl rfl rfl (fun v10 => ?_)
    refine xTr.br (g1 := (97, [(0, .ref 0), (1, .int l1), (2, .int l2), (3, .int a.1)], [.int a.1, .ref 32], a.2)) (g2 := (81, [(0, .ref 0), (1, .int l1), (2, .int l2), (3, .int a.1)], [.int a.1, .ref 32], a.2)) rfl (fun h11 => ?_) (fun h11 => ?_)
    · refine xTr.ms 1 (g := (99, [(0, .ref 0), (1, .int l1), (2, .int l2), (3, .int a.1)], [.int (1000000 : Int32), .int a.1, .ref 32], a.2)) rfl ?_
      refine xTr.ck (g := (100, [(0, .ref 0), (1, .int l1), (2, .int l2), (3, .int a.1)], [], (xu a.2 32 a.1.toNatClampNeg (1000000 : Int32)))) rfl (fun h12 => ?_)
      refine xTr.ms 2 (g := (51, [(0, .ref 0), (1, .int l1), (2, .int l2), (3, .int (a.1 + (1 : Int32)))], [], (xu a.2 32 a.1.toNatClampNeg (1000000 : Int32)))) rfl ?_
      exact xTr.leaf rfl
    · refine xTr.ms 6 (g := (91, [(0, .ref 0), (1, .int l1), (2, .int l2), (3, .int a.1)], [.int a.1, .int (xra 1001 2), .ref 19, .int a.1, .ref 32], a.2)) rfl ?_
      refine xTr.callip (R' := xR_X4_left) (as := [.ref 19, .int (xra 1001 2), .int a.1]) (lv := [(0, .ref 0), (1, .int l1), (2, .int l2), (3, .int a.1)]) (rest := [.int a.1, .ref 32]) (ok_X4_left_19 (xra 1001 2) a.1 a.2) rfl rfl rfl rfl rfl (fun v13 => ?_)
      refine xTr.ms 1 (g := (99, [(0, .ref 0), (1, .int l1), (2, .int l2), (3, .int a.1)], [.int v13, .int a.1, .ref 32], a.2)) rfl ?_
      refine xTr.ck (g := (100, [(0, .ref 0), (1, .int l1), (2, .int l2), (3, .int a.1)], [], (xu a.2 32 a.1.toNatClampNeg v13))) rfl (fun h14 => ?_)
      refine xTr.ms 2 (g := (51, [(0, .ref 0), (1, .int l1), (2, .int l2), (3, .int (a.1 + (1 : Int32)))], [], (xu a.2 32 a.1.toNatClampNeg v13))) rfl ?_
      exact xTr.leaf rfl
set_option maxRecDepth 100000 in
theorem ok_X8_way (l1 : Int32) (l2 : Int32) (s : xS) : xTr xMs xFL xR_X8_way (Sum.inl (0, [(0, .ref 0), (1, .int l1), (2, .int l2)], [], s)) (F_X8_way l1 l2 s) (fun (y : Int32 × xS) => Sum.inr (some (.int y.1), y.2)) := by
  unfold F_X8_way
  refine xTr.ms 3 (g := (5, [(0, .ref 0), (1, .int l1), (2, .int l2)], [.int l1, .ref 5], s)) rfl ?_
  refine xTr.callip (R' := xR_X7_has) (as := [.ref 5, .int l1]) (lv := [(0, .ref 0), (1, .int l1), (2, .int l2)]) (rest := []) (ok_X7_has l1 s) rfl rfl rfl rfl rfl (fun v1 => ?_)
  refine xTr.br (g1 := (22, [(0, .ref 0), (1, .int l1), (2, .int l2)], [], s)) (g2 := (11, [(0, .ref 0), (1, .int l1), (2, .int l2)], [], s)) rfl (fun h2 => ?_) (fun h2 => ?_)
  · refine xTr.ms 1 (g := (24, [], [.int (-2 : Int32)], s)) rfl ?_
    exact xTr.ret rfl rfl rfl
  · refine xTr.ms 3 (g := (16, [(0, .ref 0), (1, .int l1), (2, .int l2)], [.int l2, .ref 5], s)) rfl ?_
    refine xTr.callip (R' := xR_X7_has) (as := [.ref 5, .int l2]) (lv := [(0, .ref 0), (1, .int l1), (2, .int l2)]) (rest := []) (ok_X7_has l2 s) rfl rfl rfl rfl rfl (fun v3 => ?_)
    refine xTr.br (g1 := (22, [(0, .ref 0), (1, .int l1), (2, .int l2)], [], s)) (g2 := (25, [(0, .ref 0), (1, .int l1), (2, .int l2)], [], s)) rfl (fun h4 => ?_) (fun h4 => ?_)
    · refine xTr.ms 1 (g := (24, [], [.int (-2 : Int32)], s)) rfl ?_
      exact xTr.ret rfl rfl rfl
    · refine xTr.ms 3 (g := (30, [(0, .ref 0), (1, .int l1), (2, .int l2)], [.int l1, .ref 5], s)) rfl ?_
      refine xTr.callip (R' := xR_X7_isOpen) (as := [.ref 5, .int l1]) (lv := [(0, .ref 0), (1, .int l1), (2, .int l2)]) (rest := []) (ok_X7_isOpen l1 s) rfl rfl rfl rfl rfl (fun v5 => ?_)
      refine xTr.br (g1 := (47, [(0, .ref 0), (1, .int l1), (2, .int l2)], [], s)) (g2 := (36, [(0, .ref 0), (1, .int l1), (2, .int l2)], [], s)) rfl (fun h6 => ?_) (fun h6 => ?_)
      · refine xTr.ms 1 (g := (48, [], [.int (-1 : Int32)], s)) rfl ?_
        exact xTr.ret rfl rfl rfl
      · refine xTr.ms 3 (g := (41, [(0, .ref 0), (1, .int l1), (2, .int l2)], [.int l2, .ref 5], s)) rfl ?_
        refine xTr.callip (R' := xR_X7_isOpen) (as := [.ref 5, .int l2]) (lv := [(0, .ref 0), (1, .int l1), (2, .int l2)]) (rest := []) (ok_X7_isOpen l2 s) rfl rfl rfl rfl rfl (fun v7 => ?_)
        refine xTr.br (g1 := (47, [(0, .ref 0), (1, .int l1), (2, .int l2)], [], s)) (g2 := (49, [(0, .ref 0), (1, .int l1), (2, .int l2)], [], s)) rfl (fun h8 => ?_) (fun h8 => ?_)
        · refine xTr.ms 1 (g := (48, [], [.int (-1 : Int32)], s)) rfl ?_
          exact xTr.ret rfl rfl rfl
        · refine xTr.ms 2 (g := (51, [(0, .ref 0), (1, .int l1), (2, .int l2), (3, .int (0 : Int32))], [], s)) rfl ?_
          refine xTr.bind (J := F_X8_way_L51_ex l1 l2) (xTr.loop (hd := F_X8_way_L51_hd l1 l2) (fun aa => F_X8_way_L51_ok l1 l2 aa) 100000 ((0 : Int32), s)) (fun b15 => ?_)
          refine xTr.ms 5 (g := (115, [(0, .ref 0), (1, .int l1), (2, .int l2)], [.int l2, .ref 5, .ref 31], b15)) rfl ?_
          refine xTr.callv (R' := xR_X4_spread) (as := [.ref 31, .ref 5, .int l2]) (lv := [(0, .ref 0), (1, .int l1), (2, .int l2)]) (rest := []) (ok_X4_spread_31 l2 b15) rfl rfl rfl rfl rfl (fun s17 => ?_)
          refine xTr.ms 4 (g := (126, [(0, .ref 0), (1, .int l1), (2, .int l2)], [.int l1, .ref 33], s17)) rfl ?_
          refine xTr.ck (g := (127, [(0, .ref 0), (1, .int l1), (2, .int l2)], [.int (s17.1 33 l1.toNatClampNeg)], s17)) rfl (fun h18 => ?_)
          refine xTr.ms 3 (g := (131, [(0, .ref 0), (1, .int l1), (2, .int l2), (3, .int (s17.1 33 l1.toNatClampNeg))], [.int (1000000 : Int32), .int (s17.1 33 l1.toNatClampNeg)], s17)) rfl ?_
          refine xTr.br (g1 := (138, [(0, .ref 0), (1, .int l1), (2, .int l2), (3, .int (s17.1 33 l1.toNatClampNeg))], [], s17)) (g2 := (134, [(0, .ref 0), (1, .int l1), (2, .int l2), (3, .int (s17.1 33 l1.toNatClampNeg))], [], s17)) rfl (fun h19 => ?_) (fun h19 => ?_)
          · refine xTr.ms 5 (g := (147, [(0, .ref 0), (1, .int l1), (3, .int (s17.1 33 l1.toNatClampNeg))], [.int l1, .ref 32, .int (s17.1 33 l1.toNatClampNeg)], s17)) rfl ?_
            refine xTr.ck (g := (148, [(0, .ref 0), (1, .int l1), (3, .int (s17.1 33 l1.toNatClampNeg))], [.int (s17.1 32 l1.toNatClampNeg), .int (s17.1 33 l1.toNatClampNeg)], s17)) rfl (fun h20 => ?_)
            refine xTr.ms 1 (g := (149, [(0, .ref 0), (1, .int l1), (3, .int (s17.1 33 l1.toNatClampNeg))], [.int ((s17.1 33 l1.toNatClampNeg) + (s17.1 32 l1.toNatClampNeg))], s17)) rfl ?_
            exact xTr.ret rfl rfl rfl
          · refine xTr.ms 2 (g := (149, [], [.int (-1 : Int32)], s17)) rfl ?_
            exact xTr.ret rfl rfl rfl
-- X8_listened
def F_X8_listened (l1 : Int32) (l2 : Int32) (s : xS) : Option (Int32 × xS) := (F_X8_isOutside l1 (10 : Int32) s).bind fun v1 => (if v1 = 0 then ((F_X8_isOutside l2 (100 : Int32) s).bind fun v3 => (if v3 = 0 then ((F_X2_isFull 16 s).bind fun v5 => (if v5 = 0 then ((F_X2_add 16 l1 l2 s).bind fun s8 => (some ((s8.1 16 3), s8))) else (some ((-4 : Int32), s)))) else (some ((-2 : Int32), s)))) else (some ((-2 : Int32), s)))
set_option maxRecDepth 100000 in
theorem ok_X8_listened (l1 : Int32) (l2 : Int32) (s : xS) : xTr xMs xFL xR_X8_listened (Sum.inl (0, [(0, .ref 0), (1, .int l1), (2, .int l2)], [], s)) (F_X8_listened l1 l2 s) (fun (y : Int32 × xS) => Sum.inr (some (.int y.1), y.2)) := by
  unfold F_X8_listened
  refine xTr.ms 2 (g := (3, [(0, .ref 0), (1, .int l1), (2, .int l2)], [.int (10 : Int32), .int l1], s)) rfl ?_
  refine xTr.callip (R' := xR_X8_isOutside) (as := [.int l1, .int (10 : Int32)]) (lv := [(0, .ref 0), (1, .int l1), (2, .int l2)]) (rest := []) (ok_X8_isOutside l1 (10 : Int32) s) rfl rfl rfl rfl rfl (fun v1 => ?_)
  refine xTr.br (g1 := (9, [(0, .ref 0), (1, .int l1), (2, .int l2)], [], s)) (g2 := (18, [(0, .ref 0), (1, .int l1), (2, .int l2)], [], s)) rfl (fun h2 => ?_) (fun h2 => ?_)
  · refine xTr.ms 2 (g := (12, [(0, .ref 0), (1, .int l1), (2, .int l2)], [.int (100 : Int32), .int l2], s)) rfl ?_
    refine xTr.callip (R' := xR_X8_isOutside) (as := [.int l2, .int (100 : Int32)]) (lv := [(0, .ref 0), (1, .int l1), (2, .int l2)]) (rest := []) (ok_X8_isOutside l2 (100 : Int32) s) rfl rfl rfl rfl rfl (fun v3 => ?_)
    refine xTr.br (g1 := (21, [(0, .ref 0), (1, .int l1), (2, .int l2)], [], s)) (g2 := (18, [(0, .ref 0), (1, .int l1), (2, .int l2)], [], s)) rfl (fun h4 => ?_) (fun h4 => ?_)
    · refine xTr.ms 2 (g := (25, [(0, .ref 0), (1, .int l1), (2, .int l2)], [.ref 16], s)) rfl ?_
      refine xTr.callip (R' := xR_X2_isFull) (as := [.ref 16]) (lv := [(0, .ref 0), (1, .int l1), (2, .int l2)]) (rest := []) (ok_X2_isFull_16 s) rfl rfl rfl rfl rfl (fun v5 => ?_)
      refine xTr.br (g1 := (34, [(0, .ref 0), (1, .int l1), (2, .int l2)], [], s)) (g2 := (31, [(0, .ref 0), (1, .int l1), (2, .int l2)], [], s)) rfl (fun h6 => ?_) (fun h6 => ?_)
      · refine xTr.ms 4 (g := (40, [(0, .ref 0), (1, .int l1), (2, .int l2)], [.int l2, .int l1, .ref 16], s)) rfl ?_
        refine xTr.callv (R' := xR_X2_add) (as := [.ref 16, .int l1, .int l2]) (lv := [(0, .ref 0), (1, .int l1), (2, .int l2)]) (rest := []) (ok_X2_add_16 l1 l2 s) rfl rfl rfl rfl rfl (fun s8 => ?_)
        refine xTr.ms 3 (g := (50, [(0, .ref 0), (1, .int l1), (2, .int l2)], [.int (s8.1 16 3)], s8)) rfl ?_
        exact xTr.ret rfl rfl rfl
      · refine xTr.ms 1 (g := (33, [], [.int (-4 : Int32)], s)) rfl ?_
        exact xTr.ret rfl rfl rfl
    · refine xTr.ms 1 (g := (20, [], [.int (-2 : Int32)], s)) rfl ?_
      exact xTr.ret rfl rfl rfl
  · refine xTr.ms 1 (g := (20, [], [.int (-2 : Int32)], s)) rfl ?_
    exact xTr.ret rfl rfl rfl
-- X8_forget
def F_X8_forget (s : xS) : Option (Int32 × xS) := some ((s.1 16 3), (xu s 16 3 (0 : Int32)))
set_option maxRecDepth 100000 in
theorem ok_X8_forget (s : xS) : xTr xMs xFL xR_X8_forget (Sum.inl (0, [(0, .ref 0)], [], s)) (F_X8_forget s) (fun (y : Int32 × xS) => Sum.inr (some (.int y.1), y.2)) := by
  unfold F_X8_forget
  refine xTr.ms 9 (g := (17, [(0, .ref 0), (1, .int (s.1 16 3))], [.int (s.1 16 3)], (xu s 16 3 (0 : Int32)))) rfl ?_
  exact xTr.ret rfl rfl rfl
-- X2_agreesWith
def F_X2_agreesWith_L2 (s : xS) (a : Int32) : Option ((Int32) ⊕ ((Unit) ⊕ (Unit))) := if (s.1 16 3) ≤ a then (some (Sum.inr (Sum.inr ()))) else (if a < 0 ∨ 8 ≤ a.toNatClampNeg then none else (if (s.1 17 a.toNatClampNeg) < 0 ∨ 10 ≤ ((s.1 17 a.toNatClampNeg)).toNatClampNeg then none else (if a < 0 ∨ 8 ≤ a.toNatClampNeg then none else (if (s.1 35 ((s.1 17 a.toNatClampNeg)).toNatClampNeg) = (s.1 18 a.toNatClampNeg) then (some (Sum.inl (a + (1 : Int32)))) else (some (Sum.inr (Sum.inl ())))))))
def F_X2_agreesWith (s : xS) : Option (Int32) := (xlp (F_X2_agreesWith_L2 s) 100000 (0 : Int32)).bind (Sum.elim (fun b6_0 => (some (0 : Int32))) (fun b6_1 => (some (1 : Int32))))
def F_X2_agreesWith_L2_hd (s : xS) (a : Int32) : xT := Sum.inl (2, [(0, .ref 16), (1, .ref 34), (2, .int a)], [], s)
def F_X2_agreesWith_L2_ex (s : xS) : ((Unit) ⊕ (Unit)) → xT := (Sum.elim (fun (z : Unit) => Sum.inl (30, [], [], s)) (fun (z : Unit) => Sum.inl (38, [], [], s)))
set_option maxRecDepth 100000 in
theorem F_X2_agreesWith_L2_ok (s : xS) (a : Int32) : xTr xMs xFL xR_X2_agreesWith (F_X2_agreesWith_L2_hd s a) (F_X2_agreesWith_L2 s a) (xhx (F_X2_agreesWith_L2_hd s) (F_X2_agreesWith_L2_ex s)) := by
  unfold F_X2_agreesWith_L2
  refine xTr.ms 3 (g := (7, [(0, .ref 16), (1, .ref 34), (2, .int a)], [.int (s.1 16 3), .int a], s)) rfl ?_
  refine xTr.br (g1 := (38, [(0, .ref 16), (1, .ref 34), (2, .int a)], [], s)) (g2 := (10, [(0, .ref 16), (1, .ref 34), (2, .int a)], [], s)) rfl (fun h1 => ?_) (fun h1 => ?_)
  · refine xTr.mk (lv1 := []) rfl rfl ?_
    exact xTr.leaf rfl
  · refine xTr.ms 5 (g := (19, [(0, .ref 16), (1, .ref 34), (2, .int a)], [.int a, .ref 17, .ref 35], s)) rfl ?_
    refine xTr.ck (g := (20, [(0, .ref 16), (1, .ref 34), (2, .int a)], [.int (s.1 17 a.toNatClampNeg), .ref 35], s)) rfl (fun h2 => ?_)
    refine xTr.ck (g := (21, [(0, .ref 16), (1, .ref 34), (2, .int a)], [.int (s.1 35 ((s.1 17 a.toNatClampNeg)).toNatClampNeg)], s)) rfl (fun h3 => ?_)
    refine xTr.ms 3 (g := (26, [(0, .ref 16), (1, .ref 34), (2, .int a)], [.int a, .ref 18, .int (s.1 35 ((s.1 17 a.toNatClampNeg)).toNatClampNeg)], s)) rfl ?_
    refine xTr.ck (g := (27, [(0, .ref 16), (1, .ref 34), (2, .int a)], [.int (s.1 18 a.toNatClampNeg), .int (s.1 35 ((s.1 17 a.toNatClampNeg)).toNatClampNeg)], s)) rfl (fun h4 => ?_)
    refine xTr.br (g1 := (32, [(0, .ref 16), (1, .ref 34), (2, .int a)], [], s)) (g2 := (30, [(0, .ref 16), (1, .ref 34), (2, .int a)], [], s)) rfl (fun h5 => ?_) (fun h5 => ?_)
    · refine xTr.ms 2 (g := (2, [(0, .ref 16), (1, .ref 34), (2, .int (a + (1 : Int32)))], [], s)) rfl ?_
      exact xTr.leaf rfl
    · refine xTr.mk (lv1 := []) rfl rfl ?_
      exact xTr.leaf rfl
set_option maxRecDepth 100000 in
theorem ok_X2_agreesWith (s : xS) : xTr xMs xFL xR_X2_agreesWith (Sum.inl (0, [(0, .ref 16), (1, .ref 34)], [], s)) (F_X2_agreesWith s) (fun (y : Int32) => Sum.inr (some (.int y), s)) := by
  unfold F_X2_agreesWith
  refine xTr.ms 2 (g := (2, [(0, .ref 16), (1, .ref 34), (2, .int (0 : Int32))], [], s)) rfl ?_
  refine xTr.bind (J := F_X2_agreesWith_L2_ex s) (xTr.loop (hd := F_X2_agreesWith_L2_hd s) (fun aa => F_X2_agreesWith_L2_ok s aa) 100000 (0 : Int32)) (fun b6 => ?_)
  rcases b6 with b6_0 | b6_1
  · refine xTr.ms 1 (g := (31, [], [.int (0 : Int32)], s)) rfl ?_
    exact xTr.ret rfl rfl rfl
  · refine xTr.ms 1 (g := (39, [], [.int (1 : Int32)], s)) rfl ?_
    exact xTr.ret rfl rfl rfl
-- X8_never
def F_X8_never_L4 (a : Int32 × Int32 × xS) : Option ((Int32 × Int32 × xS) ⊕ (Int32 × xS)) := if (a.2.2.1 8 3) ≤ a.2.1 then (some (Sum.inr (a.1, a.2.2))) else ((F_X3_pass 34 8 19 ((255 : Int32) &&& ((xshl (1 : Int32) a.2.1) ^^^ (-1 : Int32))) a.2.2).bind fun s3 => ((F_X2_agreesWith s3).bind fun v4 => (if v4 = 0 then (some (Sum.inl (a.1, (a.2.1 + (1 : Int32)), s3))) else (some (Sum.inl ((a.1 ||| (xshl (1 : Int32) a.2.1)), (a.2.1 + (1 : Int32)), s3))))))
def F_X8_never (s : xS) : Option (Int32 × xS) := (xlp (F_X8_never_L4) 100000 ((0 : Int32), (0 : Int32), s)).bind (fun b6 => (some (b6.1, b6.2)))
def F_X8_never_L4_hd (a : Int32 × Int32 × xS) : xT := Sum.inl (4, [(0, .ref 0), (1, .int a.1), (2, .int a.2.1)], [], a.2.2)
def F_X8_never_L4_ex : (Int32 × xS) → xT := (fun (z : Int32 × xS) => Sum.inl (65, [(1, .int z.1)], [], z.2))
set_option maxRecDepth 100000 in
theorem F_X8_never_L4_ok (a : Int32 × Int32 × xS) : xTr xMs xFL xR_X8_never (F_X8_never_L4_hd a) (F_X8_never_L4 a) (xhx (F_X8_never_L4_hd) (F_X8_never_L4_ex)) := by
  unfold F_X8_never_L4
  refine xTr.ms 4 (g := (12, [(0, .ref 0), (1, .int a.1), (2, .int a.2.1)], [.int (a.2.2.1 8 3), .int a.2.1], a.2.2)) rfl ?_
  refine xTr.br (g1 := (65, [(0, .ref 0), (1, .int a.1), (2, .int a.2.1)], [], a.2.2)) (g2 := (15, [(0, .ref 0), (1, .int a.1), (2, .int a.2.1)], [], a.2.2)) rfl (fun h1 => ?_) (fun h1 => ?_)
  · refine xTr.mk (lv1 := [(1, .int a.1)]) rfl rfl ?_
    exact xTr.leaf rfl
  · refine xTr.ms 13 (g := (36, [(0, .ref 0), (1, .int a.1), (2, .int a.2.1)], [.ref 19, .int ((255 : Int32) &&& ((xshl (1 : Int32) a.2.1) ^^^ (-1 : Int32))), .ref 8, .ref 34], a.2.2)) rfl ?_
    refine xTr.callv (R' := xR_X3_pass) (as := [.ref 34, .ref 8, .int ((255 : Int32) &&& ((xshl (1 : Int32) a.2.1) ^^^ (-1 : Int32))), .ref 19]) (lv := [(0, .ref 0), (1, .int a.1), (2, .int a.2.1)]) (rest := []) (ok_X3_pass_34_8_19 ((255 : Int32) &&& ((xshl (1 : Int32) a.2.1) ^^^ (-1 : Int32))) a.2.2) rfl rfl rfl rfl rfl (fun s3 => ?_)
    refine xTr.ms 4 (g := (47, [(0, .ref 0), (1, .int a.1), (2, .int a.2.1)], [.ref 34, .ref 16], s3)) rfl ?_
    refine xTr.callip (R' := xR_X2_agreesWith) (as := [.ref 16, .ref 34]) (lv := [(0, .ref 0), (1, .int a.1), (2, .int a.2.1)]) (rest := []) (ok_X2_agreesWith s3) rfl rfl rfl rfl rfl (fun v4 => ?_)
    refine xTr.br (g1 := (59, [(0, .ref 0), (1, .int a.1), (2, .int a.2.1)], [], s3)) (g2 := (53, [(0, .ref 0), (1, .int a.1), (2, .int a.2.1)], [], s3)) rfl (fun h5 => ?_) (fun h5 => ?_)
    · refine xTr.ms 2 (g := (4, [(0, .ref 0), (1, .int a.1), (2, .int (a.2.1 + (1 : Int32)))], [], s3)) rfl ?_
      exact xTr.leaf rfl
    · refine xTr.ms 8 (g := (4, [(0, .ref 0), (1, .int (a.1 ||| (xshl (1 : Int32) a.2.1))), (2, .int (a.2.1 + (1 : Int32)))], [], s3)) rfl ?_
      exact xTr.leaf rfl
set_option maxRecDepth 100000 in
theorem ok_X8_never (s : xS) : xTr xMs xFL xR_X8_never (Sum.inl (0, [(0, .ref 0)], [], s)) (F_X8_never s) (fun (y : Int32 × xS) => Sum.inr (some (.int y.1), y.2)) := by
  unfold F_X8_never
  refine xTr.ms 4 (g := (4, [(0, .ref 0), (1, .int (0 : Int32)), (2, .int (0 : Int32))], [], s)) rfl ?_
  refine xTr.bind (J := F_X8_never_L4_ex) (xTr.loop (hd := F_X8_never_L4_hd) (fun aa => F_X8_never_L4_ok aa) 100000 ((0 : Int32), (0 : Int32), s)) (fun b6 => ?_)
  refine xTr.ms 1 (g := (66, [(1, .int b6.1)], [.int b6.1], b6.2)) rfl ?_
  exact xTr.ret rfl rfl rfl
-- X8_findPlaces
def F_X8_findPlaces_L15 (l1 : Int32) (a : Int32 × Int32 × xS) : Option ((Int32 × Int32 × xS) ⊕ (Int32 × xS)) := if (a.2.2.1 5 2) ≤ a.2.1 then (some (Sum.inr (a.1, a.2.2))) else (if l1 < 0 ∨ 8 ≤ l1.toNatClampNeg then none else ((F_X3_pass 34 27 19 (255 : Int32) (xu a.2.2 28 l1.toNatClampNeg a.2.1)).bind fun s6 => ((F_X2_agreesWith s6).bind fun v7 => (if v7 = 0 then (some (Sum.inl (a.1, (a.2.1 + (1 : Int32)), s6))) else (if a.1 < 0 ∨ 36 ≤ a.1.toNatClampNeg then none else (if (0 : Int32) < 0 ∨ (a.1 * (10 : Int32)) < 0 ∨ (10 : Int32) < 0 ∨ 10 < 0 + 10 ∨ 360 < ((a.1 * (10 : Int32))).toNatClampNeg + 10 ∨ 8 < xcat [] then none else (some (Sum.inl ((a.1 + (1 : Int32)), (a.2.1 + (1 : Int32)), (xcp (xu s6 39 a.1.toNatClampNeg a.2.1) 35 0 40 ((a.1 * (10 : Int32))).toNatClampNeg 10))))))))))
def F_X8_findPlaces (l1 : Int32) (s : xS) : Option (Int32 × xS) := (F_X0_takeFrom s).bind fun s2 => ((xlp (F_X8_findPlaces_L15 l1) 100000 ((0 : Int32), (0 : Int32), s2)).bind (fun b11 => (some (b11.1, b11.2))))
def F_X8_findPlaces_L15_hd (l1 : Int32) (a : Int32 × Int32 × xS) : xT := Sum.inl (15, [(0, .ref 0), (1, .int l1), (2, .int a.1), (3, .int a.2.1)], [], a.2.2)
def F_X8_findPlaces_L15_ex (l1 : Int32) : (Int32 × xS) → xT := (fun (z : Int32 × xS) => Sum.inl (105, [(2, .int z.1)], [], z.2))
set_option maxRecDepth 100000 in
theorem F_X8_findPlaces_L15_ok (l1 : Int32) (a : Int32 × Int32 × xS) : xTr xMs xFL xR_X8_findPlaces (F_X8_findPlaces_L15_hd l1 a) (F_X8_findPlaces_L15 l1 a) (xhx (F_X8_findPlaces_L15_hd l1) (F_X8_findPlaces_L15_ex l1)) := by
  unfold F_X8_findPlaces_L15
  refine xTr.ms 4 (g := (23, [(0, .ref 0), (1, .int l1), (2, .int a.1), (3, .int a.2.1)], [.int (a.2.2.1 5 2), .int a.2.1], a.2.2)) rfl ?_
  refine xTr.br (g1 := (105, [(0, .ref 0), (1, .int l1), (2, .int a.1), (3, .int a.2.1)], [], a.2.2)) (g2 := (26, [(0, .ref 0), (1, .int l1), (2, .int a.1), (3, .int a.2.1)], [], a.2.2)) rfl (fun h3 => ?_) (fun h3 => ?_)
  · refine xTr.mk (lv1 := [(2, .int a.1)]) rfl rfl ?_
    exact xTr.leaf rfl
  · refine xTr.ms 5 (g := (35, [(0, .ref 0), (1, .int l1), (2, .int a.1), (3, .int a.2.1)], [.int a.2.1, .int l1, .ref 28], a.2.2)) rfl ?_
    refine xTr.ck (g := (36, [(0, .ref 0), (1, .int l1), (2, .int a.1), (3, .int a.2.1)], [], (xu a.2.2 28 l1.toNatClampNeg a.2.1))) rfl (fun h4 => ?_)
    refine xTr.ms 7 (g := (51, [(0, .ref 0), (1, .int l1), (2, .int a.1), (3, .int a.2.1)], [.ref 19, .int (255 : Int32), .ref 27, .ref 34], (xu a.2.2 28 l1.toNatClampNeg a.2.1))) rfl ?_
    refine xTr.callv (R' := xR_X3_pass) (as := [.ref 34, .ref 27, .int (255 : Int32), .ref 19]) (lv := [(0, .ref 0), (1, .int l1), (2, .int a.1), (3, .int a.2.1)]) (rest := []) (ok_X3_pass_34_27_19 (255 : Int32) (xu a.2.2 28 l1.toNatClampNeg a.2.1)) rfl rfl rfl rfl rfl (fun s6 => ?_)
    refine xTr.ms 4 (g := (62, [(0, .ref 0), (1, .int l1), (2, .int a.1), (3, .int a.2.1)], [.ref 34, .ref 16], s6)) rfl ?_
    refine xTr.callip (R' := xR_X2_agreesWith) (as := [.ref 16, .ref 34]) (lv := [(0, .ref 0), (1, .int l1), (2, .int a.1), (3, .int a.2.1)]) (rest := []) (ok_X2_agreesWith s6) rfl rfl rfl rfl rfl (fun v7 => ?_)
    refine xTr.br (g1 := (99, [(0, .ref 0), (1, .int l1), (2, .int a.1), (3, .int a.2.1)], [], s6)) (g2 := (68, [(0, .ref 0), (1, .int l1), (2, .int a.1), (3, .int a.2.1)], [], s6)) rfl (fun h8 => ?_) (fun h8 => ?_)
    · refine xTr.ms 2 (g := (15, [(0, .ref 0), (1, .int l1), (2, .int a.1), (3, .int (a.2.1 + (1 : Int32)))], [], s6)) rfl ?_
      exact xTr.leaf rfl
    · refine xTr.ms 4 (g := (74, [(0, .ref 0), (1, .int l1), (2, .int a.1), (3, .int a.2.1)], [.int a.2.1, .int a.1, .ref 39], s6)) rfl ?_
      refine xTr.ck (g := (75, [(0, .ref 0), (1, .int l1), (2, .int a.1), (3, .int a.2.1)], [], (xu s6 39 a.1.toNatClampNeg a.2.1))) rfl (fun h9 => ?_)
      refine xTr.ms 10 (g := (93, [(0, .ref 0), (1, .int l1), (2, .int a.1), (3, .int a.2.1)], [.int (10 : Int32), .int (a.1 * (10 : Int32)), .ref 40, .int (0 : Int32), .ref 35], (xu s6 39 a.1.toNatClampNeg a.2.1))) rfl ?_
      refine xTr.ck (g := (96, [(0, .ref 0), (1, .int l1), (2, .int a.1), (3, .int a.2.1)], [], (xcp (xu s6 39 a.1.toNatClampNeg a.2.1) 35 0 40 ((a.1 * (10 : Int32))).toNatClampNeg 10))) rfl (fun h10 => ?_)
      refine xTr.ms 3 (g := (15, [(0, .ref 0), (1, .int l1), (2, .int (a.1 + (1 : Int32))), (3, .int (a.2.1 + (1 : Int32)))], [], (xcp (xu s6 39 a.1.toNatClampNeg a.2.1) 35 0 40 ((a.1 * (10 : Int32))).toNatClampNeg 10))) rfl ?_
      exact xTr.leaf rfl
set_option maxRecDepth 100000 in
theorem ok_X8_findPlaces (l1 : Int32) (s : xS) : xTr xMs xFL xR_X8_findPlaces (Sum.inl (0, [(0, .ref 0), (1, .int l1)], [], s)) (F_X8_findPlaces l1 s) (fun (y : Int32 × xS) => Sum.inr (some (.int y.1), y.2)) := by
  unfold F_X8_findPlaces
  refine xTr.ms 6 (g := (10, [(0, .ref 0), (1, .int l1), (2, .int (0 : Int32))], [.ref 8, .ref 27], s)) rfl ?_
  refine xTr.callv (R' := xR_X0_takeFrom) (as := [.ref 27, .ref 8]) (lv := [(0, .ref 0), (1, .int l1), (2, .int (0 : Int32))]) (rest := []) (ok_X0_takeFrom s) rfl rfl rfl rfl rfl (fun s2 => ?_)
  refine xTr.ms 2 (g := (15, [(0, .ref 0), (1, .int l1), (2, .int (0 : Int32)), (3, .int (0 : Int32))], [], s2)) rfl ?_
  refine xTr.bind (J := F_X8_findPlaces_L15_ex l1) (xTr.loop (hd := F_X8_findPlaces_L15_hd l1) (fun aa => F_X8_findPlaces_L15_ok l1 aa) 100000 ((0 : Int32), (0 : Int32), s2)) (fun b11 => ?_)
  refine xTr.ms 1 (g := (106, [(2, .int b11.1)], [.int b11.1], b11.2)) rfl ?_
  exact xTr.ret rfl rfl rfl
-- X8_whence
def F_X8_whence (l1 : Int32) (l2 : Int32) (s : xS) : Option (Int32 × xS) := (F_X8_isNoDeed l1 s).bind fun v1 => (if v1 = 0 then (if l2 < (-1 : Int32) then (some ((-2 : Int32), s)) else (if l2 < (36 : Int32) then ((F_X8_findPlaces l1 s).bind fun q6 => (if l2 = (-1 : Int32) then (some (q6.1, q6.2)) else (if q6.1 ≤ l2 then (some ((-1 : Int32), q6.2)) else (if l2 < 0 ∨ 36 ≤ l2.toNatClampNeg then none else (some ((q6.2.1 39 l2.toNatClampNeg), q6.2)))))) else (some ((-2 : Int32), s)))) else (some ((-2 : Int32), s)))
set_option maxRecDepth 100000 in
theorem ok_X8_whence (l1 : Int32) (l2 : Int32) (s : xS) : xTr xMs xFL xR_X8_whence (Sum.inl (0, [(0, .ref 0), (1, .int l1), (2, .int l2)], [], s)) (F_X8_whence l1 l2 s) (fun (y : Int32 × xS) => Sum.inr (some (.int y.1), y.2)) := by
  unfold F_X8_whence
  refine xTr.ms 2 (g := (2, [(0, .ref 0), (1, .int l1), (2, .int l2)], [.int l1, .ref 0], s)) rfl ?_
  refine xTr.callip (R' := xR_X8_isNoDeed) (as := [.ref 0, .int l1]) (lv := [(0, .ref 0), (1, .int l1), (2, .int l2)]) (rest := []) (ok_X8_isNoDeed l1 s) rfl rfl rfl rfl rfl (fun v1 => ?_)
  refine xTr.br (g1 := (8, [(0, .ref 0), (1, .int l1), (2, .int l2)], [], s)) (g2 := (19, [(0, .ref 0), (1, .int l1), (2, .int l2)], [], s)) rfl (fun h2 => ?_) (fun h2 => ?_)
  · refine xTr.ms 2 (g := (10, [(0, .ref 0), (1, .int l1), (2, .int l2)], [.int (-1 : Int32), .int l2], s)) rfl ?_
    refine xTr.br (g1 := (19, [(0, .ref 0), (1, .int l1), (2, .int l2)], [], s)) (g2 := (13, [(0, .ref 0), (1, .int l1), (2, .int l2)], [], s)) rfl (fun h3 => ?_) (fun h3 => ?_)
    · refine xTr.ms 1 (g := (21, [], [.int (-2 : Int32)], s)) rfl ?_
      exact xTr.ret rfl rfl rfl
    · refine xTr.ms 2 (g := (16, [(0, .ref 0), (1, .int l1), (2, .int l2)], [.int (36 : Int32), .int l2], s)) rfl ?_
      refine xTr.br (g1 := (22, [(0, .ref 0), (1, .int l1), (2, .int l2)], [], s)) (g2 := (19, [(0, .ref 0), (1, .int l1), (2, .int l2)], [], s)) rfl (fun h4 => ?_) (fun h4 => ?_)
      · refine xTr.ms 2 (g := (24, [(0, .ref 0), (1, .int l1), (2, .int l2)], [.int l1, .ref 0], s)) rfl ?_
        refine xTr.calli (R' := xR_X8_findPlaces) (as := [.ref 0, .int l1]) (lv := [(0, .ref 0), (1, .int l1), (2, .int l2)]) (rest := []) (ok_X8_findPlaces l1 s) rfl rfl rfl rfl rfl (fun v5 s5 => ?_)
        refine xTr.ms 3 (g := (30, [(0, .ref 0), (1, .int l1), (2, .int l2), (3, .int v5)], [.int (-1 : Int32), .int l2], s5)) rfl ?_
        refine xTr.br (g1 := (33, [(0, .ref 0), (1, .int l1), (2, .int l2), (3, .int v5)], [], s5)) (g2 := (35, [(0, .ref 0), (1, .int l1), (2, .int l2), (3, .int v5)], [], s5)) rfl (fun h7 => ?_) (fun h7 => ?_)
        · refine xTr.ms 1 (g := (34, [(3, .int v5)], [.int v5], s5)) rfl ?_
          exact xTr.ret rfl rfl rfl
        · refine xTr.ms 2 (g := (37, [(0, .ref 0), (2, .int l2), (3, .int v5)], [.int v5, .int l2], s5)) rfl ?_
          refine xTr.br (g1 := (49, [(0, .ref 0), (2, .int l2), (3, .int v5)], [], s5)) (g2 := (40, [(0, .ref 0), (2, .int l2), (3, .int v5)], [], s5)) rfl (fun h8 => ?_) (fun h8 => ?_)
          · refine xTr.ms 1 (g := (50, [], [.int (-1 : Int32)], s5)) rfl ?_
            exact xTr.ret rfl rfl rfl
          · refine xTr.ms 3 (g := (45, [(0, .ref 0), (2, .int l2)], [.int l2, .ref 39], s5)) rfl ?_
            refine xTr.ck (g := (46, [(0, .ref 0), (2, .int l2)], [.int (s5.1 39 l2.toNatClampNeg)], s5)) rfl (fun h9 => ?_)
            refine xTr.ms 1 (g := (50, [(0, .ref 0), (2, .int l2)], [.int (s5.1 39 l2.toNatClampNeg)], s5)) rfl ?_
            exact xTr.ret rfl rfl rfl
      · refine xTr.ms 1 (g := (21, [], [.int (-2 : Int32)], s)) rfl ?_
        exact xTr.ret rfl rfl rfl
  · refine xTr.ms 1 (g := (21, [], [.int (-2 : Int32)], s)) rfl ?_
    exact xTr.ret rfl rfl rfl
-- X8_what
def F_X8_what_L26 (l1 : Int32) (a : Int32 × Int32 × xS) : Option ((Int32 × Int32 × xS) ⊕ (Int32 × xS)) := if (4 : Int32) ≤ a.2.1 then (some (Sum.inr (a.1, a.2.2))) else (if l1 < 0 ∨ 8 ≤ l1.toNatClampNeg then none else ((F_X3_pass 34 27 19 (255 : Int32) (xu a.2.2 29 l1.toNatClampNeg a.2.1)).bind fun s8 => ((F_X2_agreesWith s8).bind fun v9 => (if v9 = 0 then (some (Sum.inl (a.1, (a.2.1 + (1 : Int32)), s8))) else (some (Sum.inl ((a.1 ||| (xshl (1 : Int32) a.2.1)), (a.2.1 + (1 : Int32)), s8)))))))
def F_X8_what (l1 : Int32) (s : xS) : Option (Int32 × xS) := (F_X8_isNoDeed l1 s).bind fun v1 => (if v1 = 0 then ((F_X0_takeFrom s).bind fun s4 => ((xlp (F_X8_what_L26 l1) 100000 ((0 : Int32), (0 : Int32), s4)).bind (fun b11 => (some (b11.1, b11.2))))) else (some ((-2 : Int32), s)))
def F_X8_what_L26_hd (l1 : Int32) (a : Int32 × Int32 × xS) : xT := Sum.inl (26, [(0, .ref 0), (1, .int l1), (2, .int a.1), (3, .int a.2.1)], [], a.2.2)
def F_X8_what_L26_ex (l1 : Int32) : (Int32 × xS) → xT := (fun (z : Int32 × xS) => Sum.inl (85, [(2, .int z.1)], [], z.2))
set_option maxRecDepth 100000 in
theorem F_X8_what_L26_ok (l1 : Int32) (a : Int32 × Int32 × xS) : xTr xMs xFL xR_X8_what (F_X8_what_L26_hd l1 a) (F_X8_what_L26 l1 a) (xhx (F_X8_what_L26_hd l1) (F_X8_what_L26_ex l1)) := by
  unfold F_X8_what_L26
  refine xTr.ms 2 (g := (28, [(0, .ref 0), (1, .int l1), (2, .int a.1), (3, .int a.2.1)], [.int (4 : Int32), .int a.2.1], a.2.2)) rfl ?_
  refine xTr.br (g1 := (85, [(0, .ref 0), (1, .int l1), (2, .int a.1), (3, .int a.2.1)], [], a.2.2)) (g2 := (31, [(0, .ref 0), (1, .int l1), (2, .int a.1), (3, .int a.2.1)], [], a.2.2)) rfl (fun h5 => ?_) (fun h5 => ?_)
  · refine xTr.mk (lv1 := [(2, .int a.1)]) rfl rfl ?_
    exact xTr.leaf rfl
  · refine xTr.ms 5 (g := (40, [(0, .ref 0), (1, .int l1), (2, .int a.1), (3, .int a.2.1)], [.int a.2.1, .int l1, .ref 29], a.2.2)) rfl ?_
    refine xTr.ck (g := (41, [(0, .ref 0), (1, .int l1), (2, .int a.1), (3, .int a.2.1)], [], (xu a.2.2 29 l1.toNatClampNeg a.2.1))) rfl (fun h6 => ?_)
    refine xTr.ms 7 (g := (56, [(0, .ref 0), (1, .int l1), (2, .int a.1), (3, .int a.2.1)], [.ref 19, .int (255 : Int32), .ref 27, .ref 34], (xu a.2.2 29 l1.toNatClampNeg a.2.1))) rfl ?_
    refine xTr.callv (R' := xR_X3_pass) (as := [.ref 34, .ref 27, .int (255 : Int32), .ref 19]) (lv := [(0, .ref 0), (1, .int l1), (2, .int a.1), (3, .int a.2.1)]) (rest := []) (ok_X3_pass_34_27_19 (255 : Int32) (xu a.2.2 29 l1.toNatClampNeg a.2.1)) rfl rfl rfl rfl rfl (fun s8 => ?_)
    refine xTr.ms 4 (g := (67, [(0, .ref 0), (1, .int l1), (2, .int a.1), (3, .int a.2.1)], [.ref 34, .ref 16], s8)) rfl ?_
    refine xTr.callip (R' := xR_X2_agreesWith) (as := [.ref 16, .ref 34]) (lv := [(0, .ref 0), (1, .int l1), (2, .int a.1), (3, .int a.2.1)]) (rest := []) (ok_X2_agreesWith s8) rfl rfl rfl rfl rfl (fun v9 => ?_)
    refine xTr.br (g1 := (79, [(0, .ref 0), (1, .int l1), (2, .int a.1), (3, .int a.2.1)], [], s8)) (g2 := (73, [(0, .ref 0), (1, .int l1), (2, .int a.1), (3, .int a.2.1)], [], s8)) rfl (fun h10 => ?_) (fun h10 => ?_)
    · refine xTr.ms 2 (g := (26, [(0, .ref 0), (1, .int l1), (2, .int a.1), (3, .int (a.2.1 + (1 : Int32)))], [], s8)) rfl ?_
      exact xTr.leaf rfl
    · refine xTr.ms 8 (g := (26, [(0, .ref 0), (1, .int l1), (2, .int (a.1 ||| (xshl (1 : Int32) a.2.1))), (3, .int (a.2.1 + (1 : Int32)))], [], s8)) rfl ?_
      exact xTr.leaf rfl
set_option maxRecDepth 100000 in
theorem ok_X8_what (l1 : Int32) (s : xS) : xTr xMs xFL xR_X8_what (Sum.inl (0, [(0, .ref 0), (1, .int l1)], [], s)) (F_X8_what l1 s) (fun (y : Int32 × xS) => Sum.inr (some (.int y.1), y.2)) := by
  unfold F_X8_what
  refine xTr.ms 2 (g := (2, [(0, .ref 0), (1, .int l1)], [.int l1, .ref 0], s)) rfl ?_
  refine xTr.callip (R' := xR_X8_isNoDeed) (as := [.ref 0, .int l1]) (lv := [(0, .ref 0), (1, .int l1)]) (rest := []) (ok_X8_isNoDeed l1 s) rfl rfl rfl rfl rfl (fun v1 => ?_)
  refine xTr.br (g1 := (11, [(0, .ref 0), (1, .int l1)], [], s)) (g2 := (8, [(0, .ref 0), (1, .int l1)], [], s)) rfl (fun h2 => ?_) (fun h2 => ?_)
  · refine xTr.ms 6 (g := (21, [(0, .ref 0), (1, .int l1), (2, .int (0 : Int32))], [.ref 8, .ref 27], s)) rfl ?_
    refine xTr.callv (R' := xR_X0_takeFrom) (as := [.ref 27, .ref 8]) (lv := [(0, .ref 0), (1, .int l1), (2, .int (0 : Int32))]) (rest := []) (ok_X0_takeFrom s) rfl rfl rfl rfl rfl (fun s4 => ?_)
    refine xTr.ms 2 (g := (26, [(0, .ref 0), (1, .int l1), (2, .int (0 : Int32)), (3, .int (0 : Int32))], [], s4)) rfl ?_
    refine xTr.bind (J := F_X8_what_L26_ex l1) (xTr.loop (hd := F_X8_what_L26_hd l1) (fun aa => F_X8_what_L26_ok l1 aa) 100000 ((0 : Int32), (0 : Int32), s4)) (fun b11 => ?_)
    refine xTr.ms 1 (g := (86, [(2, .int b11.1)], [.int b11.1], b11.2)) rfl ?_
    exact xTr.ret rfl rfl rfl
  · refine xTr.ms 1 (g := (10, [], [.int (-2 : Int32)], s)) rfl ?_
    exact xTr.ret rfl rfl rfl
