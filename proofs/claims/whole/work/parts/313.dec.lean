-- X9_runs
def F_X9_runs (s : xS) : Option (xS) := (F_X9_lays s).bind fun s2 => ((F_X9_sleepsOn s2).bind fun s4 => (some s4))
set_option maxRecDepth 100000 in
theorem ok_X9_runs (s : xS) : xTr xMs xML xR_X9_runs (Sum.inl (0, [(0, .ref 0)], [], s)) (F_X9_runs s) (fun (y : xS) => Sum.inr (none, y)) := by
  unfold F_X9_runs
  refine xTr.ms 1 (g := (1, [(0, .ref 0)], [.ref 0], s)) rfl ?_
  refine xTr.callv (R' := xR_X9_lays) (as := [.ref 0]) (lv := [(0, .ref 0)]) (rest := []) (ok_X9_lays s) rfl rfl rfl rfl rfl (fun s2 => ?_)
  refine xTr.ms 1 (g := (5, [(0, .ref 0)], [.ref 0], s2)) rfl ?_
  refine xTr.callv (R' := xR_X9_sleepsOn) (as := [.ref 0]) (lv := [(0, .ref 0)]) (rest := []) (ok_X9_sleepsOn s2) rfl rfl rfl rfl rfl (fun s4 => ?_)
  exact xTr.ret rfl rfl rfl
-- X9_runsTold
def F_X9_runsTold (s : xS) : Option (xS) := (F_X9_asTold s).bind fun s2 => ((F_X9_runs s2).bind fun s4 => (some s4))
set_option maxRecDepth 100000 in
theorem ok_X9_runsTold (s : xS) : xTr xMs xML xR_X9_runsTold (Sum.inl (0, [(0, .ref 0)], [], s)) (F_X9_runsTold s) (fun (y : xS) => Sum.inr (none, y)) := by
  unfold F_X9_runsTold
  refine xTr.ms 1 (g := (1, [(0, .ref 0)], [.ref 0], s)) rfl ?_
  refine xTr.callv (R' := xR_X9_asTold) (as := [.ref 0]) (lv := [(0, .ref 0)]) (rest := []) (ok_X9_asTold s) rfl rfl rfl rfl rfl (fun s2 => ?_)
  refine xTr.ms 1 (g := (5, [(0, .ref 0)], [.ref 0], s2)) rfl ?_
  refine xTr.callv (R' := xR_X9_runs) (as := [.ref 0]) (lv := [(0, .ref 0)]) (rest := []) (ok_X9_runs s2) rfl rfl rfl rfl rfl (fun s4 => ?_)
  exact xTr.ret rfl rfl rfl
-- X9_heardBy
def F_X9_heardBy (l1 : Int32) (l2 : Int32) (s : xS) : Option (Int32 × xS) := (F_X9_runsTold s).bind fun s2 => (if l2 = 0 then (if l1 < 0 ∨ 8 ≤ l1.toNatClampNeg then none else (some ((s2.1 10 l1.toNatClampNeg), s2))) else (if l1 < 0 ∨ 8 ≤ l1.toNatClampNeg then none else (some ((s2.1 11 l1.toNatClampNeg), s2))))
set_option maxRecDepth 100000 in
theorem ok_X9_heardBy (l1 : Int32) (l2 : Int32) (s : xS) : xTr xMs xML xR_X9_heardBy (Sum.inl (0, [(0, .ref 0), (1, .int l1), (2, .int l2)], [], s)) (F_X9_heardBy l1 l2 s) (fun (y : Int32 × xS) => Sum.inr (some (.int y.1), y.2)) := by
  unfold F_X9_heardBy
  refine xTr.ms 1 (g := (1, [(0, .ref 0), (1, .int l1), (2, .int l2)], [.ref 0], s)) rfl ?_
  refine xTr.callv (R' := xR_X9_runsTold) (as := [.ref 0]) (lv := [(0, .ref 0), (1, .int l1), (2, .int l2)]) (rest := []) (ok_X9_runsTold s) rfl rfl rfl rfl rfl (fun s2 => ?_)
  refine xTr.ms 1 (g := (5, [(0, .ref 0), (1, .int l1), (2, .int l2)], [.int l2], s2)) rfl ?_
  refine xTr.br (g1 := (8, [(0, .ref 0), (1, .int l1), (2, .int l2)], [], s2)) (g2 := (17, [(0, .ref 0), (1, .int l1), (2, .int l2)], [], s2)) rfl (fun h3 => ?_) (fun h3 => ?_)
  · refine xTr.ms 3 (g := (13, [(0, .ref 0), (1, .int l1)], [.int l1, .ref 10], s2)) rfl ?_
    refine xTr.ck (g := (14, [(0, .ref 0), (1, .int l1)], [.int (s2.1 10 l1.toNatClampNeg)], s2)) rfl (fun h4 => ?_)
    refine xTr.ms 1 (g := (23, [(0, .ref 0), (1, .int l1)], [.int (s2.1 10 l1.toNatClampNeg)], s2)) rfl ?_
    exact xTr.ret rfl rfl rfl
  · refine xTr.ms 3 (g := (22, [(0, .ref 0), (1, .int l1)], [.int l1, .ref 11], s2)) rfl ?_
    refine xTr.ck (g := (23, [(0, .ref 0), (1, .int l1)], [.int (s2.1 11 l1.toNatClampNeg)], s2)) rfl (fun h5 => ?_)
    exact xTr.ret rfl rfl rfl
-- X9_heard
def F_X9_heard (l1 : Int32) (l2 : Int32) (s : xS) : Option (Int32 × xS) := (F_X9_isDeed l1 s).bind fun q2 => (if q2.1 = 0 then (some ((-2 : Int32), q2.2)) else ((F_X9_in l2 (0 : Int32) (1 : Int32) q2.2).bind fun v4 => (if v4 = 0 then (some ((-2 : Int32), q2.2)) else ((F_X9_heardBy l1 l2 q2.2).bind fun q7 => (some (q7.1, q7.2))))))
set_option maxRecDepth 100000 in
theorem ok_X9_heard (l1 : Int32) (l2 : Int32) (s : xS) : xTr xMs xML xR_X9_heard (Sum.inl (0, [(0, .ref 0), (1, .int l1), (2, .int l2)], [], s)) (F_X9_heard l1 l2 s) (fun (y : Int32 × xS) => Sum.inr (some (.int y.1), y.2)) := by
  unfold F_X9_heard
  refine xTr.ms 2 (g := (2, [(0, .ref 0), (1, .int l1), (2, .int l2)], [.int l1, .ref 0], s)) rfl ?_
  refine xTr.calli (R' := xR_X9_isDeed) (as := [.ref 0, .int l1]) (lv := [(0, .ref 0), (1, .int l1), (2, .int l2)]) (rest := []) (ok_X9_isDeed l1 s) rfl rfl rfl rfl rfl (fun v1 s1 => ?_)
  refine xTr.br (g1 := (26, [(0, .ref 0), (1, .int l1), (2, .int l2)], [], s1)) (g2 := (8, [(0, .ref 0), (1, .int l1), (2, .int l2)], [], s1)) rfl (fun h3 => ?_) (fun h3 => ?_)
  · refine xTr.ms 1 (g := (28, [], [.int (-2 : Int32)], s1)) rfl ?_
    exact xTr.ret rfl rfl rfl
  · refine xTr.ms 3 (g := (11, [(0, .ref 0), (1, .int l1), (2, .int l2)], [.int (1 : Int32), .int (0 : Int32), .int l2], s1)) rfl ?_
    refine xTr.callip (R' := xR_X9_in) (as := [.int l2, .int (0 : Int32), .int (1 : Int32)]) (lv := [(0, .ref 0), (1, .int l1), (2, .int l2)]) (rest := []) (ok_X9_in l2 (0 : Int32) (1 : Int32) s1) rfl rfl rfl rfl rfl (fun v4 => ?_)
    refine xTr.br (g1 := (26, [(0, .ref 0), (1, .int l1), (2, .int l2)], [], s1)) (g2 := (17, [(0, .ref 0), (1, .int l1), (2, .int l2)], [], s1)) rfl (fun h5 => ?_) (fun h5 => ?_)
    · refine xTr.ms 1 (g := (28, [], [.int (-2 : Int32)], s1)) rfl ?_
      exact xTr.ret rfl rfl rfl
    · refine xTr.ms 3 (g := (20, [(0, .ref 0), (1, .int l1), (2, .int l2)], [.int l2, .int l1, .ref 0], s1)) rfl ?_
      refine xTr.calli (R' := xR_X9_heardBy) (as := [.ref 0, .int l1, .int l2]) (lv := [(0, .ref 0), (1, .int l1), (2, .int l2)]) (rest := []) (ok_X9_heardBy l1 l2 s1) rfl rfl rfl rfl rfl (fun v6 s6 => ?_)
      refine xTr.ms 1 (g := (28, [(0, .ref 0), (1, .int l1), (2, .int l2)], [.int v6], s6)) rfl ?_
      exact xTr.ret rfl rfl rfl
-- X9_noiseOf
def F_X9_noiseOf (l1 : Int32) (s : xS) : Option (Int32 × xS) := (F_X9_runsTold s).bind fun s2 => (if l1 < 0 ∨ 10 ≤ l1.toNatClampNeg then none else (some ((s2.1 12 l1.toNatClampNeg), s2)))
set_option maxRecDepth 100000 in
theorem ok_X9_noiseOf (l1 : Int32) (s : xS) : xTr xMs xML xR_X9_noiseOf (Sum.inl (0, [(0, .ref 0), (1, .int l1)], [], s)) (F_X9_noiseOf l1 s) (fun (y : Int32 × xS) => Sum.inr (some (.int y.1), y.2)) := by
  unfold F_X9_noiseOf
  refine xTr.ms 1 (g := (1, [(0, .ref 0), (1, .int l1)], [.ref 0], s)) rfl ?_
  refine xTr.callv (R' := xR_X9_runsTold) (as := [.ref 0]) (lv := [(0, .ref 0), (1, .int l1)]) (rest := []) (ok_X9_runsTold s) rfl rfl rfl rfl rfl (fun s2 => ?_)
  refine xTr.ms 3 (g := (9, [(0, .ref 0), (1, .int l1)], [.int l1, .ref 12], s2)) rfl ?_
  refine xTr.ck (g := (10, [(0, .ref 0), (1, .int l1)], [.int (s2.1 12 l1.toNatClampNeg)], s2)) rfl (fun h3 => ?_)
  exact xTr.ret rfl rfl rfl
-- X9_noise
def F_X9_noise (l1 : Int32) (s : xS) : Option (Int32 × xS) := (F_X9_isHour l1 s).bind fun v1 => (if v1 = 0 then (some ((-2 : Int32), s)) else ((F_X9_noiseOf l1 s).bind fun q4 => (some (q4.1, q4.2))))
set_option maxRecDepth 100000 in
theorem ok_X9_noise (l1 : Int32) (s : xS) : xTr xMs xML xR_X9_noise (Sum.inl (0, [(0, .ref 0), (1, .int l1)], [], s)) (F_X9_noise l1 s) (fun (y : Int32 × xS) => Sum.inr (some (.int y.1), y.2)) := by
  unfold F_X9_noise
  refine xTr.ms 1 (g := (1, [(0, .ref 0), (1, .int l1)], [.int l1], s)) rfl ?_
  refine xTr.callip (R' := xR_X9_isHour) (as := [.int l1]) (lv := [(0, .ref 0), (1, .int l1)]) (rest := []) (ok_X9_isHour l1 s) rfl rfl rfl rfl rfl (fun v1 => ?_)
  refine xTr.br (g1 := (15, [(0, .ref 0), (1, .int l1)], [], s)) (g2 := (7, [(0, .ref 0), (1, .int l1)], [], s)) rfl (fun h2 => ?_) (fun h2 => ?_)
  · refine xTr.ms 1 (g := (17, [], [.int (-2 : Int32)], s)) rfl ?_
    exact xTr.ret rfl rfl rfl
  · refine xTr.ms 2 (g := (9, [(0, .ref 0), (1, .int l1)], [.int l1, .ref 0], s)) rfl ?_
    refine xTr.calli (R' := xR_X9_noiseOf) (as := [.ref 0, .int l1]) (lv := [(0, .ref 0), (1, .int l1)]) (rest := []) (ok_X9_noiseOf l1 s) rfl rfl rfl rfl rfl (fun v3 s3 => ?_)
    refine xTr.ms 1 (g := (17, [(0, .ref 0), (1, .int l1)], [.int v3], s3)) rfl ?_
    exact xTr.ret rfl rfl rfl
-- X9_depthOf
def F_X9_depthOf (l1 : Int32) (s : xS) : Option (Int32 × xS) := (F_X9_runsTold s).bind fun s2 => (if l1 < 0 ∨ 10 ≤ l1.toNatClampNeg then none else (some ((s2.1 13 l1.toNatClampNeg), s2)))
set_option maxRecDepth 100000 in
theorem ok_X9_depthOf (l1 : Int32) (s : xS) : xTr xMs xML xR_X9_depthOf (Sum.inl (0, [(0, .ref 0), (1, .int l1)], [], s)) (F_X9_depthOf l1 s) (fun (y : Int32 × xS) => Sum.inr (some (.int y.1), y.2)) := by
  unfold F_X9_depthOf
  refine xTr.ms 1 (g := (1, [(0, .ref 0), (1, .int l1)], [.ref 0], s)) rfl ?_
  refine xTr.callv (R' := xR_X9_runsTold) (as := [.ref 0]) (lv := [(0, .ref 0), (1, .int l1)]) (rest := []) (ok_X9_runsTold s) rfl rfl rfl rfl rfl (fun s2 => ?_)
  refine xTr.ms 3 (g := (9, [(0, .ref 0), (1, .int l1)], [.int l1, .ref 13], s2)) rfl ?_
  refine xTr.ck (g := (10, [(0, .ref 0), (1, .int l1)], [.int (s2.1 13 l1.toNatClampNeg)], s2)) rfl (fun h3 => ?_)
  exact xTr.ret rfl rfl rfl
-- X9_depth
def F_X9_depth (l1 : Int32) (s : xS) : Option (Int32 × xS) := (F_X9_isHour l1 s).bind fun v1 => (if v1 = 0 then (some ((-2 : Int32), s)) else ((F_X9_depthOf l1 s).bind fun q4 => (some (q4.1, q4.2))))
set_option maxRecDepth 100000 in
theorem ok_X9_depth (l1 : Int32) (s : xS) : xTr xMs xML xR_X9_depth (Sum.inl (0, [(0, .ref 0), (1, .int l1)], [], s)) (F_X9_depth l1 s) (fun (y : Int32 × xS) => Sum.inr (some (.int y.1), y.2)) := by
  unfold F_X9_depth
  refine xTr.ms 1 (g := (1, [(0, .ref 0), (1, .int l1)], [.int l1], s)) rfl ?_
  refine xTr.callip (R' := xR_X9_isHour) (as := [.int l1]) (lv := [(0, .ref 0), (1, .int l1)]) (rest := []) (ok_X9_isHour l1 s) rfl rfl rfl rfl rfl (fun v1 => ?_)
  refine xTr.br (g1 := (15, [(0, .ref 0), (1, .int l1)], [], s)) (g2 := (7, [(0, .ref 0), (1, .int l1)], [], s)) rfl (fun h2 => ?_) (fun h2 => ?_)
  · refine xTr.ms 1 (g := (17, [], [.int (-2 : Int32)], s)) rfl ?_
    exact xTr.ret rfl rfl rfl
  · refine xTr.ms 2 (g := (9, [(0, .ref 0), (1, .int l1)], [.int l1, .ref 0], s)) rfl ?_
    refine xTr.calli (R' := xR_X9_depthOf) (as := [.ref 0, .int l1]) (lv := [(0, .ref 0), (1, .int l1)]) (rest := []) (ok_X9_depthOf l1 s) rfl rfl rfl rfl rfl (fun v3 s3 => ?_)
    refine xTr.ms 1 (g := (17, [(0, .ref 0), (1, .int l1)], [.int v3], s3)) rfl ?_
    exact xTr.ret rfl rfl rfl
-- X9_wakesOf
def F_X9_wakesOf (s : xS) : Option (Int32 × xS) := (F_X9_runsTold s).bind fun s2 => (some ((s2.1 0 20), s2))
set_option maxRecDepth 100000 in
theorem ok_X9_wakesOf (s : xS) : xTr xMs xML xR_X9_wakesOf (Sum.inl (0, [(0, .ref 0)], [], s)) (F_X9_wakesOf s) (fun (y : Int32 × xS) => Sum.inr (some (.int y.1), y.2)) := by
  unfold F_X9_wakesOf
  refine xTr.ms 1 (g := (1, [(0, .ref 0)], [.ref 0], s)) rfl ?_
  refine xTr.callv (R' := xR_X9_runsTold) (as := [.ref 0]) (lv := [(0, .ref 0)]) (rest := []) (ok_X9_runsTold s) rfl rfl rfl rfl rfl (fun s2 => ?_)
  refine xTr.ms 2 (g := (8, [(0, .ref 0)], [.int (s2.1 0 20)], s2)) rfl ?_
  exact xTr.ret rfl rfl rfl
-- X9_wakes
def F_X9_wakes (s : xS) : Option (Int32 × xS) := (F_X9_wakesOf s).bind fun q2 => (some (q2.1, q2.2))
set_option maxRecDepth 100000 in
theorem ok_X9_wakes (s : xS) : xTr xMs xML xR_X9_wakes (Sum.inl (0, [(0, .ref 0)], [], s)) (F_X9_wakes s) (fun (y : Int32 × xS) => Sum.inr (some (.int y.1), y.2)) := by
  unfold F_X9_wakes
  refine xTr.ms 1 (g := (1, [(0, .ref 0)], [.ref 0], s)) rfl ?_
  refine xTr.calli (R' := xR_X9_wakesOf) (as := [.ref 0]) (lv := [(0, .ref 0)]) (rest := []) (ok_X9_wakesOf s) rfl rfl rfl rfl rfl (fun v1 s1 => ?_)
  exact xTr.ret rfl rfl rfl
-- X9_exiledOf
def F_X9_exiledOf_L8 (l1 : Int32) (s : xS) (a : Int32 × Int32) : Option ((Int32 × Int32) ⊕ (Int32)) := if (18 : Int32) ≤ a.2 then (some (Sum.inr a.1)) else (if (s.1 0 3) ≤ (((18 : Int32) * l1) + a.2) then (some (Sum.inl ((a.1 ||| (0 : Int32)), (a.2 + (1 : Int32))))) else (if (((18 : Int32) * l1) + a.2) < 0 ∨ 40 ≤ ((((18 : Int32) * l1) + a.2)).toNatClampNeg then none else (if (s.1 14 ((((18 : Int32) * l1) + a.2)).toNatClampNeg) = 0 then (some (Sum.inl ((a.1 ||| (0 : Int32)), (a.2 + (1 : Int32))))) else (some (Sum.inl ((a.1 ||| (xshl (1 : Int32) a.2)), (a.2 + (1 : Int32))))))))
def F_X9_exiledOf (l1 : Int32) (s : xS) : Option (Int32 × xS) := (F_X9_runsTold s).bind fun s2 => ((xlp (F_X9_exiledOf_L8 l1 s2) 100000 ((0 : Int32), (0 : Int32))).bind (fun b7 => (some (b7, s2))))
def F_X9_exiledOf_L8_hd (l1 : Int32) (s : xS) (a : Int32 × Int32) : xT := Sum.inl (8, [(0, .ref 0), (1, .int l1), (2, .int a.1), (3, .int a.2)], [], s)
def F_X9_exiledOf_L8_ex (l1 : Int32) (s : xS) : (Int32) → xT := (fun (z : Int32) => Sum.inl (57, [(2, .int z)], [], s))
set_option maxRecDepth 100000 in
theorem F_X9_exiledOf_L8_ok (l1 : Int32) (s : xS) (a : Int32 × Int32) : xTr xMs xML xR_X9_exiledOf (F_X9_exiledOf_L8_hd l1 s a) (F_X9_exiledOf_L8 l1 s a) (xhx (F_X9_exiledOf_L8_hd l1 s) (F_X9_exiledOf_L8_ex l1 s)) := by
  unfold F_X9_exiledOf_L8
  refine xTr.ms 2 (g := (11, [(0, .ref 0), (1, .int l1), (2, .int a.1), (3, .int a.2)], [.int (18 : Int32), .int a.2], s)) rfl ?_
  refine xTr.br (g1 := (57, [(0, .ref 0), (1, .int l1), (2, .int a.1), (3, .int a.2)], [], s)) (g2 := (14, [(0, .ref 0), (1, .int l1), (2, .int a.1), (3, .int a.2)], [], s)) rfl (fun h3 => ?_) (fun h3 => ?_)
  · refine xTr.mk (lv1 := [(2, .int a.1)]) rfl rfl ?_
    exact xTr.leaf rfl
  · refine xTr.ms 10 (g := (29, [(0, .ref 0), (1, .int l1), (2, .int a.1), (3, .int a.2), (4, .int (((18 : Int32) * l1) + a.2))], [.int (s.1 0 3), .int (((18 : Int32) * l1) + a.2), .int a.1], s)) rfl ?_
    refine xTr.br (g1 := (48, [(0, .ref 0), (1, .int l1), (2, .int a.1), (3, .int a.2), (4, .int (((18 : Int32) * l1) + a.2))], [.int a.1], s)) (g2 := (32, [(0, .ref 0), (1, .int l1), (2, .int a.1), (3, .int a.2), (4, .int (((18 : Int32) * l1) + a.2))], [.int a.1], s)) rfl (fun h4 => ?_) (fun h4 => ?_)
    · refine xTr.ms 5 (g := (8, [(0, .ref 0), (1, .int l1), (2, .int (a.1 ||| (0 : Int32))), (3, .int (a.2 + (1 : Int32)))], [], s)) rfl ?_
      exact xTr.leaf rfl
    · refine xTr.ms 3 (g := (38, [(0, .ref 0), (1, .int l1), (3, .int a.2), (4, .int (((18 : Int32) * l1) + a.2))], [.int (((18 : Int32) * l1) + a.2), .ref 14, .int a.1], s)) rfl ?_
      refine xTr.ck (g := (39, [(0, .ref 0), (1, .int l1), (3, .int a.2), (4, .int (((18 : Int32) * l1) + a.2))], [.int (s.1 14 ((((18 : Int32) * l1) + a.2)).toNatClampNeg), .int a.1], s)) rfl (fun h5 => ?_)
      refine xTr.br (g1 := (48, [(0, .ref 0), (1, .int l1), (3, .int a.2), (4, .int (((18 : Int32) * l1) + a.2))], [.int a.1], s)) (g2 := (42, [(0, .ref 0), (1, .int l1), (3, .int a.2), (4, .int (((18 : Int32) * l1) + a.2))], [.int a.1], s)) rfl (fun h6 => ?_) (fun h6 => ?_)
      · refine xTr.ms 5 (g := (8, [(0, .ref 0), (1, .int l1), (2, .int (a.1 ||| (0 : Int32))), (3, .int (a.2 + (1 : Int32)))], [], s)) rfl ?_
        exact xTr.leaf rfl
      · refine xTr.ms 8 (g := (8, [(0, .ref 0), (1, .int l1), (2, .int (a.1 ||| (xshl (1 : Int32) a.2))), (3, .int (a.2 + (1 : Int32)))], [], s)) rfl ?_
        exact xTr.leaf rfl
set_option maxRecDepth 100000 in
theorem ok_X9_exiledOf (l1 : Int32) (s : xS) : xTr xMs xML xR_X9_exiledOf (Sum.inl (0, [(0, .ref 0), (1, .int l1)], [], s)) (F_X9_exiledOf l1 s) (fun (y : Int32 × xS) => Sum.inr (some (.int y.1), y.2)) := by
  unfold F_X9_exiledOf
  refine xTr.ms 1 (g := (1, [(0, .ref 0), (1, .int l1)], [.ref 0], s)) rfl ?_
  refine xTr.callv (R' := xR_X9_runsTold) (as := [.ref 0]) (lv := [(0, .ref 0), (1, .int l1)]) (rest := []) (ok_X9_runsTold s) rfl rfl rfl rfl rfl (fun s2 => ?_)
  refine xTr.ms 4 (g := (8, [(0, .ref 0), (1, .int l1), (2, .int (0 : Int32)), (3, .int (0 : Int32))], [], s2)) rfl ?_
  refine xTr.bind (J := F_X9_exiledOf_L8_ex l1 s2) (xTr.loop (hd := F_X9_exiledOf_L8_hd l1 s2) (fun aa => F_X9_exiledOf_L8_ok l1 s2 aa) 100000 ((0 : Int32), (0 : Int32))) (fun b7 => ?_)
  refine xTr.ms 1 (g := (58, [(2, .int b7)], [.int b7], s2)) rfl ?_
  exact xTr.ret rfl rfl rfl
-- X9_exiled
def F_X9_exiled (l1 : Int32) (s : xS) : Option (Int32 × xS) := (F_X9_in l1 (0 : Int32) (1 : Int32) s).bind fun v1 => (if v1 = 0 then (some ((-2 : Int32), s)) else ((F_X9_exiledOf l1 s).bind fun q4 => (some (q4.1, q4.2))))
set_option maxRecDepth 100000 in
theorem ok_X9_exiled (l1 : Int32) (s : xS) : xTr xMs xML xR_X9_exiled (Sum.inl (0, [(0, .ref 0), (1, .int l1)], [], s)) (F_X9_exiled l1 s) (fun (y : Int32 × xS) => Sum.inr (some (.int y.1), y.2)) := by
  unfold F_X9_exiled
  refine xTr.ms 3 (g := (3, [(0, .ref 0), (1, .int l1)], [.int (1 : Int32), .int (0 : Int32), .int l1], s)) rfl ?_
  refine xTr.callip (R' := xR_X9_in) (as := [.int l1, .int (0 : Int32), .int (1 : Int32)]) (lv := [(0, .ref 0), (1, .int l1)]) (rest := []) (ok_X9_in l1 (0 : Int32) (1 : Int32) s) rfl rfl rfl rfl rfl (fun v1 => ?_)
  refine xTr.br (g1 := (17, [(0, .ref 0), (1, .int l1)], [], s)) (g2 := (9, [(0, .ref 0), (1, .int l1)], [], s)) rfl (fun h2 => ?_) (fun h2 => ?_)
  · refine xTr.ms 1 (g := (19, [], [.int (-2 : Int32)], s)) rfl ?_
    exact xTr.ret rfl rfl rfl
  · refine xTr.ms 2 (g := (11, [(0, .ref 0), (1, .int l1)], [.int l1, .ref 0], s)) rfl ?_
    refine xTr.calli (R' := xR_X9_exiledOf) (as := [.ref 0, .int l1]) (lv := [(0, .ref 0), (1, .int l1)]) (rest := []) (ok_X9_exiledOf l1 s) rfl rfl rfl rfl rfl (fun v3 s3 => ?_)
    refine xTr.ms 1 (g := (19, [(0, .ref 0), (1, .int l1)], [.int v3], s3)) rfl ?_
    exact xTr.ret rfl rfl rfl
-- X9_loudestNow
def F_X9_loudestNow_L8 (s : xS) (a : Int32 × Int32) : Option ((Int32 × Int32) ⊕ (Int32)) := if (s.1 0 5) ≤ a.2 then (some (Sum.inr a.1)) else (if a.2 < 0 ∨ 8 ≤ a.2.toNatClampNeg then none else (if (s.1 11 a.2.toNatClampNeg) = 0 then (if a.1 = (-1 : Int32) then (some (Sum.inl (a.2, (a.2 + (1 : Int32))))) else (if a.2 < 0 ∨ 8 ≤ a.2.toNatClampNeg then none else (if a.1 < 0 ∨ 8 ≤ a.1.toNatClampNeg then none else (if (s.1 10 a.2.toNatClampNeg) ≤ (s.1 10 a.1.toNatClampNeg) then (some (Sum.inl (a.1, (a.2 + (1 : Int32))))) else (some (Sum.inl (a.2, (a.2 + (1 : Int32))))))))) else (some (Sum.inl (a.1, (a.2 + (1 : Int32)))))))
def F_X9_loudestNow (s : xS) : Option (Int32 × xS) := (F_X9_runsTold s).bind fun s2 => ((xlp (F_X9_loudestNow_L8 s2) 100000 ((-1 : Int32), (0 : Int32))).bind (fun b10 => (some (b10, s2))))
def F_X9_loudestNow_L8_hd (s : xS) (a : Int32 × Int32) : xT := Sum.inl (8, [(0, .ref 0), (1, .int a.1), (2, .int a.2)], [], s)
def F_X9_loudestNow_L8_ex (s : xS) : (Int32) → xT := (fun (z : Int32) => Sum.inl (57, [(1, .int z)], [], s))
set_option maxRecDepth 100000 in
theorem F_X9_loudestNow_L8_ok (s : xS) (a : Int32 × Int32) : xTr xMs xML xR_X9_loudestNow (F_X9_loudestNow_L8_hd s a) (F_X9_loudestNow_L8 s a) (xhx (F_X9_loudestNow_L8_hd s) (F_X9_loudestNow_L8_ex s)) := by
  unfold F_X9_loudestNow_L8
  refine xTr.ms 3 (g := (13, [(0, .ref 0), (1, .int a.1), (2, .int a.2)], [.int (s.1 0 5), .int a.2], s)) rfl ?_
  refine xTr.br (g1 := (57, [(0, .ref 0), (1, .int a.1), (2, .int a.2)], [], s)) (g2 := (16, [(0, .ref 0), (1, .int a.1), (2, .int a.2)], [], s)) rfl (fun h3 => ?_) (fun h3 => ?_)
  · refine xTr.mk (lv1 := [(1, .int a.1)]) rfl rfl ?_
    exact xTr.leaf rfl
  · refine xTr.ms 3 (g := (21, [(0, .ref 0), (1, .int a.1), (2, .int a.2)], [.int a.2, .ref 11], s)) rfl ?_
    refine xTr.ck (g := (22, [(0, .ref 0), (1, .int a.1), (2, .int a.2)], [.int (s.1 11 a.2.toNatClampNeg)], s)) rfl (fun h4 => ?_)
    refine xTr.br (g1 := (25, [(0, .ref 0), (1, .int a.1), (2, .int a.2)], [], s)) (g2 := (49, [(0, .ref 0), (1, .int a.1), (2, .int a.2)], [], s)) rfl (fun h5 => ?_) (fun h5 => ?_)
    · refine xTr.ms 2 (g := (27, [(0, .ref 0), (1, .int a.1), (2, .int a.2)], [.int (-1 : Int32), .int a.1], s)) rfl ?_
      refine xTr.br (g1 := (45, [(0, .ref 0), (1, .int a.1), (2, .int a.2)], [], s)) (g2 := (30, [(0, .ref 0), (1, .int a.1), (2, .int a.2)], [], s)) rfl (fun h6 => ?_) (fun h6 => ?_)
      · refine xTr.ms 5 (g := (8, [(0, .ref 0), (1, .int a.2), (2, .int (a.2 + (1 : Int32)))], [], s)) rfl ?_
        exact xTr.leaf rfl
      · refine xTr.ms 3 (g := (35, [(0, .ref 0), (1, .int a.1), (2, .int a.2)], [.int a.2, .ref 10], s)) rfl ?_
        refine xTr.ck (g := (36, [(0, .ref 0), (1, .int a.1), (2, .int a.2)], [.int (s.1 10 a.2.toNatClampNeg)], s)) rfl (fun h7 => ?_)
        refine xTr.ms 3 (g := (41, [(0, .ref 0), (1, .int a.1), (2, .int a.2)], [.int a.1, .ref 10, .int (s.1 10 a.2.toNatClampNeg)], s)) rfl ?_
        refine xTr.ck (g := (42, [(0, .ref 0), (1, .int a.1), (2, .int a.2)], [.int (s.1 10 a.1.toNatClampNeg), .int (s.1 10 a.2.toNatClampNeg)], s)) rfl (fun h8 => ?_)
        refine xTr.br (g1 := (49, [(0, .ref 0), (1, .int a.1), (2, .int a.2)], [], s)) (g2 := (45, [(0, .ref 0), (1, .int a.1), (2, .int a.2)], [], s)) rfl (fun h9 => ?_) (fun h9 => ?_)
        · refine xTr.ms 4 (g := (8, [(0, .ref 0), (1, .int a.1), (2, .int (a.2 + (1 : Int32)))], [], s)) rfl ?_
          exact xTr.leaf rfl
        · refine xTr.ms 5 (g := (8, [(0, .ref 0), (1, .int a.2), (2, .int (a.2 + (1 : Int32)))], [], s)) rfl ?_
          exact xTr.leaf rfl
    · refine xTr.ms 4 (g := (8, [(0, .ref 0), (1, .int a.1), (2, .int (a.2 + (1 : Int32)))], [], s)) rfl ?_
      exact xTr.leaf rfl
set_option maxRecDepth 100000 in
theorem ok_X9_loudestNow (s : xS) : xTr xMs xML xR_X9_loudestNow (Sum.inl (0, [(0, .ref 0)], [], s)) (F_X9_loudestNow s) (fun (y : Int32 × xS) => Sum.inr (some (.int y.1), y.2)) := by
  unfold F_X9_loudestNow
  refine xTr.ms 1 (g := (1, [(0, .ref 0)], [.ref 0], s)) rfl ?_
  refine xTr.callv (R' := xR_X9_runsTold) (as := [.ref 0]) (lv := [(0, .ref 0)]) (rest := []) (ok_X9_runsTold s) rfl rfl rfl rfl rfl (fun s2 => ?_)
  refine xTr.ms 4 (g := (8, [(0, .ref 0), (1, .int (-1 : Int32)), (2, .int (0 : Int32))], [], s2)) rfl ?_
  refine xTr.bind (J := F_X9_loudestNow_L8_ex s2) (xTr.loop (hd := F_X9_loudestNow_L8_hd s2) (fun aa => F_X9_loudestNow_L8_ok s2 aa) 100000 ((-1 : Int32), (0 : Int32))) (fun b10 => ?_)
  refine xTr.ms 1 (g := (58, [(1, .int b10)], [.int b10], s2)) rfl ?_
  exact xTr.ret rfl rfl rfl
-- X9_loudest
def F_X9_loudest (s : xS) : Option (Int32 × xS) := (F_X9_loudestNow s).bind fun q2 => (some (q2.1, q2.2))
set_option maxRecDepth 100000 in
theorem ok_X9_loudest (s : xS) : xTr xMs xML xR_X9_loudest (Sum.inl (0, [(0, .ref 0)], [], s)) (F_X9_loudest s) (fun (y : Int32 × xS) => Sum.inr (some (.int y.1), y.2)) := by
  unfold F_X9_loudest
  refine xTr.ms 1 (g := (1, [(0, .ref 0)], [.ref 0], s)) rfl ?_
  refine xTr.calli (R' := xR_X9_loudestNow) (as := [.ref 0]) (lv := [(0, .ref 0)]) (rest := []) (ok_X9_loudestNow s) rfl rfl rfl rfl rfl (fun v1 s1 => ?_)
  exact xTr.ret rfl rfl rfl
-- X9_hourOf
def F_X9_hourOf_L24_J60 (l1 : Int32) (l2 : Int32) (l3 : Int32) (j4 : Int32) (j5 : Int32) (j6 : Int32) (t0 : Int32) (js : xS) : Option ((Int32 × Int32 × Int32 × xS) ⊕ (Int32 × Int32 × xS)) := if t0 ≤ j5 then (if t0 ≤ j5 then (some (Sum.inl (j4, j5, (j6 + (1 : Int32)), js))) else (some (Sum.inl (j4, t0, (j6 + (1 : Int32)), js)))) else (if t0 ≤ j5 then (some (Sum.inl (j6, j5, (j6 + (1 : Int32)), js))) else (some (Sum.inl (j6, t0, (j6 + (1 : Int32)), js))))
def F_X9_hourOf_L24 (l1 : Int32) (l2 : Int32) (l3 : Int32) (a : Int32 × Int32 × Int32 × xS) : Option ((Int32 × Int32 × Int32 × xS) ⊕ (Int32 × Int32 × xS)) := if (10 : Int32) ≤ a.2.2.1 then (some (Sum.inr (a.1, a.2.1, a.2.2.2))) else (if l1 < 0 ∨ 9 ≤ l1.toNatClampNeg then none else ((F_X9_sleepsOn (xu a.2.2.2 6 l1.toNatClampNeg a.2.2.1)).bind fun s9 => (if (s9.1 0 20) = (-1 : Int32) then (F_X9_hourOf_L24_J60 l1 l2 l3 a.1 a.2.1 a.2.2.1 (10 : Int32) s9) else (F_X9_hourOf_L24_J60 l1 l2 l3 a.1 a.2.1 a.2.2.1 (s9.1 0 20) s9))))
def F_X9_hourOf (l1 : Int32) (l2 : Int32) (s : xS) : Option (Int32 × xS) := (F_X9_asTold s).bind fun s2 => ((F_X9_lays s2).bind fun s4 => (if l1 < 0 ∨ 9 ≤ l1.toNatClampNeg then none else ((xlp (F_X9_hourOf_L24 l1 l2 (s4.1 6 l1.toNatClampNeg)) 100000 ((-1 : Int32), (-1 : Int32), (0 : Int32), s4)).bind (fun b14 => (if l1 < 0 ∨ 9 ≤ l1.toNatClampNeg then none else (if l2 = 0 then (some (b14.1, (xu b14.2.2 6 l1.toNatClampNeg (s4.1 6 l1.toNatClampNeg)))) else (if b14.2.1 = (10 : Int32) then (some ((-1 : Int32), (xu b14.2.2 6 l1.toNatClampNeg (s4.1 6 l1.toNatClampNeg)))) else (some (b14.2.1, (xu b14.2.2 6 l1.toNatClampNeg (s4.1 6 l1.toNatClampNeg)))))))))))
def F_X9_hourOf_L24_hd (l1 : Int32) (l2 : Int32) (l3 : Int32) (a : Int32 × Int32 × Int32 × xS) : xT := Sum.inl (24, [(0, .ref 0), (1, .int l1), (2, .int l2), (3, .int l3), (4, .int a.1), (5, .int a.2.1), (6, .int a.2.2.1)], [], a.2.2.2)
def F_X9_hourOf_L24_ex (l1 : Int32) (l2 : Int32) (l3 : Int32) : (Int32 × Int32 × xS) → xT := (fun (z : Int32 × Int32 × xS) => Sum.inl (100, [(0, .ref 0), (1, .int l1), (2, .int l2), (3, .int l3), (4, .int z.1), (5, .int z.2.1)], [], z.2.2))
set_option maxRecDepth 100000 in
theorem F_X9_hourOf_L24_J60_ok (l1 : Int32) (l2 : Int32) (l3 : Int32) (j4 : Int32) (j5 : Int32) (j6 : Int32) (t0 : Int32) (js : xS) : xTr xMs xML xR_X9_hourOf (Sum.inl (60, [(0, .ref 0), (1, .int l1), (2, .int l2), (3, .int l3), (4, .int j4), (5, .int j5), (6, .int j6)], [.int t0], js)) (F_X9_hourOf_L24_J60 l1 l2 l3 j4 j5 j6 t0 js) (xhx (F_X9_hourOf_L24_hd l1 l2 l3) (F_X9_hourOf_L24_ex l1 l2 l3)) := by
  unfold F_X9_hourOf_L24_J60
  refine xTr.ms 3 (g := (66, [(0, .ref 0), (1, .int l1), (2, .int l2), (3, .int l3), (4, .int j4), (5, .int j5), (6, .int j6), (7, .int t0)], [.int j5, .int t0], js)) rfl ?_
  refine xTr.br (g1 := (74, [(0, .ref 0), (1, .int l1), (2, .int l2), (3, .int l3), (4, .int j4), (5, .int j5), (6, .int j6), (7, .int t0)], [], js)) (g2 := (69, [(0, .ref 0), (1, .int l1), (2, .int l2), (3, .int l3), (4, .int j4), (5, .int j5), (6, .int j6), (7, .int t0)], [], js)) rfl (fun h11 => ?_) (fun h11 => ?_)
  · refine xTr.ms 4 (g := (82, [(0, .ref 0), (1, .int l1), (2, .int l2), (3, .int l3), (4, .int j4), (5, .int j5), (6, .int j6), (7, .int t0)], [.int j5, .int t0], js)) rfl ?_
    refine xTr.br (g1 := (90, [(0, .ref 0), (1, .int l1), (2, .int l2), (3, .int l3), (4, .int j4), (5, .int j5), (6, .int j6), (7, .int t0)], [], js)) (g2 := (85, [(0, .ref 0), (1, .int l1), (2, .int l2), (3, .int l3), (4, .int j4), (5, .int j5), (6, .int j6), (7, .int t0)], [], js)) rfl (fun h12 => ?_) (fun h12 => ?_)
    · refine xTr.ms 4 (g := (24, [(0, .ref 0), (1, .int l1), (2, .int l2), (3, .int l3), (4, .int j4), (5, .int j5), (6, .int (j6 + (1 : Int32)))], [], js)) rfl ?_
      exact xTr.leaf rfl
    · refine xTr.ms 5 (g := (24, [(0, .ref 0), (1, .int l1), (2, .int l2), (3, .int l3), (4, .int j4), (5, .int t0), (6, .int (j6 + (1 : Int32)))], [], js)) rfl ?_
      exact xTr.leaf rfl
  · refine xTr.ms 5 (g := (82, [(0, .ref 0), (1, .int l1), (2, .int l2), (3, .int l3), (4, .int j6), (5, .int j5), (6, .int j6), (7, .int t0)], [.int j5, .int t0], js)) rfl ?_
    refine xTr.br (g1 := (90, [(0, .ref 0), (1, .int l1), (2, .int l2), (3, .int l3), (4, .int j6), (5, .int j5), (6, .int j6), (7, .int t0)], [], js)) (g2 := (85, [(0, .ref 0), (1, .int l1), (2, .int l2), (3, .int l3), (4, .int j6), (5, .int j5), (6, .int j6), (7, .int t0)], [], js)) rfl (fun h13 => ?_) (fun h13 => ?_)
    · refine xTr.ms 4 (g := (24, [(0, .ref 0), (1, .int l1), (2, .int l2), (3, .int l3), (4, .int j6), (5, .int j5), (6, .int (j6 + (1 : Int32)))], [], js)) rfl ?_
      exact xTr.leaf rfl
    · refine xTr.ms 5 (g := (24, [(0, .ref 0), (1, .int l1), (2, .int l2), (3, .int l3), (4, .int j6), (5, .int t0), (6, .int (j6 + (1 : Int32)))], [], js)) rfl ?_
      exact xTr.leaf rfl
set_option maxRecDepth 100000 in
theorem F_X9_hourOf_L24_ok (l1 : Int32) (l2 : Int32) (l3 : Int32) (a : Int32 × Int32 × Int32 × xS) : xTr xMs xML xR_X9_hourOf (F_X9_hourOf_L24_hd l1 l2 l3 a) (F_X9_hourOf_L24 l1 l2 l3 a) (xhx (F_X9_hourOf_L24_hd l1 l2 l3) (F_X9_hourOf_L24_ex l1 l2 l3)) := by
  unfold F_X9_hourOf_L24
  refine xTr.ms 2 (g := (28, [(0, .ref 0), (1, .int l1), (2, .int l2), (3, .int l3), (4, .int a.1), (5, .int a.2.1), (6, .int a.2.2.1)], [.int (10 : Int32), .int a.2.2.1], a.2.2.2)) rfl ?_
  refine xTr.br (g1 := (100, [(0, .ref 0), (1, .int l1), (2, .int l2), (3, .int l3), (4, .int a.1), (5, .int a.2.1), (6, .int a.2.2.1)], [], a.2.2.2)) (g2 := (31, [(0, .ref 0), (1, .int l1), (2, .int l2), (3, .int l3), (4, .int a.1), (5, .int a.2.1), (6, .int a.2.2.1)], [], a.2.2.2)) rfl (fun h6 => ?_) (fun h6 => ?_)
  · refine xTr.mk (lv1 := [(0, .ref 0), (1, .int l1), (2, .int l2), (3, .int l3), (4, .int a.1), (5, .int a.2.1)]) rfl rfl ?_
    exact xTr.leaf rfl
  · refine xTr.ms 4 (g := (38, [(0, .ref 0), (1, .int l1), (2, .int l2), (3, .int l3), (4, .int a.1), (5, .int a.2.1), (6, .int a.2.2.1)], [.int a.2.2.1, .int l1, .ref 6], a.2.2.2)) rfl ?_
    refine xTr.ck (g := (39, [(0, .ref 0), (1, .int l1), (2, .int l2), (3, .int l3), (4, .int a.1), (5, .int a.2.1), (6, .int a.2.2.1)], [], (xu a.2.2.2 6 l1.toNatClampNeg a.2.2.1))) rfl (fun h7 => ?_)
    refine xTr.ms 1 (g := (40, [(0, .ref 0), (1, .int l1), (2, .int l2), (3, .int l3), (4, .int a.1), (5, .int a.2.1), (6, .int a.2.2.1)], [.ref 0], (xu a.2.2.2 6 l1.toNatClampNeg a.2.2.1))) rfl ?_
    refine xTr.callv (R' := xR_X9_sleepsOn) (as := [.ref 0]) (lv := [(0, .ref 0), (1, .int l1), (2, .int l2), (3, .int l3), (4, .int a.1), (5, .int a.2.1), (6, .int a.2.2.1)]) (rest := []) (ok_X9_sleepsOn (xu a.2.2.2 6 l1.toNatClampNeg a.2.2.1)) rfl rfl rfl rfl rfl (fun s9 => ?_)
    refine xTr.ms 3 (g := (48, [(0, .ref 0), (1, .int l1), (2, .int l2), (3, .int l3), (4, .int a.1), (5, .int a.2.1), (6, .int a.2.2.1)], [.int (-1 : Int32), .int (s9.1 0 20)], s9)) rfl ?_
    refine xTr.br (g1 := (51, [(0, .ref 0), (1, .int l1), (2, .int l2), (3, .int l3), (4, .int a.1), (5, .int a.2.1), (6, .int a.2.2.1)], [], s9)) (g2 := (56, [(0, .ref 0), (1, .int l1), (2, .int l2), (3, .int l3), (4, .int a.1), (5, .int a.2.1), (6, .int a.2.2.1)], [], s9)) rfl (fun h10 => ?_) (fun h10 => ?_)
    · refine xTr.ms 2 (g := (60, [(0, .ref 0), (1, .int l1), (2, .int l2), (3, .int l3), (4, .int a.1), (5, .int a.2.1), (6, .int a.2.2.1)], [.int (10 : Int32)], s9)) rfl ?_
      exact F_X9_hourOf_L24_J60_ok l1 l2 l3 a.1 a.2.1 a.2.2.1 (10 : Int32) s9
    · refine xTr.ms 2 (g := (60, [(0, .ref 0), (1, .int l1), (2, .int l2), (3, .int l3), (4, .int a.1), (5, .int a.2.1), (6, .int a.2.2.1)], [.int (s9.1 0 20)], s9)) rfl ?_
      exact F_X9_hourOf_L24_J60_ok l1 l2 l3 a.1 a.2.1 a.2.2.1 (s9.1 0 20) s9
set_option maxRecDepth 100000 in
theorem ok_X9_hourOf (l1 : Int32) (l2 : Int32) (s : xS) : xTr xMs xML xR_X9_hourOf (Sum.inl (0, [(0, .ref 0), (1, .int l1), (2, .int l2)], [], s)) (F_X9_hourOf l1 l2 s) (fun (y : Int32 × xS) => Sum.inr (some (.int y.1), y.2)) := by
  unfold F_X9_hourOf
  refine xTr.ms 1 (g := (1, [(0, .ref 0), (1, .int l1), (2, .int l2)], [.ref 0], s)) rfl ?_
  refine xTr.callv (R' := xR_X9_asTold) (as := [.ref 0]) (lv := [(0, .ref 0), (1, .int l1), (2, .int l2)]) (rest := []) (ok_X9_asTold s) rfl rfl rfl rfl rfl (fun s2 => ?_)
  refine xTr.ms 1 (g := (5, [(0, .ref 0), (1, .int l1), (2, .int l2)], [.ref 0], s2)) rfl ?_
  refine xTr.callv (R' := xR_X9_lays) (as := [.ref 0]) (lv := [(0, .ref 0), (1, .int l1), (2, .int l2)]) (rest := []) (ok_X9_lays s2) rfl rfl rfl rfl rfl (fun s4 => ?_)
  refine xTr.ms 3 (g := (13, [(0, .ref 0), (1, .int l1), (2, .int l2)], [.int l1, .ref 6], s4)) rfl ?_
  refine xTr.ck (g := (14, [(0, .ref 0), (1, .int l1), (2, .int l2)], [.int (s4.1 6 l1.toNatClampNeg)], s4)) rfl (fun h5 => ?_)
  refine xTr.ms 7 (g := (24, [(0, .ref 0), (1, .int l1), (2, .int l2), (3, .int (s4.1 6 l1.toNatClampNeg)), (4, .int (-1 : Int32)), (5, .int (-1 : Int32)), (6, .int (0 : Int32))], [], s4)) rfl ?_
  refine xTr.bind (J := F_X9_hourOf_L24_ex l1 l2 (s4.1 6 l1.toNatClampNeg)) (xTr.loop (hd := F_X9_hourOf_L24_hd l1 l2 (s4.1 6 l1.toNatClampNeg)) (fun aa => F_X9_hourOf_L24_ok l1 l2 (s4.1 6 l1.toNatClampNeg) aa) 100000 ((-1 : Int32), (-1 : Int32), (0 : Int32), s4)) (fun b14 => ?_)
  refine xTr.ms 4 (g := (106, [(0, .ref 0), (1, .int l1), (2, .int l2), (3, .int (s4.1 6 l1.toNatClampNeg)), (4, .int b14.1), (5, .int b14.2.1)], [.int (s4.1 6 l1.toNatClampNeg), .int l1, .ref 6], b14.2.2)) rfl ?_
  refine xTr.ck (g := (107, [(0, .ref 0), (1, .int l1), (2, .int l2), (3, .int (s4.1 6 l1.toNatClampNeg)), (4, .int b14.1), (5, .int b14.2.1)], [], (xu b14.2.2 6 l1.toNatClampNeg (s4.1 6 l1.toNatClampNeg)))) rfl (fun h15 => ?_)
  refine xTr.ms 1 (g := (108, [(0, .ref 0), (1, .int l1), (2, .int l2), (3, .int (s4.1 6 l1.toNatClampNeg)), (4, .int b14.1), (5, .int b14.2.1)], [.int l2], (xu b14.2.2 6 l1.toNatClampNeg (s4.1 6 l1.toNatClampNeg)))) rfl ?_
  refine xTr.br (g1 := (111, [(0, .ref 0), (1, .int l1), (2, .int l2), (3, .int (s4.1 6 l1.toNatClampNeg)), (4, .int b14.1), (5, .int b14.2.1)], [], (xu b14.2.2 6 l1.toNatClampNeg (s4.1 6 l1.toNatClampNeg)))) (g2 := (116, [(0, .ref 0), (1, .int l1), (2, .int l2), (3, .int (s4.1 6 l1.toNatClampNeg)), (4, .int b14.1), (5, .int b14.2.1)], [], (xu b14.2.2 6 l1.toNatClampNeg (s4.1 6 l1.toNatClampNeg)))) rfl (fun h16 => ?_) (fun h16 => ?_)
  · refine xTr.ms 2 (g := (129, [(4, .int b14.1)], [.int b14.1], (xu b14.2.2 6 l1.toNatClampNeg (s4.1 6 l1.toNatClampNeg)))) rfl ?_
    exact xTr.ret rfl rfl rfl
  · refine xTr.ms 2 (g := (120, [(5, .int b14.2.1)], [.int (10 : Int32), .int b14.2.1], (xu b14.2.2 6 l1.toNatClampNeg (s4.1 6 l1.toNatClampNeg)))) rfl ?_
    refine xTr.br (g1 := (123, [(5, .int b14.2.1)], [], (xu b14.2.2 6 l1.toNatClampNeg (s4.1 6 l1.toNatClampNeg)))) (g2 := (127, [(5, .int b14.2.1)], [], (xu b14.2.2 6 l1.toNatClampNeg (s4.1 6 l1.toNatClampNeg)))) rfl (fun h17 => ?_) (fun h17 => ?_)
    · refine xTr.ms 2 (g := (129, [], [.int (-1 : Int32)], (xu b14.2.2 6 l1.toNatClampNeg (s4.1 6 l1.toNatClampNeg)))) rfl ?_
      exact xTr.ret rfl rfl rfl
    · refine xTr.ms 1 (g := (129, [(5, .int b14.2.1)], [.int b14.2.1], (xu b14.2.2 6 l1.toNatClampNeg (s4.1 6 l1.toNatClampNeg)))) rfl ?_
      exact xTr.ret rfl rfl rfl
-- X9_hour
def F_X9_hour (l1 : Int32) (l2 : Int32) (s : xS) : Option (Int32 × xS) := (F_X9_isDeed l1 s).bind fun q2 => (if q2.1 = 0 then (some ((-2 : Int32), q2.2)) else ((F_X9_in l2 (0 : Int32) (1 : Int32) q2.2).bind fun v4 => (if v4 = 0 then (some ((-2 : Int32), q2.2)) else ((F_X9_hourOf l1 l2 q2.2).bind fun q7 => (some (q7.1, q7.2))))))
set_option maxRecDepth 100000 in
theorem ok_X9_hour (l1 : Int32) (l2 : Int32) (s : xS) : xTr xMs xML xR_X9_hour (Sum.inl (0, [(0, .ref 0), (1, .int l1), (2, .int l2)], [], s)) (F_X9_hour l1 l2 s) (fun (y : Int32 × xS) => Sum.inr (some (.int y.1), y.2)) := by
  unfold F_X9_hour
  refine xTr.ms 2 (g := (2, [(0, .ref 0), (1, .int l1), (2, .int l2)], [.int l1, .ref 0], s)) rfl ?_
  refine xTr.calli (R' := xR_X9_isDeed) (as := [.ref 0, .int l1]) (lv := [(0, .ref 0), (1, .int l1), (2, .int l2)]) (rest := []) (ok_X9_isDeed l1 s) rfl rfl rfl rfl rfl (fun v1 s1 => ?_)
  refine xTr.br (g1 := (26, [(0, .ref 0), (1, .int l1), (2, .int l2)], [], s1)) (g2 := (8, [(0, .ref 0), (1, .int l1), (2, .int l2)], [], s1)) rfl (fun h3 => ?_) (fun h3 => ?_)
  · refine xTr.ms 1 (g := (28, [], [.int (-2 : Int32)], s1)) rfl ?_
    exact xTr.ret rfl rfl rfl
  · refine xTr.ms 3 (g := (11, [(0, .ref 0), (1, .int l1), (2, .int l2)], [.int (1 : Int32), .int (0 : Int32), .int l2], s1)) rfl ?_
    refine xTr.callip (R' := xR_X9_in) (as := [.int l2, .int (0 : Int32), .int (1 : Int32)]) (lv := [(0, .ref 0), (1, .int l1), (2, .int l2)]) (rest := []) (ok_X9_in l2 (0 : Int32) (1 : Int32) s1) rfl rfl rfl rfl rfl (fun v4 => ?_)
    refine xTr.br (g1 := (26, [(0, .ref 0), (1, .int l1), (2, .int l2)], [], s1)) (g2 := (17, [(0, .ref 0), (1, .int l1), (2, .int l2)], [], s1)) rfl (fun h5 => ?_) (fun h5 => ?_)
    · refine xTr.ms 1 (g := (28, [], [.int (-2 : Int32)], s1)) rfl ?_
      exact xTr.ret rfl rfl rfl
    · refine xTr.ms 3 (g := (20, [(0, .ref 0), (1, .int l1), (2, .int l2)], [.int l2, .int l1, .ref 0], s1)) rfl ?_
      refine xTr.calli (R' := xR_X9_hourOf) (as := [.ref 0, .int l1, .int l2]) (lv := [(0, .ref 0), (1, .int l1), (2, .int l2)]) (rest := []) (ok_X9_hourOf l1 l2 s1) rfl rfl rfl rfl rfl (fun v6 s6 => ?_)
      refine xTr.ms 1 (g := (28, [(0, .ref 0), (1, .int l1), (2, .int l2)], [.int v6], s6)) rfl ?_
      exact xTr.ret rfl rfl rfl
-- X9_isStill
def F_X9_isStill_J84 (l1 : Int32) (l2 : Int32) (js : xS) : Option (Int32 × xS) := if l2 = (-1 : Int32) then (if (js.1 0 20) = (-1 : Int32) then (some ((1 : Int32), js)) else (some ((0 : Int32), js))) else (if l2 < 0 ∨ 37 ≤ l2.toNatClampNeg then none else (if (js.1 0 20) = (-1 : Int32) then (some ((1 : Int32), (xu js 3 l2.toNatClampNeg (0 : Int32)))) else (some ((0 : Int32), (xu js 3 l2.toNatClampNeg (0 : Int32))))))
def F_X9_isStill_J68 (l1 : Int32) (l2 : Int32) (js : xS) : Option (Int32 × xS) := (F_X9_runs js).bind fun s8 => (if l1 = (-1 : Int32) then (F_X9_isStill_J84 l1 l2 s8) else (if l1 < 0 ∨ 37 ≤ l1.toNatClampNeg then none else (F_X9_isStill_J84 l1 l2 (xu s8 3 l1.toNatClampNeg (0 : Int32)))))
def F_X9_isStill_J56 (l1 : Int32) (l2 : Int32) (js : xS) : Option (Int32 × xS) := if l2 = (-1 : Int32) then (F_X9_isStill_J68 l1 l2 js) else (if l2 < 0 ∨ 37 ≤ l2.toNatClampNeg then none else (F_X9_isStill_J68 l1 l2 (xu js 3 l2.toNatClampNeg (2 : Int32))))
def F_X9_isStill_J31 (l1 : Int32) (l2 : Int32) (j3 : Int32) (t0 : Int32) (js : xS) : Option (Int32 × xS) := if j3 = 0 then (if t0 = 0 then (if l1 = (-1 : Int32) then (F_X9_isStill_J56 l1 l2 js) else (if l1 < 0 ∨ 37 ≤ l1.toNatClampNeg then none else (F_X9_isStill_J56 l1 l2 (xu js 3 l1.toNatClampNeg (2 : Int32))))) else (some ((0 : Int32), js))) else (some ((0 : Int32), js))
def F_X9_isStill_J15 (l1 : Int32) (l2 : Int32) (t0 : Int32) (js : xS) : Option (Int32 × xS) := if l2 = (-1 : Int32) then (F_X9_isStill_J31 l1 l2 t0 (0 : Int32) js) else (if l2 < 0 ∨ 37 ≤ l2.toNatClampNeg then none else (F_X9_isStill_J31 l1 l2 t0 (js.1 3 l2.toNatClampNeg) js))
def F_X9_isStill (l1 : Int32) (l2 : Int32) (s : xS) : Option (Int32 × xS) := if l1 = (-1 : Int32) then (F_X9_isStill_J15 l1 l2 (0 : Int32) s) else (if l1 < 0 ∨ 37 ≤ l1.toNatClampNeg then none else (F_X9_isStill_J15 l1 l2 (s.1 3 l1.toNatClampNeg) s))
set_option maxRecDepth 100000 in
theorem F_X9_isStill_J84_ok (l1 : Int32) (l2 : Int32) (js : xS) : xTr xMs xML xR_X9_isStill (Sum.inl (84, [(0, .ref 0), (2, .int l2)], [], js)) (F_X9_isStill_J84 l1 l2 js) (fun (y : Int32 × xS) => Sum.inr (some (.int y.1), y.2)) := by
  unfold F_X9_isStill_J84
  refine xTr.ms 2 (g := (86, [(0, .ref 0), (2, .int l2)], [.int (-1 : Int32), .int l2], js)) rfl ?_
  refine xTr.br (g1 := (96, [(0, .ref 0), (2, .int l2)], [], js)) (g2 := (89, [(0, .ref 0), (2, .int l2)], [], js)) rfl (fun h10 => ?_) (fun h10 => ?_)
  · refine xTr.ms 3 (g := (101, [(0, .ref 0)], [.int (-1 : Int32), .int (js.1 0 20)], js)) rfl ?_
    refine xTr.br (g1 := (104, [(0, .ref 0)], [], js)) (g2 := (108, [(0, .ref 0)], [], js)) rfl (fun h11 => ?_) (fun h11 => ?_)
    · refine xTr.ms 2 (g := (109, [], [.int (1 : Int32)], js)) rfl ?_
      exact xTr.ret rfl rfl rfl
    · refine xTr.ms 1 (g := (109, [], [.int (0 : Int32)], js)) rfl ?_
      exact xTr.ret rfl rfl rfl
  · refine xTr.ms 4 (g := (95, [(0, .ref 0), (2, .int l2)], [.int (0 : Int32), .int l2, .ref 3], js)) rfl ?_
    refine xTr.ck (g := (96, [(0, .ref 0), (2, .int l2)], [], (xu js 3 l2.toNatClampNeg (0 : Int32)))) rfl (fun h12 => ?_)
    refine xTr.ms 3 (g := (101, [(0, .ref 0)], [.int (-1 : Int32), .int (js.1 0 20)], (xu js 3 l2.toNatClampNeg (0 : Int32)))) rfl ?_
    refine xTr.br (g1 := (104, [(0, .ref 0)], [], (xu js 3 l2.toNatClampNeg (0 : Int32)))) (g2 := (108, [(0, .ref 0)], [], (xu js 3 l2.toNatClampNeg (0 : Int32)))) rfl (fun h13 => ?_) (fun h13 => ?_)
    · refine xTr.ms 2 (g := (109, [], [.int (1 : Int32)], (xu js 3 l2.toNatClampNeg (0 : Int32)))) rfl ?_
      exact xTr.ret rfl rfl rfl
    · refine xTr.ms 1 (g := (109, [], [.int (0 : Int32)], (xu js 3 l2.toNatClampNeg (0 : Int32)))) rfl ?_
      exact xTr.ret rfl rfl rfl
set_option maxRecDepth 100000 in
theorem F_X9_isStill_J68_ok (l1 : Int32) (l2 : Int32) (js : xS) : xTr xMs xML xR_X9_isStill (Sum.inl (68, [(0, .ref 0), (1, .int l1), (2, .int l2)], [], js)) (F_X9_isStill_J68 l1 l2 js) (fun (y : Int32 × xS) => Sum.inr (some (.int y.1), y.2)) := by
  unfold F_X9_isStill_J68
  refine xTr.ms 1 (g := (69, [(0, .ref 0), (1, .int l1), (2, .int l2)], [.ref 0], js)) rfl ?_
  refine xTr.callv (R' := xR_X9_runs) (as := [.ref 0]) (lv := [(0, .ref 0), (1, .int l1), (2, .int l2)]) (rest := []) (ok_X9_runs js) rfl rfl rfl rfl rfl (fun s8 => ?_)
  refine xTr.ms 2 (g := (74, [(0, .ref 0), (1, .int l1), (2, .int l2)], [.int (-1 : Int32), .int l1], s8)) rfl ?_
  refine xTr.br (g1 := (84, [(0, .ref 0), (1, .int l1), (2, .int l2)], [], s8)) (g2 := (77, [(0, .ref 0), (1, .int l1), (2, .int l2)], [], s8)) rfl (fun h9 => ?_) (fun h9 => ?_)
  · refine xTr.mk (lv1 := [(0, .ref 0), (2, .int l2)]) rfl rfl ?_
    exact F_X9_isStill_J84_ok l1 l2 s8
  · refine xTr.ms 4 (g := (83, [(0, .ref 0), (1, .int l1), (2, .int l2)], [.int (0 : Int32), .int l1, .ref 3], s8)) rfl ?_
    refine xTr.ck (g := (84, [(0, .ref 0), (1, .int l1), (2, .int l2)], [], (xu s8 3 l1.toNatClampNeg (0 : Int32)))) rfl (fun h14 => ?_)
    refine xTr.mk (lv1 := [(0, .ref 0), (2, .int l2)]) rfl rfl ?_
    exact F_X9_isStill_J84_ok l1 l2 (xu s8 3 l1.toNatClampNeg (0 : Int32))
set_option maxRecDepth 100000 in
theorem F_X9_isStill_J56_ok (l1 : Int32) (l2 : Int32) (js : xS) : xTr xMs xML xR_X9_isStill (Sum.inl (56, [(0, .ref 0), (1, .int l1), (2, .int l2)], [], js)) (F_X9_isStill_J56 l1 l2 js) (fun (y : Int32 × xS) => Sum.inr (some (.int y.1), y.2)) := by
  unfold F_X9_isStill_J56
  refine xTr.ms 2 (g := (58, [(0, .ref 0), (1, .int l1), (2, .int l2)], [.int (-1 : Int32), .int l2], js)) rfl ?_
  refine xTr.br (g1 := (68, [(0, .ref 0), (1, .int l1), (2, .int l2)], [], js)) (g2 := (61, [(0, .ref 0), (1, .int l1), (2, .int l2)], [], js)) rfl (fun h6 => ?_) (fun h6 => ?_)
  · exact F_X9_isStill_J68_ok l1 l2 js
  · refine xTr.ms 4 (g := (67, [(0, .ref 0), (1, .int l1), (2, .int l2)], [.int (2 : Int32), .int l2, .ref 3], js)) rfl ?_
    refine xTr.ck (g := (68, [(0, .ref 0), (1, .int l1), (2, .int l2)], [], (xu js 3 l2.toNatClampNeg (2 : Int32)))) rfl (fun h15 => ?_)
    exact F_X9_isStill_J68_ok l1 l2 (xu js 3 l2.toNatClampNeg (2 : Int32))
set_option maxRecDepth 100000 in
theorem F_X9_isStill_J31_ok (l1 : Int32) (l2 : Int32) (j3 : Int32) (t0 : Int32) (js : xS) : xTr xMs xML xR_X9_isStill (Sum.inl (31, [(0, .ref 0), (1, .int l1), (2, .int l2), (3, .int j3)], [.int t0], js)) (F_X9_isStill_J31 l1 l2 j3 t0 js) (fun (y : Int32 × xS) => Sum.inr (some (.int y.1), y.2)) := by
  unfold F_X9_isStill_J31
  refine xTr.ms 2 (g := (34, [(0, .ref 0), (1, .int l1), (2, .int l2), (3, .int j3), (4, .int t0)], [.int j3], js)) rfl ?_
  refine xTr.br (g1 := (37, [(0, .ref 0), (1, .int l1), (2, .int l2), (3, .int j3), (4, .int t0)], [], js)) (g2 := (42, [(0, .ref 0), (1, .int l1), (2, .int l2), (3, .int j3), (4, .int t0)], [], js)) rfl (fun h3 => ?_) (fun h3 => ?_)
  · refine xTr.ms 1 (g := (39, [(0, .ref 0), (1, .int l1), (2, .int l2), (4, .int t0)], [.int t0], js)) rfl ?_
    refine xTr.br (g1 := (44, [(0, .ref 0), (1, .int l1), (2, .int l2), (4, .int t0)], [], js)) (g2 := (42, [(0, .ref 0), (1, .int l1), (2, .int l2), (4, .int t0)], [], js)) rfl (fun h4 => ?_) (fun h4 => ?_)
    · refine xTr.ms 2 (g := (46, [(0, .ref 0), (1, .int l1), (2, .int l2)], [.int (-1 : Int32), .int l1], js)) rfl ?_
      refine xTr.br (g1 := (56, [(0, .ref 0), (1, .int l1), (2, .int l2)], [], js)) (g2 := (49, [(0, .ref 0), (1, .int l1), (2, .int l2)], [], js)) rfl (fun h5 => ?_) (fun h5 => ?_)
      · exact F_X9_isStill_J56_ok l1 l2 js
      · refine xTr.ms 4 (g := (55, [(0, .ref 0), (1, .int l1), (2, .int l2)], [.int (2 : Int32), .int l1, .ref 3], js)) rfl ?_
        refine xTr.ck (g := (56, [(0, .ref 0), (1, .int l1), (2, .int l2)], [], (xu js 3 l1.toNatClampNeg (2 : Int32)))) rfl (fun h16 => ?_)
        exact F_X9_isStill_J56_ok l1 l2 (xu js 3 l1.toNatClampNeg (2 : Int32))
    · refine xTr.ms 1 (g := (43, [], [.int (0 : Int32)], js)) rfl ?_
      exact xTr.ret rfl rfl rfl
  · refine xTr.ms 1 (g := (43, [], [.int (0 : Int32)], js)) rfl ?_
    exact xTr.ret rfl rfl rfl
set_option maxRecDepth 100000 in
theorem F_X9_isStill_J15_ok (l1 : Int32) (l2 : Int32) (t0 : Int32) (js : xS) : xTr xMs xML xR_X9_isStill (Sum.inl (15, [(0, .ref 0), (1, .int l1), (2, .int l2)], [.int t0], js)) (F_X9_isStill_J15 l1 l2 t0 js) (fun (y : Int32 × xS) => Sum.inr (some (.int y.1), y.2)) := by
  unfold F_X9_isStill_J15
  refine xTr.ms 3 (g := (18, [(0, .ref 0), (1, .int l1), (2, .int l2), (3, .int t0)], [.int (-1 : Int32), .int l2], js)) rfl ?_
  refine xTr.br (g1 := (21, [(0, .ref 0), (1, .int l1), (2, .int l2), (3, .int t0)], [], js)) (g2 := (25, [(0, .ref 0), (1, .int l1), (2, .int l2), (3, .int t0)], [], js)) rfl (fun h2 => ?_) (fun h2 => ?_)
  · refine xTr.ms 2 (g := (31, [(0, .ref 0), (1, .int l1), (2, .int l2), (3, .int t0)], [.int (0 : Int32)], js)) rfl ?_
    exact F_X9_isStill_J31_ok l1 l2 t0 (0 : Int32) js
  · refine xTr.ms 3 (g := (30, [(0, .ref 0), (1, .int l1), (2, .int l2), (3, .int t0)], [.int l2, .ref 3], js)) rfl ?_
    refine xTr.ck (g := (31, [(0, .ref 0), (1, .int l1), (2, .int l2), (3, .int t0)], [.int (js.1 3 l2.toNatClampNeg)], js)) rfl (fun h17 => ?_)
    exact F_X9_isStill_J31_ok l1 l2 t0 (js.1 3 l2.toNatClampNeg) js
set_option maxRecDepth 100000 in
theorem ok_X9_isStill (l1 : Int32) (l2 : Int32) (s : xS) : xTr xMs xML xR_X9_isStill (Sum.inl (0, [(0, .ref 0), (1, .int l1), (2, .int l2)], [], s)) (F_X9_isStill l1 l2 s) (fun (y : Int32 × xS) => Sum.inr (some (.int y.1), y.2)) := by
  unfold F_X9_isStill
  refine xTr.ms 2 (g := (2, [(0, .ref 0), (1, .int l1), (2, .int l2)], [.int (-1 : Int32), .int l1], s)) rfl ?_
  refine xTr.br (g1 := (5, [(0, .ref 0), (1, .int l1), (2, .int l2)], [], s)) (g2 := (9, [(0, .ref 0), (1, .int l1), (2, .int l2)], [], s)) rfl (fun h1 => ?_) (fun h1 => ?_)
  · refine xTr.ms 2 (g := (15, [(0, .ref 0), (1, .int l1), (2, .int l2)], [.int (0 : Int32)], s)) rfl ?_
    exact F_X9_isStill_J15_ok l1 l2 (0 : Int32) s
  · refine xTr.ms 3 (g := (14, [(0, .ref 0), (1, .int l1), (2, .int l2)], [.int l1, .ref 3], s)) rfl ?_
    refine xTr.ck (g := (15, [(0, .ref 0), (1, .int l1), (2, .int l2)], [.int (s.1 3 l1.toNatClampNeg)], s)) rfl (fun h18 => ?_)
    exact F_X9_isStill_J15_ok l1 l2 (s.1 3 l1.toNatClampNeg) s
