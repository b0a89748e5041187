-- X9_way
def F_X9_way (l1 : Int32) (l2 : Int32) (s : xS) : Option (Int32 × xS) := (F_X9_isCell l1 s).bind fun q2 => (if q2.1 = 0 then (some ((-2 : Int32), q2.2)) else ((F_X9_isCell l2 q2.2).bind fun q5 => (if q5.1 = 0 then (some ((-2 : Int32), q5.2)) else ((F_X9_wayOf l1 l2 q5.2).bind fun q8 => (some (q8.1, q8.2))))))
set_option maxRecDepth 100000 in
theorem ok_X9_way (l1 : Int32) (l2 : Int32) (s : xS) : xTr xMs xML xR_X9_way (Sum.inl (0, [(0, .ref 0), (1, .int l1), (2, .int l2)], [], s)) (F_X9_way l1 l2 s) (fun (y : Int32 × xS) => Sum.inr (some (.int y.1), y.2)) := by
  unfold F_X9_way
  refine xTr.ms 2 (g := (2, [(0, .ref 0), (1, .int l1), (2, .int l2)], [.int l1, .ref 0], s)) rfl ?_
  refine xTr.calli (R' := xR_X9_isCell) (as := [.ref 0, .int l1]) (lv := [(0, .ref 0), (1, .int l1), (2, .int l2)]) (rest := []) (ok_X9_isCell l1 s) rfl rfl rfl rfl rfl (fun v1 s1 => ?_)
  refine xTr.br (g1 := (25, [(0, .ref 0), (1, .int l1), (2, .int l2)], [], s1)) (g2 := (8, [(0, .ref 0), (1, .int l1), (2, .int l2)], [], s1)) rfl (fun h3 => ?_) (fun h3 => ?_)
  · refine xTr.ms 1 (g := (27, [], [.int (-2 : Int32)], s1)) rfl ?_
    exact xTr.ret rfl rfl rfl
  · refine xTr.ms 2 (g := (10, [(0, .ref 0), (1, .int l1), (2, .int l2)], [.int l2, .ref 0], s1)) rfl ?_
    refine xTr.calli (R' := xR_X9_isCell) (as := [.ref 0, .int l2]) (lv := [(0, .ref 0), (1, .int l1), (2, .int l2)]) (rest := []) (ok_X9_isCell l2 s1) rfl rfl rfl rfl rfl (fun v4 s4 => ?_)
    refine xTr.br (g1 := (25, [(0, .ref 0), (1, .int l1), (2, .int l2)], [], s4)) (g2 := (16, [(0, .ref 0), (1, .int l1), (2, .int l2)], [], s4)) rfl (fun h6 => ?_) (fun h6 => ?_)
    · refine xTr.ms 1 (g := (27, [], [.int (-2 : Int32)], s4)) rfl ?_
      exact xTr.ret rfl rfl rfl
    · refine xTr.ms 3 (g := (19, [(0, .ref 0), (1, .int l1), (2, .int l2)], [.int l2, .int l1, .ref 0], s4)) rfl ?_
      refine xTr.calli (R' := xR_X9_wayOf) (as := [.ref 0, .int l1, .int l2]) (lv := [(0, .ref 0), (1, .int l1), (2, .int l2)]) (rest := []) (ok_X9_wayOf l1 l2 s4) rfl rfl rfl rfl rfl (fun v7 s7 => ?_)
      refine xTr.ms 1 (g := (27, [(0, .ref 0), (1, .int l1), (2, .int l2)], [.int v7], s7)) rfl ?_
      exact xTr.ret rfl rfl rfl
-- X9_listened
def F_X9_listened (l1 : Int32) (l2 : Int32) (s : xS) : Option (Int32 × xS) := (F_X9_isHour l1 s).bind fun v1 => (if v1 = 0 then (some ((-2 : Int32), s)) else ((F_X9_in l2 (0 : Int32) (99 : Int32) s).bind fun v3 => (if v3 = 0 then (some ((-2 : Int32), s)) else (if (s.1 0 25) = (8 : Int32) then (some ((-4 : Int32), s)) else (if (s.1 0 25) < 0 ∨ 8 ≤ ((s.1 0 25)).toNatClampNeg then none else (if (s.1 0 25) < 0 ∨ 8 ≤ ((s.1 0 25)).toNatClampNeg then none else (some (((s.1 0 25) + (1 : Int32)), (xu (xu (xu s 18 ((s.1 0 25)).toNatClampNeg l1) 19 ((s.1 0 25)).toNatClampNeg l2) 0 25 ((s.1 0 25) + (1 : Int32)))))))))))
set_option maxRecDepth 100000 in
theorem ok_X9_listened (l1 : Int32) (l2 : Int32) (s : xS) : xTr xMs xML xR_X9_listened (Sum.inl (0, [(0, .ref 0), (1, .int l1), (2, .int l2)], [], s)) (F_X9_listened l1 l2 s) (fun (y : Int32 × xS) => Sum.inr (some (.int y.1), y.2)) := by
  unfold F_X9_listened
  refine xTr.ms 1 (g := (1, [(0, .ref 0), (1, .int l1), (2, .int l2)], [.int l1], s)) rfl ?_
  refine xTr.callip (R' := xR_X9_isHour) (as := [.int l1]) (lv := [(0, .ref 0), (1, .int l1), (2, .int l2)]) (rest := []) (ok_X9_isHour l1 s) rfl rfl rfl rfl rfl (fun v1 => ?_)
  refine xTr.br (g1 := (17, [(0, .ref 0), (1, .int l1), (2, .int l2)], [], s)) (g2 := (7, [(0, .ref 0), (1, .int l1), (2, .int l2)], [], s)) rfl (fun h2 => ?_) (fun h2 => ?_)
  · refine xTr.ms 1 (g := (19, [], [.int (-2 : Int32)], s)) rfl ?_
    exact xTr.ret rfl rfl rfl
  · refine xTr.ms 3 (g := (11, [(0, .ref 0), (1, .int l1), (2, .int l2)], [.int (99 : Int32), .int (0 : Int32), .int l2], s)) rfl ?_
    refine xTr.callip (R' := xR_X9_in) (as := [.int l2, .int (0 : Int32), .int (99 : Int32)]) (lv := [(0, .ref 0), (1, .int l1), (2, .int l2)]) (rest := []) (ok_X9_in l2 (0 : Int32) (99 : Int32) s) rfl rfl rfl rfl rfl (fun v3 => ?_)
    refine xTr.br (g1 := (17, [(0, .ref 0), (1, .int l1), (2, .int l2)], [], s)) (g2 := (20, [(0, .ref 0), (1, .int l1), (2, .int l2)], [], s)) rfl (fun h4 => ?_) (fun h4 => ?_)
    · refine xTr.ms 1 (g := (19, [], [.int (-2 : Int32)], s)) rfl ?_
      exact xTr.ret rfl rfl rfl
    · refine xTr.ms 3 (g := (26, [(0, .ref 0), (1, .int l1), (2, .int l2)], [.int (8 : Int32), .int (s.1 0 25)], s)) rfl ?_
      refine xTr.br (g1 := (29, [(0, .ref 0), (1, .int l1), (2, .int l2)], [], s)) (g2 := (32, [(0, .ref 0), (1, .int l1), (2, .int l2)], [], s)) rfl (fun h5 => ?_) (fun h5 => ?_)
      · refine xTr.ms 1 (g := (31, [], [.int (-4 : Int32)], s)) rfl ?_
        exact xTr.ret rfl rfl rfl
      · refine xTr.ms 5 (g := (41, [(0, .ref 0), (1, .int l1), (2, .int l2)], [.int l1, .int (s.1 0 25), .ref 18], s)) rfl ?_
        refine xTr.ck (g := (42, [(0, .ref 0), (1, .int l1), (2, .int l2)], [], (xu s 18 ((s.1 0 25)).toNatClampNeg l1))) rfl (fun h6 => ?_)
        refine xTr.ms 5 (g := (51, [(0, .ref 0), (1, .int l1), (2, .int l2)], [.int l2, .int (s.1 0 25), .ref 19], (xu s 18 ((s.1 0 25)).toNatClampNeg l1))) rfl ?_
        refine xTr.ck (g := (52, [(0, .ref 0), (1, .int l1), (2, .int l2)], [], (xu (xu s 18 ((s.1 0 25)).toNatClampNeg l1) 19 ((s.1 0 25)).toNatClampNeg l2))) rfl (fun h7 => ?_)
        refine xTr.ms 8 (g := (66, [(0, .ref 0), (1, .int l1), (2, .int l2)], [.int ((s.1 0 25) + (1 : Int32))], (xu (xu (xu s 18 ((s.1 0 25)).toNatClampNeg l1) 19 ((s.1 0 25)).toNatClampNeg l2) 0 25 ((s.1 0 25) + (1 : Int32))))) rfl ?_
        exact xTr.ret rfl rfl rfl
-- X9_forget
def F_X9_forget (s : xS) : Option (Int32 × xS) := some ((s.1 0 25), (xu s 0 25 (0 : Int32)))
set_option maxRecDepth 100000 in
theorem ok_X9_forget (s : xS) : xTr xMs xML xR_X9_forget (Sum.inl (0, [(0, .ref 0)], [], s)) (F_X9_forget s) (fun (y : Int32 × xS) => Sum.inr (some (.int y.1), y.2)) := by
  unfold F_X9_forget
  refine xTr.ms 7 (g := (11, [(0, .ref 0), (1, .int (s.1 0 25))], [.int (s.1 0 25)], (xu s 0 25 (0 : Int32)))) rfl ?_
  exact xTr.ret rfl rfl rfl
-- X9_isListened
def F_X9_isListened_L8 (s : xS) (a : Int32 × Int32) : Option ((Int32 × Int32) ⊕ (Int32)) := if (s.1 0 25) ≤ a.2 then (some (Sum.inr a.1)) else (if a.1 = 0 then (some (Sum.inr a.1)) else (if a.2 < 0 ∨ 8 ≤ a.2.toNatClampNeg then none else (if (s.1 18 a.2.toNatClampNeg) < 0 ∨ 10 ≤ ((s.1 18 a.2.toNatClampNeg)).toNatClampNeg then none else (if a.2 < 0 ∨ 8 ≤ a.2.toNatClampNeg then none else (if (s.1 12 ((s.1 18 a.2.toNatClampNeg)).toNatClampNeg) = (s.1 19 a.2.toNatClampNeg) then (some (Sum.inl ((1 : Int32), (a.2 + (1 : Int32))))) else (some (Sum.inl ((0 : Int32), (a.2 + (1 : Int32))))))))))
def F_X9_isListened (s : xS) : Option (Int32 × xS) := (F_X9_sleepsOn s).bind fun s2 => ((xlp (F_X9_isListened_L8 s2) 100000 ((1 : Int32), (0 : Int32))).bind (fun b9 => (if b9 = 0 ∨ b9 = 1 then some (b9, s2) else none)))
def F_X9_isListened_L8_hd (s : xS) (a : Int32 × Int32) : xT := Sum.inl (8, [(0, .ref 0), (1, .int a.1), (2, .int a.2)], [], s)
def F_X9_isListened_L8_ex (s : xS) : (Int32) → xT := (fun (z : Int32) => Sum.inl (52, [(1, .int z)], [], s))
set_option maxRecDepth 100000 in
theorem F_X9_isListened_L8_ok (s : xS) (a : Int32 × Int32) : xTr xMs xML xR_X9_isListened (F_X9_isListened_L8_hd s a) (F_X9_isListened_L8 s a) (xhx (F_X9_isListened_L8_hd s) (F_X9_isListened_L8_ex s)) := by
  unfold F_X9_isListened_L8
  refine xTr.ms 3 (g := (13, [(0, .ref 0), (1, .int a.1), (2, .int a.2)], [.int (s.1 0 25), .int a.2], s)) rfl ?_
  refine xTr.br (g1 := (52, [(0, .ref 0), (1, .int a.1), (2, .int a.2)], [], s)) (g2 := (16, [(0, .ref 0), (1, .int a.1), (2, .int a.2)], [], s)) rfl (fun h3 => ?_) (fun h3 => ?_)
  · refine xTr.mk (lv1 := [(1, .int a.1)]) rfl rfl ?_
    exact xTr.leaf rfl
  · refine xTr.ms 1 (g := (17, [(0, .ref 0), (1, .int a.1), (2, .int a.2)], [.int a.1], s)) rfl ?_
    refine xTr.br (g1 := (52, [(0, .ref 0), (1, .int a.1), (2, .int a.2)], [], s)) (g2 := (20, [(0, .ref 0), (1, .int a.1), (2, .int a.2)], [], s)) rfl (fun h4 => ?_) (fun h4 => ?_)
    · refine xTr.mk (lv1 := [(1, .int a.1)]) rfl rfl ?_
      exact xTr.leaf rfl
    · refine xTr.ms 5 (g := (29, [(0, .ref 0), (2, .int a.2)], [.int a.2, .ref 18, .ref 12], s)) rfl ?_
      refine xTr.ck (g := (30, [(0, .ref 0), (2, .int a.2)], [.int (s.1 18 a.2.toNatClampNeg), .ref 12], s)) rfl (fun h5 => ?_)
      refine xTr.ck (g := (31, [(0, .ref 0), (2, .int a.2)], [.int (s.1 12 ((s.1 18 a.2.toNatClampNeg)).toNatClampNeg)], s)) rfl (fun h6 => ?_)
      refine xTr.ms 3 (g := (36, [(0, .ref 0), (2, .int a.2)], [.int a.2, .ref 19, .int (s.1 12 ((s.1 18 a.2.toNatClampNeg)).toNatClampNeg)], s)) rfl ?_
      refine xTr.ck (g := (37, [(0, .ref 0), (2, .int a.2)], [.int (s.1 19 a.2.toNatClampNeg), .int (s.1 12 ((s.1 18 a.2.toNatClampNeg)).toNatClampNeg)], s)) rfl (fun h7 => ?_)
      refine xTr.br (g1 := (40, [(0, .ref 0), (2, .int a.2)], [], s)) (g2 := (44, [(0, .ref 0), (2, .int a.2)], [], s)) rfl (fun h8 => ?_) (fun h8 => ?_)
      · refine xTr.ms 5 (g := (8, [(0, .ref 0), (1, .int (1 : Int32)), (2, .int (a.2 + (1 : Int32)))], [], s)) rfl ?_
        exact xTr.leaf rfl
      · refine xTr.ms 4 (g := (8, [(0, .ref 0), (1, .int (0 : Int32)), (2, .int (a.2 + (1 : Int32)))], [], s)) rfl ?_
        exact xTr.leaf rfl
set_option maxRecDepth 100000 in
theorem ok_X9_isListened (s : xS) : xTr xMs xML xR_X9_isListened (Sum.inl (0, [(0, .ref 0)], [], s)) (F_X9_isListened s) (fun (y : Int32 × xS) => Sum.inr (some (.int y.1), y.2)) := by
  unfold F_X9_isListened
  refine xTr.ms 1 (g := (1, [(0, .ref 0)], [.ref 0], s)) rfl ?_
  refine xTr.callv (R' := xR_X9_sleepsOn) (as := [.ref 0]) (lv := [(0, .ref 0)]) (rest := []) (ok_X9_sleepsOn s) rfl rfl rfl rfl rfl (fun s2 => ?_)
  refine xTr.ms 4 (g := (8, [(0, .ref 0), (1, .int (1 : Int32)), (2, .int (0 : Int32))], [], s2)) rfl ?_
  refine xTr.bind (J := F_X9_isListened_L8_ex s2) (xTr.loop (hd := F_X9_isListened_L8_hd s2) (fun aa => F_X9_isListened_L8_ok s2 aa) 100000 ((1 : Int32), (0 : Int32))) (fun b9 => ?_)
  refine xTr.ms 1 (g := (53, [(1, .int b9)], [.int b9], s2)) rfl ?_
  exact xTr.rtz rfl rfl rfl
-- X9_neverNow
def F_X9_neverNow_L12 (a : Int32 × Int32 × xS) : Option ((Int32 × Int32 × xS) ⊕ (Int32 × xS)) := if (a.2.2.1 0 5) ≤ a.2.1 then (some (Sum.inr (a.1, a.2.2))) else ((F_X9_isListened (xu a.2.2 0 15 (xshl (1 : Int32) a.2.1))).bind fun q7 => (if q7.1 = 0 then (some (Sum.inl ((a.1 ||| (0 : Int32)), (a.2.1 + (1 : Int32)), q7.2))) else (some (Sum.inl ((a.1 ||| (xshl (1 : Int32) a.2.1)), (a.2.1 + (1 : Int32)), q7.2)))))
def F_X9_neverNow (s : xS) : Option (Int32 × xS) := (F_X9_asTold s).bind fun s2 => ((F_X9_lays s2).bind fun s4 => ((xlp (F_X9_neverNow_L12) 100000 ((0 : Int32), (0 : Int32), s4)).bind (fun b9 => (some (b9.1, b9.2)))))
def F_X9_neverNow_L12_hd (a : Int32 × Int32 × xS) : xT := Sum.inl (12, [(0, .ref 0), (1, .int a.1), (2, .int a.2.1)], [], a.2.2)
def F_X9_neverNow_L12_ex : (Int32 × xS) → xT := (fun (z : Int32 × xS) => Sum.inl (50, [(1, .int z.1)], [], z.2))
set_option maxRecDepth 100000 in
theorem F_X9_neverNow_L12_ok (a : Int32 × Int32 × xS) : xTr xMs xML xR_X9_neverNow (F_X9_neverNow_L12_hd a) (F_X9_neverNow_L12 a) (xhx (F_X9_neverNow_L12_hd) (F_X9_neverNow_L12_ex)) := by
  unfold F_X9_neverNow_L12
  refine xTr.ms 3 (g := (17, [(0, .ref 0), (1, .int a.1), (2, .int a.2.1)], [.int (a.2.2.1 0 5), .int a.2.1], a.2.2)) rfl ?_
  refine xTr.br (g1 := (50, [(0, .ref 0), (1, .int a.1), (2, .int a.2.1)], [], a.2.2)) (g2 := (20, [(0, .ref 0), (1, .int a.1), (2, .int a.2.1)], [], a.2.2)) rfl (fun h5 => ?_) (fun h5 => ?_)
  · refine xTr.mk (lv1 := [(1, .int a.1)]) rfl rfl ?_
    exact xTr.leaf rfl
  · refine xTr.ms 7 (g := (29, [(0, .ref 0), (1, .int a.1), (2, .int a.2.1)], [.ref 0, .int a.1], (xu a.2.2 0 15 (xshl (1 : Int32) a.2.1)))) rfl ?_
    refine xTr.calli (R' := xR_X9_isListened) (as := [.ref 0]) (lv := [(0, .ref 0), (1, .int a.1), (2, .int a.2.1)]) (rest := [.int a.1]) (ok_X9_isListened (xu a.2.2 0 15 (xshl (1 : Int32) a.2.1))) rfl rfl rfl rfl rfl (fun v6 s6 => ?_)
    refine xTr.br (g1 := (41, [(0, .ref 0), (1, .int a.1), (2, .int a.2.1)], [.int a.1], s6)) (g2 := (35, [(0, .ref 0), (1, .int a.1), (2, .int a.2.1)], [.int a.1], s6)) rfl (fun h8 => ?_) (fun h8 => ?_)
    · refine xTr.ms 5 (g := (12, [(0, .ref 0), (1, .int (a.1 ||| (0 : Int32))), (2, .int (a.2.1 + (1 : Int32)))], [], s6)) rfl ?_
      exact xTr.leaf rfl
    · refine xTr.ms 8 (g := (12, [(0, .ref 0), (1, .int (a.1 ||| (xshl (1 : Int32) a.2.1))), (2, .int (a.2.1 + (1 : Int32)))], [], s6)) rfl ?_
      exact xTr.leaf rfl
set_option maxRecDepth 100000 in
theorem ok_X9_neverNow (s : xS) : xTr xMs xML xR_X9_neverNow (Sum.inl (0, [(0, .ref 0)], [], s)) (F_X9_neverNow s) (fun (y : Int32 × xS) => Sum.inr (some (.int y.1), y.2)) := by
  unfold F_X9_neverNow
  refine xTr.ms 1 (g := (1, [(0, .ref 0)], [.ref 0], s)) rfl ?_
  refine xTr.callv (R' := xR_X9_asTold) (as := [.ref 0]) (lv := [(0, .ref 0)]) (rest := []) (ok_X9_asTold s) rfl rfl rfl rfl rfl (fun s2 => ?_)
  refine xTr.ms 1 (g := (5, [(0, .ref 0)], [.ref 0], s2)) rfl ?_
  refine xTr.callv (R' := xR_X9_lays) (as := [.ref 0]) (lv := [(0, .ref 0)]) (rest := []) (ok_X9_lays s2) rfl rfl rfl rfl rfl (fun s4 => ?_)
  refine xTr.ms 4 (g := (12, [(0, .ref 0), (1, .int (0 : Int32)), (2, .int (0 : Int32))], [], s4)) rfl ?_
  refine xTr.bind (J := F_X9_neverNow_L12_ex) (xTr.loop (hd := F_X9_neverNow_L12_hd) (fun aa => F_X9_neverNow_L12_ok aa) 100000 ((0 : Int32), (0 : Int32), s4)) (fun b9 => ?_)
  refine xTr.ms 1 (g := (51, [(1, .int b9.1)], [.int b9.1], b9.2)) rfl ?_
  exact xTr.ret rfl rfl rfl
-- X9_never
def F_X9_never (s : xS) : Option (Int32 × xS) := (F_X9_neverNow s).bind fun q2 => (some (q2.1, q2.2))
set_option maxRecDepth 100000 in
theorem ok_X9_never (s : xS) : xTr xMs xML xR_X9_never (Sum.inl (0, [(0, .ref 0)], [], s)) (F_X9_never s) (fun (y : Int32 × xS) => Sum.inr (some (.int y.1), y.2)) := by
  unfold F_X9_never
  refine xTr.ms 1 (g := (1, [(0, .ref 0)], [.ref 0], s)) rfl ?_
  refine xTr.calli (R' := xR_X9_neverNow) (as := [.ref 0]) (lv := [(0, .ref 0)]) (rest := []) (ok_X9_neverNow s) rfl rfl rfl rfl rfl (fun v1 s1 => ?_)
  exact xTr.ret rfl rfl rfl
-- X9_whences
def F_X9_whences_L69 (l1 : Int32) (l2 : Int32) (l3 : Int32) (l4 : Int32) (a : Int32 × xS) : Option ((Int32 × xS) ⊕ (xS)) := if (10 : Int32) ≤ a.1 then (some (Sum.inr a.2)) else (if a.1 < 0 ∨ 10 ≤ a.1.toNatClampNeg then none else (if (((10 : Int32) * l4) + a.1) < 0 ∨ 360 ≤ ((((10 : Int32) * l4) + a.1)).toNatClampNeg then none else (some (Sum.inl ((a.1 + (1 : Int32)), (xu a.2 21 ((((10 : Int32) * l4) + a.1)).toNatClampNeg (a.2.1 12 a.1.toNatClampNeg)))))))
def F_X9_whences_L20 (l1 : Int32) (l2 : Int32) (a : Int32 × Int32 × xS) : Option ((Int32 × Int32 × xS) ⊕ (Int32 × xS)) := if (a.2.2.1 0 3) ≤ a.2.1 then (some (Sum.inr (a.1, a.2.2))) else (if l1 < 0 ∨ 9 ≤ l1.toNatClampNeg then none else ((F_X9_isListened (xu a.2.2 4 l1.toNatClampNeg a.2.1)).bind fun q9 => (if a.2.1 < 0 ∨ 36 ≤ a.2.1.toNatClampNeg then none else (if a.2.1 < 0 ∨ 36 ≤ a.2.1.toNatClampNeg then none else (if ((xu q9.2 20 a.2.1.toNatClampNeg (vp_nar .boolean q9.1)).1 20 a.2.1.toNatClampNeg) = 0 then ((xlp (F_X9_whences_L69 l1 l2 (a.1 + (0 : Int32)) a.2.1) 100000 ((0 : Int32), (xu q9.2 20 a.2.1.toNatClampNeg (vp_nar .boolean q9.1)))).bind (fun b16 => (some (Sum.inl ((a.1 + (0 : Int32)), (a.2.1 + (1 : Int32)), b16))))) else ((xlp (F_X9_whences_L69 l1 l2 (a.1 + (1 : Int32)) a.2.1) 100000 ((0 : Int32), (xu q9.2 20 a.2.1.toNatClampNeg (vp_nar .boolean q9.1)))).bind (fun b17 => (some (Sum.inl ((a.1 + (1 : Int32)), (a.2.1 + (1 : Int32)), b17))))))))))
def F_X9_whences (l1 : Int32) (s : xS) : Option (Int32 × xS) := (F_X9_asTold s).bind fun s2 => ((F_X9_lays s2).bind fun s4 => (if l1 < 0 ∨ 9 ≤ l1.toNatClampNeg then none else ((xlp (F_X9_whences_L20 l1 (s4.1 4 l1.toNatClampNeg)) 100000 ((0 : Int32), (0 : Int32), s4)).bind (fun b18 => (if l1 < 0 ∨ 9 ≤ l1.toNatClampNeg then none else (some (b18.1, (xu b18.2 4 l1.toNatClampNeg (s4.1 4 l1.toNatClampNeg)))))))))
def F_X9_whences_L20_hd (l1 : Int32) (l2 : Int32) (a : Int32 × Int32 × xS) : xT := Sum.inl (20, [(0, .ref 0), (1, .int l1), (2, .int l2), (3, .int a.1), (4, .int a.2.1)], [], a.2.2)
def F_X9_whences_L20_ex (l1 : Int32) (l2 : Int32) : (Int32 × xS) → xT := (fun (z : Int32 × xS) => Sum.inl (108, [(0, .ref 0), (1, .int l1), (2, .int l2), (3, .int z.1)], [], z.2))
def F_X9_whences_L69_hd (l1 : Int32) (l2 : Int32) (l3 : Int32) (l4 : Int32) (a : Int32 × xS) : xT := Sum.inl (69, [(0, .ref 0), (1, .int l1), (2, .int l2), (3, .int l3), (4, .int l4), (5, .int a.1)], [], a.2)
def F_X9_whences_L69_ex (l1 : Int32) (l2 : Int32) (l3 : Int32) (l4 : Int32) : (xS) → xT := (fun (z : xS) => Sum.inl (102, [(0, .ref 0), (1, .int l1), (2, .int l2), (3, .int l3), (4, .int l4)], [], z))
set_option maxRecDepth 100000 in
theorem F_X9_whences_L69_ok (l1 : Int32) (l2 : Int32) (l3 : Int32) (l4 : Int32) (a : Int32 × xS) : xTr xMs xML xR_X9_whences (F_X9_whences_L69_hd l1 l2 l3 l4 a) (F_X9_whences_L69 l1 l2 l3 l4 a) (xhx (F_X9_whences_L69_hd l1 l2 l3 l4) (F_X9_whences_L69_ex l1 l2 l3 l4)) := by
  unfold F_X9_whences_L69
  refine xTr.ms 2 (g := (73, [(0, .ref 0), (1, .int l1), (2, .int l2), (3, .int l3), (4, .int l4), (5, .int a.1)], [.int (10 : Int32), .int a.1], a.2)) rfl ?_
  refine xTr.br (g1 := (102, [(0, .ref 0), (1, .int l1), (2, .int l2), (3, .int l3), (4, .int l4), (5, .int a.1)], [], a.2)) (g2 := (76, [(0, .ref 0), (1, .int l1), (2, .int l2), (3, .int l3), (4, .int l4), (5, .int a.1)], [], a.2)) rfl (fun h13 => ?_) (fun h13 => ?_)
  · refine xTr.mk (lv1 := [(0, .ref 0), (1, .int l1), (2, .int l2), (3, .int l3), (4, .int l4)]) rfl rfl ?_
    exact xTr.leaf rfl
  · refine xTr.ms 10 (g := (94, [(0, .ref 0), (1, .int l1), (2, .int l2), (3, .int l3), (4, .int l4), (5, .int a.1)], [.int a.1, .ref 12, .int (((10 : Int32) * l4) + a.1), .ref 21], a.2)) rfl ?_
    refine xTr.ck (g := (95, [(0, .ref 0), (1, .int l1), (2, .int l2), (3, .int l3), (4, .int l4), (5, .int a.1)], [.int (a.2.1 12 a.1.toNatClampNeg), .int (((10 : Int32) * l4) + a.1), .ref 21], a.2)) rfl (fun h14 => ?_)
    refine xTr.ck (g := (96, [(0, .ref 0), (1, .int l1), (2, .int l2), (3, .int l3), (4, .int l4), (5, .int a.1)], [], (xu a.2 21 ((((10 : Int32) * l4) + a.1)).toNatClampNeg (a.2.1 12 a.1.toNatClampNeg)))) rfl (fun h15 => ?_)
    refine xTr.ms 2 (g := (69, [(0, .ref 0), (1, .int l1), (2, .int l2), (3, .int l3), (4, .int l4), (5, .int (a.1 + (1 : Int32)))], [], (xu a.2 21 ((((10 : Int32) * l4) + a.1)).toNatClampNeg (a.2.1 12 a.1.toNatClampNeg)))) rfl ?_
    exact xTr.leaf rfl
set_option maxRecDepth 100000 in
theorem F_X9_whences_L20_ok (l1 : Int32) (l2 : Int32) (a : Int32 × Int32 × xS) : xTr xMs xML xR_X9_whences (F_X9_whences_L20_hd l1 l2 a) (F_X9_whences_L20 l1 l2 a) (xhx (F_X9_whences_L20_hd l1 l2) (F_X9_whences_L20_ex l1 l2)) := by
  unfold F_X9_whences_L20
  refine xTr.ms 3 (g := (26, [(0, .ref 0), (1, .int l1), (2, .int l2), (3, .int a.1), (4, .int a.2.1)], [.int (a.2.2.1 0 3), .int a.2.1], a.2.2)) rfl ?_
  refine xTr.br (g1 := (108, [(0, .ref 0), (1, .int l1), (2, .int l2), (3, .int a.1), (4, .int a.2.1)], [], a.2.2)) (g2 := (29, [(0, .ref 0), (1, .int l1), (2, .int l2), (3, .int a.1), (4, .int a.2.1)], [], a.2.2)) rfl (fun h6 => ?_) (fun h6 => ?_)
  · refine xTr.mk (lv1 := [(0, .ref 0), (1, .int l1), (2, .int l2), (3, .int a.1)]) rfl rfl ?_
    exact xTr.leaf rfl
  · refine xTr.ms 4 (g := (36, [(0, .ref 0), (1, .int l1), (2, .int l2), (3, .int a.1), (4, .int a.2.1)], [.int a.2.1, .int l1, .ref 4], a.2.2)) rfl ?_
    refine xTr.ck (g := (37, [(0, .ref 0), (1, .int l1), (2, .int l2), (3, .int a.1), (4, .int a.2.1)], [], (xu a.2.2 4 l1.toNatClampNeg a.2.1))) rfl (fun h7 => ?_)
    refine xTr.ms 4 (g := (44, [(0, .ref 0), (1, .int l1), (2, .int l2), (3, .int a.1), (4, .int a.2.1)], [.ref 0, .int a.2.1, .ref 20], (xu a.2.2 4 l1.toNatClampNeg a.2.1))) rfl ?_
    refine xTr.calli (R' := xR_X9_isListened) (as := [.ref 0]) (lv := [(0, .ref 0), (1, .int l1), (2, .int l2), (3, .int a.1), (4, .int a.2.1)]) (rest := [.int a.2.1, .ref 20]) (ok_X9_isListened (xu a.2.2 4 l1.toNatClampNeg a.2.1)) rfl rfl rfl rfl rfl (fun v8 s8 => ?_)
    refine xTr.ck (g := (48, [(0, .ref 0), (1, .int l1), (2, .int l2), (3, .int a.1), (4, .int a.2.1)], [], (xu s8 20 a.2.1.toNatClampNeg (vp_nar .boolean v8)))) rfl (fun h10 => ?_)
    refine xTr.ms 4 (g := (55, [(0, .ref 0), (1, .int l1), (2, .int l2), (3, .int a.1), (4, .int a.2.1)], [.int a.2.1, .ref 20, .int a.1], (xu s8 20 a.2.1.toNatClampNeg (vp_nar .boolean v8)))) rfl ?_
    refine xTr.ck (g := (56, [(0, .ref 0), (1, .int l1), (2, .int l2), (3, .int a.1), (4, .int a.2.1)], [.int ((xu s8 20 a.2.1.toNatClampNeg (vp_nar .boolean v8)).1 20 a.2.1.toNatClampNeg), .int a.1], (xu s8 20 a.2.1.toNatClampNeg (vp_nar .boolean v8)))) rfl (fun h11 => ?_)
    refine xTr.br (g1 := (63, [(0, .ref 0), (1, .int l1), (2, .int l2), (3, .int a.1), (4, .int a.2.1)], [.int a.1], (xu s8 20 a.2.1.toNatClampNeg (vp_nar .boolean v8)))) (g2 := (59, [(0, .ref 0), (1, .int l1), (2, .int l2), (3, .int a.1), (4, .int a.2.1)], [.int a.1], (xu s8 20 a.2.1.toNatClampNeg (vp_nar .boolean v8)))) rfl (fun h12 => ?_) (fun h12 => ?_)
    · refine xTr.ms 5 (g := (69, [(0, .ref 0), (1, .int l1), (2, .int l2), (3, .int (a.1 + (0 : Int32))), (4, .int a.2.1), (5, .int (0 : Int32))], [], (xu s8 20 a.2.1.toNatClampNeg (vp_nar .boolean v8)))) rfl ?_
      refine xTr.bind (J := F_X9_whences_L69_ex l1 l2 (a.1 + (0 : Int32)) a.2.1) (xTr.loop (hd := F_X9_whences_L69_hd l1 l2 (a.1 + (0 : Int32)) a.2.1) (fun aa => F_X9_whences_L69_ok l1 l2 (a.1 + (0 : Int32)) a.2.1 aa) 100000 ((0 : Int32), (xu s8 20 a.2.1.toNatClampNeg (vp_nar .boolean v8)))) (fun b16 => ?_)
      refine xTr.ms 2 (g := (20, [(0, .ref 0), (1, .int l1), (2, .int l2), (3, .int (a.1 + (0 : Int32))), (4, .int (a.2.1 + (1 : Int32)))], [], b16)) rfl ?_
      exact xTr.leaf rfl
    · refine xTr.ms 6 (g := (69, [(0, .ref 0), (1, .int l1), (2, .int l2), (3, .int (a.1 + (1 : Int32))), (4, .int a.2.1), (5, .int (0 : Int32))], [], (xu s8 20 a.2.1.toNatClampNeg (vp_nar .boolean v8)))) rfl ?_
      refine xTr.bind (J := F_X9_whences_L69_ex l1 l2 (a.1 + (1 : Int32)) a.2.1) (xTr.loop (hd := F_X9_whences_L69_hd l1 l2 (a.1 + (1 : Int32)) a.2.1) (fun aa => F_X9_whences_L69_ok l1 l2 (a.1 + (1 : Int32)) a.2.1 aa) 100000 ((0 : Int32), (xu s8 20 a.2.1.toNatClampNeg (vp_nar .boolean v8)))) (fun b17 => ?_)
      refine xTr.ms 2 (g := (20, [(0, .ref 0), (1, .int l1), (2, .int l2), (3, .int (a.1 + (1 : Int32))), (4, .int (a.2.1 + (1 : Int32)))], [], b17)) rfl ?_
      exact xTr.leaf rfl
set_option maxRecDepth 100000 in
theorem ok_X9_whences (l1 : Int32) (s : xS) : xTr xMs xML xR_X9_whences (Sum.inl (0, [(0, .ref 0), (1, .int l1)], [], s)) (F_X9_whences l1 s) (fun (y : Int32 × xS) => Sum.inr (some (.int y.1), y.2)) := by
  unfold F_X9_whences
  refine xTr.ms 1 (g := (1, [(0, .ref 0), (1, .int l1)], [.ref 0], s)) rfl ?_
  refine xTr.callv (R' := xR_X9_asTold) (as := [.ref 0]) (lv := [(0, .ref 0), (1, .int l1)]) (rest := []) (ok_X9_asTold s) rfl rfl rfl rfl rfl (fun s2 => ?_)
  refine xTr.ms 1 (g := (5, [(0, .ref 0), (1, .int l1)], [.ref 0], s2)) rfl ?_
  refine xTr.callv (R' := xR_X9_lays) (as := [.ref 0]) (lv := [(0, .ref 0), (1, .int l1)]) (rest := []) (ok_X9_lays s2) rfl rfl rfl rfl rfl (fun s4 => ?_)
  refine xTr.ms 3 (g := (13, [(0, .ref 0), (1, .int l1)], [.int l1, .ref 4], s4)) rfl ?_
  refine xTr.ck (g := (14, [(0, .ref 0), (1, .int l1)], [.int (s4.1 4 l1.toNatClampNeg)], s4)) rfl (fun h5 => ?_)
  refine xTr.ms 5 (g := (20, [(0, .ref 0), (1, .int l1), (2, .int (s4.1 4 l1.toNatClampNeg)), (3, .int (0 : Int32)), (4, .int (0 : Int32))], [], s4)) rfl ?_
  refine xTr.bind (J := F_X9_whences_L20_ex l1 (s4.1 4 l1.toNatClampNeg)) (xTr.loop (hd := F_X9_whences_L20_hd l1 (s4.1 4 l1.toNatClampNeg)) (fun aa => F_X9_whences_L20_ok l1 (s4.1 4 l1.toNatClampNeg) aa) 100000 ((0 : Int32), (0 : Int32), s4)) (fun b18 => ?_)
  refine xTr.ms 4 (g := (114, [(0, .ref 0), (1, .int l1), (2, .int (s4.1 4 l1.toNatClampNeg)), (3, .int b18.1)], [.int (s4.1 4 l1.toNatClampNeg), .int l1, .ref 4], b18.2)) rfl ?_
  refine xTr.ck (g := (115, [(0, .ref 0), (1, .int l1), (2, .int (s4.1 4 l1.toNatClampNeg)), (3, .int b18.1)], [], (xu b18.2 4 l1.toNatClampNeg (s4.1 4 l1.toNatClampNeg)))) rfl (fun h19 => ?_)
  refine xTr.ms 1 (g := (116, [(0, .ref 0), (1, .int l1), (2, .int (s4.1 4 l1.toNatClampNeg)), (3, .int b18.1)], [.int b18.1], (xu b18.2 4 l1.toNatClampNeg (s4.1 4 l1.toNatClampNeg)))) rfl ?_
  exact xTr.ret rfl rfl rfl
-- X9_whenceOf
def F_X9_whenceOf_L19 (s : xS) (a : Int32 × Int32) : Option ((Int32 × Int32) ⊕ ((Int32) ⊕ (Unit))) := if (s.1 0 3) ≤ a.2 then (some (Sum.inr (Sum.inr ()))) else (if a.2 < 0 ∨ 36 ≤ a.2.toNatClampNeg then none else (if (s.1 20 a.2.toNatClampNeg) = 0 then (if a.2 < 0 ∨ 36 ≤ a.2.toNatClampNeg then none else (if (s.1 20 a.2.toNatClampNeg) = 0 then (some (Sum.inl ((a.1 - (0 : Int32)), (a.2 + (1 : Int32))))) else (some (Sum.inl ((a.1 - (1 : Int32)), (a.2 + (1 : Int32))))))) else (if a.1 = 0 then (some (Sum.inr (Sum.inl a.2))) else (if a.2 < 0 ∨ 36 ≤ a.2.toNatClampNeg then none else (if (s.1 20 a.2.toNatClampNeg) = 0 then (some (Sum.inl ((a.1 - (0 : Int32)), (a.2 + (1 : Int32))))) else (some (Sum.inl ((a.1 - (1 : Int32)), (a.2 + (1 : Int32))))))))))
def F_X9_whenceOf (l1 : Int32) (l2 : Int32) (s : xS) : Option (Int32 × xS) := (F_X9_whences l1 s).bind fun q2 => (if l2 = (-1 : Int32) then (some (q2.1, q2.2)) else ((xlp (F_X9_whenceOf_L19 q2.2) 100000 (l2, (0 : Int32))).bind (Sum.elim (fun b12_0 => (some (b12_0, q2.2))) (fun b12_1 => (some ((-1 : Int32), q2.2))))))
def F_X9_whenceOf_L19_hd (s : xS) (a : Int32 × Int32) : xT := Sum.inl (19, [(0, .ref 0), (4, .int a.1), (5, .int a.2)], [], s)
def F_X9_whenceOf_L19_ex (s : xS) : ((Int32) ⊕ (Unit)) → xT := (Sum.elim (fun (z : Int32) => Sum.inl (43, [(5, .int z)], [], s)) (fun (z : Unit) => Sum.inl (72, [], [], s)))
set_option maxRecDepth 100000 in
theorem F_X9_whenceOf_L19_ok (s : xS) (a : Int32 × Int32) : xTr xMs xML xR_X9_whenceOf (F_X9_whenceOf_L19_hd s a) (F_X9_whenceOf_L19 s a) (xhx (F_X9_whenceOf_L19_hd s) (F_X9_whenceOf_L19_ex s)) := by
  unfold F_X9_whenceOf_L19
  refine xTr.ms 3 (g := (25, [(0, .ref 0), (4, .int a.1), (5, .int a.2)], [.int (s.1 0 3), .int a.2], s)) rfl ?_
  refine xTr.br (g1 := (72, [(0, .ref 0), (4, .int a.1), (5, .int a.2)], [], s)) (g2 := (28, [(0, .ref 0), (4, .int a.1), (5, .int a.2)], [], s)) rfl (fun h4 => ?_) (fun h4 => ?_)
  · refine xTr.mk (lv1 := []) rfl rfl ?_
    exact xTr.leaf rfl
  · refine xTr.ms 3 (g := (34, [(0, .ref 0), (4, .int a.1), (5, .int a.2)], [.int a.2, .ref 20], s)) rfl ?_
    refine xTr.ck (g := (35, [(0, .ref 0), (4, .int a.1), (5, .int a.2)], [.int (s.1 20 a.2.toNatClampNeg)], s)) rfl (fun h5 => ?_)
    refine xTr.br (g1 := (46, [(0, .ref 0), (4, .int a.1), (5, .int a.2)], [], s)) (g2 := (38, [(0, .ref 0), (4, .int a.1), (5, .int a.2)], [], s)) rfl (fun h6 => ?_) (fun h6 => ?_)
    · refine xTr.ms 4 (g := (54, [(0, .ref 0), (4, .int a.1), (5, .int a.2)], [.int a.2, .ref 20, .int a.1], s)) rfl ?_
      refine xTr.ck (g := (55, [(0, .ref 0), (4, .int a.1), (5, .int a.2)], [.int (s.1 20 a.2.toNatClampNeg), .int a.1], s)) rfl (fun h7 => ?_)
      refine xTr.br (g1 := (62, [(0, .ref 0), (4, .int a.1), (5, .int a.2)], [.int a.1], s)) (g2 := (58, [(0, .ref 0), (4, .int a.1), (5, .int a.2)], [.int a.1], s)) rfl (fun h8 => ?_) (fun h8 => ?_)
      · refine xTr.ms 5 (g := (19, [(0, .ref 0), (4, .int (a.1 - (0 : Int32))), (5, .int (a.2 + (1 : Int32)))], [], s)) rfl ?_
        exact xTr.leaf rfl
      · refine xTr.ms 6 (g := (19, [(0, .ref 0), (4, .int (a.1 - (1 : Int32))), (5, .int (a.2 + (1 : Int32)))], [], s)) rfl ?_
        exact xTr.leaf rfl
    · refine xTr.ms 1 (g := (40, [(0, .ref 0), (4, .int a.1), (5, .int a.2)], [.int a.1], s)) rfl ?_
      refine xTr.br (g1 := (43, [(0, .ref 0), (4, .int a.1), (5, .int a.2)], [], s)) (g2 := (46, [(0, .ref 0), (4, .int a.1), (5, .int a.2)], [], s)) rfl (fun h9 => ?_) (fun h9 => ?_)
      · refine xTr.mk (lv1 := [(5, .int a.2)]) rfl rfl ?_
        exact xTr.leaf rfl
      · refine xTr.ms 4 (g := (54, [(0, .ref 0), (4, .int a.1), (5, .int a.2)], [.int a.2, .ref 20, .int a.1], s)) rfl ?_
        refine xTr.ck (g := (55, [(0, .ref 0), (4, .int a.1), (5, .int a.2)], [.int (s.1 20 a.2.toNatClampNeg), .int a.1], s)) rfl (fun h10 => ?_)
        refine xTr.br (g1 := (62, [(0, .ref 0), (4, .int a.1), (5, .int a.2)], [.int a.1], s)) (g2 := (58, [(0, .ref 0), (4, .int a.1), (5, .int a.2)], [.int a.1], s)) rfl (fun h11 => ?_) (fun h11 => ?_)
        · refine xTr.ms 5 (g := (19, [(0, .ref 0), (4, .int (a.1 - (0 : Int32))), (5, .int (a.2 + (1 : Int32)))], [], s)) rfl ?_
          exact xTr.leaf rfl
        · refine xTr.ms 6 (g := (19, [(0, .ref 0), (4, .int (a.1 - (1 : Int32))), (5, .int (a.2 + (1 : Int32)))], [], s)) rfl ?_
          exact xTr.leaf rfl
set_option maxRecDepth 100000 in
theorem ok_X9_whenceOf (l1 : Int32) (l2 : Int32) (s : xS) : xTr xMs xML xR_X9_whenceOf (Sum.inl (0, [(0, .ref 0), (1, .int l1), (2, .int l2)], [], s)) (F_X9_whenceOf l1 l2 s) (fun (y : Int32 × xS) => Sum.inr (some (.int y.1), y.2)) := by
  unfold F_X9_whenceOf
  refine xTr.ms 2 (g := (2, [(0, .ref 0), (1, .int l1), (2, .int l2)], [.int l1, .ref 0], s)) rfl ?_
  refine xTr.calli (R' := xR_X9_whences) (as := [.ref 0, .int l1]) (lv := [(0, .ref 0), (1, .int l1), (2, .int l2)]) (rest := []) (ok_X9_whences l1 s) rfl rfl rfl rfl rfl (fun v1 s1 => ?_)
  refine xTr.ms 3 (g := (8, [(0, .ref 0), (1, .int l1), (2, .int l2), (3, .int v1)], [.int (-1 : Int32), .int l2], s1)) rfl ?_
  refine xTr.br (g1 := (11, [(0, .ref 0), (1, .int l1), (2, .int l2), (3, .int v1)], [], s1)) (g2 := (13, [(0, .ref 0), (1, .int l1), (2, .int l2), (3, .int v1)], [], s1)) rfl (fun h3 => ?_) (fun h3 => ?_)
  · refine xTr.ms 1 (g := (12, [(3, .int v1)], [.int v1], s1)) rfl ?_
    exact xTr.ret rfl rfl rfl
  · refine xTr.ms 4 (g := (19, [(0, .ref 0), (2, .int l2), (4, .int l2), (5, .int (0 : Int32))], [], s1)) rfl ?_
    refine xTr.mk (lv1 := [(0, .ref 0), (4, .int l2), (5, .int (0 : Int32))]) rfl rfl ?_
    refine xTr.bind (J := F_X9_whenceOf_L19_ex s1) (xTr.loop (hd := F_X9_whenceOf_L19_hd s1) (fun aa => F_X9_whenceOf_L19_ok s1 aa) 100000 (l2, (0 : Int32))) (fun b12 => ?_)
    rcases b12 with b12_0 | b12_1
    · refine xTr.ms 1 (g := (45, [(5, .int b12_0)], [.int b12_0], s1)) rfl ?_
      exact xTr.ret rfl rfl rfl
    · refine xTr.ms 1 (g := (73, [], [.int (-1 : Int32)], s1)) rfl ?_
      exact xTr.ret rfl rfl rfl
-- X9_whence
def F_X9_whence (l1 : Int32) (l2 : Int32) (s : xS) : Option (Int32 × xS) := (F_X9_isDeed l1 s).bind fun q2 => (if q2.1 = 0 then (some ((-2 : Int32), q2.2)) else ((F_X9_in l2 (-1 : Int32) (35 : Int32) q2.2).bind fun v4 => (if v4 = 0 then (some ((-2 : Int32), q2.2)) else ((F_X9_whenceOf l1 l2 q2.2).bind fun q7 => (some (q7.1, q7.2))))))
set_option maxRecDepth 100000 in
theorem ok_X9_whence (l1 : Int32) (l2 : Int32) (s : xS) : xTr xMs xML xR_X9_whence (Sum.inl (0, [(0, .ref 0), (1, .int l1), (2, .int l2)], [], s)) (F_X9_whence l1 l2 s) (fun (y : Int32 × xS) => Sum.inr (some (.int y.1), y.2)) := by
  unfold F_X9_whence
  refine xTr.ms 2 (g := (2, [(0, .ref 0), (1, .int l1), (2, .int l2)], [.int l1, .ref 0], s)) rfl ?_
  refine xTr.calli (R' := xR_X9_isDeed) (as := [.ref 0, .int l1]) (lv := [(0, .ref 0), (1, .int l1), (2, .int l2)]) (rest := []) (ok_X9_isDeed l1 s) rfl rfl rfl rfl rfl (fun v1 s1 => ?_)
  refine xTr.br (g1 := (27, [(0, .ref 0), (1, .int l1), (2, .int l2)], [], s1)) (g2 := (8, [(0, .ref 0), (1, .int l1), (2, .int l2)], [], s1)) rfl (fun h3 => ?_) (fun h3 => ?_)
  · refine xTr.ms 1 (g := (29, [], [.int (-2 : Int32)], s1)) rfl ?_
    exact xTr.ret rfl rfl rfl
  · refine xTr.ms 3 (g := (12, [(0, .ref 0), (1, .int l1), (2, .int l2)], [.int (35 : Int32), .int (-1 : Int32), .int l2], s1)) rfl ?_
    refine xTr.callip (R' := xR_X9_in) (as := [.int l2, .int (-1 : Int32), .int (35 : Int32)]) (lv := [(0, .ref 0), (1, .int l1), (2, .int l2)]) (rest := []) (ok_X9_in l2 (-1 : Int32) (35 : Int32) s1) rfl rfl rfl rfl rfl (fun v4 => ?_)
    refine xTr.br (g1 := (27, [(0, .ref 0), (1, .int l1), (2, .int l2)], [], s1)) (g2 := (18, [(0, .ref 0), (1, .int l1), (2, .int l2)], [], s1)) rfl (fun h5 => ?_) (fun h5 => ?_)
    · refine xTr.ms 1 (g := (29, [], [.int (-2 : Int32)], s1)) rfl ?_
      exact xTr.ret rfl rfl rfl
    · refine xTr.ms 3 (g := (21, [(0, .ref 0), (1, .int l1), (2, .int l2)], [.int l2, .int l1, .ref 0], s1)) rfl ?_
      refine xTr.calli (R' := xR_X9_whenceOf) (as := [.ref 0, .int l1, .int l2]) (lv := [(0, .ref 0), (1, .int l1), (2, .int l2)]) (rest := []) (ok_X9_whenceOf l1 l2 s1) rfl rfl rfl rfl rfl (fun v6 s6 => ?_)
      refine xTr.ms 1 (g := (29, [(0, .ref 0), (1, .int l1), (2, .int l2)], [.int v6], s6)) rfl ?_
      exact xTr.ret rfl rfl rfl
-- X9_whatOf
def F_X9_whatOf_L20 (l1 : Int32) (l2 : Int32) (a : Int32 × Int32 × xS) : Option ((Int32 × Int32 × xS) ⊕ (Int32 × xS)) := if (4 : Int32) ≤ a.2.1 then (some (Sum.inr (a.1, a.2.2))) else (if l1 < 0 ∨ 9 ≤ l1.toNatClampNeg then none else ((F_X9_isListened (xu a.2.2 5 l1.toNatClampNeg a.2.1)).bind fun q9 => (if q9.1 = 0 then (some (Sum.inl ((a.1 ||| (0 : Int32)), (a.2.1 + (1 : Int32)), q9.2))) else (some (Sum.inl ((a.1 ||| (xshl (1 : Int32) a.2.1)), (a.2.1 + (1 : Int32)), q9.2))))))
def F_X9_whatOf (l1 : Int32) (s : xS) : Option (Int32 × xS) := (F_X9_asTold s).bind fun s2 => ((F_X9_lays s2).bind fun s4 => (if l1 < 0 ∨ 9 ≤ l1.toNatClampNeg then none else ((xlp (F_X9_whatOf_L20 l1 (s4.1 5 l1.toNatClampNeg)) 100000 ((0 : Int32), (0 : Int32), s4)).bind (fun b11 => (if l1 < 0 ∨ 9 ≤ l1.toNatClampNeg then none else (some (b11.1, (xu b11.2 5 l1.toNatClampNeg (s4.1 5 l1.toNatClampNeg)))))))))
def F_X9_whatOf_L20_hd (l1 : Int32) (l2 : Int32) (a : Int32 × Int32 × xS) : xT := Sum.inl (20, [(0, .ref 0), (1, .int l1), (2, .int l2), (3, .int a.1), (4, .int a.2.1)], [], a.2.2)
def F_X9_whatOf_L20_ex (l1 : Int32) (l2 : Int32) : (Int32 × xS) → xT := (fun (z : Int32 × xS) => Sum.inl (58, [(0, .ref 0), (1, .int l1), (2, .int l2), (3, .int z.1)], [], z.2))
set_option maxRecDepth 100000 in
theorem F_X9_whatOf_L20_ok (l1 : Int32) (l2 : Int32) (a : Int32 × Int32 × xS) : xTr xMs xML xR_X9_whatOf (F_X9_whatOf_L20_hd l1 l2 a) (F_X9_whatOf_L20 l1 l2 a) (xhx (F_X9_whatOf_L20_hd l1 l2) (F_X9_whatOf_L20_ex l1 l2)) := by
  unfold F_X9_whatOf_L20
  refine xTr.ms 2 (g := (23, [(0, .ref 0), (1, .int l1), (2, .int l2), (3, .int a.1), (4, .int a.2.1)], [.int (4 : Int32), .int a.2.1], a.2.2)) rfl ?_
  refine xTr.br (g1 := (58, [(0, .ref 0), (1, .int l1), (2, .int l2), (3, .int a.1), (4, .int a.2.1)], [], a.2.2)) (g2 := (26, [(0, .ref 0), (1, .int l1), (2, .int l2), (3, .int a.1), (4, .int a.2.1)], [], a.2.2)) rfl (fun h6 => ?_) (fun h6 => ?_)
  · refine xTr.mk (lv1 := [(0, .ref 0), (1, .int l1), (2, .int l2), (3, .int a.1)]) rfl rfl ?_
    exact xTr.leaf rfl
  · refine xTr.ms 4 (g := (33, [(0, .ref 0), (1, .int l1), (2, .int l2), (3, .int a.1), (4, .int a.2.1)], [.int a.2.1, .int l1, .ref 5], a.2.2)) rfl ?_
    refine xTr.ck (g := (34, [(0, .ref 0), (1, .int l1), (2, .int l2), (3, .int a.1), (4, .int a.2.1)], [], (xu a.2.2 5 l1.toNatClampNeg a.2.1))) rfl (fun h7 => ?_)
    refine xTr.ms 2 (g := (36, [(0, .ref 0), (1, .int l1), (2, .int l2), (3, .int a.1), (4, .int a.2.1)], [.ref 0, .int a.1], (xu a.2.2 5 l1.toNatClampNeg a.2.1))) rfl ?_
    refine xTr.calli (R' := xR_X9_isListened) (as := [.ref 0]) (lv := [(0, .ref 0), (1, .int l1), (2, .int l2), (3, .int a.1), (4, .int a.2.1)]) (rest := [.int a.1]) (ok_X9_isListened (xu a.2.2 5 l1.toNatClampNeg a.2.1)) rfl rfl rfl rfl rfl (fun v8 s8 => ?_)
    refine xTr.br (g1 := (49, [(0, .ref 0), (1, .int l1), (2, .int l2), (3, .int a.1), (4, .int a.2.1)], [.int a.1], s8)) (g2 := (42, [(0, .ref 0), (1, .int l1), (2, .int l2), (3, .int a.1), (4, .int a.2.1)], [.int a.1], s8)) rfl (fun h10 => ?_) (fun h10 => ?_)
    · refine xTr.ms 5 (g := (20, [(0, .ref 0), (1, .int l1), (2, .int l2), (3, .int (a.1 ||| (0 : Int32))), (4, .int (a.2.1 + (1 : Int32)))], [], s8)) rfl ?_
      exact xTr.leaf rfl
    · refine xTr.ms 8 (g := (20, [(0, .ref 0), (1, .int l1), (2, .int l2), (3, .int (a.1 ||| (xshl (1 : Int32) a.2.1))), (4, .int (a.2.1 + (1 : Int32)))], [], s8)) rfl ?_
      exact xTr.leaf rfl
set_option maxRecDepth 100000 in
theorem ok_X9_whatOf (l1 : Int32) (s : xS) : xTr xMs xML xR_X9_whatOf (Sum.inl (0, [(0, .ref 0), (1, .int l1)], [], s)) (F_X9_whatOf l1 s) (fun (y : Int32 × xS) => Sum.inr (some (.int y.1), y.2)) := by
  unfold F_X9_whatOf
  refine xTr.ms 1 (g := (1, [(0, .ref 0), (1, .int l1)], [.ref 0], s)) rfl ?_
  refine xTr.callv (R' := xR_X9_asTold) (as := [.ref 0]) (lv := [(0, .ref 0), (1, .int l1)]) (rest := []) (ok_X9_asTold s) rfl rfl rfl rfl rfl (fun s2 => ?_)
  refine xTr.ms 1 (g := (5, [(0, .ref 0), (1, .int l1)], [.ref 0], s2)) rfl ?_
  refine xTr.callv (R' := xR_X9_lays) (as := [.ref 0]) (lv := [(0, .ref 0), (1, .int l1)]) (rest := []) (ok_X9_lays s2) rfl rfl rfl rfl rfl (fun s4 => ?_)
  refine xTr.ms 3 (g := (13, [(0, .ref 0), (1, .int l1)], [.int l1, .ref 5], s4)) rfl ?_
  refine xTr.ck (g := (14, [(0, .ref 0), (1, .int l1)], [.int (s4.1 5 l1.toNatClampNeg)], s4)) rfl (fun h5 => ?_)
  refine xTr.ms 5 (g := (20, [(0, .ref 0), (1, .int l1), (2, .int (s4.1 5 l1.toNatClampNeg)), (3, .int (0 : Int32)), (4, .int (0 : Int32))], [], s4)) rfl ?_
  refine xTr.bind (J := F_X9_whatOf_L20_ex l1 (s4.1 5 l1.toNatClampNeg)) (xTr.loop (hd := F_X9_whatOf_L20_hd l1 (s4.1 5 l1.toNatClampNeg)) (fun aa => F_X9_whatOf_L20_ok l1 (s4.1 5 l1.toNatClampNeg) aa) 100000 ((0 : Int32), (0 : Int32), s4)) (fun b11 => ?_)
  refine xTr.ms 4 (g := (64, [(0, .ref 0), (1, .int l1), (2, .int (s4.1 5 l1.toNatClampNeg)), (3, .int b11.1)], [.int (s4.1 5 l1.toNatClampNeg), .int l1, .ref 5], b11.2)) rfl ?_
  refine xTr.ck (g := (65, [(0, .ref 0), (1, .int l1), (2, .int (s4.1 5 l1.toNatClampNeg)), (3, .int b11.1)], [], (xu b11.2 5 l1.toNatClampNeg (s4.1 5 l1.toNatClampNeg)))) rfl (fun h12 => ?_)
  refine xTr.ms 1 (g := (66, [(0, .ref 0), (1, .int l1), (2, .int (s4.1 5 l1.toNatClampNeg)), (3, .int b11.1)], [.int b11.1], (xu b11.2 5 l1.toNatClampNeg (s4.1 5 l1.toNatClampNeg)))) rfl ?_
  exact xTr.ret rfl rfl rfl
-- X9_what
def F_X9_what (l1 : Int32) (s : xS) : Option (Int32 × xS) := (F_X9_isDeed l1 s).bind fun q2 => (if q2.1 = 0 then (some ((-2 : Int32), q2.2)) else ((F_X9_whatOf l1 q2.2).bind fun q5 => (some (q5.1, q5.2))))
set_option maxRecDepth 100000 in
theorem ok_X9_what (l1 : Int32) (s : xS) : xTr xMs xML xR_X9_what (Sum.inl (0, [(0, .ref 0), (1, .int l1)], [], s)) (F_X9_what l1 s) (fun (y : Int32 × xS) => Sum.inr (some (.int y.1), y.2)) := by
  unfold F_X9_what
  refine xTr.ms 2 (g := (2, [(0, .ref 0), (1, .int l1)], [.int l1, .ref 0], s)) rfl ?_
  refine xTr.calli (R' := xR_X9_isDeed) (as := [.ref 0, .int l1]) (lv := [(0, .ref 0), (1, .int l1)]) (rest := []) (ok_X9_isDeed l1 s) rfl rfl rfl rfl rfl (fun v1 s1 => ?_)
  refine xTr.br (g1 := (16, [(0, .ref 0), (1, .int l1)], [], s1)) (g2 := (8, [(0, .ref 0), (1, .int l1)], [], s1)) rfl (fun h3 => ?_) (fun h3 => ?_)
  · refine xTr.ms 1 (g := (18, [], [.int (-2 : Int32)], s1)) rfl ?_
    exact xTr.ret rfl rfl rfl
  · refine xTr.ms 2 (g := (10, [(0, .ref 0), (1, .int l1)], [.int l1, .ref 0], s1)) rfl ?_
    refine xTr.calli (R' := xR_X9_whatOf) (as := [.ref 0, .int l1]) (lv := [(0, .ref 0), (1, .int l1)]) (rest := []) (ok_X9_whatOf l1 s1) rfl rfl rfl rfl rfl (fun v4 s4 => ?_)
    refine xTr.ms 1 (g := (18, [(0, .ref 0), (1, .int l1)], [.int v4], s4)) rfl ?_
    exact xTr.ret rfl rfl rfl
-- X9_askOf
def F_X9_askOf_L42 (l3 : Int32) (l4 : Int32) (l5 : Int32) (l6 : Int32) (l7 : Int32) (s : xS) (a : Int32 × Int32) : Option ((Int32 × Int32) ⊕ (Int32)) := if (s.1 0 3) ≤ a.2 then (some (Sum.inr a.1)) else (if l7 < 0 ∨ 36 ≤ l7.toNatClampNeg then none else (if (s.1 20 l7.toNatClampNeg) = 0 then (some (Sum.inl ((a.1 + (0 : Int32)), (a.2 + (1 : Int32))))) else (if a.2 < 0 ∨ 36 ≤ a.2.toNatClampNeg then none else (if (s.1 20 a.2.toNatClampNeg) = 0 then (some (Sum.inl ((a.1 + (0 : Int32)), (a.2 + (1 : Int32))))) else (if (((10 : Int32) * l7) + l5) < 0 ∨ 360 ≤ ((((10 : Int32) * l7) + l5)).toNatClampNeg then none else (if (((10 : Int32) * a.2) + l5) < 0 ∨ 360 ≤ ((((10 : Int32) * a.2) + l5)).toNatClampNeg then none else (if (s.1 21 ((((10 : Int32) * l7) + l5)).toNatClampNeg) = (s.1 21 ((((10 : Int32) * a.2) + l5)).toNatClampNeg) then (some (Sum.inl ((a.1 + (1 : Int32)), (a.2 + (1 : Int32))))) else (some (Sum.inl ((a.1 + (0 : Int32)), (a.2 + (1 : Int32))))))))))))
def F_X9_askOf_L27 (l3 : Int32) (l4 : Int32) (l5 : Int32) (s : xS) (a : Int32 × Int32) : Option ((Int32 × Int32) ⊕ (Int32)) := if (s.1 0 3) ≤ a.2 then (some (Sum.inr a.1)) else ((xlp (F_X9_askOf_L42 l3 l4 l5 a.1 a.2 s) 100000 ((0 : Int32), (0 : Int32))).bind (fun b13 => (if b13 ≤ a.1 then (some (Sum.inl (a.1, (a.2 + (1 : Int32))))) else (some (Sum.inl (b13, (a.2 + (1 : Int32))))))))
def F_X9_askOf_L14_J155 (s : xS) (j3 : Int32) (j4 : Int32) (j5 : Int32) (j6 : Int32) (t0 : Int32) : Option ((Int32 × Int32 × Int32) ⊕ (Int32)) := if t0 = 0 then (if t0 = 0 then (some (Sum.inl (j3, j4, (j5 + (1 : Int32))))) else (some (Sum.inl (j3, j6, (j5 + (1 : Int32)))))) else (if t0 = 0 then (some (Sum.inl (j5, j4, (j5 + (1 : Int32))))) else (some (Sum.inl (j5, j6, (j5 + (1 : Int32))))))
def F_X9_askOf_L14_J150 (s : xS) (j3 : Int32) (j4 : Int32) (j5 : Int32) (j6 : Int32) : Option ((Int32 × Int32 × Int32) ⊕ (Int32)) := F_X9_askOf_L14_J155 s j3 j4 j5 j6 (1 : Int32)
def F_X9_askOf_L14 (s : xS) (a : Int32 × Int32 × Int32) : Option ((Int32 × Int32 × Int32) ⊕ (Int32)) := if (10 : Int32) ≤ a.2.2 then (some (Sum.inr a.1)) else ((xlp (F_X9_askOf_L27 a.1 a.2.1 a.2.2 s) 100000 ((0 : Int32), (0 : Int32))).bind (fun b15 => (if a.1 = (-1 : Int32) then (F_X9_askOf_L14_J150 s a.1 a.2.1 a.2.2 b15) else (if a.2.1 ≤ b15 then (F_X9_askOf_L14_J155 s a.1 a.2.1 a.2.2 b15 (0 : Int32)) else (F_X9_askOf_L14_J150 s a.1 a.2.1 a.2.2 b15)))))
def F_X9_askOf (l1 : Int32) (s : xS) : Option (Int32 × xS) := (F_X9_whences l1 s).bind fun q2 => ((xlp (F_X9_askOf_L14 q2.2) 100000 ((-1 : Int32), (0 : Int32), (0 : Int32))).bind (fun b21 => (some (b21, q2.2))))
def F_X9_askOf_L14_hd (s : xS) (a : Int32 × Int32 × Int32) : xT := Sum.inl (14, [(0, .ref 0), (3, .int a.1), (4, .int a.2.1), (5, .int a.2.2)], [], s)
def F_X9_askOf_L14_ex (s : xS) : (Int32) → xT := (fun (z : Int32) => Sum.inl (189, [(3, .int z)], [], s))
def F_X9_askOf_L27_hd (l3 : Int32) (l4 : Int32) (l5 : Int32) (s : xS) (a : Int32 × Int32) : xT := Sum.inl (27, [(0, .ref 0), (3, .int l3), (4, .int l4), (5, .int l5), (6, .int a.1), (7, .int a.2)], [], s)
def F_X9_askOf_L27_ex (l3 : Int32) (l4 : Int32) (l5 : Int32) (s : xS) : (Int32) → xT := (fun (z : Int32) => Sum.inl (138, [(0, .ref 0), (3, .int l3), (4, .int l4), (5, .int l5), (6, .int z)], [], s))
def F_X9_askOf_L42_hd (l3 : Int32) (l4 : Int32) (l5 : Int32) (l6 : Int32) (l7 : Int32) (s : xS) (a : Int32 × Int32) : xT := Sum.inl (42, [(0, .ref 0), (3, .int l3), (4, .int l4), (5, .int l5), (6, .int l6), (7, .int l7), (8, .int a.1), (9, .int a.2)], [], s)
def F_X9_askOf_L42_ex (l3 : Int32) (l4 : Int32) (l5 : Int32) (l6 : Int32) (l7 : Int32) (s : xS) : (Int32) → xT := (fun (z : Int32) => Sum.inl (116, [(0, .ref 0), (3, .int l3), (4, .int l4), (5, .int l5), (6, .int l6), (7, .int l7), (8, .int z)], [], s))
set_option maxRecDepth 100000 in
theorem F_X9_askOf_L42_ok (l3 : Int32) (l4 : Int32) (l5 : Int32) (l6 : Int32) (l7 : Int32) (s : xS) (a : Int32 × Int32) : xTr xMs xML xR_X9_askOf (F_X9_askOf_L42_hd l3 l4 l5 l6 l7 s a) (F_X9_askOf_L42 l3 l4 l5 l6 l7 s a) (xhx (F_X9_askOf_L42_hd l3 l4 l5 l6 l7 s) (F_X9_askOf_L42_ex l3 l4 l5 l6 l7 s)) := by
  unfold F_X9_askOf_L42
  refine xTr.ms 3 (g := (48, [(0, .ref 0), (3, .int l3), (4, .int l4), (5, .int l5), (6, .int l6), (7, .int l7), (8, .int a.1), (9, .int a.2)], [.int (s.1 0 3), .int a.2], s)) rfl ?_
  refine xTr.br (g1 := (116, [(0, .ref 0), (3, .int l3), (4, .int l4), (5, .int l5), (6, .int l6), (7, .int l7), (8, .int a.1), (9, .int a.2)], [], s)) (g2 := (51, [(0, .ref 0), (3, .int l3), (4, .int l4), (5, .int l5), (6, .int l6), (7, .int l7), (8, .int a.1), (9, .int a.2)], [], s)) rfl (fun h5 => ?_) (fun h5 => ?_)
  · refine xTr.mk (lv1 := [(0, .ref 0), (3, .int l3), (4, .int l4), (5, .int l5), (6, .int l6), (7, .int l7), (8, .int a.1)]) rfl rfl ?_
    exact xTr.leaf rfl
  · refine xTr.ms 4 (g := (59, [(0, .ref 0), (3, .int l3), (4, .int l4), (5, .int l5), (6, .int l6), (7, .int l7), (8, .int a.1), (9, .int a.2)], [.int l7, .ref 20, .int a.1], s)) rfl ?_
    refine xTr.ck (g := (60, [(0, .ref 0), (3, .int l3), (4, .int l4), (5, .int l5), (6, .int l6), (7, .int l7), (8, .int a.1), (9, .int a.2)], [.int (s.1 20 l7.toNatClampNeg), .int a.1], s)) rfl (fun h6 => ?_)
    refine xTr.br (g1 := (106, [(0, .ref 0), (3, .int l3), (4, .int l4), (5, .int l5), (6, .int l6), (7, .int l7), (8, .int a.1), (9, .int a.2)], [.int a.1], s)) (g2 := (63, [(0, .ref 0), (3, .int l3), (4, .int l4), (5, .int l5), (6, .int l6), (7, .int l7), (8, .int a.1), (9, .int a.2)], [.int a.1], s)) rfl (fun h7 => ?_) (fun h7 => ?_)
    · refine xTr.ms 5 (g := (42, [(0, .ref 0), (3, .int l3), (4, .int l4), (5, .int l5), (6, .int l6), (7, .int l7), (8, .int (a.1 + (0 : Int32))), (9, .int (a.2 + (1 : Int32)))], [], s)) rfl ?_
      exact xTr.leaf rfl
    · refine xTr.ms 3 (g := (69, [(0, .ref 0), (3, .int l3), (4, .int l4), (5, .int l5), (6, .int l6), (7, .int l7), (9, .int a.2)], [.int a.2, .ref 20, .int a.1], s)) rfl ?_
      refine xTr.ck (g := (70, [(0, .ref 0), (3, .int l3), (4, .int l4), (5, .int l5), (6, .int l6), (7, .int l7), (9, .int a.2)], [.int (s.1 20 a.2.toNatClampNeg), .int a.1], s)) rfl (fun h8 => ?_)
      refine xTr.br (g1 := (106, [(0, .ref 0), (3, .int l3), (4, .int l4), (5, .int l5), (6, .int l6), (7, .int l7), (9, .int a.2)], [.int a.1], s)) (g2 := (73, [(0, .ref 0), (3, .int l3), (4, .int l4), (5, .int l5), (6, .int l6), (7, .int l7), (9, .int a.2)], [.int a.1], s)) rfl (fun h9 => ?_) (fun h9 => ?_)
      · refine xTr.ms 5 (g := (42, [(0, .ref 0), (3, .int l3), (4, .int l4), (5, .int l5), (6, .int l6), (7, .int l7), (8, .int (a.1 + (0 : Int32))), (9, .int (a.2 + (1 : Int32)))], [], s)) rfl ?_
        exact xTr.leaf rfl
      · refine xTr.ms 7 (g := (85, [(0, .ref 0), (3, .int l3), (4, .int l4), (5, .int l5), (6, .int l6), (7, .int l7), (9, .int a.2)], [.int (((10 : Int32) * l7) + l5), .ref 21, .int a.1], s)) rfl ?_
        refine xTr.ck (g := (86, [(0, .ref 0), (3, .int l3), (4, .int l4), (5, .int l5), (6, .int l6), (7, .int l7), (9, .int a.2)], [.int (s.1 21 ((((10 : Int32) * l7) + l5)).toNatClampNeg), .int a.1], s)) rfl (fun h10 => ?_)
        refine xTr.ms 7 (g := (98, [(0, .ref 0), (3, .int l3), (4, .int l4), (5, .int l5), (6, .int l6), (7, .int l7), (9, .int a.2)], [.int (((10 : Int32) * a.2) + l5), .ref 21, .int (s.1 21 ((((10 : Int32) * l7) + l5)).toNatClampNeg), .int a.1], s)) rfl ?_
        refine xTr.ck (g := (99, [(0, .ref 0), (3, .int l3), (4, .int l4), (5, .int l5), (6, .int l6), (7, .int l7), (9, .int a.2)], [.int (s.1 21 ((((10 : Int32) * a.2) + l5)).toNatClampNeg), .int (s.1 21 ((((10 : Int32) * l7) + l5)).toNatClampNeg), .int a.1], s)) rfl (fun h11 => ?_)
        refine xTr.br (g1 := (102, [(0, .ref 0), (3, .int l3), (4, .int l4), (5, .int l5), (6, .int l6), (7, .int l7), (9, .int a.2)], [.int a.1], s)) (g2 := (106, [(0, .ref 0), (3, .int l3), (4, .int l4), (5, .int l5), (6, .int l6), (7, .int l7), (9, .int a.2)], [.int a.1], s)) rfl (fun h12 => ?_) (fun h12 => ?_)
        · refine xTr.ms 6 (g := (42, [(0, .ref 0), (3, .int l3), (4, .int l4), (5, .int l5), (6, .int l6), (7, .int l7), (8, .int (a.1 + (1 : Int32))), (9, .int (a.2 + (1 : Int32)))], [], s)) rfl ?_
          exact xTr.leaf rfl
        · refine xTr.ms 5 (g := (42, [(0, .ref 0), (3, .int l3), (4, .int l4), (5, .int l5), (6, .int l6), (7, .int l7), (8, .int (a.1 + (0 : Int32))), (9, .int (a.2 + (1 : Int32)))], [], s)) rfl ?_
          exact xTr.leaf rfl
set_option maxRecDepth 100000 in
theorem F_X9_askOf_L27_ok (l3 : Int32) (l4 : Int32) (l5 : Int32) (s : xS) (a : Int32 × Int32) : xTr xMs xML xR_X9_askOf (F_X9_askOf_L27_hd l3 l4 l5 s a) (F_X9_askOf_L27 l3 l4 l5 s a) (xhx (F_X9_askOf_L27_hd l3 l4 l5 s) (F_X9_askOf_L27_ex l3 l4 l5 s)) := by
  unfold F_X9_askOf_L27
  refine xTr.ms 3 (g := (33, [(0, .ref 0), (3, .int l3), (4, .int l4), (5, .int l5), (6, .int a.1), (7, .int a.2)], [.int (s.1 0 3), .int a.2], s)) rfl ?_
  refine xTr.br (g1 := (138, [(0, .ref 0), (3, .int l3), (4, .int l4), (5, .int l5), (6, .int a.1), (7, .int a.2)], [], s)) (g2 := (36, [(0, .ref 0), (3, .int l3), (4, .int l4), (5, .int l5), (6, .int a.1), (7, .int a.2)], [], s)) rfl (fun h4 => ?_) (fun h4 => ?_)
  · refine xTr.mk (lv1 := [(0, .ref 0), (3, .int l3), (4, .int l4), (5, .int l5), (6, .int a.1)]) rfl rfl ?_
    exact xTr.leaf rfl
  · refine xTr.ms 4 (g := (42, [(0, .ref 0), (3, .int l3), (4, .int l4), (5, .int l5), (6, .int a.1), (7, .int a.2), (8, .int (0 : Int32)), (9, .int (0 : Int32))], [], s)) rfl ?_
    refine xTr.bind (J := F_X9_askOf_L42_ex l3 l4 l5 a.1 a.2 s) (xTr.loop (hd := F_X9_askOf_L42_hd l3 l4 l5 a.1 a.2 s) (fun aa => F_X9_askOf_L42_ok l3 l4 l5 a.1 a.2 s aa) 100000 ((0 : Int32), (0 : Int32))) (fun b13 => ?_)
    refine xTr.ms 2 (g := (120, [(0, .ref 0), (3, .int l3), (4, .int l4), (5, .int l5), (6, .int a.1), (7, .int a.2), (8, .int b13)], [.int a.1, .int b13], s)) rfl ?_
    refine xTr.br (g1 := (128, [(0, .ref 0), (3, .int l3), (4, .int l4), (5, .int l5), (6, .int a.1), (7, .int a.2), (8, .int b13)], [], s)) (g2 := (123, [(0, .ref 0), (3, .int l3), (4, .int l4), (5, .int l5), (6, .int a.1), (7, .int a.2), (8, .int b13)], [], s)) rfl (fun h14 => ?_) (fun h14 => ?_)
    · refine xTr.ms 4 (g := (27, [(0, .ref 0), (3, .int l3), (4, .int l4), (5, .int l5), (6, .int a.1), (7, .int (a.2 + (1 : Int32)))], [], s)) rfl ?_
      exact xTr.leaf rfl
    · refine xTr.ms 5 (g := (27, [(0, .ref 0), (3, .int l3), (4, .int l4), (5, .int l5), (6, .int b13), (7, .int (a.2 + (1 : Int32)))], [], s)) rfl ?_
      exact xTr.leaf rfl
set_option maxRecDepth 100000 in
theorem F_X9_askOf_L14_J155_ok (s : xS) (j3 : Int32) (j4 : Int32) (j5 : Int32) (j6 : Int32) (t0 : Int32) : xTr xMs xML xR_X9_askOf (Sum.inl (155, [(0, .ref 0), (3, .int j3), (4, .int j4), (5, .int j5), (6, .int j6)], [.int t0], s)) (F_X9_askOf_L14_J155 s j3 j4 j5 j6 t0) (xhx (F_X9_askOf_L14_hd s) (F_X9_askOf_L14_ex s)) := by
  unfold F_X9_askOf_L14_J155
  refine xTr.ms 2 (g := (159, [(0, .ref 0), (3, .int j3), (4, .int j4), (5, .int j5), (6, .int j6), (7, .int t0)], [.int t0], s)) rfl ?_
  refine xTr.br (g1 := (167, [(0, .ref 0), (3, .int j3), (4, .int j4), (5, .int j5), (6, .int j6), (7, .int t0)], [], s)) (g2 := (162, [(0, .ref 0), (3, .int j3), (4, .int j4), (5, .int j5), (6, .int j6), (7, .int t0)], [], s)) rfl (fun h17 => ?_) (fun h17 => ?_)
  · refine xTr.ms 3 (g := (171, [(0, .ref 0), (3, .int j3), (4, .int j4), (5, .int j5), (6, .int j6), (7, .int t0)], [.int t0], s)) rfl ?_
    refine xTr.br (g1 := (179, [(0, .ref 0), (3, .int j3), (4, .int j4), (5, .int j5), (6, .int j6), (7, .int t0)], [], s)) (g2 := (174, [(0, .ref 0), (3, .int j3), (4, .int j4), (5, .int j5), (6, .int j6), (7, .int t0)], [], s)) rfl (fun h18 => ?_) (fun h18 => ?_)
    · refine xTr.ms 4 (g := (14, [(0, .ref 0), (3, .int j3), (4, .int j4), (5, .int (j5 + (1 : Int32)))], [], s)) rfl ?_
      exact xTr.leaf rfl
    · refine xTr.ms 5 (g := (14, [(0, .ref 0), (3, .int j3), (4, .int j6), (5, .int (j5 + (1 : Int32)))], [], s)) rfl ?_
      exact xTr.leaf rfl
  · refine xTr.ms 4 (g := (171, [(0, .ref 0), (3, .int j5), (4, .int j4), (5, .int j5), (6, .int j6), (7, .int t0)], [.int t0], s)) rfl ?_
    refine xTr.br (g1 := (179, [(0, .ref 0), (3, .int j5), (4, .int j4), (5, .int j5), (6, .int j6), (7, .int t0)], [], s)) (g2 := (174, [(0, .ref 0), (3, .int j5), (4, .int j4), (5, .int j5), (6, .int j6), (7, .int t0)], [], s)) rfl (fun h19 => ?_) (fun h19 => ?_)
    · refine xTr.ms 4 (g := (14, [(0, .ref 0), (3, .int j5), (4, .int j4), (5, .int (j5 + (1 : Int32)))], [], s)) rfl ?_
      exact xTr.leaf rfl
    · refine xTr.ms 5 (g := (14, [(0, .ref 0), (3, .int j5), (4, .int j6), (5, .int (j5 + (1 : Int32)))], [], s)) rfl ?_
      exact xTr.leaf rfl
set_option maxRecDepth 100000 in
theorem F_X9_askOf_L14_J150_ok (s : xS) (j3 : Int32) (j4 : Int32) (j5 : Int32) (j6 : Int32) : xTr xMs xML xR_X9_askOf (Sum.inl (150, [(0, .ref 0), (3, .int j3), (4, .int j4), (5, .int j5), (6, .int j6)], [], s)) (F_X9_askOf_L14_J150 s j3 j4 j5 j6) (xhx (F_X9_askOf_L14_hd s) (F_X9_askOf_L14_ex s)) := by
  unfold F_X9_askOf_L14_J150
  refine xTr.ms 2 (g := (155, [(0, .ref 0), (3, .int j3), (4, .int j4), (5, .int j5), (6, .int j6)], [.int (1 : Int32)], s)) rfl ?_
  exact F_X9_askOf_L14_J155_ok s j3 j4 j5 j6 (1 : Int32)
set_option maxRecDepth 100000 in
theorem F_X9_askOf_L14_ok (s : xS) (a : Int32 × Int32 × Int32) : xTr xMs xML xR_X9_askOf (F_X9_askOf_L14_hd s a) (F_X9_askOf_L14 s a) (xhx (F_X9_askOf_L14_hd s) (F_X9_askOf_L14_ex s)) := by
  unfold F_X9_askOf_L14
  refine xTr.ms 2 (g := (18, [(0, .ref 0), (3, .int a.1), (4, .int a.2.1), (5, .int a.2.2)], [.int (10 : Int32), .int a.2.2], s)) rfl ?_
  refine xTr.br (g1 := (189, [(0, .ref 0), (3, .int a.1), (4, .int a.2.1), (5, .int a.2.2)], [], s)) (g2 := (21, [(0, .ref 0), (3, .int a.1), (4, .int a.2.1), (5, .int a.2.2)], [], s)) rfl (fun h3 => ?_) (fun h3 => ?_)
  · refine xTr.mk (lv1 := [(3, .int a.1)]) rfl rfl ?_
    exact xTr.leaf rfl
  · refine xTr.ms 4 (g := (27, [(0, .ref 0), (3, .int a.1), (4, .int a.2.1), (5, .int a.2.2), (6, .int (0 : Int32)), (7, .int (0 : Int32))], [], s)) rfl ?_
    refine xTr.bind (J := F_X9_askOf_L27_ex a.1 a.2.1 a.2.2 s) (xTr.loop (hd := F_X9_askOf_L27_hd a.1 a.2.1 a.2.2 s) (fun aa => F_X9_askOf_L27_ok a.1 a.2.1 a.2.2 s aa) 100000 ((0 : Int32), (0 : Int32))) (fun b15 => ?_)
    refine xTr.ms 2 (g := (140, [(0, .ref 0), (3, .int a.1), (4, .int a.2.1), (5, .int a.2.2), (6, .int b15)], [.int (-1 : Int32), .int a.1], s)) rfl ?_
    refine xTr.br (g1 := (150, [(0, .ref 0), (3, .int a.1), (4, .int a.2.1), (5, .int a.2.2), (6, .int b15)], [], s)) (g2 := (143, [(0, .ref 0), (3, .int a.1), (4, .int a.2.1), (5, .int a.2.2), (6, .int b15)], [], s)) rfl (fun h16 => ?_) (fun h16 => ?_)
    · exact F_X9_askOf_L14_J150_ok s a.1 a.2.1 a.2.2 b15
    · refine xTr.ms 2 (g := (147, [(0, .ref 0), (3, .int a.1), (4, .int a.2.1), (5, .int a.2.2), (6, .int b15)], [.int a.2.1, .int b15], s)) rfl ?_
      refine xTr.br (g1 := (154, [(0, .ref 0), (3, .int a.1), (4, .int a.2.1), (5, .int a.2.2), (6, .int b15)], [], s)) (g2 := (150, [(0, .ref 0), (3, .int a.1), (4, .int a.2.1), (5, .int a.2.2), (6, .int b15)], [], s)) rfl (fun h20 => ?_) (fun h20 => ?_)
      · refine xTr.ms 1 (g := (155, [(0, .ref 0), (3, .int a.1), (4, .int a.2.1), (5, .int a.2.2), (6, .int b15)], [.int (0 : Int32)], s)) rfl ?_
        exact F_X9_askOf_L14_J155_ok s a.1 a.2.1 a.2.2 b15 (0 : Int32)
      · exact F_X9_askOf_L14_J150_ok s a.1 a.2.1 a.2.2 b15
set_option maxRecDepth 100000 in
theorem ok_X9_askOf (l1 : Int32) (s : xS) : xTr xMs xML xR_X9_askOf (Sum.inl (0, [(0, .ref 0), (1, .int l1)], [], s)) (F_X9_askOf l1 s) (fun (y : Int32 × xS) => Sum.inr (some (.int y.1), y.2)) := by
  unfold F_X9_askOf
  refine xTr.ms 2 (g := (2, [(0, .ref 0), (1, .int l1)], [.int l1, .ref 0], s)) rfl ?_
  refine xTr.calli (R' := xR_X9_whences) (as := [.ref 0, .int l1]) (lv := [(0, .ref 0), (1, .int l1)]) (rest := []) (ok_X9_whences l1 s) rfl rfl rfl rfl rfl (fun v1 s1 => ?_)
  refine xTr.ms 7 (g := (14, [(0, .ref 0), (1, .int l1), (2, .int v1), (3, .int (-1 : Int32)), (4, .int (0 : Int32)), (5, .int (0 : Int32))], [], s1)) rfl ?_
  refine xTr.mk (lv1 := [(0, .ref 0), (3, .int (-1 : Int32)), (4, .int (0 : Int32)), (5, .int (0 : Int32))]) rfl rfl ?_
  refine xTr.bind (J := F_X9_askOf_L14_ex s1) (xTr.loop (hd := F_X9_askOf_L14_hd s1) (fun aa => F_X9_askOf_L14_ok s1 aa) 100000 ((-1 : Int32), (0 : Int32), (0 : Int32))) (fun b21 => ?_)
  refine xTr.ms 1 (g := (190, [(3, .int b21)], [.int b21], s1)) rfl ?_
  exact xTr.ret rfl rfl rfl
