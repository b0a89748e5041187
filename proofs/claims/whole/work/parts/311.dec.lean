-- X9_readsDeeds
def F_X9_readsDeeds_L9_J39 (j1 : Int32) (j2 : Int32) (t0 : Int32) (js : xS) : Option ((Int32 × Int32 × xS) ⊕ ((Int32 × Int32 × xS) ⊕ ((Int32 × xS) ⊕ ((Int32 × xS) ⊕ (xS))))) := if (4 : Int32) ≤ t0 then (if (j2 + (4 : Int32)) = (js.1 1 1) then (some (Sum.inr (Sum.inr (Sum.inl ((j1 + (1 : Int32)), js))))) else ((F_X9_byteAt (1 : Int32) (j2 + (4 : Int32)) js).bind fun v5 => (if v5 = (59 : Int32) then (some (Sum.inl ((j1 + (1 : Int32)), ((j2 + (4 : Int32)) + (1 : Int32)), js))) else (some (Sum.inr (Sum.inr (Sum.inr (Sum.inl ((j2 + (4 : Int32)), js))))))))) else (some (Sum.inr (Sum.inl (j2, t0, js))))
def F_X9_readsDeeds_L9_J23 (j1 : Int32) (j2 : Int32) (js : xS) : Option ((Int32 × Int32 × xS) ⊕ ((Int32 × Int32 × xS) ⊕ ((Int32 × xS) ⊕ ((Int32 × xS) ⊕ (xS))))) := if j1 = (8 : Int32) then (F_X9_readsDeeds_L9_J39 j1 j2 (0 : Int32) js) else ((F_X9_readsDeed j1 j2 js).bind fun q8 => (F_X9_readsDeeds_L9_J39 j1 j2 q8.1 q8.2))
def F_X9_readsDeeds_L9 (a : Int32 × Int32 × xS) : Option ((Int32 × Int32 × xS) ⊕ ((Int32 × Int32 × xS) ⊕ ((Int32 × xS) ⊕ ((Int32 × xS) ⊕ (xS))))) := if a.2.1 < (a.2.2.1 1 1) then (F_X9_readsDeeds_L9_J23 a.1 a.2.1 a.2.2) else (if a.2.1 ≤ 0 then (some (Sum.inr (Sum.inr (Sum.inr (Sum.inr a.2.2))))) else (F_X9_readsDeeds_L9_J23 a.1 a.2.1 a.2.2))
def F_X9_readsDeeds (s : xS) : Option (Int32 × xS) := (xlp (F_X9_readsDeeds_L9) 100000 ((0 : Int32), (0 : Int32), (xu s 0 5 (0 : Int32)))).bind (Sum.elim (fun b10_0 => (some ((b10_0.1 + b10_0.2.1), b10_0.2.2))) (Sum.elim (fun b10_1 => (some ((-1 : Int32), (xu b10_1.2 0 5 b10_1.1)))) (Sum.elim (fun b10_2 => (some (b10_2.1, b10_2.2))) (fun b10_3 => (some ((-1 : Int32), b10_3))))))
def F_X9_readsDeeds_L9_hd (a : Int32 × Int32 × xS) : xT := Sum.inl (9, [(0, .ref 0), (1, .int a.1), (2, .int a.2.1)], [], a.2.2)
def F_X9_readsDeeds_L9_ex : ((Int32 × Int32 × xS) ⊕ ((Int32 × xS) ⊕ ((Int32 × xS) ⊕ (xS)))) → xT := (Sum.elim (fun (z : Int32 × Int32 × xS) => Sum.inl (45, [(2, .int z.1), (3, .int z.2.1)], [], z.2.2)) (Sum.elim (fun (z : Int32 × xS) => Sum.inl (65, [(0, .ref 0), (1, .int z.1)], [], z.2)) (Sum.elim (fun (z : Int32 × xS) => Sum.inl (83, [(2, .int z.1)], [], z.2)) (fun (z : xS) => Sum.inl (91, [], [], z)))))
set_option maxRecDepth 100000 in
theorem F_X9_readsDeeds_L9_J39_ok (j1 : Int32) (j2 : Int32) (t0 : Int32) (js : xS) : xTr xMs xML xR_X9_readsDeeds (Sum.inl (39, [(0, .ref 0), (1, .int j1), (2, .int j2)], [.int t0], js)) (F_X9_readsDeeds_L9_J39 j1 j2 t0 js) (xhx (F_X9_readsDeeds_L9_hd) (F_X9_readsDeeds_L9_ex)) := by
  unfold F_X9_readsDeeds_L9_J39
  refine xTr.ms 3 (g := (42, [(0, .ref 0), (1, .int j1), (2, .int j2), (3, .int t0)], [.int (4 : Int32), .int t0], js)) rfl ?_
  refine xTr.br (g1 := (49, [(0, .ref 0), (1, .int j1), (2, .int j2), (3, .int t0)], [], js)) (g2 := (45, [(0, .ref 0), (1, .int j1), (2, .int j2), (3, .int t0)], [], js)) rfl (fun h3 => ?_) (fun h3 => ?_)
  · refine xTr.ms 7 (g := (62, [(0, .ref 0), (1, .int (j1 + (1 : Int32))), (2, .int (j2 + (4 : Int32)))], [.int (js.1 1 1), .int (j2 + (4 : Int32))], js)) rfl ?_
    refine xTr.br (g1 := (65, [(0, .ref 0), (1, .int (j1 + (1 : Int32))), (2, .int (j2 + (4 : Int32)))], [], js)) (g2 := (72, [(0, .ref 0), (1, .int (j1 + (1 : Int32))), (2, .int (j2 + (4 : Int32)))], [], js)) rfl (fun h4 => ?_) (fun h4 => ?_)
    · refine xTr.mk (lv1 := [(0, .ref 0), (1, .int (j1 + (1 : Int32)))]) rfl rfl ?_
      exact xTr.leaf rfl
    · refine xTr.ms 3 (g := (75, [(0, .ref 0), (1, .int (j1 + (1 : Int32))), (2, .int (j2 + (4 : Int32)))], [.int (j2 + (4 : Int32)), .int (1 : Int32), .ref 0], js)) rfl ?_
      refine xTr.callip (R' := xR_X9_byteAt) (as := [.ref 0, .int (1 : Int32), .int (j2 + (4 : Int32))]) (lv := [(0, .ref 0), (1, .int (j1 + (1 : Int32))), (2, .int (j2 + (4 : Int32)))]) (rest := []) (ok_X9_byteAt (1 : Int32) (j2 + (4 : Int32)) js) rfl rfl rfl rfl rfl (fun v5 => ?_)
      refine xTr.ms 1 (g := (80, [(0, .ref 0), (1, .int (j1 + (1 : Int32))), (2, .int (j2 + (4 : Int32)))], [.int (59 : Int32), .int v5], js)) rfl ?_
      refine xTr.br (g1 := (85, [(0, .ref 0), (1, .int (j1 + (1 : Int32))), (2, .int (j2 + (4 : Int32)))], [], js)) (g2 := (83, [(0, .ref 0), (1, .int (j1 + (1 : Int32))), (2, .int (j2 + (4 : Int32)))], [], js)) rfl (fun h6 => ?_) (fun h6 => ?_)
      · refine xTr.ms 2 (g := (9, [(0, .ref 0), (1, .int (j1 + (1 : Int32))), (2, .int ((j2 + (4 : Int32)) + (1 : Int32)))], [], js)) rfl ?_
        exact xTr.leaf rfl
      · refine xTr.mk (lv1 := [(2, .int (j2 + (4 : Int32)))]) rfl rfl ?_
        exact xTr.leaf rfl
  · refine xTr.mk (lv1 := [(2, .int j2), (3, .int t0)]) rfl rfl ?_
    exact xTr.leaf rfl
set_option maxRecDepth 100000 in
theorem F_X9_readsDeeds_L9_J23_ok (j1 : Int32) (j2 : Int32) (js : xS) : xTr xMs xML xR_X9_readsDeeds (Sum.inl (23, [(0, .ref 0), (1, .int j1), (2, .int j2)], [], js)) (F_X9_readsDeeds_L9_J23 j1 j2 js) (xhx (F_X9_readsDeeds_L9_hd) (F_X9_readsDeeds_L9_ex)) := by
  unfold F_X9_readsDeeds_L9_J23
  refine xTr.ms 2 (g := (26, [(0, .ref 0), (1, .int j1), (2, .int j2)], [.int (8 : Int32), .int j1], js)) rfl ?_
  refine xTr.br (g1 := (29, [(0, .ref 0), (1, .int j1), (2, .int j2)], [], js)) (g2 := (33, [(0, .ref 0), (1, .int j1), (2, .int j2)], [], js)) rfl (fun h2 => ?_) (fun h2 => ?_)
  · refine xTr.ms 2 (g := (39, [(0, .ref 0), (1, .int j1), (2, .int j2)], [.int (0 : Int32)], js)) rfl ?_
    exact F_X9_readsDeeds_L9_J39_ok j1 j2 (0 : Int32) js
  · refine xTr.ms 3 (g := (36, [(0, .ref 0), (1, .int j1), (2, .int j2)], [.int j2, .int j1, .ref 0], js)) rfl ?_
    refine xTr.calli (R' := xR_X9_readsDeed) (as := [.ref 0, .int j1, .int j2]) (lv := [(0, .ref 0), (1, .int j1), (2, .int j2)]) (rest := []) (ok_X9_readsDeed j1 j2 js) rfl rfl rfl rfl rfl (fun v7 s7 => ?_)
    exact F_X9_readsDeeds_L9_J39_ok j1 j2 v7 s7
set_option maxRecDepth 100000 in
theorem F_X9_readsDeeds_L9_ok (a : Int32 × Int32 × xS) : xTr xMs xML xR_X9_readsDeeds (F_X9_readsDeeds_L9_hd a) (F_X9_readsDeeds_L9 a) (xhx (F_X9_readsDeeds_L9_hd) (F_X9_readsDeeds_L9_ex)) := by
  unfold F_X9_readsDeeds_L9
  refine xTr.ms 5 (g := (16, [(0, .ref 0), (1, .int a.1), (2, .int a.2.1)], [.int (a.2.2.1 1 1), .int a.2.1], a.2.2)) rfl ?_
  refine xTr.br (g1 := (23, [(0, .ref 0), (1, .int a.1), (2, .int a.2.1)], [], a.2.2)) (g2 := (19, [(0, .ref 0), (1, .int a.1), (2, .int a.2.1)], [], a.2.2)) rfl (fun h1 => ?_) (fun h1 => ?_)
  · exact F_X9_readsDeeds_L9_J23_ok a.1 a.2.1 a.2.2
  · refine xTr.ms 1 (g := (20, [(0, .ref 0), (1, .int a.1), (2, .int a.2.1)], [.int a.2.1], a.2.2)) rfl ?_
    refine xTr.br (g1 := (91, [(0, .ref 0), (1, .int a.1), (2, .int a.2.1)], [], a.2.2)) (g2 := (23, [(0, .ref 0), (1, .int a.1), (2, .int a.2.1)], [], a.2.2)) rfl (fun h9 => ?_) (fun h9 => ?_)
    · refine xTr.mk (lv1 := []) rfl rfl ?_
      exact xTr.leaf rfl
    · exact F_X9_readsDeeds_L9_J23_ok a.1 a.2.1 a.2.2
set_option maxRecDepth 100000 in
theorem ok_X9_readsDeeds (s : xS) : xTr xMs xML xR_X9_readsDeeds (Sum.inl (0, [(0, .ref 0)], [], s)) (F_X9_readsDeeds s) (fun (y : Int32 × xS) => Sum.inr (some (.int y.1), y.2)) := by
  unfold F_X9_readsDeeds
  refine xTr.ms 7 (g := (9, [(0, .ref 0), (1, .int (0 : Int32)), (2, .int (0 : Int32))], [], (xu s 0 5 (0 : Int32)))) rfl ?_
  refine xTr.bind (J := F_X9_readsDeeds_L9_ex) (xTr.loop (hd := F_X9_readsDeeds_L9_hd) (fun aa => F_X9_readsDeeds_L9_ok aa) 100000 ((0 : Int32), (0 : Int32), (xu s 0 5 (0 : Int32)))) (fun b10 => ?_)
  rcases b10 with b10_0 | b10_1 | b10_2 | b10_3
  · refine xTr.ms 3 (g := (48, [(2, .int b10_0.1), (3, .int b10_0.2.1)], [.int (b10_0.1 + b10_0.2.1)], b10_0.2.2)) rfl ?_
    exact xTr.ret rfl rfl rfl
  · refine xTr.ms 4 (g := (71, [(0, .ref 0), (1, .int b10_1.1)], [.int (-1 : Int32)], (xu b10_1.2 0 5 b10_1.1))) rfl ?_
    exact xTr.ret rfl rfl rfl
  · refine xTr.ms 1 (g := (84, [(2, .int b10_2.1)], [.int b10_2.1], b10_2.2)) rfl ?_
    exact xTr.ret rfl rfl rfl
  · refine xTr.ms 1 (g := (92, [], [.int (-1 : Int32)], b10_3)) rfl ?_
    exact xTr.ret rfl rfl rfl
-- X9_faultOf
def F_X9_faultOf (l1 : Int32) (s : xS) : Option (Int32 × xS) := (F_X9_readsTown s).bind fun q2 => ((F_X9_readsDeeds q2.2).bind fun q4 => (if l1 = 0 then (some (q2.1, q4.2)) else (some (q4.1, q4.2))))
set_option maxRecDepth 100000 in
theorem ok_X9_faultOf (l1 : Int32) (s : xS) : xTr xMs xML xR_X9_faultOf (Sum.inl (0, [(0, .ref 0), (1, .int l1)], [], s)) (F_X9_faultOf l1 s) (fun (y : Int32 × xS) => Sum.inr (some (.int y.1), y.2)) := by
  unfold F_X9_faultOf
  refine xTr.ms 1 (g := (1, [(0, .ref 0), (1, .int l1)], [.ref 0], s)) rfl ?_
  refine xTr.calli (R' := xR_X9_readsTown) (as := [.ref 0]) (lv := [(0, .ref 0), (1, .int l1)]) (rest := []) (ok_X9_readsTown s) rfl rfl rfl rfl rfl (fun v1 s1 => ?_)
  refine xTr.ms 2 (g := (6, [(0, .ref 0), (1, .int l1), (2, .int v1)], [.ref 0], s1)) rfl ?_
  refine xTr.calli (R' := xR_X9_readsDeeds) (as := [.ref 0]) (lv := [(0, .ref 0), (1, .int l1), (2, .int v1)]) (rest := []) (ok_X9_readsDeeds s1) rfl rfl rfl rfl rfl (fun v3 s3 => ?_)
  refine xTr.ms 2 (g := (11, [(0, .ref 0), (1, .int l1), (2, .int v1), (3, .int v3)], [.int l1], s3)) rfl ?_
  refine xTr.br (g1 := (14, [(0, .ref 0), (1, .int l1), (2, .int v1), (3, .int v3)], [], s3)) (g2 := (18, [(0, .ref 0), (1, .int l1), (2, .int v1), (3, .int v3)], [], s3)) rfl (fun h5 => ?_) (fun h5 => ?_)
  · refine xTr.ms 2 (g := (19, [(2, .int v1)], [.int v1], s3)) rfl ?_
    exact xTr.ret rfl rfl rfl
  · refine xTr.ms 1 (g := (19, [(3, .int v3)], [.int v3], s3)) rfl ?_
    exact xTr.ret rfl rfl rfl
-- X9_fault
def F_X9_fault (l1 : Int32) (s : xS) : Option (Int32 × xS) := (F_X9_isText l1 s).bind fun v1 => (if v1 = 0 then (some ((-2 : Int32), s)) else ((F_X9_faultOf l1 s).bind fun q4 => (some (q4.1, q4.2))))
set_option maxRecDepth 100000 in
theorem ok_X9_fault (l1 : Int32) (s : xS) : xTr xMs xML xR_X9_fault (Sum.inl (0, [(0, .ref 0), (1, .int l1)], [], s)) (F_X9_fault l1 s) (fun (y : Int32 × xS) => Sum.inr (some (.int y.1), y.2)) := by
  unfold F_X9_fault
  refine xTr.ms 1 (g := (1, [(0, .ref 0), (1, .int l1)], [.int l1], s)) rfl ?_
  refine xTr.callip (R' := xR_X9_isText) (as := [.int l1]) (lv := [(0, .ref 0), (1, .int l1)]) (rest := []) (ok_X9_isText l1 s) rfl rfl rfl rfl rfl (fun v1 => ?_)
  refine xTr.br (g1 := (15, [(0, .ref 0), (1, .int l1)], [], s)) (g2 := (7, [(0, .ref 0), (1, .int l1)], [], s)) rfl (fun h2 => ?_) (fun h2 => ?_)
  · refine xTr.ms 1 (g := (17, [], [.int (-2 : Int32)], s)) rfl ?_
    exact xTr.ret rfl rfl rfl
  · refine xTr.ms 2 (g := (9, [(0, .ref 0), (1, .int l1)], [.int l1, .ref 0], s)) rfl ?_
    refine xTr.calli (R' := xR_X9_faultOf) (as := [.ref 0, .int l1]) (lv := [(0, .ref 0), (1, .int l1)]) (rest := []) (ok_X9_faultOf l1 s) rfl rfl rfl rfl rfl (fun v3 s3 => ?_)
    refine xTr.ms 1 (g := (17, [(0, .ref 0), (1, .int l1)], [.int v3], s3)) rfl ?_
    exact xTr.ret rfl rfl rfl
-- X9_reads
def F_X9_reads (s : xS) : Option (xS) := (F_X9_faultOf (0 : Int32) s).bind fun q2 => (some q2.2)
set_option maxRecDepth 100000 in
theorem ok_X9_reads (s : xS) : xTr xMs xML xR_X9_reads (Sum.inl (0, [(0, .ref 0)], [], s)) (F_X9_reads s) (fun (y : xS) => Sum.inr (none, y)) := by
  unfold F_X9_reads
  refine xTr.ms 2 (g := (2, [(0, .ref 0)], [.int (0 : Int32), .ref 0], s)) rfl ?_
  refine xTr.calli (R' := xR_X9_faultOf) (as := [.ref 0, .int (0 : Int32)]) (lv := [(0, .ref 0)]) (rest := []) (ok_X9_faultOf (0 : Int32) s) rfl rfl rfl rfl rfl (fun v1 s1 => ?_)
  refine xTr.ms 1 (g := (6, [(0, .ref 0), (1, .int v1)], [], s1)) rfl ?_
  exact xTr.ret rfl rfl rfl
-- X9_isCell
def F_X9_isCell (l1 : Int32) (s : xS) : Option (Int32 × xS) := (F_X9_reads s).bind fun s2 => ((F_X9_in l1 (0 : Int32) ((s2.1 0 3) - (1 : Int32)) s2).bind fun v3 => (if v3 = 0 ∨ v3 = 1 then some (v3, s2) else none))
set_option maxRecDepth 100000 in
theorem ok_X9_isCell (l1 : Int32) (s : xS) : xTr xMs xML xR_X9_isCell (Sum.inl (0, [(0, .ref 0), (1, .int l1)], [], s)) (F_X9_isCell l1 s) (fun (y : Int32 × xS) => Sum.inr (some (.int y.1), y.2)) := by
  unfold F_X9_isCell
  refine xTr.ms 1 (g := (1, [(0, .ref 0), (1, .int l1)], [.ref 0], s)) rfl ?_
  refine xTr.callv (R' := xR_X9_reads) (as := [.ref 0]) (lv := [(0, .ref 0), (1, .int l1)]) (rest := []) (ok_X9_reads s) rfl rfl rfl rfl rfl (fun s2 => ?_)
  refine xTr.ms 6 (g := (12, [(0, .ref 0), (1, .int l1)], [.int ((s2.1 0 3) - (1 : Int32)), .int (0 : Int32), .int l1], s2)) rfl ?_
  refine xTr.callip (R' := xR_X9_in) (as := [.int l1, .int (0 : Int32), .int ((s2.1 0 3) - (1 : Int32))]) (lv := [(0, .ref 0), (1, .int l1)]) (rest := []) (ok_X9_in l1 (0 : Int32) ((s2.1 0 3) - (1 : Int32)) s2) rfl rfl rfl rfl rfl (fun v3 => ?_)
  exact xTr.rtz rfl rfl rfl
-- X9_cell
def F_X9_cell (l1 : Int32) (s : xS) : Option (Int32 × xS) := (F_X9_in l1 (0 : Int32) (35 : Int32) s).bind fun v1 => (if v1 = 0 then (some ((-2 : Int32), s)) else ((F_X9_isCell l1 s).bind fun q4 => (if q4.1 = 0 then (some ((-1 : Int32), q4.2)) else (if l1 < 0 ∨ 37 ≤ l1.toNatClampNeg then none else (some ((q4.2.1 3 l1.toNatClampNeg), q4.2))))))
set_option maxRecDepth 100000 in
theorem ok_X9_cell (l1 : Int32) (s : xS) : xTr xMs xML xR_X9_cell (Sum.inl (0, [(0, .ref 0), (1, .int l1)], [], s)) (F_X9_cell l1 s) (fun (y : Int32 × xS) => Sum.inr (some (.int y.1), y.2)) := by
  unfold F_X9_cell
  refine xTr.ms 3 (g := (4, [(0, .ref 0), (1, .int l1)], [.int (35 : Int32), .int (0 : Int32), .int l1], s)) rfl ?_
  refine xTr.callip (R' := xR_X9_in) (as := [.int l1, .int (0 : Int32), .int (35 : Int32)]) (lv := [(0, .ref 0), (1, .int l1)]) (rest := []) (ok_X9_in l1 (0 : Int32) (35 : Int32) s) rfl rfl rfl rfl rfl (fun v1 => ?_)
  refine xTr.br (g1 := (31, [(0, .ref 0), (1, .int l1)], [], s)) (g2 := (10, [(0, .ref 0), (1, .int l1)], [], s)) rfl (fun h2 => ?_) (fun h2 => ?_)
  · refine xTr.ms 1 (g := (33, [], [.int (-2 : Int32)], s)) rfl ?_
    exact xTr.ret rfl rfl rfl
  · refine xTr.ms 2 (g := (12, [(0, .ref 0), (1, .int l1)], [.int l1, .ref 0], s)) rfl ?_
    refine xTr.calli (R' := xR_X9_isCell) (as := [.ref 0, .int l1]) (lv := [(0, .ref 0), (1, .int l1)]) (rest := []) (ok_X9_isCell l1 s) rfl rfl rfl rfl rfl (fun v3 s3 => ?_)
    refine xTr.br (g1 := (27, [(0, .ref 0), (1, .int l1)], [], s3)) (g2 := (18, [(0, .ref 0), (1, .int l1)], [], s3)) rfl (fun h5 => ?_) (fun h5 => ?_)
    · refine xTr.ms 2 (g := (33, [], [.int (-1 : Int32)], s3)) rfl ?_
      exact xTr.ret rfl rfl rfl
    · refine xTr.ms 3 (g := (23, [(0, .ref 0), (1, .int l1)], [.int l1, .ref 3], s3)) rfl ?_
      refine xTr.ck (g := (24, [(0, .ref 0), (1, .int l1)], [.int (s3.1 3 l1.toNatClampNeg)], s3)) rfl (fun h6 => ?_)
      refine xTr.ms 1 (g := (33, [(0, .ref 0), (1, .int l1)], [.int (s3.1 3 l1.toNatClampNeg)], s3)) rfl ?_
      exact xTr.ret rfl rfl rfl
-- X9_bedNow
def F_X9_bedNow_L4 (s : xS) (a : Int32 × Int32) : Option ((Int32 × Int32) ⊕ (Int32)) := if (s.1 0 3) ≤ a.2 then (some (Sum.inr a.1)) else (if a.2 < 0 ∨ 37 ≤ a.2.toNatClampNeg then none else (if (s.1 3 a.2.toNatClampNeg) = (3 : Int32) then (some (Sum.inl (a.2, (a.2 + (1 : Int32))))) else (some (Sum.inl (a.1, (a.2 + (1 : Int32)))))))
def F_X9_bedNow (s : xS) : Option (Int32) := (xlp (F_X9_bedNow_L4 s) 100000 ((-1 : Int32), (0 : Int32))).bind (fun b4 => (some b4))
def F_X9_bedNow_L4_hd (s : xS) (a : Int32 × Int32) : xT := Sum.inl (4, [(0, .ref 0), (1, .int a.1), (2, .int a.2)], [], s)
def F_X9_bedNow_L4_ex (s : xS) : (Int32) → xT := (fun (z : Int32) => Sum.inl (34, [(1, .int z)], [], s))
set_option maxRecDepth 100000 in
theorem F_X9_bedNow_L4_ok (s : xS) (a : Int32 × Int32) : xTr xMs xML xR_X9_bedNow (F_X9_bedNow_L4_hd s a) (F_X9_bedNow_L4 s a) (xhx (F_X9_bedNow_L4_hd s) (F_X9_bedNow_L4_ex s)) := by
  unfold F_X9_bedNow_L4
  refine xTr.ms 3 (g := (9, [(0, .ref 0), (1, .int a.1), (2, .int a.2)], [.int (s.1 0 3), .int a.2], s)) rfl ?_
  refine xTr.br (g1 := (34, [(0, .ref 0), (1, .int a.1), (2, .int a.2)], [], s)) (g2 := (12, [(0, .ref 0), (1, .int a.1), (2, .int a.2)], [], s)) rfl (fun h1 => ?_) (fun h1 => ?_)
  · refine xTr.mk (lv1 := [(1, .int a.1)]) rfl rfl ?_
    exact xTr.leaf rfl
  · refine xTr.ms 3 (g := (17, [(0, .ref 0), (1, .int a.1), (2, .int a.2)], [.int a.2, .ref 3], s)) rfl ?_
    refine xTr.ck (g := (18, [(0, .ref 0), (1, .int a.1), (2, .int a.2)], [.int (s.1 3 a.2.toNatClampNeg)], s)) rfl (fun h2 => ?_)
    refine xTr.ms 1 (g := (19, [(0, .ref 0), (1, .int a.1), (2, .int a.2)], [.int (3 : Int32), .int (s.1 3 a.2.toNatClampNeg)], s)) rfl ?_
    refine xTr.br (g1 := (22, [(0, .ref 0), (1, .int a.1), (2, .int a.2)], [], s)) (g2 := (26, [(0, .ref 0), (1, .int a.1), (2, .int a.2)], [], s)) rfl (fun h3 => ?_) (fun h3 => ?_)
    · refine xTr.ms 5 (g := (4, [(0, .ref 0), (1, .int a.2), (2, .int (a.2 + (1 : Int32)))], [], s)) rfl ?_
      exact xTr.leaf rfl
    · refine xTr.ms 4 (g := (4, [(0, .ref 0), (1, .int a.1), (2, .int (a.2 + (1 : Int32)))], [], s)) rfl ?_
      exact xTr.leaf rfl
set_option maxRecDepth 100000 in
theorem ok_X9_bedNow (s : xS) : xTr xMs xML xR_X9_bedNow (Sum.inl (0, [(0, .ref 0)], [], s)) (F_X9_bedNow s) (fun (y : Int32) => Sum.inr (some (.int y), s)) := by
  unfold F_X9_bedNow
  refine xTr.ms 4 (g := (4, [(0, .ref 0), (1, .int (-1 : Int32)), (2, .int (0 : Int32))], [], s)) rfl ?_
  refine xTr.bind (J := F_X9_bedNow_L4_ex s) (xTr.loop (hd := F_X9_bedNow_L4_hd s) (fun aa => F_X9_bedNow_L4_ok s aa) 100000 ((-1 : Int32), (0 : Int32))) (fun b4 => ?_)
  refine xTr.ms 1 (g := (35, [(1, .int b4)], [.int b4], s)) rfl ?_
  exact xTr.ret rfl rfl rfl
-- X9_bed
def F_X9_bed (s : xS) : Option (Int32 × xS) := (F_X9_reads s).bind fun s2 => ((F_X9_bedNow s2).bind fun v3 => (some (v3, s2)))
set_option maxRecDepth 100000 in
theorem ok_X9_bed (s : xS) : xTr xMs xML xR_X9_bed (Sum.inl (0, [(0, .ref 0)], [], s)) (F_X9_bed s) (fun (y : Int32 × xS) => Sum.inr (some (.int y.1), y.2)) := by
  unfold F_X9_bed
  refine xTr.ms 1 (g := (1, [(0, .ref 0)], [.ref 0], s)) rfl ?_
  refine xTr.callv (R' := xR_X9_reads) (as := [.ref 0]) (lv := [(0, .ref 0)]) (rest := []) (ok_X9_reads s) rfl rfl rfl rfl rfl (fun s2 => ?_)
  refine xTr.ms 1 (g := (5, [(0, .ref 0)], [.ref 0], s2)) rfl ?_
  refine xTr.callip (R' := xR_X9_bedNow) (as := [.ref 0]) (lv := [(0, .ref 0)]) (rest := []) (ok_X9_bedNow s2) rfl rfl rfl rfl rfl (fun v3 => ?_)
  exact xTr.ret rfl rfl rfl
-- X9_isDeed
def F_X9_isDeed (l1 : Int32) (s : xS) : Option (Int32 × xS) := (F_X9_reads s).bind fun s2 => ((F_X9_in l1 (0 : Int32) ((s2.1 0 5) - (1 : Int32)) s2).bind fun v3 => (if v3 = 0 ∨ v3 = 1 then some (v3, s2) else none))
set_option maxRecDepth 100000 in
theorem ok_X9_isDeed (l1 : Int32) (s : xS) : xTr xMs xML xR_X9_isDeed (Sum.inl (0, [(0, .ref 0), (1, .int l1)], [], s)) (F_X9_isDeed l1 s) (fun (y : Int32 × xS) => Sum.inr (some (.int y.1), y.2)) := by
  unfold F_X9_isDeed
  refine xTr.ms 1 (g := (1, [(0, .ref 0), (1, .int l1)], [.ref 0], s)) rfl ?_
  refine xTr.callv (R' := xR_X9_reads) (as := [.ref 0]) (lv := [(0, .ref 0), (1, .int l1)]) (rest := []) (ok_X9_reads s) rfl rfl rfl rfl rfl (fun s2 => ?_)
  refine xTr.ms 6 (g := (12, [(0, .ref 0), (1, .int l1)], [.int ((s2.1 0 5) - (1 : Int32)), .int (0 : Int32), .int l1], s2)) rfl ?_
  refine xTr.callip (R' := xR_X9_in) (as := [.int l1, .int (0 : Int32), .int ((s2.1 0 5) - (1 : Int32))]) (lv := [(0, .ref 0), (1, .int l1)]) (rest := []) (ok_X9_in l1 (0 : Int32) ((s2.1 0 5) - (1 : Int32)) s2) rfl rfl rfl rfl rfl (fun v3 => ?_)
  exact xTr.rtz rfl rfl rfl
-- X9_deedOf
def F_X9_deedOf (l1 : Int32) (l2 : Int32) (s : xS) : Option (Int32) := if l2 = 0 then (if l1 < 0 ∨ 9 ≤ l1.toNatClampNeg then none else (some (s.1 4 l1.toNatClampNeg))) else (if l2 = (1 : Int32) then (if l1 < 0 ∨ 9 ≤ l1.toNatClampNeg then none else (some (s.1 5 l1.toNatClampNeg))) else (if l1 < 0 ∨ 9 ≤ l1.toNatClampNeg then none else (some (s.1 6 l1.toNatClampNeg))))
set_option maxRecDepth 100000 in
theorem ok_X9_deedOf (l1 : Int32) (l2 : Int32) (s : xS) : xTr xMs xML xR_X9_deedOf (Sum.inl (0, [(0, .ref 0), (1, .int l1), (2, .int l2)], [], s)) (F_X9_deedOf l1 l2 s) (fun (y : Int32) => Sum.inr (some (.int y), s)) := by
  unfold F_X9_deedOf
  refine xTr.ms 1 (g := (1, [(0, .ref 0), (1, .int l1), (2, .int l2)], [.int l2], s)) rfl ?_
  refine xTr.br (g1 := (4, [(0, .ref 0), (1, .int l1), (2, .int l2)], [], s)) (g2 := (13, [(0, .ref 0), (1, .int l1), (2, .int l2)], [], s)) rfl (fun h1 => ?_) (fun h1 => ?_)
  · refine xTr.ms 3 (g := (9, [(0, .ref 0), (1, .int l1)], [.int l1, .ref 4], s)) rfl ?_
    refine xTr.ck (g := (10, [(0, .ref 0), (1, .int l1)], [.int (s.1 4 l1.toNatClampNeg)], s)) rfl (fun h2 => ?_)
    refine xTr.ms 1 (g := (33, [(0, .ref 0), (1, .int l1)], [.int (s.1 4 l1.toNatClampNeg)], s)) rfl ?_
    exact xTr.ret rfl rfl rfl
  · refine xTr.ms 2 (g := (15, [(0, .ref 0), (1, .int l1), (2, .int l2)], [.int (1 : Int32), .int l2], s)) rfl ?_
    refine xTr.br (g1 := (18, [(0, .ref 0), (1, .int l1), (2, .int l2)], [], s)) (g2 := (27, [(0, .ref 0), (1, .int l1), (2, .int l2)], [], s)) rfl (fun h3 => ?_) (fun h3 => ?_)
    · refine xTr.ms 3 (g := (23, [(0, .ref 0), (1, .int l1)], [.int l1, .ref 5], s)) rfl ?_
      refine xTr.ck (g := (24, [(0, .ref 0), (1, .int l1)], [.int (s.1 5 l1.toNatClampNeg)], s)) rfl (fun h4 => ?_)
      refine xTr.ms 1 (g := (33, [(0, .ref 0), (1, .int l1)], [.int (s.1 5 l1.toNatClampNeg)], s)) rfl ?_
      exact xTr.ret rfl rfl rfl
    · refine xTr.ms 3 (g := (32, [(0, .ref 0), (1, .int l1)], [.int l1, .ref 6], s)) rfl ?_
      refine xTr.ck (g := (33, [(0, .ref 0), (1, .int l1)], [.int (s.1 6 l1.toNatClampNeg)], s)) rfl (fun h5 => ?_)
      exact xTr.ret rfl rfl rfl
-- X9_deed
def F_X9_deed (l1 : Int32) (l2 : Int32) (s : xS) : Option (Int32 × xS) := (F_X9_isDeed l1 s).bind fun q2 => (if q2.1 = 0 then (some ((-2 : Int32), q2.2)) else ((F_X9_in l2 (0 : Int32) (2 : Int32) q2.2).bind fun v4 => (if v4 = 0 then (some ((-2 : Int32), q2.2)) else ((F_X9_deedOf l1 l2 q2.2).bind fun v6 => (some (v6, q2.2))))))
set_option maxRecDepth 100000 in
theorem ok_X9_deed (l1 : Int32) (l2 : Int32) (s : xS) : xTr xMs xML xR_X9_deed (Sum.inl (0, [(0, .ref 0), (1, .int l1), (2, .int l2)], [], s)) (F_X9_deed l1 l2 s) (fun (y : Int32 × xS) => Sum.inr (some (.int y.1), y.2)) := by
  unfold F_X9_deed
  refine xTr.ms 2 (g := (2, [(0, .ref 0), (1, .int l1), (2, .int l2)], [.int l1, .ref 0], s)) rfl ?_
  refine xTr.calli (R' := xR_X9_isDeed) (as := [.ref 0, .int l1]) (lv := [(0, .ref 0), (1, .int l1), (2, .int l2)]) (rest := []) (ok_X9_isDeed l1 s) rfl rfl rfl rfl rfl (fun v1 s1 => ?_)
  refine xTr.br (g1 := (26, [(0, .ref 0), (1, .int l1), (2, .int l2)], [], s1)) (g2 := (8, [(0, .ref 0), (1, .int l1), (2, .int l2)], [], s1)) rfl (fun h3 => ?_) (fun h3 => ?_)
  · refine xTr.ms 1 (g := (28, [], [.int (-2 : Int32)], s1)) rfl ?_
    exact xTr.ret rfl rfl rfl
  · refine xTr.ms 3 (g := (11, [(0, .ref 0), (1, .int l1), (2, .int l2)], [.int (2 : Int32), .int (0 : Int32), .int l2], s1)) rfl ?_
    refine xTr.callip (R' := xR_X9_in) (as := [.int l2, .int (0 : Int32), .int (2 : Int32)]) (lv := [(0, .ref 0), (1, .int l1), (2, .int l2)]) (rest := []) (ok_X9_in l2 (0 : Int32) (2 : Int32) s1) rfl rfl rfl rfl rfl (fun v4 => ?_)
    refine xTr.br (g1 := (26, [(0, .ref 0), (1, .int l1), (2, .int l2)], [], s1)) (g2 := (17, [(0, .ref 0), (1, .int l1), (2, .int l2)], [], s1)) rfl (fun h5 => ?_) (fun h5 => ?_)
    · refine xTr.ms 1 (g := (28, [], [.int (-2 : Int32)], s1)) rfl ?_
      exact xTr.ret rfl rfl rfl
    · refine xTr.ms 3 (g := (20, [(0, .ref 0), (1, .int l1), (2, .int l2)], [.int l2, .int l1, .ref 0], s1)) rfl ?_
      refine xTr.callip (R' := xR_X9_deedOf) (as := [.ref 0, .int l1, .int l2]) (lv := [(0, .ref 0), (1, .int l1), (2, .int l2)]) (rest := []) (ok_X9_deedOf l1 l2 s1) rfl rfl rfl rfl rfl (fun v6 => ?_)
      refine xTr.ms 1 (g := (28, [(0, .ref 0), (1, .int l1), (2, .int l2)], [.int v6], s1)) rfl ?_
      exact xTr.ret rfl rfl rfl
-- X9_set
def F_X9_set_J46 (l1 : Int32) (l2 : Int32) (t0 : Int32) (js : xS) : Option (Int32 × xS) := if l1 = 0 then (if l1 = (1 : Int32) then (some (t0, (xu (xu js 0 9 l2) 0 10 l2))) else (some (t0, (xu (xu js 0 9 l2) 0 10 (js.1 0 10))))) else (if l1 = (1 : Int32) then (some (t0, (xu (xu js 0 9 (js.1 0 9)) 0 10 l2))) else (some (t0, (xu (xu js 0 9 (js.1 0 9)) 0 10 (js.1 0 10)))))
def F_X9_set_J22 (l1 : Int32) (l2 : Int32) (t0 : Int32) (t1 : Int32) (t2 : Int32) (js : xS) : Option (Int32 × xS) := (F_X9_in t0 t1 t2 js).bind fun v4 => (if v4 = 0 then (some ((-2 : Int32), js)) else (if l1 = 0 then (F_X9_set_J46 l1 l2 (js.1 0 9) js) else (F_X9_set_J46 l1 l2 (js.1 0 10) js)))
def F_X9_set (l1 : Int32) (l2 : Int32) (s : xS) : Option (Int32 × xS) := (F_X9_in l1 (0 : Int32) (1 : Int32) s).bind fun v1 => (if v1 = 0 then (some ((-2 : Int32), s)) else (if l1 = 0 then (F_X9_set_J22 l1 l2 l2 (0 : Int32) (30 : Int32) s) else (F_X9_set_J22 l1 l2 l2 (0 : Int32) (20 : Int32) s)))
set_option maxRecDepth 100000 in
theorem F_X9_set_J46_ok (l1 : Int32) (l2 : Int32) (t0 : Int32) (js : xS) : xTr xMs xML xR_X9_set (Sum.inl (46, [(0, .ref 0), (1, .int l1), (2, .int l2)], [.int t0], js)) (F_X9_set_J46 l1 l2 t0 js) (fun (y : Int32 × xS) => Sum.inr (some (.int y.1), y.2)) := by
  unfold F_X9_set_J46
  refine xTr.ms 3 (g := (49, [(0, .ref 0), (1, .int l1), (2, .int l2), (3, .int t0)], [.int l1, .ref 0], js)) rfl ?_
  refine xTr.br (g1 := (52, [(0, .ref 0), (1, .int l1), (2, .int l2), (3, .int t0)], [.ref 0], js)) (g2 := (56, [(0, .ref 0), (1, .int l1), (2, .int l2), (3, .int t0)], [.ref 0], js)) rfl (fun h7 => ?_) (fun h7 => ?_)
  · refine xTr.ms 6 (g := (66, [(0, .ref 0), (1, .int l1), (2, .int l2), (3, .int t0)], [.int (1 : Int32), .int l1, .ref 0], (xu js 0 9 l2))) rfl ?_
    refine xTr.br (g1 := (69, [(0, .ref 0), (1, .int l1), (2, .int l2), (3, .int t0)], [.ref 0], (xu js 0 9 l2))) (g2 := (73, [(0, .ref 0), (1, .int l1), (2, .int l2), (3, .int t0)], [.ref 0], (xu js 0 9 l2))) rfl (fun h8 => ?_) (fun h8 => ?_)
    · refine xTr.ms 4 (g := (81, [(3, .int t0)], [.int t0], (xu (xu js 0 9 l2) 0 10 l2))) rfl ?_
      exact xTr.ret rfl rfl rfl
    · refine xTr.ms 4 (g := (81, [(3, .int t0)], [.int t0], (xu (xu js 0 9 l2) 0 10 (js.1 0 10)))) rfl ?_
      exact xTr.ret rfl rfl rfl
  · refine xTr.ms 6 (g := (66, [(0, .ref 0), (1, .int l1), (2, .int l2), (3, .int t0)], [.int (1 : Int32), .int l1, .ref 0], (xu js 0 9 (js.1 0 9)))) rfl ?_
    refine xTr.br (g1 := (69, [(0, .ref 0), (1, .int l1), (2, .int l2), (3, .int t0)], [.ref 0], (xu js 0 9 (js.1 0 9)))) (g2 := (73, [(0, .ref 0), (1, .int l1), (2, .int l2), (3, .int t0)], [.ref 0], (xu js 0 9 (js.1 0 9)))) rfl (fun h9 => ?_) (fun h9 => ?_)
    · refine xTr.ms 4 (g := (81, [(3, .int t0)], [.int t0], (xu (xu js 0 9 (js.1 0 9)) 0 10 l2))) rfl ?_
      exact xTr.ret rfl rfl rfl
    · refine xTr.ms 4 (g := (81, [(3, .int t0)], [.int t0], (xu (xu js 0 9 (js.1 0 9)) 0 10 (js.1 0 10)))) rfl ?_
      exact xTr.ret rfl rfl rfl
set_option maxRecDepth 100000 in
theorem F_X9_set_J22_ok (l1 : Int32) (l2 : Int32) (t0 : Int32) (t1 : Int32) (t2 : Int32) (js : xS) : xTr xMs xML xR_X9_set (Sum.inl (22, [(0, .ref 0), (1, .int l1), (2, .int l2)], [.int t2, .int t1, .int t0], js)) (F_X9_set_J22 l1 l2 t0 t1 t2 js) (fun (y : Int32 × xS) => Sum.inr (some (.int y.1), y.2)) := by
  unfold F_X9_set_J22
  refine xTr.callip (R' := xR_X9_in) (as := [.int t0, .int t1, .int t2]) (lv := [(0, .ref 0), (1, .int l1), (2, .int l2)]) (rest := []) (ok_X9_in t0 t1 t2 js) rfl rfl rfl rfl rfl (fun v4 => ?_)
  refine xTr.br (g1 := (28, [(0, .ref 0), (1, .int l1), (2, .int l2)], [], js)) (g2 := (31, [(0, .ref 0), (1, .int l1), (2, .int l2)], [], js)) rfl (fun h5 => ?_) (fun h5 => ?_)
  · refine xTr.ms 1 (g := (30, [], [.int (-2 : Int32)], js)) rfl ?_
    exact xTr.ret rfl rfl rfl
  · refine xTr.ms 1 (g := (32, [(0, .ref 0), (1, .int l1), (2, .int l2)], [.int l1], js)) rfl ?_
    refine xTr.br (g1 := (35, [(0, .ref 0), (1, .int l1), (2, .int l2)], [], js)) (g2 := (42, [(0, .ref 0), (1, .int l1), (2, .int l2)], [], js)) rfl (fun h6 => ?_) (fun h6 => ?_)
    · refine xTr.ms 3 (g := (46, [(0, .ref 0), (1, .int l1), (2, .int l2)], [.int (js.1 0 9)], js)) rfl ?_
      exact F_X9_set_J46_ok l1 l2 (js.1 0 9) js
    · refine xTr.ms 2 (g := (46, [(0, .ref 0), (1, .int l1), (2, .int l2)], [.int (js.1 0 10)], js)) rfl ?_
      exact F_X9_set_J46_ok l1 l2 (js.1 0 10) js
set_option maxRecDepth 100000 in
theorem ok_X9_set (l1 : Int32) (l2 : Int32) (s : xS) : xTr xMs xML xR_X9_set (Sum.inl (0, [(0, .ref 0), (1, .int l1), (2, .int l2)], [], s)) (F_X9_set l1 l2 s) (fun (y : Int32 × xS) => Sum.inr (some (.int y.1), y.2)) := by
  unfold F_X9_set
  refine xTr.ms 3 (g := (3, [(0, .ref 0), (1, .int l1), (2, .int l2)], [.int (1 : Int32), .int (0 : Int32), .int l1], s)) rfl ?_
  refine xTr.callip (R' := xR_X9_in) (as := [.int l1, .int (0 : Int32), .int (1 : Int32)]) (lv := [(0, .ref 0), (1, .int l1), (2, .int l2)]) (rest := []) (ok_X9_in l1 (0 : Int32) (1 : Int32) s) rfl rfl rfl rfl rfl (fun v1 => ?_)
  refine xTr.br (g1 := (28, [(0, .ref 0), (1, .int l1), (2, .int l2)], [], s)) (g2 := (9, [(0, .ref 0), (1, .int l1), (2, .int l2)], [], s)) rfl (fun h2 => ?_) (fun h2 => ?_)
  · refine xTr.ms 1 (g := (30, [], [.int (-2 : Int32)], s)) rfl ?_
    exact xTr.ret rfl rfl rfl
  · refine xTr.ms 3 (g := (12, [(0, .ref 0), (1, .int l1), (2, .int l2)], [.int l1, .int (0 : Int32), .int l2], s)) rfl ?_
    refine xTr.br (g1 := (15, [(0, .ref 0), (1, .int l1), (2, .int l2)], [.int (0 : Int32), .int l2], s)) (g2 := (20, [(0, .ref 0), (1, .int l1), (2, .int l2)], [.int (0 : Int32), .int l2], s)) rfl (fun h3 => ?_) (fun h3 => ?_)
    · refine xTr.ms 2 (g := (22, [(0, .ref 0), (1, .int l1), (2, .int l2)], [.int (30 : Int32), .int (0 : Int32), .int l2], s)) rfl ?_
      exact F_X9_set_J22_ok l1 l2 l2 (0 : Int32) (30 : Int32) s
    · refine xTr.ms 1 (g := (22, [(0, .ref 0), (1, .int l1), (2, .int l2)], [.int (20 : Int32), .int (0 : Int32), .int l2], s)) rfl ?_
      exact F_X9_set_J22_ok l1 l2 l2 (0 : Int32) (20 : Int32) s
-- X9_isHour
def F_X9_isHour (l0 : Int32) (s : xS) : Option (Int32) := (F_X9_in l0 (0 : Int32) (9 : Int32) s).bind fun v1 => (if v1 = 0 ∨ v1 = 1 then some v1 else none)
set_option maxRecDepth 100000 in
theorem ok_X9_isHour (l0 : Int32) (s : xS) : xTr xMs xML xR_X9_isHour (Sum.inl (0, [(0, .int l0)], [], s)) (F_X9_isHour l0 s) (fun (y : Int32) => Sum.inr (some (.int y), s)) := by
  unfold F_X9_isHour
  refine xTr.ms 3 (g := (4, [(0, .int l0)], [.int (9 : Int32), .int (0 : Int32), .int l0], s)) rfl ?_
  refine xTr.callip (R' := xR_X9_in) (as := [.int l0, .int (0 : Int32), .int (9 : Int32)]) (lv := [(0, .int l0)]) (rest := []) (ok_X9_in l0 (0 : Int32) (9 : Int32) s) rfl rfl rfl rfl rfl (fun v1 => ?_)
  exact xTr.rtz rfl rfl rfl
-- X9_thunder
def F_X9_thunder (l1 : Int32) (l2 : Int32) (s : xS) : Option (Int32 × xS) := (F_X9_isHour l1 s).bind fun v1 => (if v1 = 0 then (some ((-2 : Int32), s)) else ((F_X9_in l2 (1 : Int32) (9 : Int32) s).bind fun v3 => (if v3 = 0 then (some ((-2 : Int32), s)) else (if (s.1 0 11) = (6 : Int32) then (some ((-4 : Int32), s)) else (if (s.1 0 11) < 0 ∨ 6 ≤ ((s.1 0 11)).toNatClampNeg then none else (if (s.1 0 11) < 0 ∨ 6 ≤ ((s.1 0 11)).toNatClampNeg then none else (some (((s.1 0 11) + (1 : Int32)), (xu (xu (xu s 7 ((s.1 0 11)).toNatClampNeg l1) 8 ((s.1 0 11)).toNatClampNeg l2) 0 11 ((s.1 0 11) + (1 : Int32)))))))))))
set_option maxRecDepth 100000 in
theorem ok_X9_thunder (l1 : Int32) (l2 : Int32) (s : xS) : xTr xMs xML xR_X9_thunder (Sum.inl (0, [(0, .ref 0), (1, .int l1), (2, .int l2)], [], s)) (F_X9_thunder l1 l2 s) (fun (y : Int32 × xS) => Sum.inr (some (.int y.1), y.2)) := by
  unfold F_X9_thunder
  refine xTr.ms 1 (g := (1, [(0, .ref 0), (1, .int l1), (2, .int l2)], [.int l1], s)) rfl ?_
  refine xTr.callip (R' := xR_X9_isHour) (as := [.int l1]) (lv := [(0, .ref 0), (1, .int l1), (2, .int l2)]) (rest := []) (ok_X9_isHour l1 s) rfl rfl rfl rfl rfl (fun v1 => ?_)
  refine xTr.br (g1 := (17, [(0, .ref 0), (1, .int l1), (2, .int l2)], [], s)) (g2 := (7, [(0, .ref 0), (1, .int l1), (2, .int l2)], [], s)) rfl (fun h2 => ?_) (fun h2 => ?_)
  · refine xTr.ms 1 (g := (19, [], [.int (-2 : Int32)], s)) rfl ?_
    exact xTr.ret rfl rfl rfl
  · refine xTr.ms 3 (g := (11, [(0, .ref 0), (1, .int l1), (2, .int l2)], [.int (9 : Int32), .int (1 : Int32), .int l2], s)) rfl ?_
    refine xTr.callip (R' := xR_X9_in) (as := [.int l2, .int (1 : Int32), .int (9 : Int32)]) (lv := [(0, .ref 0), (1, .int l1), (2, .int l2)]) (rest := []) (ok_X9_in l2 (1 : Int32) (9 : Int32) s) rfl rfl rfl rfl rfl (fun v3 => ?_)
    refine xTr.br (g1 := (17, [(0, .ref 0), (1, .int l1), (2, .int l2)], [], s)) (g2 := (20, [(0, .ref 0), (1, .int l1), (2, .int l2)], [], s)) rfl (fun h4 => ?_) (fun h4 => ?_)
    · refine xTr.ms 1 (g := (19, [], [.int (-2 : Int32)], s)) rfl ?_
      exact xTr.ret rfl rfl rfl
    · refine xTr.ms 3 (g := (26, [(0, .ref 0), (1, .int l1), (2, .int l2)], [.int (6 : Int32), .int (s.1 0 11)], s)) rfl ?_
      refine xTr.br (g1 := (29, [(0, .ref 0), (1, .int l1), (2, .int l2)], [], s)) (g2 := (32, [(0, .ref 0), (1, .int l1), (2, .int l2)], [], s)) rfl (fun h5 => ?_) (fun h5 => ?_)
      · refine xTr.ms 1 (g := (31, [], [.int (-4 : Int32)], s)) rfl ?_
        exact xTr.ret rfl rfl rfl
      · refine xTr.ms 5 (g := (41, [(0, .ref 0), (1, .int l1), (2, .int l2)], [.int l1, .int (s.1 0 11), .ref 7], s)) rfl ?_
        refine xTr.ck (g := (42, [(0, .ref 0), (1, .int l1), (2, .int l2)], [], (xu s 7 ((s.1 0 11)).toNatClampNeg l1))) rfl (fun h6 => ?_)
        refine xTr.ms 5 (g := (51, [(0, .ref 0), (1, .int l1), (2, .int l2)], [.int l2, .int (s.1 0 11), .ref 8], (xu s 7 ((s.1 0 11)).toNatClampNeg l1))) rfl ?_
        refine xTr.ck (g := (52, [(0, .ref 0), (1, .int l1), (2, .int l2)], [], (xu (xu s 7 ((s.1 0 11)).toNatClampNeg l1) 8 ((s.1 0 11)).toNatClampNeg l2))) rfl (fun h7 => ?_)
        refine xTr.ms 8 (g := (66, [(0, .ref 0), (1, .int l1), (2, .int l2)], [.int ((s.1 0 11) + (1 : Int32))], (xu (xu (xu s 7 ((s.1 0 11)).toNatClampNeg l1) 8 ((s.1 0 11)).toNatClampNeg l2) 0 11 ((s.1 0 11) + (1 : Int32))))) rfl ?_
        exact xTr.ret rfl rfl rfl
-- X9_back
def F_X9_back (s : xS) : Option (Int32 × xS) := if (s.1 0 11) = 0 then (some ((-3 : Int32), s)) else (some (((s.1 0 11) - (1 : Int32)), (xu s 0 11 ((s.1 0 11) - (1 : Int32)))))
set_option maxRecDepth 100000 in
theorem ok_X9_back (s : xS) : xTr xMs xML xR_X9_back (Sum.inl (0, [(0, .ref 0)], [], s)) (F_X9_back s) (fun (y : Int32 × xS) => Sum.inr (some (.int y.1), y.2)) := by
  unfold F_X9_back
  refine xTr.ms 2 (g := (4, [(0, .ref 0)], [.int (s.1 0 11)], s)) rfl ?_
  refine xTr.br (g1 := (7, [(0, .ref 0)], [], s)) (g2 := (10, [(0, .ref 0)], [], s)) rfl (fun h1 => ?_) (fun h1 => ?_)
  · refine xTr.ms 1 (g := (9, [], [.int (-3 : Int32)], s)) rfl ?_
    exact xTr.ret rfl rfl rfl
  · refine xTr.ms 8 (g := (24, [(0, .ref 0)], [.int ((s.1 0 11) - (1 : Int32))], (xu s 0 11 ((s.1 0 11) - (1 : Int32))))) rfl ?_
    exact xTr.ret rfl rfl rfl
-- X9_isSheet
def F_X9_isSheet (l0 : Int32) (s : xS) : Option (Int32) := (F_X9_in l0 (0 : Int32) (3 : Int32) s).bind fun v1 => (if v1 = 0 ∨ v1 = 1 then some v1 else none)
set_option maxRecDepth 100000 in
theorem ok_X9_isSheet (l0 : Int32) (s : xS) : xTr xMs xML xR_X9_isSheet (Sum.inl (0, [(0, .int l0)], [], s)) (F_X9_isSheet l0 s) (fun (y : Int32) => Sum.inr (some (.int y), s)) := by
  unfold F_X9_isSheet
  refine xTr.ms 3 (g := (3, [(0, .int l0)], [.int (3 : Int32), .int (0 : Int32), .int l0], s)) rfl ?_
  refine xTr.callip (R' := xR_X9_in) (as := [.int l0, .int (0 : Int32), .int (3 : Int32)]) (lv := [(0, .int l0)]) (rest := []) (ok_X9_in l0 (0 : Int32) (3 : Int32) s) rfl rfl rfl rfl rfl (fun v1 => ?_)
  exact xTr.rtz rfl rfl rfl
-- X9_meets
def F_X9_meets (l1 : Int32) (s : xS) : Option (Int32 × xS) := some (((-10 : Int32) - l1), (xu s 0 35 l1))
set_option maxRecDepth 100000 in
theorem ok_X9_meets (l1 : Int32) (s : xS) : xTr xMs xML xR_X9_meets (Sum.inl (0, [(0, .ref 0), (1, .int l1)], [], s)) (F_X9_meets l1 s) (fun (y : Int32 × xS) => Sum.inr (some (.int y.1), y.2)) := by
  unfold F_X9_meets
  refine xTr.ms 6 (g := (9, [(0, .ref 0), (1, .int l1)], [.int ((-10 : Int32) - l1)], (xu s 0 35 l1))) rfl ?_
  exact xTr.ret rfl rfl rfl
-- X9_read
def F_X9_read_L27 (l1 : Int32) (a : Int32 × xS) : Option ((Int32 × xS) ⊕ (Int32 × xS)) := if l1 < 0 ∨ 4 ≤ l1.toNatClampNeg then none else (if (a.2.1 24 l1.toNatClampNeg) ≤ (((2 : Int32) * a.1) + (1 : Int32)) then (some (Sum.inr (a.1, a.2))) else (if (((60 : Int32) * l1) + ((2 : Int32) * a.1)) < 0 ∨ 240 ≤ ((((60 : Int32) * l1) + ((2 : Int32) * a.1))).toNatClampNeg then none else (if ((((60 : Int32) * l1) + ((2 : Int32) * a.1)) + (1 : Int32)) < 0 ∨ 240 ≤ (((((60 : Int32) * l1) + ((2 : Int32) * a.1)) + (1 : Int32))).toNatClampNeg then none else ((F_X9_thunder (a.2.1 25 ((((60 : Int32) * l1) + ((2 : Int32) * a.1))).toNatClampNeg) (a.2.1 25 (((((60 : Int32) * l1) + ((2 : Int32) * a.1)) + (1 : Int32))).toNatClampNeg) a.2).bind fun q12 => (if q12.1 ≤ 0 then (some (Sum.inr (a.1, q12.2))) else (some (Sum.inl ((a.1 + (1 : Int32)), q12.2))))))))
def F_X9_read (l1 : Int32) (s : xS) : Option (Int32 × xS) := (F_X9_isSheet l1 s).bind fun v1 => (if v1 = 0 then (some ((-2 : Int32), s)) else (if l1 < 0 ∨ 4 ≤ l1.toNatClampNeg then none else (if (s.1 22 l1.toNatClampNeg) = 0 then ((F_X9_meets (1 : Int32) s).bind fun q6 => (some (q6.1, q6.2))) else ((xlp (F_X9_read_L27 l1) 100000 ((0 : Int32), s)).bind (fun b14 => (some (b14.1, b14.2)))))))
def F_X9_read_L27_hd (l1 : Int32) (a : Int32 × xS) : xT := Sum.inl (27, [(0, .ref 0), (1, .int l1), (2, .int a.1)], [], a.2)
def F_X9_read_L27_ex (l1 : Int32) : (Int32 × xS) → xT := (fun (z : Int32 × xS) => Sum.inl (82, [(2, .int z.1)], [], z.2))
set_option maxRecDepth 100000 in
theorem F_X9_read_L27_ok (l1 : Int32) (a : Int32 × xS) : xTr xMs xML xR_X9_read (F_X9_read_L27_hd l1 a) (F_X9_read_L27 l1 a) (xhx (F_X9_read_L27_hd l1) (F_X9_read_L27_ex l1)) := by
  unfold F_X9_read_L27
  refine xTr.ms 8 (g := (37, [(0, .ref 0), (1, .int l1), (2, .int a.1)], [.int l1, .ref 24, .int (((2 : Int32) * a.1) + (1 : Int32))], a.2)) rfl ?_
  refine xTr.ck (g := (38, [(0, .ref 0), (1, .int l1), (2, .int a.1)], [.int (a.2.1 24 l1.toNatClampNeg), .int (((2 : Int32) * a.1) + (1 : Int32))], a.2)) rfl (fun h7 => ?_)
  refine xTr.br (g1 := (82, [(0, .ref 0), (1, .int l1), (2, .int a.1)], [], a.2)) (g2 := (41, [(0, .ref 0), (1, .int l1), (2, .int a.1)], [], a.2)) rfl (fun h8 => ?_) (fun h8 => ?_)
  · refine xTr.mk (lv1 := [(2, .int a.1)]) rfl rfl ?_
    exact xTr.leaf rfl
  · refine xTr.ms 10 (g := (54, [(0, .ref 0), (1, .int l1), (2, .int a.1)], [.int (((60 : Int32) * l1) + ((2 : Int32) * a.1)), .ref 25, .ref 0], a.2)) rfl ?_
    refine xTr.ck (g := (55, [(0, .ref 0), (1, .int l1), (2, .int a.1)], [.int (a.2.1 25 ((((60 : Int32) * l1) + ((2 : Int32) * a.1))).toNatClampNeg), .ref 0], a.2)) rfl (fun h9 => ?_)
    refine xTr.ms 11 (g := (69, [(0, .ref 0), (1, .int l1), (2, .int a.1)], [.int ((((60 : Int32) * l1) + ((2 : Int32) * a.1)) + (1 : Int32)), .ref 25, .int (a.2.1 25 ((((60 : Int32) * l1) + ((2 : Int32) * a.1))).toNatClampNeg), .ref 0], a.2)) rfl ?_
    refine xTr.ck (g := (70, [(0, .ref 0), (1, .int l1), (2, .int a.1)], [.int (a.2.1 25 (((((60 : Int32) * l1) + ((2 : Int32) * a.1)) + (1 : Int32))).toNatClampNeg), .int (a.2.1 25 ((((60 : Int32) * l1) + ((2 : Int32) * a.1))).toNatClampNeg), .ref 0], a.2)) rfl (fun h10 => ?_)
    refine xTr.calli (R' := xR_X9_thunder) (as := [.ref 0, .int (a.2.1 25 ((((60 : Int32) * l1) + ((2 : Int32) * a.1))).toNatClampNeg), .int (a.2.1 25 (((((60 : Int32) * l1) + ((2 : Int32) * a.1)) + (1 : Int32))).toNatClampNeg)]) (lv := [(0, .ref 0), (1, .int l1), (2, .int a.1)]) (rest := []) (ok_X9_thunder (a.2.1 25 ((((60 : Int32) * l1) + ((2 : Int32) * a.1))).toNatClampNeg) (a.2.1 25 (((((60 : Int32) * l1) + ((2 : Int32) * a.1)) + (1 : Int32))).toNatClampNeg) a.2) rfl rfl rfl rfl rfl (fun v11 s11 => ?_)
    refine xTr.br (g1 := (82, [(0, .ref 0), (1, .int l1), (2, .int a.1)], [], s11)) (g2 := (76, [(0, .ref 0), (1, .int l1), (2, .int a.1)], [], s11)) rfl (fun h13 => ?_) (fun h13 => ?_)
    · refine xTr.mk (lv1 := [(2, .int a.1)]) rfl rfl ?_
      exact xTr.leaf rfl
    · refine xTr.ms 2 (g := (27, [(0, .ref 0), (1, .int l1), (2, .int (a.1 + (1 : Int32)))], [], s11)) rfl ?_
      exact xTr.leaf rfl
set_option maxRecDepth 100000 in
theorem ok_X9_read (l1 : Int32) (s : xS) : xTr xMs xML xR_X9_read (Sum.inl (0, [(0, .ref 0), (1, .int l1)], [], s)) (F_X9_read l1 s) (fun (y : Int32 × xS) => Sum.inr (some (.int y.1), y.2)) := by
  unfold F_X9_read
  refine xTr.ms 1 (g := (1, [(0, .ref 0), (1, .int l1)], [.int l1], s)) rfl ?_
  refine xTr.callip (R' := xR_X9_isSheet) (as := [.int l1]) (lv := [(0, .ref 0), (1, .int l1)]) (rest := []) (ok_X9_isSheet l1 s) rfl rfl rfl rfl rfl (fun v1 => ?_)
  refine xTr.br (g1 := (7, [(0, .ref 0), (1, .int l1)], [], s)) (g2 := (10, [(0, .ref 0), (1, .int l1)], [], s)) rfl (fun h2 => ?_) (fun h2 => ?_)
  · refine xTr.ms 1 (g := (9, [], [.int (-2 : Int32)], s)) rfl ?_
    exact xTr.ret rfl rfl rfl
  · refine xTr.ms 3 (g := (15, [(0, .ref 0), (1, .int l1)], [.int l1, .ref 22], s)) rfl ?_
    refine xTr.ck (g := (16, [(0, .ref 0), (1, .int l1)], [.int (s.1 22 l1.toNatClampNeg)], s)) rfl (fun h3 => ?_)
    refine xTr.br (g1 := (19, [(0, .ref 0), (1, .int l1)], [], s)) (g2 := (25, [(0, .ref 0), (1, .int l1)], [], s)) rfl (fun h4 => ?_) (fun h4 => ?_)
    · refine xTr.ms 2 (g := (21, [(0, .ref 0)], [.int (1 : Int32), .ref 0], s)) rfl ?_
      refine xTr.calli (R' := xR_X9_meets) (as := [.ref 0, .int (1 : Int32)]) (lv := [(0, .ref 0)]) (rest := []) (ok_X9_meets (1 : Int32) s) rfl rfl rfl rfl rfl (fun v5 s5 => ?_)
      exact xTr.ret rfl rfl rfl
    · refine xTr.ms 2 (g := (27, [(0, .ref 0), (1, .int l1), (2, .int (0 : Int32))], [], s)) rfl ?_
      refine xTr.bind (J := F_X9_read_L27_ex l1) (xTr.loop (hd := F_X9_read_L27_hd l1) (fun aa => F_X9_read_L27_ok l1 aa) 100000 ((0 : Int32), s)) (fun b14 => ?_)
      refine xTr.ms 1 (g := (83, [(2, .int b14.1)], [.int b14.1], b14.2)) rfl ?_
      exact xTr.ret rfl rfl rfl
-- X9_beside
def F_X9_beside (l1 : Int32) (l2 : Int32) (s : xS) : Option (Int32) := if l2 = 0 then ((F_X9_in (l1 - (s.1 0 2)) (0 : Int32) ((s.1 0 3) - (1 : Int32)) s).bind fun v2 => (if v2 = 0 then (some (-1 : Int32)) else (some (l1 - (s.1 0 2))))) else (if l2 = (1 : Int32) then (if (s.1 0 2) = 0 then none else (if ((s.1 0 2) - (1 : Int32)) ≤ (xrem l1 (s.1 0 2)) then ((F_X9_in (-1 : Int32) (0 : Int32) ((s.1 0 3) - (1 : Int32)) s).bind fun v7 => (if v7 = 0 then (some (-1 : Int32)) else (some (-1 : Int32)))) else ((F_X9_in (l1 + (1 : Int32)) (0 : Int32) ((s.1 0 3) - (1 : Int32)) s).bind fun v9 => (if v9 = 0 then (some (-1 : Int32)) else (some (l1 + (1 : Int32))))))) else (if l2 = (2 : Int32) then ((F_X9_in (l1 + (s.1 0 2)) (0 : Int32) ((s.1 0 3) - (1 : Int32)) s).bind fun v12 => (if v12 = 0 then (some (-1 : Int32)) else (some (l1 + (s.1 0 2))))) else (if (s.1 0 2) = 0 then none else (if (xrem l1 (s.1 0 2)) ≤ 0 then ((F_X9_in (-1 : Int32) (0 : Int32) ((s.1 0 3) - (1 : Int32)) s).bind fun v16 => (if v16 = 0 then (some (-1 : Int32)) else (some (-1 : Int32)))) else ((F_X9_in (l1 - (1 : Int32)) (0 : Int32) ((s.1 0 3) - (1 : Int32)) s).bind fun v18 => (if v18 = 0 then (some (-1 : Int32)) else (some (l1 - (1 : Int32)))))))))
set_option maxRecDepth 100000 in
theorem ok_X9_beside (l1 : Int32) (l2 : Int32) (s : xS) : xTr xMs xML xR_X9_beside (Sum.inl (0, [(0, .ref 0), (1, .int l1), (2, .int l2)], [], s)) (F_X9_beside l1 l2 s) (fun (y : Int32) => Sum.inr (some (.int y), s)) := by
  unfold F_X9_beside
  refine xTr.ms 1 (g := (1, [(0, .ref 0), (1, .int l1), (2, .int l2)], [.int l2], s)) rfl ?_
  refine xTr.br (g1 := (4, [(0, .ref 0), (1, .int l1), (2, .int l2)], [], s)) (g2 := (13, [(0, .ref 0), (1, .int l1), (2, .int l2)], [], s)) rfl (fun h1 => ?_) (fun h1 => ?_)
  · refine xTr.ms 12 (g := (82, [(0, .ref 0), (3, .int (l1 - (s.1 0 2)))], [.int ((s.1 0 3) - (1 : Int32)), .int (0 : Int32), .int (l1 - (s.1 0 2))], s)) rfl ?_
    refine xTr.callip (R' := xR_X9_in) (as := [.int (l1 - (s.1 0 2)), .int (0 : Int32), .int ((s.1 0 3) - (1 : Int32))]) (lv := [(0, .ref 0), (3, .int (l1 - (s.1 0 2)))]) (rest := []) (ok_X9_in (l1 - (s.1 0 2)) (0 : Int32) ((s.1 0 3) - (1 : Int32)) s) rfl rfl rfl rfl rfl (fun v2 => ?_)
    refine xTr.br (g1 := (92, [(0, .ref 0), (3, .int (l1 - (s.1 0 2)))], [], s)) (g2 := (88, [(0, .ref 0), (3, .int (l1 - (s.1 0 2)))], [], s)) rfl (fun h3 => ?_) (fun h3 => ?_)
    · refine xTr.ms 1 (g := (93, [], [.int (-1 : Int32)], s)) rfl ?_
      exact xTr.ret rfl rfl rfl
    · refine xTr.ms 2 (g := (93, [(3, .int (l1 - (s.1 0 2)))], [.int (l1 - (s.1 0 2))], s)) rfl ?_
      exact xTr.ret rfl rfl rfl
  · refine xTr.ms 2 (g := (15, [(0, .ref 0), (1, .int l1), (2, .int l2)], [.int (1 : Int32), .int l2], s)) rfl ?_
    refine xTr.br (g1 := (18, [(0, .ref 0), (1, .int l1), (2, .int l2)], [], s)) (g2 := (43, [(0, .ref 0), (1, .int l1), (2, .int l2)], [], s)) rfl (fun h4 => ?_) (fun h4 => ?_)
    · refine xTr.ms 3 (g := (23, [(0, .ref 0), (1, .int l1)], [.int (s.1 0 2), .int l1], s)) rfl ?_
      refine xTr.ck (g := (24, [(0, .ref 0), (1, .int l1)], [.int (xrem l1 (s.1 0 2))], s)) rfl (fun h5 => ?_)
      refine xTr.ms 4 (g := (30, [(0, .ref 0), (1, .int l1)], [.int ((s.1 0 2) - (1 : Int32)), .int (xrem l1 (s.1 0 2))], s)) rfl ?_
      refine xTr.br (g1 := (39, [(0, .ref 0), (1, .int l1)], [], s)) (g2 := (33, [(0, .ref 0), (1, .int l1)], [], s)) rfl (fun h6 => ?_) (fun h6 => ?_)
      · refine xTr.ms 9 (g := (82, [(0, .ref 0), (3, .int (-1 : Int32))], [.int ((s.1 0 3) - (1 : Int32)), .int (0 : Int32), .int (-1 : Int32)], s)) rfl ?_
        refine xTr.callip (R' := xR_X9_in) (as := [.int (-1 : Int32), .int (0 : Int32), .int ((s.1 0 3) - (1 : Int32))]) (lv := [(0, .ref 0), (3, .int (-1 : Int32))]) (rest := []) (ok_X9_in (-1 : Int32) (0 : Int32) ((s.1 0 3) - (1 : Int32)) s) rfl rfl rfl rfl rfl (fun v7 => ?_)
        refine xTr.br (g1 := (92, [(0, .ref 0), (3, .int (-1 : Int32))], [], s)) (g2 := (88, [(0, .ref 0), (3, .int (-1 : Int32))], [], s)) rfl (fun h8 => ?_) (fun h8 => ?_)
        · refine xTr.ms 1 (g := (93, [], [.int (-1 : Int32)], s)) rfl ?_
          exact xTr.ret rfl rfl rfl
        · refine xTr.ms 2 (g := (93, [(3, .int (-1 : Int32))], [.int (-1 : Int32)], s)) rfl ?_
          exact xTr.ret rfl rfl rfl
      · refine xTr.ms 11 (g := (82, [(0, .ref 0), (3, .int (l1 + (1 : Int32)))], [.int ((s.1 0 3) - (1 : Int32)), .int (0 : Int32), .int (l1 + (1 : Int32))], s)) rfl ?_
        refine xTr.callip (R' := xR_X9_in) (as := [.int (l1 + (1 : Int32)), .int (0 : Int32), .int ((s.1 0 3) - (1 : Int32))]) (lv := [(0, .ref 0), (3, .int (l1 + (1 : Int32)))]) (rest := []) (ok_X9_in (l1 + (1 : Int32)) (0 : Int32) ((s.1 0 3) - (1 : Int32)) s) rfl rfl rfl rfl rfl (fun v9 => ?_)
        refine xTr.br (g1 := (92, [(0, .ref 0), (3, .int (l1 + (1 : Int32)))], [], s)) (g2 := (88, [(0, .ref 0), (3, .int (l1 + (1 : Int32)))], [], s)) rfl (fun h10 => ?_) (fun h10 => ?_)
        · refine xTr.ms 1 (g := (93, [], [.int (-1 : Int32)], s)) rfl ?_
          exact xTr.ret rfl rfl rfl
        · refine xTr.ms 2 (g := (93, [(3, .int (l1 + (1 : Int32)))], [.int (l1 + (1 : Int32))], s)) rfl ?_
          exact xTr.ret rfl rfl rfl
    · refine xTr.ms 2 (g := (45, [(0, .ref 0), (1, .int l1), (2, .int l2)], [.int (2 : Int32), .int l2], s)) rfl ?_
      refine xTr.br (g1 := (48, [(0, .ref 0), (1, .int l1), (2, .int l2)], [], s)) (g2 := (57, [(0, .ref 0), (1, .int l1), (2, .int l2)], [], s)) rfl (fun h11 => ?_) (fun h11 => ?_)
      · refine xTr.ms 12 (g := (82, [(0, .ref 0), (3, .int (l1 + (s.1 0 2)))], [.int ((s.1 0 3) - (1 : Int32)), .int (0 : Int32), .int (l1 + (s.1 0 2))], s)) rfl ?_
        refine xTr.callip (R' := xR_X9_in) (as := [.int (l1 + (s.1 0 2)), .int (0 : Int32), .int ((s.1 0 3) - (1 : Int32))]) (lv := [(0, .ref 0), (3, .int (l1 + (s.1 0 2)))]) (rest := []) (ok_X9_in (l1 + (s.1 0 2)) (0 : Int32) ((s.1 0 3) - (1 : Int32)) s) rfl rfl rfl rfl rfl (fun v12 => ?_)
        refine xTr.br (g1 := (92, [(0, .ref 0), (3, .int (l1 + (s.1 0 2)))], [], s)) (g2 := (88, [(0, .ref 0), (3, .int (l1 + (s.1 0 2)))], [], s)) rfl (fun h13 => ?_) (fun h13 => ?_)
        · refine xTr.ms 1 (g := (93, [], [.int (-1 : Int32)], s)) rfl ?_
          exact xTr.ret rfl rfl rfl
        · refine xTr.ms 2 (g := (93, [(3, .int (l1 + (s.1 0 2)))], [.int (l1 + (s.1 0 2))], s)) rfl ?_
          exact xTr.ret rfl rfl rfl
      · refine xTr.ms 3 (g := (62, [(0, .ref 0), (1, .int l1)], [.int (s.1 0 2), .int l1], s)) rfl ?_
        refine xTr.ck (g := (63, [(0, .ref 0), (1, .int l1)], [.int (xrem l1 (s.1 0 2))], s)) rfl (fun h14 => ?_)
        refine xTr.br (g1 := (72, [(0, .ref 0), (1, .int l1)], [], s)) (g2 := (66, [(0, .ref 0), (1, .int l1)], [], s)) rfl (fun h15 => ?_) (fun h15 => ?_)
        · refine xTr.ms 8 (g := (82, [(0, .ref 0), (3, .int (-1 : Int32))], [.int ((s.1 0 3) - (1 : Int32)), .int (0 : Int32), .int (-1 : Int32)], s)) rfl ?_
          refine xTr.callip (R' := xR_X9_in) (as := [.int (-1 : Int32), .int (0 : Int32), .int ((s.1 0 3) - (1 : Int32))]) (lv := [(0, .ref 0), (3, .int (-1 : Int32))]) (rest := []) (ok_X9_in (-1 : Int32) (0 : Int32) ((s.1 0 3) - (1 : Int32)) s) rfl rfl rfl rfl rfl (fun v16 => ?_)
          refine xTr.br (g1 := (92, [(0, .ref 0), (3, .int (-1 : Int32))], [], s)) (g2 := (88, [(0, .ref 0), (3, .int (-1 : Int32))], [], s)) rfl (fun h17 => ?_) (fun h17 => ?_)
          · refine xTr.ms 1 (g := (93, [], [.int (-1 : Int32)], s)) rfl ?_
            exact xTr.ret rfl rfl rfl
          · refine xTr.ms 2 (g := (93, [(3, .int (-1 : Int32))], [.int (-1 : Int32)], s)) rfl ?_
            exact xTr.ret rfl rfl rfl
        · refine xTr.ms 11 (g := (82, [(0, .ref 0), (3, .int (l1 - (1 : Int32)))], [.int ((s.1 0 3) - (1 : Int32)), .int (0 : Int32), .int (l1 - (1 : Int32))], s)) rfl ?_
          refine xTr.callip (R' := xR_X9_in) (as := [.int (l1 - (1 : Int32)), .int (0 : Int32), .int ((s.1 0 3) - (1 : Int32))]) (lv := [(0, .ref 0), (3, .int (l1 - (1 : Int32)))]) (rest := []) (ok_X9_in (l1 - (1 : Int32)) (0 : Int32) ((s.1 0 3) - (1 : Int32)) s) rfl rfl rfl rfl rfl (fun v18 => ?_)
          refine xTr.br (g1 := (92, [(0, .ref 0), (3, .int (l1 - (1 : Int32)))], [], s)) (g2 := (88, [(0, .ref 0), (3, .int (l1 - (1 : Int32)))], [], s)) rfl (fun h19 => ?_) (fun h19 => ?_)
          · refine xTr.ms 1 (g := (93, [], [.int (-1 : Int32)], s)) rfl ?_
            exact xTr.ret rfl rfl rfl
          · refine xTr.ms 2 (g := (93, [(3, .int (l1 - (1 : Int32)))], [.int (l1 - (1 : Int32))], s)) rfl ?_
            exact xTr.ret rfl rfl rfl
