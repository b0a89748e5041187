-- X9_feltBy
def F_X9_feltBy_L17 (a : Int32 × xS) : Option ((Int32 × xS) ⊕ ((xS) ⊕ (xS))) := if (a.2.1 0 3) ≤ a.1 then (some (Sum.inr (Sum.inr a.2))) else ((F_X9_isStill a.1 (-1 : Int32) (xu a.2 15 0 a.1)).bind fun q8 => (if q8.1 = 0 then (some (Sum.inl ((a.1 + (1 : Int32)), q8.2))) else (some (Sum.inr (Sum.inl q8.2)))))
def F_X9_feltBy_L63 (l1 : Int32) (a : Int32 × xS) : Option ((Int32 × xS) ⊕ ((xS) ⊕ (xS))) := if (a.2.1 0 3) ≤ a.1 then (some (Sum.inr (Sum.inr a.2))) else ((F_X9_isStill l1 a.1 (xu (xu a.2 15 0 l1) 15 1 a.1)).bind fun q14 => (if q14.1 = 0 then (some (Sum.inl ((a.1 + (1 : Int32)), q14.2))) else (some (Sum.inr (Sum.inl q14.2)))))
def F_X9_feltBy_L51 (a : Int32 × xS) : Option ((Int32 × xS) ⊕ ((xS) ⊕ (xS))) := if (a.2.1 0 3) ≤ a.1 then (some (Sum.inr (Sum.inr a.2))) else ((xlp (F_X9_feltBy_L63 a.1) 100000 ((a.1 + (1 : Int32)), a.2)).bind (Sum.elim (fun b16_0 => (some (Sum.inr (Sum.inl b16_0)))) (fun b16_1 => (some (Sum.inl ((a.1 + (1 : Int32)), b16_1))))))
def F_X9_feltBy (s : xS) : Option (Int32 × xS) := (F_X9_asTold s).bind fun s2 => ((F_X9_isStill (-1 : Int32) (-1 : Int32) s2).bind fun q4 => (if q4.1 = 0 then ((xlp (F_X9_feltBy_L17) 100000 ((0 : Int32), q4.2)).bind (Sum.elim (fun b10_0 => (some ((1 : Int32), b10_0))) (fun b10_1 => ((xlp (F_X9_feltBy_L51) 100000 ((0 : Int32), b10_1)).bind (Sum.elim (fun b17_0 => (some ((2 : Int32), b17_0))) (fun b17_1 => (some ((-1 : Int32), b17_1)))))))) else (some ((0 : Int32), q4.2))))
def F_X9_feltBy_L17_hd (a : Int32 × xS) : xT := Sum.inl (17, [(0, .ref 0), (1, .int a.1)], [], a.2)
def F_X9_feltBy_L17_ex : ((xS) ⊕ (xS)) → xT := (Sum.elim (fun (z : xS) => Sum.inl (41, [], [], z)) (fun (z : xS) => Sum.inl (49, [(0, .ref 0)], [], z)))
set_option maxRecDepth 100000 in
theorem F_X9_feltBy_L17_ok (a : Int32 × xS) : xTr xMs xML xR_X9_feltBy (F_X9_feltBy_L17_hd a) (F_X9_feltBy_L17 a) (xhx (F_X9_feltBy_L17_hd) (F_X9_feltBy_L17_ex)) := by
  unfold F_X9_feltBy_L17
  refine xTr.ms 3 (g := (22, [(0, .ref 0), (1, .int a.1)], [.int (a.2.1 0 3), .int a.1], a.2)) rfl ?_
  refine xTr.br (g1 := (49, [(0, .ref 0), (1, .int a.1)], [], a.2)) (g2 := (25, [(0, .ref 0), (1, .int a.1)], [], a.2)) rfl (fun h6 => ?_) (fun h6 => ?_)
  · refine xTr.mk (lv1 := [(0, .ref 0)]) rfl rfl ?_
    exact xTr.leaf rfl
  · refine xTr.ms 8 (g := (35, [(0, .ref 0), (1, .int a.1)], [.int (-1 : Int32), .int a.1, .ref 0], (xu a.2 15 0 a.1))) rfl ?_
    refine xTr.calli (R' := xR_X9_isStill) (as := [.ref 0, .int a.1, .int (-1 : Int32)]) (lv := [(0, .ref 0), (1, .int a.1)]) (rest := []) (ok_X9_isStill a.1 (-1 : Int32) (xu a.2 15 0 a.1)) rfl rfl rfl rfl rfl (fun v7 s7 => ?_)
    refine xTr.br (g1 := (43, [(0, .ref 0), (1, .int a.1)], [], s7)) (g2 := (41, [(0, .ref 0), (1, .int a.1)], [], s7)) rfl (fun h9 => ?_) (fun h9 => ?_)
    · refine xTr.ms 2 (g := (17, [(0, .ref 0), (1, .int (a.1 + (1 : Int32)))], [], s7)) rfl ?_
      exact xTr.leaf rfl
    · refine xTr.mk (lv1 := []) rfl rfl ?_
      exact xTr.leaf rfl
def F_X9_feltBy_L51_hd (a : Int32 × xS) : xT := Sum.inl (51, [(0, .ref 0), (1, .int a.1)], [], a.2)
def F_X9_feltBy_L51_ex : ((xS) ⊕ (xS)) → xT := (Sum.elim (fun (z : xS) => Sum.inl (94, [], [], z)) (fun (z : xS) => Sum.inl (108, [], [], z)))
def F_X9_feltBy_L63_hd (l1 : Int32) (a : Int32 × xS) : xT := Sum.inl (63, [(0, .ref 0), (1, .int l1), (2, .int a.1)], [], a.2)
def F_X9_feltBy_L63_ex (l1 : Int32) : ((xS) ⊕ (xS)) → xT := (Sum.elim (fun (z : xS) => Sum.inl (94, [], [], z)) (fun (z : xS) => Sum.inl (102, [(0, .ref 0), (1, .int l1)], [], z)))
set_option maxRecDepth 100000 in
theorem F_X9_feltBy_L63_ok (l1 : Int32) (a : Int32 × xS) : xTr xMs xML xR_X9_feltBy (F_X9_feltBy_L63_hd l1 a) (F_X9_feltBy_L63 l1 a) (xhx (F_X9_feltBy_L63_hd l1) (F_X9_feltBy_L63_ex l1)) := by
  unfold F_X9_feltBy_L63
  refine xTr.ms 3 (g := (68, [(0, .ref 0), (1, .int l1), (2, .int a.1)], [.int (a.2.1 0 3), .int a.1], a.2)) rfl ?_
  refine xTr.br (g1 := (102, [(0, .ref 0), (1, .int l1), (2, .int a.1)], [], a.2)) (g2 := (71, [(0, .ref 0), (1, .int l1), (2, .int a.1)], [], a.2)) rfl (fun h12 => ?_) (fun h12 => ?_)
  · refine xTr.mk (lv1 := [(0, .ref 0), (1, .int l1)]) rfl rfl ?_
    exact xTr.leaf rfl
  · refine xTr.ms 13 (g := (88, [(0, .ref 0), (1, .int l1), (2, .int a.1)], [.int a.1, .int l1, .ref 0], (xu (xu a.2 15 0 l1) 15 1 a.1))) rfl ?_
    refine xTr.calli (R' := xR_X9_isStill) (as := [.ref 0, .int l1, .int a.1]) (lv := [(0, .ref 0), (1, .int l1), (2, .int a.1)]) (rest := []) (ok_X9_isStill l1 a.1 (xu (xu a.2 15 0 l1) 15 1 a.1)) rfl rfl rfl rfl rfl (fun v13 s13 => ?_)
    refine xTr.br (g1 := (96, [(0, .ref 0), (1, .int l1), (2, .int a.1)], [], s13)) (g2 := (94, [(0, .ref 0), (1, .int l1), (2, .int a.1)], [], s13)) rfl (fun h15 => ?_) (fun h15 => ?_)
    · refine xTr.ms 2 (g := (63, [(0, .ref 0), (1, .int l1), (2, .int (a.1 + (1 : Int32)))], [], s13)) rfl ?_
      exact xTr.leaf rfl
    · refine xTr.mk (lv1 := []) rfl rfl ?_
      exact xTr.leaf rfl
set_option maxRecDepth 100000 in
theorem F_X9_feltBy_L51_ok (a : Int32 × xS) : xTr xMs xML xR_X9_feltBy (F_X9_feltBy_L51_hd a) (F_X9_feltBy_L51 a) (xhx (F_X9_feltBy_L51_hd) (F_X9_feltBy_L51_ex)) := by
  unfold F_X9_feltBy_L51
  refine xTr.ms 3 (g := (56, [(0, .ref 0), (1, .int a.1)], [.int (a.2.1 0 3), .int a.1], a.2)) rfl ?_
  refine xTr.br (g1 := (108, [(0, .ref 0), (1, .int a.1)], [], a.2)) (g2 := (59, [(0, .ref 0), (1, .int a.1)], [], a.2)) rfl (fun h11 => ?_) (fun h11 => ?_)
  · refine xTr.mk (lv1 := []) rfl rfl ?_
    exact xTr.leaf rfl
  · refine xTr.ms 4 (g := (63, [(0, .ref 0), (1, .int a.1), (2, .int (a.1 + (1 : Int32)))], [], a.2)) rfl ?_
    refine xTr.bind (J := F_X9_feltBy_L63_ex a.1) (xTr.loop (hd := F_X9_feltBy_L63_hd a.1) (fun aa => F_X9_feltBy_L63_ok a.1 aa) 100000 ((a.1 + (1 : Int32)), a.2)) (fun b16 => ?_)
    rcases b16 with b16_0 | b16_1
    · exact xTr.leaf rfl
    · refine xTr.ms 2 (g := (51, [(0, .ref 0), (1, .int (a.1 + (1 : Int32)))], [], b16_1)) rfl ?_
      exact xTr.leaf rfl
set_option maxRecDepth 100000 in
theorem ok_X9_feltBy (s : xS) : xTr xMs xML xR_X9_feltBy (Sum.inl (0, [(0, .ref 0)], [], s)) (F_X9_feltBy s) (fun (y : Int32 × xS) => Sum.inr (some (.int y.1), y.2)) := by
  unfold F_X9_feltBy
  refine xTr.ms 1 (g := (1, [(0, .ref 0)], [.ref 0], s)) rfl ?_
  refine xTr.callv (R' := xR_X9_asTold) (as := [.ref 0]) (lv := [(0, .ref 0)]) (rest := []) (ok_X9_asTold s) rfl rfl rfl rfl rfl (fun s2 => ?_)
  refine xTr.ms 3 (g := (7, [(0, .ref 0)], [.int (-1 : Int32), .int (-1 : Int32), .ref 0], s2)) rfl ?_
  refine xTr.calli (R' := xR_X9_isStill) (as := [.ref 0, .int (-1 : Int32), .int (-1 : Int32)]) (lv := [(0, .ref 0)]) (rest := []) (ok_X9_isStill (-1 : Int32) (-1 : Int32) s2) rfl rfl rfl rfl rfl (fun v3 s3 => ?_)
  refine xTr.br (g1 := (15, [(0, .ref 0)], [], s3)) (g2 := (13, [(0, .ref 0)], [], s3)) rfl (fun h5 => ?_) (fun h5 => ?_)
  · refine xTr.ms 2 (g := (17, [(0, .ref 0), (1, .int (0 : Int32))], [], s3)) rfl ?_
    refine xTr.bind (J := F_X9_feltBy_L17_ex) (xTr.loop (hd := F_X9_feltBy_L17_hd) (fun aa => F_X9_feltBy_L17_ok aa) 100000 ((0 : Int32), s3)) (fun b10 => ?_)
    rcases b10 with b10_0 | b10_1
    · refine xTr.ms 1 (g := (42, [], [.int (1 : Int32)], b10_0)) rfl ?_
      exact xTr.ret rfl rfl rfl
    · refine xTr.ms 2 (g := (51, [(0, .ref 0), (1, .int (0 : Int32))], [], b10_1)) rfl ?_
      refine xTr.bind (J := F_X9_feltBy_L51_ex) (xTr.loop (hd := F_X9_feltBy_L51_hd) (fun aa => F_X9_feltBy_L51_ok aa) 100000 ((0 : Int32), b10_1)) (fun b17 => ?_)
      rcases b17 with b17_0 | b17_1
      · refine xTr.ms 1 (g := (95, [], [.int (2 : Int32)], b17_0)) rfl ?_
        exact xTr.ret rfl rfl rfl
      · refine xTr.ms 1 (g := (109, [], [.int (-1 : Int32)], b17_1)) rfl ?_
        exact xTr.ret rfl rfl rfl
  · refine xTr.ms 1 (g := (14, [], [.int (0 : Int32)], s3)) rfl ?_
    exact xTr.ret rfl rfl rfl
-- X9_ofRow
def F_X9_ofRow (l1 : Int32) (l2 : Int32) (s : xS) : Option (Int32) := if l2 = (-1 : Int32) then (some l1) else (if l1 ≤ l2 then (some (-1 : Int32)) else (if l2 < 0 ∨ 2 ≤ l2.toNatClampNeg then none else (some (s.1 15 l2.toNatClampNeg))))
set_option maxRecDepth 100000 in
theorem ok_X9_ofRow (l1 : Int32) (l2 : Int32) (s : xS) : xTr xMs xML xR_X9_ofRow (Sum.inl (0, [(0, .ref 0), (1, .int l1), (2, .int l2)], [], s)) (F_X9_ofRow l1 l2 s) (fun (y : Int32) => Sum.inr (some (.int y), s)) := by
  unfold F_X9_ofRow
  refine xTr.ms 2 (g := (2, [(0, .ref 0), (1, .int l1), (2, .int l2)], [.int (-1 : Int32), .int l2], s)) rfl ?_
  refine xTr.br (g1 := (5, [(0, .ref 0), (1, .int l1), (2, .int l2)], [], s)) (g2 := (9, [(0, .ref 0), (1, .int l1), (2, .int l2)], [], s)) rfl (fun h1 => ?_) (fun h1 => ?_)
  · refine xTr.ms 2 (g := (24, [(1, .int l1)], [.int l1], s)) rfl ?_
    exact xTr.ret rfl rfl rfl
  · refine xTr.ms 2 (g := (11, [(0, .ref 0), (1, .int l1), (2, .int l2)], [.int l1, .int l2], s)) rfl ?_
    refine xTr.br (g1 := (23, [(0, .ref 0), (1, .int l1), (2, .int l2)], [], s)) (g2 := (14, [(0, .ref 0), (1, .int l1), (2, .int l2)], [], s)) rfl (fun h2 => ?_) (fun h2 => ?_)
    · refine xTr.ms 1 (g := (24, [], [.int (-1 : Int32)], s)) rfl ?_
      exact xTr.ret rfl rfl rfl
    · refine xTr.ms 3 (g := (19, [(0, .ref 0), (2, .int l2)], [.int l2, .ref 15], s)) rfl ?_
      refine xTr.ck (g := (20, [(0, .ref 0), (2, .int l2)], [.int (s.1 15 l2.toNatClampNeg)], s)) rfl (fun h3 => ?_)
      refine xTr.ms 1 (g := (24, [(0, .ref 0), (2, .int l2)], [.int (s.1 15 l2.toNatClampNeg)], s)) rfl ?_
      exact xTr.ret rfl rfl rfl
-- X9_felt
def F_X9_felt (l1 : Int32) (s : xS) : Option (Int32 × xS) := (F_X9_in l1 (-1 : Int32) (1 : Int32) s).bind fun v1 => (if v1 = 0 then (some ((-2 : Int32), s)) else ((F_X9_feltBy s).bind fun q4 => ((F_X9_ofRow q4.1 l1 q4.2).bind fun v5 => (some (v5, q4.2)))))
set_option maxRecDepth 100000 in
theorem ok_X9_felt (l1 : Int32) (s : xS) : xTr xMs xML xR_X9_felt (Sum.inl (0, [(0, .ref 0), (1, .int l1)], [], s)) (F_X9_felt l1 s) (fun (y : Int32 × xS) => Sum.inr (some (.int y.1), y.2)) := by
  unfold F_X9_felt
  refine xTr.ms 3 (g := (3, [(0, .ref 0), (1, .int l1)], [.int (1 : Int32), .int (-1 : Int32), .int l1], s)) rfl ?_
  refine xTr.callip (R' := xR_X9_in) (as := [.int l1, .int (-1 : Int32), .int (1 : Int32)]) (lv := [(0, .ref 0), (1, .int l1)]) (rest := []) (ok_X9_in l1 (-1 : Int32) (1 : Int32) s) rfl rfl rfl rfl rfl (fun v1 => ?_)
  refine xTr.br (g1 := (21, [(0, .ref 0), (1, .int l1)], [], s)) (g2 := (9, [(0, .ref 0), (1, .int l1)], [], s)) rfl (fun h2 => ?_) (fun h2 => ?_)
  · refine xTr.ms 1 (g := (23, [], [.int (-2 : Int32)], s)) rfl ?_
    exact xTr.ret rfl rfl rfl
  · refine xTr.ms 2 (g := (11, [(0, .ref 0), (1, .int l1)], [.ref 0, .ref 0], s)) rfl ?_
    refine xTr.calli (R' := xR_X9_feltBy) (as := [.ref 0]) (lv := [(0, .ref 0), (1, .int l1)]) (rest := [.ref 0]) (ok_X9_feltBy s) rfl rfl rfl rfl rfl (fun v3 s3 => ?_)
    refine xTr.ms 1 (g := (15, [(0, .ref 0), (1, .int l1)], [.int l1, .int v3, .ref 0], s3)) rfl ?_
    refine xTr.callip (R' := xR_X9_ofRow) (as := [.ref 0, .int v3, .int l1]) (lv := [(0, .ref 0), (1, .int l1)]) (rest := []) (ok_X9_ofRow v3 l1 s3) rfl rfl rfl rfl rfl (fun v5 => ?_)
    refine xTr.ms 1 (g := (23, [(0, .ref 0), (1, .int l1)], [.int v5], s3)) rfl ?_
    exact xTr.ret rfl rfl rfl
-- X9_layOf
def F_X9_layOf_L17_J103 (l1 : Int32) (l2 : Int32) (j3 : Int32) (j4 : Int32) (j5 : Int32) (t0 : Int32) (js : xS) : Option ((Int32 × Int32 × Int32 × xS) ⊕ (Int32 × Int32 × xS)) := if t0 ≤ j4 then (if t0 ≤ j4 then (some (Sum.inl (j3, j4, (j5 + (1 : Int32)), js))) else (some (Sum.inl (j3, t0, (j5 + (1 : Int32)), js)))) else (if t0 ≤ j4 then (some (Sum.inl (j5, j4, (j5 + (1 : Int32)), js))) else (some (Sum.inl (j5, t0, (j5 + (1 : Int32)), js))))
def F_X9_layOf_L17_J86 (l1 : Int32) (l2 : Int32) (j3 : Int32) (j4 : Int32) (j5 : Int32) (js : xS) : Option ((Int32 × Int32 × Int32 × xS) ⊕ (Int32 × Int32 × xS)) := if (js.1 0 20) = (-1 : Int32) then (F_X9_layOf_L17_J103 l1 l2 j3 j4 j5 (10 : Int32) js) else (F_X9_layOf_L17_J103 l1 l2 j3 j4 j5 (js.1 0 20) js)
def F_X9_layOf_L17_J54 (l1 : Int32) (l2 : Int32) (j3 : Int32) (j4 : Int32) (j5 : Int32) (js : xS) : Option ((Int32 × Int32 × Int32 × xS) ⊕ (Int32 × Int32 × xS)) := if j5 < 0 ∨ 37 ≤ j5.toNatClampNeg then none else ((F_X9_runs (xu js 3 j5.toNatClampNeg (3 : Int32))).bind fun s11 => (if j5 < 0 ∨ 37 ≤ j5.toNatClampNeg then none else (if l2 = (-1 : Int32) then (F_X9_layOf_L17_J86 l1 l2 j3 j4 j5 (xu s11 3 j5.toNatClampNeg (0 : Int32))) else (if l2 < 0 ∨ 37 ≤ l2.toNatClampNeg then none else (F_X9_layOf_L17_J86 l1 l2 j3 j4 j5 (xu (xu s11 3 j5.toNatClampNeg (0 : Int32)) 3 l2.toNatClampNeg (3 : Int32)))))))
def F_X9_layOf_L17 (l1 : Int32) (l2 : Int32) (a : Int32 × Int32 × Int32 × xS) : Option ((Int32 × Int32 × Int32 × xS) ⊕ (Int32 × Int32 × xS)) := if (a.2.2.2.1 0 3) ≤ a.2.2.1 then (some (Sum.inr (a.1, a.2.1, a.2.2.2))) else (if a.2.2.1 < 0 ∨ 37 ≤ a.2.2.1.toNatClampNeg then none else (if (a.2.2.2.1 3 a.2.2.1.toNatClampNeg) = 0 then (if a.2.2.1 = l2 then (some (Sum.inl (a.1, a.2.1, (a.2.2.1 + (1 : Int32)), a.2.2.2))) else (if l2 = (-1 : Int32) then (F_X9_layOf_L17_J54 l1 l2 a.1 a.2.1 a.2.2.1 a.2.2.2) else (if l2 < 0 ∨ 37 ≤ l2.toNatClampNeg then none else (F_X9_layOf_L17_J54 l1 l2 a.1 a.2.1 a.2.2.1 (xu a.2.2.2 3 l2.toNatClampNeg (0 : Int32)))))) else (some (Sum.inl (a.1, a.2.1, (a.2.2.1 + (1 : Int32)), a.2.2.2)))))
def F_X9_layOf (l1 : Int32) (s : xS) : Option (Int32 × xS) := (F_X9_asTold s).bind fun s2 => ((F_X9_bedNow s2).bind fun v3 => ((xlp (F_X9_layOf_L17 l1 v3) 100000 ((-1 : Int32), (-1 : Int32), (0 : Int32), s2)).bind (fun b20 => (if l1 = 0 then (some (b20.1, b20.2.2)) else (if b20.2.1 = (10 : Int32) then (some ((-1 : Int32), b20.2.2)) else (some (b20.2.1, b20.2.2)))))))
def F_X9_layOf_L17_hd (l1 : Int32) (l2 : Int32) (a : Int32 × Int32 × Int32 × xS) : xT := Sum.inl (17, [(0, .ref 0), (1, .int l1), (2, .int l2), (3, .int a.1), (4, .int a.2.1), (5, .int a.2.2.1)], [], a.2.2.2)
def F_X9_layOf_L17_ex (l1 : Int32) (l2 : Int32) : (Int32 × Int32 × xS) → xT := (fun (z : Int32 × Int32 × xS) => Sum.inl (141, [(1, .int l1), (3, .int z.1), (4, .int z.2.1)], [], z.2.2))
set_option maxRecDepth 100000 in
theorem F_X9_layOf_L17_J103_ok (l1 : Int32) (l2 : Int32) (j3 : Int32) (j4 : Int32) (j5 : Int32) (t0 : Int32) (js : xS) : xTr xMs xML xR_X9_layOf (Sum.inl (103, [(0, .ref 0), (1, .int l1), (2, .int l2), (3, .int j3), (4, .int j4), (5, .int j5)], [.int t0], js)) (F_X9_layOf_L17_J103 l1 l2 j3 j4 j5 t0 js) (xhx (F_X9_layOf_L17_hd l1 l2) (F_X9_layOf_L17_ex l1 l2)) := by
  unfold F_X9_layOf_L17_J103
  refine xTr.ms 3 (g := (109, [(0, .ref 0), (1, .int l1), (2, .int l2), (3, .int j3), (4, .int j4), (5, .int j5), (6, .int t0)], [.int j4, .int t0], js)) rfl ?_
  refine xTr.br (g1 := (117, [(0, .ref 0), (1, .int l1), (2, .int l2), (3, .int j3), (4, .int j4), (5, .int j5), (6, .int t0)], [], js)) (g2 := (112, [(0, .ref 0), (1, .int l1), (2, .int l2), (3, .int j3), (4, .int j4), (5, .int j5), (6, .int t0)], [], js)) rfl (fun h15 => ?_) (fun h15 => ?_)
  · refine xTr.ms 4 (g := (123, [(0, .ref 0), (1, .int l1), (2, .int l2), (3, .int j3), (4, .int j4), (5, .int j5), (6, .int t0)], [.int j4, .int t0], js)) rfl ?_
    refine xTr.br (g1 := (131, [(0, .ref 0), (1, .int l1), (2, .int l2), (3, .int j3), (4, .int j4), (5, .int j5), (6, .int t0)], [], js)) (g2 := (126, [(0, .ref 0), (1, .int l1), (2, .int l2), (3, .int j3), (4, .int j4), (5, .int j5), (6, .int t0)], [], js)) rfl (fun h16 => ?_) (fun h16 => ?_)
    · refine xTr.ms 4 (g := (17, [(0, .ref 0), (1, .int l1), (2, .int l2), (3, .int j3), (4, .int j4), (5, .int (j5 + (1 : Int32)))], [], js)) rfl ?_
      exact xTr.leaf rfl
    · refine xTr.ms 5 (g := (17, [(0, .ref 0), (1, .int l1), (2, .int l2), (3, .int j3), (4, .int t0), (5, .int (j5 + (1 : Int32)))], [], js)) rfl ?_
      exact xTr.leaf rfl
  · refine xTr.ms 5 (g := (123, [(0, .ref 0), (1, .int l1), (2, .int l2), (3, .int j5), (4, .int j4), (5, .int j5), (6, .int t0)], [.int j4, .int t0], js)) rfl ?_
    refine xTr.br (g1 := (131, [(0, .ref 0), (1, .int l1), (2, .int l2), (3, .int j5), (4, .int j4), (5, .int j5), (6, .int t0)], [], js)) (g2 := (126, [(0, .ref 0), (1, .int l1), (2, .int l2), (3, .int j5), (4, .int j4), (5, .int j5), (6, .int t0)], [], js)) rfl (fun h17 => ?_) (fun h17 => ?_)
    · refine xTr.ms 4 (g := (17, [(0, .ref 0), (1, .int l1), (2, .int l2), (3, .int j5), (4, .int j4), (5, .int (j5 + (1 : Int32)))], [], js)) rfl ?_
      exact xTr.leaf rfl
    · refine xTr.ms 5 (g := (17, [(0, .ref 0), (1, .int l1), (2, .int l2), (3, .int j5), (4, .int t0), (5, .int (j5 + (1 : Int32)))], [], js)) rfl ?_
      exact xTr.leaf rfl
set_option maxRecDepth 100000 in
theorem F_X9_layOf_L17_J86_ok (l1 : Int32) (l2 : Int32) (j3 : Int32) (j4 : Int32) (j5 : Int32) (js : xS) : xTr xMs xML xR_X9_layOf (Sum.inl (86, [(0, .ref 0), (1, .int l1), (2, .int l2), (3, .int j3), (4, .int j4), (5, .int j5)], [], js)) (F_X9_layOf_L17_J86 l1 l2 j3 j4 j5 js) (xhx (F_X9_layOf_L17_hd l1 l2) (F_X9_layOf_L17_ex l1 l2)) := by
  unfold F_X9_layOf_L17_J86
  refine xTr.ms 3 (g := (91, [(0, .ref 0), (1, .int l1), (2, .int l2), (3, .int j3), (4, .int j4), (5, .int j5)], [.int (-1 : Int32), .int (js.1 0 20)], js)) rfl ?_
  refine xTr.br (g1 := (94, [(0, .ref 0), (1, .int l1), (2, .int l2), (3, .int j3), (4, .int j4), (5, .int j5)], [], js)) (g2 := (99, [(0, .ref 0), (1, .int l1), (2, .int l2), (3, .int j3), (4, .int j4), (5, .int j5)], [], js)) rfl (fun h14 => ?_) (fun h14 => ?_)
  · refine xTr.ms 2 (g := (103, [(0, .ref 0), (1, .int l1), (2, .int l2), (3, .int j3), (4, .int j4), (5, .int j5)], [.int (10 : Int32)], js)) rfl ?_
    exact F_X9_layOf_L17_J103_ok l1 l2 j3 j4 j5 (10 : Int32) js
  · refine xTr.ms 2 (g := (103, [(0, .ref 0), (1, .int l1), (2, .int l2), (3, .int j3), (4, .int j4), (5, .int j5)], [.int (js.1 0 20)], js)) rfl ?_
    exact F_X9_layOf_L17_J103_ok l1 l2 j3 j4 j5 (js.1 0 20) js
set_option maxRecDepth 100000 in
theorem F_X9_layOf_L17_J54_ok (l1 : Int32) (l2 : Int32) (j3 : Int32) (j4 : Int32) (j5 : Int32) (js : xS) : xTr xMs xML xR_X9_layOf (Sum.inl (54, [(0, .ref 0), (1, .int l1), (2, .int l2), (3, .int j3), (4, .int j4), (5, .int j5)], [], js)) (F_X9_layOf_L17_J54 l1 l2 j3 j4 j5 js) (xhx (F_X9_layOf_L17_hd l1 l2) (F_X9_layOf_L17_ex l1 l2)) := by
  unfold F_X9_layOf_L17_J54
  refine xTr.ms 4 (g := (61, [(0, .ref 0), (1, .int l1), (2, .int l2), (3, .int j3), (4, .int j4), (5, .int j5)], [.int (3 : Int32), .int j5, .ref 3], js)) rfl ?_
  refine xTr.ck (g := (62, [(0, .ref 0), (1, .int l1), (2, .int l2), (3, .int j3), (4, .int j4), (5, .int j5)], [], (xu js 3 j5.toNatClampNeg (3 : Int32)))) rfl (fun h9 => ?_)
  refine xTr.ms 1 (g := (63, [(0, .ref 0), (1, .int l1), (2, .int l2), (3, .int j3), (4, .int j4), (5, .int j5)], [.ref 0], (xu js 3 j5.toNatClampNeg (3 : Int32)))) rfl ?_
  refine xTr.callv (R' := xR_X9_runs) (as := [.ref 0]) (lv := [(0, .ref 0), (1, .int l1), (2, .int l2), (3, .int j3), (4, .int j4), (5, .int j5)]) (rest := []) (ok_X9_runs (xu js 3 j5.toNatClampNeg (3 : Int32))) rfl rfl rfl rfl rfl (fun s11 => ?_)
  refine xTr.ms 4 (g := (73, [(0, .ref 0), (1, .int l1), (2, .int l2), (3, .int j3), (4, .int j4), (5, .int j5)], [.int (0 : Int32), .int j5, .ref 3], s11)) rfl ?_
  refine xTr.ck (g := (74, [(0, .ref 0), (1, .int l1), (2, .int l2), (3, .int j3), (4, .int j4), (5, .int j5)], [], (xu s11 3 j5.toNatClampNeg (0 : Int32)))) rfl (fun h12 => ?_)
  refine xTr.ms 2 (g := (76, [(0, .ref 0), (1, .int l1), (2, .int l2), (3, .int j3), (4, .int j4), (5, .int j5)], [.int (-1 : Int32), .int l2], (xu s11 3 j5.toNatClampNeg (0 : Int32)))) rfl ?_
  refine xTr.br (g1 := (86, [(0, .ref 0), (1, .int l1), (2, .int l2), (3, .int j3), (4, .int j4), (5, .int j5)], [], (xu s11 3 j5.toNatClampNeg (0 : Int32)))) (g2 := (79, [(0, .ref 0), (1, .int l1), (2, .int l2), (3, .int j3), (4, .int j4), (5, .int j5)], [], (xu s11 3 j5.toNatClampNeg (0 : Int32)))) rfl (fun h13 => ?_) (fun h13 => ?_)
  · exact F_X9_layOf_L17_J86_ok l1 l2 j3 j4 j5 (xu s11 3 j5.toNatClampNeg (0 : Int32))
  · refine xTr.ms 4 (g := (85, [(0, .ref 0), (1, .int l1), (2, .int l2), (3, .int j3), (4, .int j4), (5, .int j5)], [.int (3 : Int32), .int l2, .ref 3], (xu s11 3 j5.toNatClampNeg (0 : Int32)))) rfl ?_
    refine xTr.ck (g := (86, [(0, .ref 0), (1, .int l1), (2, .int l2), (3, .int j3), (4, .int j4), (5, .int j5)], [], (xu (xu s11 3 j5.toNatClampNeg (0 : Int32)) 3 l2.toNatClampNeg (3 : Int32)))) rfl (fun h18 => ?_)
    exact F_X9_layOf_L17_J86_ok l1 l2 j3 j4 j5 (xu (xu s11 3 j5.toNatClampNeg (0 : Int32)) 3 l2.toNatClampNeg (3 : Int32))
set_option maxRecDepth 100000 in
theorem F_X9_layOf_L17_ok (l1 : Int32) (l2 : Int32) (a : Int32 × Int32 × Int32 × xS) : xTr xMs xML xR_X9_layOf (F_X9_layOf_L17_hd l1 l2 a) (F_X9_layOf_L17 l1 l2 a) (xhx (F_X9_layOf_L17_hd l1 l2) (F_X9_layOf_L17_ex l1 l2)) := by
  unfold F_X9_layOf_L17
  refine xTr.ms 3 (g := (23, [(0, .ref 0), (1, .int l1), (2, .int l2), (3, .int a.1), (4, .int a.2.1), (5, .int a.2.2.1)], [.int (a.2.2.2.1 0 3), .int a.2.2.1], a.2.2.2)) rfl ?_
  refine xTr.br (g1 := (141, [(0, .ref 0), (1, .int l1), (2, .int l2), (3, .int a.1), (4, .int a.2.1), (5, .int a.2.2.1)], [], a.2.2.2)) (g2 := (26, [(0, .ref 0), (1, .int l1), (2, .int l2), (3, .int a.1), (4, .int a.2.1), (5, .int a.2.2.1)], [], a.2.2.2)) rfl (fun h4 => ?_) (fun h4 => ?_)
  · refine xTr.mk (lv1 := [(1, .int l1), (3, .int a.1), (4, .int a.2.1)]) rfl rfl ?_
    exact xTr.leaf rfl
  · refine xTr.ms 3 (g := (32, [(0, .ref 0), (1, .int l1), (2, .int l2), (3, .int a.1), (4, .int a.2.1), (5, .int a.2.2.1)], [.int a.2.2.1, .ref 3], a.2.2.2)) rfl ?_
    refine xTr.ck (g := (33, [(0, .ref 0), (1, .int l1), (2, .int l2), (3, .int a.1), (4, .int a.2.1), (5, .int a.2.2.1)], [.int (a.2.2.2.1 3 a.2.2.1.toNatClampNeg)], a.2.2.2)) rfl (fun h5 => ?_)
    refine xTr.br (g1 := (36, [(0, .ref 0), (1, .int l1), (2, .int l2), (3, .int a.1), (4, .int a.2.1), (5, .int a.2.2.1)], [], a.2.2.2)) (g2 := (135, [(0, .ref 0), (1, .int l1), (2, .int l2), (3, .int a.1), (4, .int a.2.1), (5, .int a.2.2.1)], [], a.2.2.2)) rfl (fun h6 => ?_) (fun h6 => ?_)
    · refine xTr.ms 2 (g := (39, [(0, .ref 0), (1, .int l1), (2, .int l2), (3, .int a.1), (4, .int a.2.1), (5, .int a.2.2.1)], [.int l2, .int a.2.2.1], a.2.2.2)) rfl ?_
      refine xTr.br (g1 := (135, [(0, .ref 0), (1, .int l1), (2, .int l2), (3, .int a.1), (4, .int a.2.1), (5, .int a.2.2.1)], [], a.2.2.2)) (g2 := (42, [(0, .ref 0), (1, .int l1), (2, .int l2), (3, .int a.1), (4, .int a.2.1), (5, .int a.2.2.1)], [], a.2.2.2)) rfl (fun h7 => ?_) (fun h7 => ?_)
      · refine xTr.ms 2 (g := (17, [(0, .ref 0), (1, .int l1), (2, .int l2), (3, .int a.1), (4, .int a.2.1), (5, .int (a.2.2.1 + (1 : Int32)))], [], a.2.2.2)) rfl ?_
        exact xTr.leaf rfl
      · refine xTr.ms 2 (g := (44, [(0, .ref 0), (1, .int l1), (2, .int l2), (3, .int a.1), (4, .int a.2.1), (5, .int a.2.2.1)], [.int (-1 : Int32), .int l2], a.2.2.2)) rfl ?_
        refine xTr.br (g1 := (54, [(0, .ref 0), (1, .int l1), (2, .int l2), (3, .int a.1), (4, .int a.2.1), (5, .int a.2.2.1)], [], a.2.2.2)) (g2 := (47, [(0, .ref 0), (1, .int l1), (2, .int l2), (3, .int a.1), (4, .int a.2.1), (5, .int a.2.2.1)], [], a.2.2.2)) rfl (fun h8 => ?_) (fun h8 => ?_)
        · exact F_X9_layOf_L17_J54_ok l1 l2 a.1 a.2.1 a.2.2.1 a.2.2.2
        · refine xTr.ms 4 (g := (53, [(0, .ref 0), (1, .int l1), (2, .int l2), (3, .int a.1), (4, .int a.2.1), (5, .int a.2.2.1)], [.int (0 : Int32), .int l2, .ref 3], a.2.2.2)) rfl ?_
          refine xTr.ck (g := (54, [(0, .ref 0), (1, .int l1), (2, .int l2), (3, .int a.1), (4, .int a.2.1), (5, .int a.2.2.1)], [], (xu a.2.2.2 3 l2.toNatClampNeg (0 : Int32)))) rfl (fun h19 => ?_)
          exact F_X9_layOf_L17_J54_ok l1 l2 a.1 a.2.1 a.2.2.1 (xu a.2.2.2 3 l2.toNatClampNeg (0 : Int32))
    · refine xTr.ms 2 (g := (17, [(0, .ref 0), (1, .int l1), (2, .int l2), (3, .int a.1), (4, .int a.2.1), (5, .int (a.2.2.1 + (1 : Int32)))], [], a.2.2.2)) rfl ?_
      exact xTr.leaf rfl
set_option maxRecDepth 100000 in
theorem ok_X9_layOf (l1 : Int32) (s : xS) : xTr xMs xML xR_X9_layOf (Sum.inl (0, [(0, .ref 0), (1, .int l1)], [], s)) (F_X9_layOf l1 s) (fun (y : Int32 × xS) => Sum.inr (some (.int y.1), y.2)) := by
  unfold F_X9_layOf
  refine xTr.ms 1 (g := (1, [(0, .ref 0), (1, .int l1)], [.ref 0], s)) rfl ?_
  refine xTr.callv (R' := xR_X9_asTold) (as := [.ref 0]) (lv := [(0, .ref 0), (1, .int l1)]) (rest := []) (ok_X9_asTold s) rfl rfl rfl rfl rfl (fun s2 => ?_)
  refine xTr.ms 1 (g := (5, [(0, .ref 0), (1, .int l1)], [.ref 0], s2)) rfl ?_
  refine xTr.callip (R' := xR_X9_bedNow) (as := [.ref 0]) (lv := [(0, .ref 0), (1, .int l1)]) (rest := []) (ok_X9_bedNow s2) rfl rfl rfl rfl rfl (fun v3 => ?_)
  refine xTr.ms 7 (g := (17, [(0, .ref 0), (1, .int l1), (2, .int v3), (3, .int (-1 : Int32)), (4, .int (-1 : Int32)), (5, .int (0 : Int32))], [], s2)) rfl ?_
  refine xTr.bind (J := F_X9_layOf_L17_ex l1 v3) (xTr.loop (hd := F_X9_layOf_L17_hd l1 v3) (fun aa => F_X9_layOf_L17_ok l1 v3 aa) 100000 ((-1 : Int32), (-1 : Int32), (0 : Int32), s2)) (fun b20 => ?_)
  refine xTr.ms 1 (g := (142, [(1, .int l1), (3, .int b20.1), (4, .int b20.2.1)], [.int l1], b20.2.2)) rfl ?_
  refine xTr.br (g1 := (145, [(1, .int l1), (3, .int b20.1), (4, .int b20.2.1)], [], b20.2.2)) (g2 := (149, [(1, .int l1), (3, .int b20.1), (4, .int b20.2.1)], [], b20.2.2)) rfl (fun h21 => ?_) (fun h21 => ?_)
  · refine xTr.ms 2 (g := (162, [(3, .int b20.1)], [.int b20.1], b20.2.2)) rfl ?_
    exact xTr.ret rfl rfl rfl
  · refine xTr.ms 2 (g := (153, [(4, .int b20.2.1)], [.int (10 : Int32), .int b20.2.1], b20.2.2)) rfl ?_
    refine xTr.br (g1 := (156, [(4, .int b20.2.1)], [], b20.2.2)) (g2 := (160, [(4, .int b20.2.1)], [], b20.2.2)) rfl (fun h22 => ?_) (fun h22 => ?_)
    · refine xTr.ms 2 (g := (162, [], [.int (-1 : Int32)], b20.2.2)) rfl ?_
      exact xTr.ret rfl rfl rfl
    · refine xTr.ms 1 (g := (162, [(4, .int b20.2.1)], [.int b20.2.1], b20.2.2)) rfl ?_
      exact xTr.ret rfl rfl rfl
-- X9_lay
def F_X9_lay (l1 : Int32) (s : xS) : Option (Int32 × xS) := (F_X9_in l1 (0 : Int32) (1 : Int32) s).bind fun v1 => (if v1 = 0 then (some ((-2 : Int32), s)) else ((F_X9_layOf l1 s).bind fun q4 => (some (q4.1, q4.2))))
set_option maxRecDepth 100000 in
theorem ok_X9_lay (l1 : Int32) (s : xS) : xTr xMs xML xR_X9_lay (Sum.inl (0, [(0, .ref 0), (1, .int l1)], [], s)) (F_X9_lay l1 s) (fun (y : Int32 × xS) => Sum.inr (some (.int y.1), y.2)) := by
  unfold F_X9_lay
  refine xTr.ms 3 (g := (3, [(0, .ref 0), (1, .int l1)], [.int (1 : Int32), .int (0 : Int32), .int l1], s)) rfl ?_
  refine xTr.callip (R' := xR_X9_in) (as := [.int l1, .int (0 : Int32), .int (1 : Int32)]) (lv := [(0, .ref 0), (1, .int l1)]) (rest := []) (ok_X9_in l1 (0 : Int32) (1 : Int32) s) rfl rfl rfl rfl rfl (fun v1 => ?_)
  refine xTr.br (g1 := (17, [(0, .ref 0), (1, .int l1)], [], s)) (g2 := (9, [(0, .ref 0), (1, .int l1)], [], s)) rfl (fun h2 => ?_) (fun h2 => ?_)
  · refine xTr.ms 1 (g := (19, [], [.int (-2 : Int32)], s)) rfl ?_
    exact xTr.ret rfl rfl rfl
  · refine xTr.ms 2 (g := (11, [(0, .ref 0), (1, .int l1)], [.int l1, .ref 0], s)) rfl ?_
    refine xTr.calli (R' := xR_X9_layOf) (as := [.ref 0, .int l1]) (lv := [(0, .ref 0), (1, .int l1)]) (rest := []) (ok_X9_layOf l1 s) rfl rfl rfl rfl rfl (fun v3 s3 => ?_)
    refine xTr.ms 1 (g := (19, [(0, .ref 0), (1, .int l1)], [.int v3], s3)) rfl ?_
    exact xTr.ret rfl rfl rfl
-- X9_doesShorten
def F_X9_doesShorten_L14_J80 (l2 : Int32) (j1 : Int32) (j3 : Int32) (j4 : Int32) (t0 : Int32) (js : xS) : Option ((Int32 × Int32 × xS) ⊕ (Int32 × xS)) := if t0 = 0 then (if l2 < 0 ∨ 36 ≤ l2.toNatClampNeg then none else (if l2 < 0 ∨ 36 ≤ l2.toNatClampNeg then none else (if j1 = 0 then (if t0 = 0 then (some (Sum.inl ((0 : Int32), (j3 + (1 : Int32)), (xu js 17 l2.toNatClampNeg (js.1 17 l2.toNatClampNeg))))) else (some (Sum.inl ((1 : Int32), (j3 + (1 : Int32)), (xu js 17 l2.toNatClampNeg (js.1 17 l2.toNatClampNeg)))))) else (some (Sum.inl ((1 : Int32), (j3 + (1 : Int32)), (xu js 17 l2.toNatClampNeg (js.1 17 l2.toNatClampNeg)))))))) else (if j4 < 0 ∨ 36 ≤ j4.toNatClampNeg then none else (if l2 < 0 ∨ 36 ≤ l2.toNatClampNeg then none else (if l2 < 0 ∨ 36 ≤ l2.toNatClampNeg then none else (if j1 = 0 then (if t0 = 0 then (some (Sum.inl ((0 : Int32), (j3 + (1 : Int32)), (xu js 17 l2.toNatClampNeg ((js.1 17 j4.toNatClampNeg) + (js.1 16 l2.toNatClampNeg)))))) else (some (Sum.inl ((1 : Int32), (j3 + (1 : Int32)), (xu js 17 l2.toNatClampNeg ((js.1 17 j4.toNatClampNeg) + (js.1 16 l2.toNatClampNeg))))))) else (some (Sum.inl ((1 : Int32), (j3 + (1 : Int32)), (xu js 17 l2.toNatClampNeg ((js.1 17 j4.toNatClampNeg) + (js.1 16 l2.toNatClampNeg))))))))))
def F_X9_doesShorten_L14_J79 (l2 : Int32) (j1 : Int32) (j3 : Int32) (j4 : Int32) (js : xS) : Option ((Int32 × Int32 × xS) ⊕ (Int32 × xS)) := F_X9_doesShorten_L14_J80 l2 j1 j3 j4 (0 : Int32) js
def F_X9_doesShorten_L14 (l2 : Int32) (a : Int32 × Int32 × xS) : Option ((Int32 × Int32 × xS) ⊕ (Int32 × xS)) := if (4 : Int32) ≤ a.2.1 then (some (Sum.inr (a.1, a.2.2))) else ((F_X9_beside l2 a.2.1 a.2.2).bind fun v3 => (if v3 = (-1 : Int32) then (F_X9_doesShorten_L14_J79 l2 a.1 a.2.1 v3 a.2.2) else (if v3 < 0 ∨ 37 ≤ v3.toNatClampNeg then none else (if (a.2.2.1 3 v3.toNatClampNeg) = 0 then (if l2 < 0 ∨ 37 ≤ l2.toNatClampNeg then none else (if (a.2.2.1 3 l2.toNatClampNeg) = 0 then (if v3 < 0 ∨ 36 ≤ v3.toNatClampNeg then none else (if l2 < 0 ∨ 36 ≤ l2.toNatClampNeg then none else (if l2 < 0 ∨ 36 ≤ l2.toNatClampNeg then none else (if (a.2.2.1 17 l2.toNatClampNeg) ≤ ((a.2.2.1 17 v3.toNatClampNeg) + (a.2.2.1 16 l2.toNatClampNeg)) then (F_X9_doesShorten_L14_J79 l2 a.1 a.2.1 v3 a.2.2) else (F_X9_doesShorten_L14_J80 l2 a.1 a.2.1 v3 (1 : Int32) a.2.2))))) else (F_X9_doesShorten_L14_J79 l2 a.1 a.2.1 v3 a.2.2))) else (F_X9_doesShorten_L14_J79 l2 a.1 a.2.1 v3 a.2.2)))))
def F_X9_doesShorten_L4 (a : Int32 × Int32 × xS) : Option ((Int32 × Int32 × xS) ⊕ (Int32 × xS)) := if (a.2.2.1 0 3) ≤ a.2.1 then (some (Sum.inr (a.1, a.2.2))) else ((xlp (F_X9_doesShorten_L14 a.2.1) 100000 (a.1, (0 : Int32), a.2.2)).bind (fun b23 => (some (Sum.inl (b23.1, (a.2.1 + (1 : Int32)), b23.2)))))
def F_X9_doesShorten (s : xS) : Option (Int32 × xS) := (xlp (F_X9_doesShorten_L4) 100000 ((0 : Int32), (0 : Int32), s)).bind (fun b24 => (if b24.1 = 0 ∨ b24.1 = 1 then some (b24.1, b24.2) else none))
def F_X9_doesShorten_L4_hd (a : Int32 × Int32 × xS) : xT := Sum.inl (4, [(0, .ref 0), (1, .int a.1), (2, .int a.2.1)], [], a.2.2)
def F_X9_doesShorten_L4_ex : (Int32 × xS) → xT := (fun (z : Int32 × xS) => Sum.inl (143, [(1, .int z.1)], [], z.2))
def F_X9_doesShorten_L14_hd (l2 : Int32) (a : Int32 × Int32 × xS) : xT := Sum.inl (14, [(0, .ref 0), (1, .int a.1), (2, .int l2), (3, .int a.2.1)], [], a.2.2)
def F_X9_doesShorten_L14_ex (l2 : Int32) : (Int32 × xS) → xT := (fun (z : Int32 × xS) => Sum.inl (137, [(0, .ref 0), (1, .int z.1), (2, .int l2)], [], z.2))
set_option maxRecDepth 100000 in
theorem F_X9_doesShorten_L14_J80_ok (l2 : Int32) (j1 : Int32) (j3 : Int32) (j4 : Int32) (t0 : Int32) (js : xS) : xTr xMs xML xR_X9_doesShorten (Sum.inl (80, [(0, .ref 0), (1, .int j1), (2, .int l2), (3, .int j3), (4, .int j4)], [.int t0], js)) (F_X9_doesShorten_L14_J80 l2 j1 j3 j4 t0 js) (xhx (F_X9_doesShorten_L14_hd l2) (F_X9_doesShorten_L14_ex l2)) := by
  unfold F_X9_doesShorten_L14_J80
  refine xTr.ms 5 (g := (89, [(0, .ref 0), (1, .int j1), (2, .int l2), (3, .int j3), (4, .int j4), (5, .int t0)], [.int t0, .int l2, .ref 17], js)) rfl ?_
  refine xTr.br (g1 := (109, [(0, .ref 0), (1, .int j1), (2, .int l2), (3, .int j3), (4, .int j4), (5, .int t0)], [.int l2, .ref 17], js)) (g2 := (92, [(0, .ref 0), (1, .int j1), (2, .int l2), (3, .int j3), (4, .int j4), (5, .int t0)], [.int l2, .ref 17], js)) rfl (fun h5 => ?_) (fun h5 => ?_)
  · refine xTr.ms 3 (g := (114, [(0, .ref 0), (1, .int j1), (2, .int l2), (3, .int j3), (5, .int t0)], [.int l2, .ref 17, .int l2, .ref 17], js)) rfl ?_
    refine xTr.ck (g := (115, [(0, .ref 0), (1, .int j1), (2, .int l2), (3, .int j3), (5, .int t0)], [.int (js.1 17 l2.toNatClampNeg), .int l2, .ref 17], js)) rfl (fun h6 => ?_)
    refine xTr.ck (g := (116, [(0, .ref 0), (1, .int j1), (2, .int l2), (3, .int j3), (5, .int t0)], [], (xu js 17 l2.toNatClampNeg (js.1 17 l2.toNatClampNeg)))) rfl (fun h7 => ?_)
    refine xTr.ms 1 (g := (117, [(0, .ref 0), (1, .int j1), (2, .int l2), (3, .int j3), (5, .int t0)], [.int j1], (xu js 17 l2.toNatClampNeg (js.1 17 l2.toNatClampNeg)))) rfl ?_
    refine xTr.br (g1 := (120, [(0, .ref 0), (1, .int j1), (2, .int l2), (3, .int j3), (5, .int t0)], [], (xu js 17 l2.toNatClampNeg (js.1 17 l2.toNatClampNeg)))) (g2 := (125, [(0, .ref 0), (1, .int j1), (2, .int l2), (3, .int j3), (5, .int t0)], [], (xu js 17 l2.toNatClampNeg (js.1 17 l2.toNatClampNeg)))) rfl (fun h8 => ?_) (fun h8 => ?_)
    · refine xTr.ms 1 (g := (122, [(0, .ref 0), (2, .int l2), (3, .int j3), (5, .int t0)], [.int t0], (xu js 17 l2.toNatClampNeg (js.1 17 l2.toNatClampNeg)))) rfl ?_
      refine xTr.br (g1 := (129, [(0, .ref 0), (2, .int l2), (3, .int j3), (5, .int t0)], [], (xu js 17 l2.toNatClampNeg (js.1 17 l2.toNatClampNeg)))) (g2 := (125, [(0, .ref 0), (2, .int l2), (3, .int j3), (5, .int t0)], [], (xu js 17 l2.toNatClampNeg (js.1 17 l2.toNatClampNeg)))) rfl (fun h9 => ?_) (fun h9 => ?_)
      · refine xTr.ms 4 (g := (14, [(0, .ref 0), (1, .int (0 : Int32)), (2, .int l2), (3, .int (j3 + (1 : Int32)))], [], (xu js 17 l2.toNatClampNeg (js.1 17 l2.toNatClampNeg)))) rfl ?_
        exact xTr.leaf rfl
      · refine xTr.ms 5 (g := (14, [(0, .ref 0), (1, .int (1 : Int32)), (2, .int l2), (3, .int (j3 + (1 : Int32)))], [], (xu js 17 l2.toNatClampNeg (js.1 17 l2.toNatClampNeg)))) rfl ?_
        exact xTr.leaf rfl
    · refine xTr.ms 5 (g := (14, [(0, .ref 0), (1, .int (1 : Int32)), (2, .int l2), (3, .int (j3 + (1 : Int32)))], [], (xu js 17 l2.toNatClampNeg (js.1 17 l2.toNatClampNeg)))) rfl ?_
      exact xTr.leaf rfl
  · refine xTr.ms 3 (g := (98, [(0, .ref 0), (1, .int j1), (2, .int l2), (3, .int j3), (4, .int j4), (5, .int t0)], [.int j4, .ref 17, .int l2, .ref 17], js)) rfl ?_
    refine xTr.ck (g := (99, [(0, .ref 0), (1, .int j1), (2, .int l2), (3, .int j3), (4, .int j4), (5, .int t0)], [.int (js.1 17 j4.toNatClampNeg), .int l2, .ref 17], js)) rfl (fun h10 => ?_)
    refine xTr.ms 3 (g := (104, [(0, .ref 0), (1, .int j1), (2, .int l2), (3, .int j3), (4, .int j4), (5, .int t0)], [.int l2, .ref 16, .int (js.1 17 j4.toNatClampNeg), .int l2, .ref 17], js)) rfl ?_
    refine xTr.ck (g := (105, [(0, .ref 0), (1, .int j1), (2, .int l2), (3, .int j3), (4, .int j4), (5, .int t0)], [.int (js.1 16 l2.toNatClampNeg), .int (js.1 17 j4.toNatClampNeg), .int l2, .ref 17], js)) rfl (fun h11 => ?_)
    refine xTr.ms 2 (g := (115, [(0, .ref 0), (1, .int j1), (2, .int l2), (3, .int j3), (4, .int j4), (5, .int t0)], [.int ((js.1 17 j4.toNatClampNeg) + (js.1 16 l2.toNatClampNeg)), .int l2, .ref 17], js)) rfl ?_
    refine xTr.ck (g := (116, [(0, .ref 0), (1, .int j1), (2, .int l2), (3, .int j3), (5, .int t0)], [], (xu js 17 l2.toNatClampNeg ((js.1 17 j4.toNatClampNeg) + (js.1 16 l2.toNatClampNeg))))) rfl (fun h12 => ?_)
    refine xTr.ms 1 (g := (117, [(0, .ref 0), (1, .int j1), (2, .int l2), (3, .int j3), (5, .int t0)], [.int j1], (xu js 17 l2.toNatClampNeg ((js.1 17 j4.toNatClampNeg) + (js.1 16 l2.toNatClampNeg))))) rfl ?_
    refine xTr.br (g1 := (120, [(0, .ref 0), (1, .int j1), (2, .int l2), (3, .int j3), (5, .int t0)], [], (xu js 17 l2.toNatClampNeg ((js.1 17 j4.toNatClampNeg) + (js.1 16 l2.toNatClampNeg))))) (g2 := (125, [(0, .ref 0), (1, .int j1), (2, .int l2), (3, .int j3), (5, .int t0)], [], (xu js 17 l2.toNatClampNeg ((js.1 17 j4.toNatClampNeg) + (js.1 16 l2.toNatClampNeg))))) rfl (fun h13 => ?_) (fun h13 => ?_)
    · refine xTr.ms 1 (g := (122, [(0, .ref 0), (2, .int l2), (3, .int j3), (5, .int t0)], [.int t0], (xu js 17 l2.toNatClampNeg ((js.1 17 j4.toNatClampNeg) + (js.1 16 l2.toNatClampNeg))))) rfl ?_
      refine xTr.br (g1 := (129, [(0, .ref 0), (2, .int l2), (3, .int j3), (5, .int t0)], [], (xu js 17 l2.toNatClampNeg ((js.1 17 j4.toNatClampNeg) + (js.1 16 l2.toNatClampNeg))))) (g2 := (125, [(0, .ref 0), (2, .int l2), (3, .int j3), (5, .int t0)], [], (xu js 17 l2.toNatClampNeg ((js.1 17 j4.toNatClampNeg) + (js.1 16 l2.toNatClampNeg))))) rfl (fun h14 => ?_) (fun h14 => ?_)
      · refine xTr.ms 4 (g := (14, [(0, .ref 0), (1, .int (0 : Int32)), (2, .int l2), (3, .int (j3 + (1 : Int32)))], [], (xu js 17 l2.toNatClampNeg ((js.1 17 j4.toNatClampNeg) + (js.1 16 l2.toNatClampNeg))))) rfl ?_
        exact xTr.leaf rfl
      · refine xTr.ms 5 (g := (14, [(0, .ref 0), (1, .int (1 : Int32)), (2, .int l2), (3, .int (j3 + (1 : Int32)))], [], (xu js 17 l2.toNatClampNeg ((js.1 17 j4.toNatClampNeg) + (js.1 16 l2.toNatClampNeg))))) rfl ?_
        exact xTr.leaf rfl
    · refine xTr.ms 5 (g := (14, [(0, .ref 0), (1, .int (1 : Int32)), (2, .int l2), (3, .int (j3 + (1 : Int32)))], [], (xu js 17 l2.toNatClampNeg ((js.1 17 j4.toNatClampNeg) + (js.1 16 l2.toNatClampNeg))))) rfl ?_
      exact xTr.leaf rfl
set_option maxRecDepth 100000 in
theorem F_X9_doesShorten_L14_J79_ok (l2 : Int32) (j1 : Int32) (j3 : Int32) (j4 : Int32) (js : xS) : xTr xMs xML xR_X9_doesShorten (Sum.inl (79, [(0, .ref 0), (1, .int j1), (2, .int l2), (3, .int j3), (4, .int j4)], [], js)) (F_X9_doesShorten_L14_J79 l2 j1 j3 j4 js) (xhx (F_X9_doesShorten_L14_hd l2) (F_X9_doesShorten_L14_ex l2)) := by
  unfold F_X9_doesShorten_L14_J79
  refine xTr.ms 1 (g := (80, [(0, .ref 0), (1, .int j1), (2, .int l2), (3, .int j3), (4, .int j4)], [.int (0 : Int32)], js)) rfl ?_
  exact F_X9_doesShorten_L14_J80_ok l2 j1 j3 j4 (0 : Int32) js
set_option maxRecDepth 100000 in
theorem F_X9_doesShorten_L14_ok (l2 : Int32) (a : Int32 × Int32 × xS) : xTr xMs xML xR_X9_doesShorten (F_X9_doesShorten_L14_hd l2 a) (F_X9_doesShorten_L14 l2 a) (xhx (F_X9_doesShorten_L14_hd l2) (F_X9_doesShorten_L14_ex l2)) := by
  unfold F_X9_doesShorten_L14
  refine xTr.ms 2 (g := (16, [(0, .ref 0), (1, .int a.1), (2, .int l2), (3, .int a.2.1)], [.int (4 : Int32), .int a.2.1], a.2.2)) rfl ?_
  refine xTr.br (g1 := (137, [(0, .ref 0), (1, .int a.1), (2, .int l2), (3, .int a.2.1)], [], a.2.2)) (g2 := (19, [(0, .ref 0), (1, .int a.1), (2, .int l2), (3, .int a.2.1)], [], a.2.2)) rfl (fun h2 => ?_) (fun h2 => ?_)
  · refine xTr.mk (lv1 := [(0, .ref 0), (1, .int a.1), (2, .int l2)]) rfl rfl ?_
    exact xTr.leaf rfl
  · refine xTr.ms 3 (g := (22, [(0, .ref 0), (1, .int a.1), (2, .int l2), (3, .int a.2.1)], [.int a.2.1, .int l2, .ref 0], a.2.2)) rfl ?_
    refine xTr.callip (R' := xR_X9_beside) (as := [.ref 0, .int l2, .int a.2.1]) (lv := [(0, .ref 0), (1, .int a.1), (2, .int l2), (3, .int a.2.1)]) (rest := []) (ok_X9_beside l2 a.2.1 a.2.2) rfl rfl rfl rfl rfl (fun v3 => ?_)
    refine xTr.ms 3 (g := (30, [(0, .ref 0), (1, .int a.1), (2, .int l2), (3, .int a.2.1), (4, .int v3)], [.int (-1 : Int32), .int v3], a.2.2)) rfl ?_
    refine xTr.br (g1 := (79, [(0, .ref 0), (1, .int a.1), (2, .int l2), (3, .int a.2.1), (4, .int v3)], [], a.2.2)) (g2 := (33, [(0, .ref 0), (1, .int a.1), (2, .int l2), (3, .int a.2.1), (4, .int v3)], [], a.2.2)) rfl (fun h4 => ?_) (fun h4 => ?_)
    · exact F_X9_doesShorten_L14_J79_ok l2 a.1 a.2.1 v3 a.2.2
    · refine xTr.ms 3 (g := (39, [(0, .ref 0), (1, .int a.1), (2, .int l2), (3, .int a.2.1), (4, .int v3)], [.int v3, .ref 3], a.2.2)) rfl ?_
      refine xTr.ck (g := (40, [(0, .ref 0), (1, .int a.1), (2, .int l2), (3, .int a.2.1), (4, .int v3)], [.int (a.2.2.1 3 v3.toNatClampNeg)], a.2.2)) rfl (fun h15 => ?_)
      refine xTr.br (g1 := (43, [(0, .ref 0), (1, .int a.1), (2, .int l2), (3, .int a.2.1), (4, .int v3)], [], a.2.2)) (g2 := (79, [(0, .ref 0), (1, .int a.1), (2, .int l2), (3, .int a.2.1), (4, .int v3)], [], a.2.2)) rfl (fun h16 => ?_) (fun h16 => ?_)
      · refine xTr.ms 3 (g := (48, [(0, .ref 0), (1, .int a.1), (2, .int l2), (3, .int a.2.1), (4, .int v3)], [.int l2, .ref 3], a.2.2)) rfl ?_
        refine xTr.ck (g := (49, [(0, .ref 0), (1, .int a.1), (2, .int l2), (3, .int a.2.1), (4, .int v3)], [.int (a.2.2.1 3 l2.toNatClampNeg)], a.2.2)) rfl (fun h17 => ?_)
        refine xTr.br (g1 := (52, [(0, .ref 0), (1, .int a.1), (2, .int l2), (3, .int a.2.1), (4, .int v3)], [], a.2.2)) (g2 := (79, [(0, .ref 0), (1, .int a.1), (2, .int l2), (3, .int a.2.1), (4, .int v3)], [], a.2.2)) rfl (fun h18 => ?_) (fun h18 => ?_)
        · refine xTr.ms 3 (g := (58, [(0, .ref 0), (1, .int a.1), (2, .int l2), (3, .int a.2.1), (4, .int v3)], [.int v3, .ref 17], a.2.2)) rfl ?_
          refine xTr.ck (g := (59, [(0, .ref 0), (1, .int a.1), (2, .int l2), (3, .int a.2.1), (4, .int v3)], [.int (a.2.2.1 17 v3.toNatClampNeg)], a.2.2)) rfl (fun h19 => ?_)
          refine xTr.ms 3 (g := (64, [(0, .ref 0), (1, .int a.1), (2, .int l2), (3, .int a.2.1), (4, .int v3)], [.int l2, .ref 16, .int (a.2.2.1 17 v3.toNatClampNeg)], a.2.2)) rfl ?_
          refine xTr.ck (g := (65, [(0, .ref 0), (1, .int a.1), (2, .int l2), (3, .int a.2.1), (4, .int v3)], [.int (a.2.2.1 16 l2.toNatClampNeg), .int (a.2.2.1 17 v3.toNatClampNeg)], a.2.2)) rfl (fun h20 => ?_)
          refine xTr.ms 4 (g := (71, [(0, .ref 0), (1, .int a.1), (2, .int l2), (3, .int a.2.1), (4, .int v3)], [.int l2, .ref 17, .int ((a.2.2.1 17 v3.toNatClampNeg) + (a.2.2.1 16 l2.toNatClampNeg))], a.2.2)) rfl ?_
          refine xTr.ck (g := (72, [(0, .ref 0), (1, .int a.1), (2, .int l2), (3, .int a.2.1), (4, .int v3)], [.int (a.2.2.1 17 l2.toNatClampNeg), .int ((a.2.2.1 17 v3.toNatClampNeg) + (a.2.2.1 16 l2.toNatClampNeg))], a.2.2)) rfl (fun h21 => ?_)
          refine xTr.br (g1 := (79, [(0, .ref 0), (1, .int a.1), (2, .int l2), (3, .int a.2.1), (4, .int v3)], [], a.2.2)) (g2 := (75, [(0, .ref 0), (1, .int a.1), (2, .int l2), (3, .int a.2.1), (4, .int v3)], [], a.2.2)) rfl (fun h22 => ?_) (fun h22 => ?_)
          · exact F_X9_doesShorten_L14_J79_ok l2 a.1 a.2.1 v3 a.2.2
          · refine xTr.ms 2 (g := (80, [(0, .ref 0), (1, .int a.1), (2, .int l2), (3, .int a.2.1), (4, .int v3)], [.int (1 : Int32)], a.2.2)) rfl ?_
            exact F_X9_doesShorten_L14_J80_ok l2 a.1 a.2.1 v3 (1 : Int32) a.2.2
        · exact F_X9_doesShorten_L14_J79_ok l2 a.1 a.2.1 v3 a.2.2
      · exact F_X9_doesShorten_L14_J79_ok l2 a.1 a.2.1 v3 a.2.2
set_option maxRecDepth 100000 in
theorem F_X9_doesShorten_L4_ok (a : Int32 × Int32 × xS) : xTr xMs xML xR_X9_doesShorten (F_X9_doesShorten_L4_hd a) (F_X9_doesShorten_L4 a) (xhx (F_X9_doesShorten_L4_hd) (F_X9_doesShorten_L4_ex)) := by
  unfold F_X9_doesShorten_L4
  refine xTr.ms 3 (g := (9, [(0, .ref 0), (1, .int a.1), (2, .int a.2.1)], [.int (a.2.2.1 0 3), .int a.2.1], a.2.2)) rfl ?_
  refine xTr.br (g1 := (143, [(0, .ref 0), (1, .int a.1), (2, .int a.2.1)], [], a.2.2)) (g2 := (12, [(0, .ref 0), (1, .int a.1), (2, .int a.2.1)], [], a.2.2)) rfl (fun h1 => ?_) (fun h1 => ?_)
  · refine xTr.mk (lv1 := [(1, .int a.1)]) rfl rfl ?_
    exact xTr.leaf rfl
  · refine xTr.ms 2 (g := (14, [(0, .ref 0), (1, .int a.1), (2, .int a.2.1), (3, .int (0 : Int32))], [], a.2.2)) rfl ?_
    refine xTr.bind (J := F_X9_doesShorten_L14_ex a.2.1) (xTr.loop (hd := F_X9_doesShorten_L14_hd a.2.1) (fun aa => F_X9_doesShorten_L14_ok a.2.1 aa) 100000 (a.1, (0 : Int32), a.2.2)) (fun b23 => ?_)
    refine xTr.ms 2 (g := (4, [(0, .ref 0), (1, .int b23.1), (2, .int (a.2.1 + (1 : Int32)))], [], b23.2)) rfl ?_
    exact xTr.leaf rfl
set_option maxRecDepth 100000 in
theorem ok_X9_doesShorten (s : xS) : xTr xMs xML xR_X9_doesShorten (Sum.inl (0, [(0, .ref 0)], [], s)) (F_X9_doesShorten s) (fun (y : Int32 × xS) => Sum.inr (some (.int y.1), y.2)) := by
  unfold F_X9_doesShorten
  refine xTr.ms 4 (g := (4, [(0, .ref 0), (1, .int (0 : Int32)), (2, .int (0 : Int32))], [], s)) rfl ?_
  refine xTr.bind (J := F_X9_doesShorten_L4_ex) (xTr.loop (hd := F_X9_doesShorten_L4_hd) (fun aa => F_X9_doesShorten_L4_ok aa) 100000 ((0 : Int32), (0 : Int32), s)) (fun b24 => ?_)
  refine xTr.ms 1 (g := (144, [(1, .int b24.1)], [.int b24.1], b24.2)) rfl ?_
  exact xTr.rtz rfl rfl rfl
-- X9_wayOf
def F_X9_wayOf_L30 (l1 : Int32) (l2 : Int32) (a : Int32 × xS) : Option ((Int32 × xS) ⊕ (xS)) := if (a.2.1 0 3) ≤ a.1 then (some (Sum.inr a.2)) else (if a.1 < 0 ∨ 36 ≤ a.1.toNatClampNeg then none else (if (9 : Int32) ≤ (a.2.1 9 a.1.toNatClampNeg) then (if a.1 < 0 ∨ 36 ≤ a.1.toNatClampNeg then none else (if a.1 < 0 ∨ 36 ≤ a.1.toNatClampNeg then none else (some (Sum.inl ((a.1 + (1 : Int32)), (xu (xu a.2 16 a.1.toNatClampNeg (0 : Int32)) 17 a.1.toNatClampNeg (999 : Int32))))))) else (if a.1 < 0 ∨ 36 ≤ a.1.toNatClampNeg then none else (if a.1 < 0 ∨ 36 ≤ a.1.toNatClampNeg then none else (if a.1 < 0 ∨ 36 ≤ a.1.toNatClampNeg then none else (some (Sum.inl ((a.1 + (1 : Int32)), (xu (xu a.2 16 a.1.toNatClampNeg ((9 : Int32) - (a.2.1 9 a.1.toNatClampNeg))) 17 a.1.toNatClampNeg (999 : Int32))))))))))
def F_X9_wayOf_L97 (l2 : Int32) (a : Int32 × xS) : Option ((Int32 × xS) ⊕ (xS)) := if a.1 = 0 then (some (Sum.inr a.2)) else ((F_X9_doesShorten a.2).bind fun q22 => (some (Sum.inl (q22.1, q22.2))))
def F_X9_wayOf (l1 : Int32) (l2 : Int32) (s : xS) : Option (Int32 × xS) := (F_X9_reads s).bind fun s2 => ((F_X9_lays s2).bind fun s4 => (if l1 < 0 ∨ 37 ≤ l1.toNatClampNeg then none else (if (s4.1 3 l1.toNatClampNeg) = 0 then (if l2 < 0 ∨ 37 ≤ l2.toNatClampNeg then none else (if (s4.1 3 l2.toNatClampNeg) = 0 then ((xlp (F_X9_wayOf_L30 l1 l2) 100000 ((0 : Int32), s4)).bind (fun b17 => (if l1 < 0 ∨ 36 ≤ l1.toNatClampNeg then none else (if l1 < 0 ∨ 36 ≤ l1.toNatClampNeg then none else ((xlp (F_X9_wayOf_L97 l2) 100000 ((1 : Int32), (xu b17 17 l1.toNatClampNeg (b17.1 16 l1.toNatClampNeg)))).bind (fun b23 => (if l2 < 0 ∨ 36 ≤ l2.toNatClampNeg then none else (if (b23.1 17 l2.toNatClampNeg) = (999 : Int32) then (some ((-1 : Int32), b23)) else (if l2 < 0 ∨ 36 ≤ l2.toNatClampNeg then none else (some ((b23.1 17 l2.toNatClampNeg), b23))))))))))) else (some ((-1 : Int32), s4)))) else (some ((-1 : Int32), s4)))))
def F_X9_wayOf_L30_hd (l1 : Int32) (l2 : Int32) (a : Int32 × xS) : xT := Sum.inl (30, [(0, .ref 0), (1, .int l1), (2, .int l2), (3, .int a.1)], [], a.2)
def F_X9_wayOf_L30_ex (l1 : Int32) (l2 : Int32) : (xS) → xT := (fun (z : xS) => Sum.inl (83, [(0, .ref 0), (1, .int l1), (2, .int l2)], [], z))
set_option maxRecDepth 100000 in
theorem F_X9_wayOf_L30_ok (l1 : Int32) (l2 : Int32) (a : Int32 × xS) : xTr xMs xML xR_X9_wayOf (F_X9_wayOf_L30_hd l1 l2 a) (F_X9_wayOf_L30 l1 l2 a) (xhx (F_X9_wayOf_L30_hd l1 l2) (F_X9_wayOf_L30_ex l1 l2)) := by
  unfold F_X9_wayOf_L30
  refine xTr.ms 3 (g := (35, [(0, .ref 0), (1, .int l1), (2, .int l2), (3, .int a.1)], [.int (a.2.1 0 3), .int a.1], a.2)) rfl ?_
  refine xTr.br (g1 := (83, [(0, .ref 0), (1, .int l1), (2, .int l2), (3, .int a.1)], [], a.2)) (g2 := (38, [(0, .ref 0), (1, .int l1), (2, .int l2), (3, .int a.1)], [], a.2)) rfl (fun h9 => ?_) (fun h9 => ?_)
  · refine xTr.mk (lv1 := [(0, .ref 0), (1, .int l1), (2, .int l2)]) rfl rfl ?_
    exact xTr.leaf rfl
  · refine xTr.ms 6 (g := (48, [(0, .ref 0), (1, .int l1), (2, .int l2), (3, .int a.1)], [.int a.1, .ref 9, .int a.1, .ref 16], a.2)) rfl ?_
    refine xTr.ck (g := (49, [(0, .ref 0), (1, .int l1), (2, .int l2), (3, .int a.1)], [.int (a.2.1 9 a.1.toNatClampNeg), .int a.1, .ref 16], a.2)) rfl (fun h10 => ?_)
    refine xTr.ms 1 (g := (51, [(0, .ref 0), (1, .int l1), (2, .int l2), (3, .int a.1)], [.int (9 : Int32), .int (a.2.1 9 a.1.toNatClampNeg), .int a.1, .ref 16], a.2)) rfl ?_
    refine xTr.br (g1 := (66, [(0, .ref 0), (1, .int l1), (2, .int l2), (3, .int a.1)], [.int a.1, .ref 16], a.2)) (g2 := (54, [(0, .ref 0), (1, .int l1), (2, .int l2), (3, .int a.1)], [.int a.1, .ref 16], a.2)) rfl (fun h11 => ?_) (fun h11 => ?_)
    · refine xTr.ms 1 (g := (67, [(0, .ref 0), (1, .int l1), (2, .int l2), (3, .int a.1)], [.int (0 : Int32), .int a.1, .ref 16], a.2)) rfl ?_
      refine xTr.ck (g := (68, [(0, .ref 0), (1, .int l1), (2, .int l2), (3, .int a.1)], [], (xu a.2 16 a.1.toNatClampNeg (0 : Int32)))) rfl (fun h12 => ?_)
      refine xTr.ms 4 (g := (76, [(0, .ref 0), (1, .int l1), (2, .int l2), (3, .int a.1)], [.int (999 : Int32), .int a.1, .ref 17], (xu a.2 16 a.1.toNatClampNeg (0 : Int32)))) rfl ?_
      refine xTr.ck (g := (77, [(0, .ref 0), (1, .int l1), (2, .int l2), (3, .int a.1)], [], (xu (xu a.2 16 a.1.toNatClampNeg (0 : Int32)) 17 a.1.toNatClampNeg (999 : Int32)))) rfl (fun h13 => ?_)
      refine xTr.ms 2 (g := (30, [(0, .ref 0), (1, .int l1), (2, .int l2), (3, .int (a.1 + (1 : Int32)))], [], (xu (xu a.2 16 a.1.toNatClampNeg (0 : Int32)) 17 a.1.toNatClampNeg (999 : Int32)))) rfl ?_
      exact xTr.leaf rfl
    · refine xTr.ms 4 (g := (61, [(0, .ref 0), (1, .int l1), (2, .int l2), (3, .int a.1)], [.int a.1, .ref 9, .int (9 : Int32), .int a.1, .ref 16], a.2)) rfl ?_
      refine xTr.ck (g := (62, [(0, .ref 0), (1, .int l1), (2, .int l2), (3, .int a.1)], [.int (a.2.1 9 a.1.toNatClampNeg), .int (9 : Int32), .int a.1, .ref 16], a.2)) rfl (fun h14 => ?_)
      refine xTr.ms 2 (g := (67, [(0, .ref 0), (1, .int l1), (2, .int l2), (3, .int a.1)], [.int ((9 : Int32) - (a.2.1 9 a.1.toNatClampNeg)), .int a.1, .ref 16], a.2)) rfl ?_
      refine xTr.ck (g := (68, [(0, .ref 0), (1, .int l1), (2, .int l2), (3, .int a.1)], [], (xu a.2 16 a.1.toNatClampNeg ((9 : Int32) - (a.2.1 9 a.1.toNatClampNeg))))) rfl (fun h15 => ?_)
      refine xTr.ms 4 (g := (76, [(0, .ref 0), (1, .int l1), (2, .int l2), (3, .int a.1)], [.int (999 : Int32), .int a.1, .ref 17], (xu a.2 16 a.1.toNatClampNeg ((9 : Int32) - (a.2.1 9 a.1.toNatClampNeg))))) rfl ?_
      refine xTr.ck (g := (77, [(0, .ref 0), (1, .int l1), (2, .int l2), (3, .int a.1)], [], (xu (xu a.2 16 a.1.toNatClampNeg ((9 : Int32) - (a.2.1 9 a.1.toNatClampNeg))) 17 a.1.toNatClampNeg (999 : Int32)))) rfl (fun h16 => ?_)
      refine xTr.ms 2 (g := (30, [(0, .ref 0), (1, .int l1), (2, .int l2), (3, .int (a.1 + (1 : Int32)))], [], (xu (xu a.2 16 a.1.toNatClampNeg ((9 : Int32) - (a.2.1 9 a.1.toNatClampNeg))) 17 a.1.toNatClampNeg (999 : Int32)))) rfl ?_
      exact xTr.leaf rfl
def F_X9_wayOf_L97_hd (l2 : Int32) (a : Int32 × xS) : xT := Sum.inl (97, [(0, .ref 0), (2, .int l2), (3, .int a.1)], [], a.2)
def F_X9_wayOf_L97_ex (l2 : Int32) : (xS) → xT := (fun (z : xS) => Sum.inl (109, [(0, .ref 0), (2, .int l2)], [], z))
set_option maxRecDepth 100000 in
theorem F_X9_wayOf_L97_ok (l2 : Int32) (a : Int32 × xS) : xTr xMs xML xR_X9_wayOf (F_X9_wayOf_L97_hd l2 a) (F_X9_wayOf_L97 l2 a) (xhx (F_X9_wayOf_L97_hd l2) (F_X9_wayOf_L97_ex l2)) := by
  unfold F_X9_wayOf_L97
  refine xTr.ms 1 (g := (98, [(0, .ref 0), (2, .int l2), (3, .int a.1)], [.int a.1], a.2)) rfl ?_
  refine xTr.br (g1 := (109, [(0, .ref 0), (2, .int l2), (3, .int a.1)], [], a.2)) (g2 := (101, [(0, .ref 0), (2, .int l2), (3, .int a.1)], [], a.2)) rfl (fun h20 => ?_) (fun h20 => ?_)
  · refine xTr.mk (lv1 := [(0, .ref 0), (2, .int l2)]) rfl rfl ?_
    exact xTr.leaf rfl
  · refine xTr.ms 1 (g := (102, [(0, .ref 0), (2, .int l2)], [.ref 0], a.2)) rfl ?_
    refine xTr.calli (R' := xR_X9_doesShorten) (as := [.ref 0]) (lv := [(0, .ref 0), (2, .int l2)]) (rest := []) (ok_X9_doesShorten a.2) rfl rfl rfl rfl rfl (fun v21 s21 => ?_)
    refine xTr.ms 2 (g := (97, [(0, .ref 0), (2, .int l2), (3, .int v21)], [], s21)) rfl ?_
    exact xTr.leaf rfl
set_option maxRecDepth 100000 in
theorem ok_X9_wayOf (l1 : Int32) (l2 : Int32) (s : xS) : xTr xMs xML xR_X9_wayOf (Sum.inl (0, [(0, .ref 0), (1, .int l1), (2, .int l2)], [], s)) (F_X9_wayOf l1 l2 s) (fun (y : Int32 × xS) => Sum.inr (some (.int y.1), y.2)) := by
  unfold F_X9_wayOf
  refine xTr.ms 1 (g := (1, [(0, .ref 0), (1, .int l1), (2, .int l2)], [.ref 0], s)) rfl ?_
  refine xTr.callv (R' := xR_X9_reads) (as := [.ref 0]) (lv := [(0, .ref 0), (1, .int l1), (2, .int l2)]) (rest := []) (ok_X9_reads s) rfl rfl rfl rfl rfl (fun s2 => ?_)
  refine xTr.ms 1 (g := (5, [(0, .ref 0), (1, .int l1), (2, .int l2)], [.ref 0], s2)) rfl ?_
  refine xTr.callv (R' := xR_X9_lays) (as := [.ref 0]) (lv := [(0, .ref 0), (1, .int l1), (2, .int l2)]) (rest := []) (ok_X9_lays s2) rfl rfl rfl rfl rfl (fun s4 => ?_)
  refine xTr.ms 3 (g := (13, [(0, .ref 0), (1, .int l1), (2, .int l2)], [.int l1, .ref 3], s4)) rfl ?_
  refine xTr.ck (g := (14, [(0, .ref 0), (1, .int l1), (2, .int l2)], [.int (s4.1 3 l1.toNatClampNeg)], s4)) rfl (fun h5 => ?_)
  refine xTr.br (g1 := (17, [(0, .ref 0), (1, .int l1), (2, .int l2)], [], s4)) (g2 := (26, [(0, .ref 0), (1, .int l1), (2, .int l2)], [], s4)) rfl (fun h6 => ?_) (fun h6 => ?_)
  · refine xTr.ms 3 (g := (22, [(0, .ref 0), (1, .int l1), (2, .int l2)], [.int l2, .ref 3], s4)) rfl ?_
    refine xTr.ck (g := (23, [(0, .ref 0), (1, .int l1), (2, .int l2)], [.int (s4.1 3 l2.toNatClampNeg)], s4)) rfl (fun h7 => ?_)
    refine xTr.br (g1 := (28, [(0, .ref 0), (1, .int l1), (2, .int l2)], [], s4)) (g2 := (26, [(0, .ref 0), (1, .int l1), (2, .int l2)], [], s4)) rfl (fun h8 => ?_) (fun h8 => ?_)
    · refine xTr.ms 2 (g := (30, [(0, .ref 0), (1, .int l1), (2, .int l2), (3, .int (0 : Int32))], [], s4)) rfl ?_
      refine xTr.bind (J := F_X9_wayOf_L30_ex l1 l2) (xTr.loop (hd := F_X9_wayOf_L30_hd l1 l2) (fun aa => F_X9_wayOf_L30_ok l1 l2 aa) 100000 ((0 : Int32), s4)) (fun b17 => ?_)
      refine xTr.ms 6 (g := (93, [(0, .ref 0), (1, .int l1), (2, .int l2)], [.int l1, .ref 16, .int l1, .ref 17], b17)) rfl ?_
      refine xTr.ck (g := (94, [(0, .ref 0), (1, .int l1), (2, .int l2)], [.int (b17.1 16 l1.toNatClampNeg), .int l1, .ref 17], b17)) rfl (fun h18 => ?_)
      refine xTr.ck (g := (95, [(0, .ref 0), (1, .int l1), (2, .int l2)], [], (xu b17 17 l1.toNatClampNeg (b17.1 16 l1.toNatClampNeg)))) rfl (fun h19 => ?_)
      refine xTr.ms 2 (g := (97, [(0, .ref 0), (1, .int l1), (2, .int l2), (3, .int (1 : Int32))], [], (xu b17 17 l1.toNatClampNeg (b17.1 16 l1.toNatClampNeg)))) rfl ?_
      refine xTr.mk (lv1 := [(0, .ref 0), (2, .int l2), (3, .int (1 : Int32))]) rfl rfl ?_
      refine xTr.bind (J := F_X9_wayOf_L97_ex l2) (xTr.loop (hd := F_X9_wayOf_L97_hd l2) (fun aa => F_X9_wayOf_L97_ok l2 aa) 100000 ((1 : Int32), (xu b17 17 l1.toNatClampNeg (b17.1 16 l1.toNatClampNeg)))) (fun b23 => ?_)
      refine xTr.ms 3 (g := (114, [(0, .ref 0), (2, .int l2)], [.int l2, .ref 17], b23)) rfl ?_
      refine xTr.ck (g := (115, [(0, .ref 0), (2, .int l2)], [.int (b23.1 17 l2.toNatClampNeg)], b23)) rfl (fun h24 => ?_)
      refine xTr.ms 1 (g := (118, [(0, .ref 0), (2, .int l2)], [.int (999 : Int32), .int (b23.1 17 l2.toNatClampNeg)], b23)) rfl ?_
      refine xTr.br (g1 := (121, [(0, .ref 0), (2, .int l2)], [], b23)) (g2 := (125, [(0, .ref 0), (2, .int l2)], [], b23)) rfl (fun h25 => ?_) (fun h25 => ?_)
      · refine xTr.ms 2 (g := (131, [], [.int (-1 : Int32)], b23)) rfl ?_
        exact xTr.ret rfl rfl rfl
      · refine xTr.ms 3 (g := (130, [(0, .ref 0), (2, .int l2)], [.int l2, .ref 17], b23)) rfl ?_
        refine xTr.ck (g := (131, [(0, .ref 0), (2, .int l2)], [.int (b23.1 17 l2.toNatClampNeg)], b23)) rfl (fun h26 => ?_)
        exact xTr.ret rfl rfl rfl
    · refine xTr.ms 1 (g := (27, [], [.int (-1 : Int32)], s4)) rfl ?_
      exact xTr.ret rfl rfl rfl
  · refine xTr.ms 1 (g := (27, [], [.int (-1 : Int32)], s4)) rfl ?_
    exact xTr.ret rfl rfl rfl
