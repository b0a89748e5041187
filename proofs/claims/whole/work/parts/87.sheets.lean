/-- a list of addresses, then what stands outside -/
def xadl (L : List Nat) (ad : Nat → Nat) (p : Nat) : Nat := cond (Nat.blt p 1000) (L.getD p 0) (ad p)
theorem xEn.to {ad ad' : Nat → Nat} {A : Nat → Prop} {U : State} {H : Heap} (h : xEn ad A U H) (e : ∀ p, 1000 ≤ p → ad' p = ad p) : xEn ad' A U H := by
  unfold xEn at h ⊢
  have e2 : (fun i => ad' (1002 + i)) = (fun i => ad (1002 + i)) := funext fun i => e _ (by omega)
  have e3 : (fun i => ad' (1004 + i)) = (fun i => ad (1004 + i)) := funext fun i => e _ (by omega)
  rw [e 1000 (by omega), e 1001 (by omega), e 1002 (by omega), e 1003 (by omega), e2, e3]
  exact h
theorem xadl_ge {L : List Nat} {ad : Nat → Nat} : ∀ p, 1000 ≤ p → xadl L ad p = ad p := by
  intro p hp
  unfold xadl
  cases hq : Nat.blt p 1000 with
  | false => rfl
  | true => exact absurd (Nat.le_of_ble_eq_true hq) (by omega)
def xTL : xLy := [.inl (false, 4)]
theorem xTLk : xLyk xTL := xLyk_of (by decide +kernel)
theorem xJfill_in : xR_J7_fill_53178 ∈ xMs := List.mem_of_getElem? (i := 209) rfl
def F_fillT_L5 (l1 : Int32) (l3 : Int32) (a : Int32 × xS) : Option ((Int32 × xS) ⊕ (xS)) := if l3 ≤ a.1 then (some (Sum.inr a.2)) else (if a.1 < 0 ∨ 4 ≤ a.1.toNatClampNeg then none else (some (Sum.inl ((a.1 + (1 : Int32)), (xu a.2 0 a.1.toNatClampNeg l1)))))
def F_fillT (l1 : Int32) (s : xS) : Option (xS) := (xlp (F_fillT_L5 l1 (4 : Int32)) 100000 ((0 : Int32), s)).bind (fun b3 => (some b3))
def F_fillT_L5_hd (l1 : Int32) (l3 : Int32) (a : Int32 × xS) : xT := Sum.inl (5, [(0, .ref 0), (1, .int l1), (2, .int a.1), (3, .int l3)], [], a.2)
def F_fillT_L5_ex (l1 : Int32) (l3 : Int32) : (xS) → xT := (fun (z : xS) => Sum.inl (20, [], [], z))
set_option maxRecDepth 100000 in
theorem F_fillT_L5_ok (l1 : Int32) (l3 : Int32) (a : Int32 × xS) : xTr xMs xTL xR_J7_fill_53178 (F_fillT_L5_hd l1 l3 a) (F_fillT_L5 l1 l3 a) (xhx (F_fillT_L5_hd l1 l3) (F_fillT_L5_ex l1 l3)) := by
  unfold F_fillT_L5
  refine xTr.ms 2 (g := (7, [(0, .ref 0), (1, .int l1), (2, .int a.1), (3, .int l3)], [.int l3, .int a.1], a.2)) rfl ?_
  refine xTr.br (g1 := (20, [(0, .ref 0), (1, .int l1), (2, .int a.1), (3, .int l3)], [], a.2)) (g2 := (10, [(0, .ref 0), (1, .int l1), (2, .int a.1), (3, .int l3)], [], a.2)) rfl (fun h1 => ?_) (fun h1 => ?_)
  · refine xTr.mk (lv1 := []) rfl rfl ?_
    exact xTr.leaf rfl
  · refine xTr.ms 3 (g := (13, [(0, .ref 0), (1, .int l1), (2, .int a.1), (3, .int l3)], [.int l1, .int a.1, .ref 0], a.2)) rfl ?_
    refine xTr.ck (g := (14, [(0, .ref 0), (1, .int l1), (2, .int a.1), (3, .int l3)], [], (xu a.2 0 a.1.toNatClampNeg l1))) rfl (fun h2 => ?_)
    refine xTr.ms 2 (g := (5, [(0, .ref 0), (1, .int l1), (2, .int (a.1 + (1 : Int32))), (3, .int l3)], [], (xu a.2 0 a.1.toNatClampNeg l1))) rfl ?_
    exact xTr.leaf rfl
set_option maxRecDepth 100000 in
theorem ok_fillT (l1 : Int32) (s : xS) : xTr xMs xTL xR_J7_fill_53178 (Sum.inl (0, [(0, .ref 0), (1, .int l1)], [], s)) (F_fillT l1 s) (fun (y : xS) => Sum.inr (none, y)) := by
  unfold F_fillT
  refine xTr.ms 5 (g := (5, [(0, .ref 0), (1, .int l1), (2, .int (0 : Int32)), (3, .int (4 : Int32))], [], s)) rfl ?_
  refine xTr.bind (J := F_fillT_L5_ex l1 (4 : Int32)) (xTr.loop (hd := F_fillT_L5_hd l1 (4 : Int32)) (fun aa => F_fillT_L5_ok l1 (4 : Int32) aa) 100000 ((0 : Int32), s)) (fun b3 => ?_)
  exact xTr.ret rfl rfl rfl
theorem xfillT (f : Nat → Int32) (v : Int32) : F_fillT v ((fun _ => f), (fun _ _ => 0)) = some (xu (xu (xu (xu ((fun _ => f), (fun _ _ => 0)) 0 0 v) 0 1 v) 0 2 v) 0 3 v) := rfl
def xf4 (f : Nat → Int32) (v : Int32) : Nat → Int32 := (xu (xu (xu (xu ((fun _ => f), (fun _ _ => 0)) 0 0 v) 0 1 v) 0 2 v) 0 3 v).1 0
theorem xifill {p : Program} {l : Launch} {e : Env} {Rm : Room} {s : State} {m : MethodId} {args : Array Value} {below : List Frame} {meth : Method} {c : Code} {Q : State → Prop} {A : Nat → Prop} {D : va_G} {cI cZ : ClassId} {ad : Nat → Nat} {H : Heap} {locs : List Loc} {ls : Array Slot} {cc : ByteArray} {nL pc ix : Nat} {own : String} {rest : List Value} {cells slots : Nat} {ws : va_W} {b : Nat} {f : Nat → Int32} {v : Int32}
    (hK : va_K D vwCl (xty cI cZ) s) (hP : va_P D vwCl ws H) (hD : va_D A ws) (hS : va_S A s.heap H locs) (hA : ∀ q, s.heap.size ≤ q → A q) (hE : xEn ad A s s.heap) (qi : Nat) (he : ws[qi]? = some (b, .inl (cI, 4, .inl f))) (hx : p.tables.exec = Jvm.exec) (hb : c.code = cc) (hml : c.maxLocals = nL) (hown : s.vm.findClass own = some m.cls) (hts : ∀ w ∈ xTg, w.before args s = true) (hlk : Cond.methodLink own ix yJ7_fill_53178 ∈ xTg)
    (hRf : xrf xR_J7_fill_53178 + 1 ≤ Rm.frames) (hRl : 8 + (xrL xR_J7_fill_53178 + 11) + xrk xR_J7_fill_53178 ≤ Rm.locals) (hRc : cells ≤ Rm.cells) (hRs : slots ≤ Rm.slots) (hsz : ls.size = nL) (hcat : (rest.map fun v => v.category).sum ≤ 8) (hdg : decode cc pc = .ok (.invokestatic ix, 3))
    (kk : ∀ (H1 : Heap) (locs1 : List Loc), va_P D vwCl (ws.set qi (b, .inl (cI, 4, .inl (xf4 f v)))) H1 → va_D A (ws.set qi (b, .inl (cI, 4, .inl (xf4 f v)))) → va_S A s.heap H1 locs1 → W p l e Rm s m args below meth c H1 locs1 cells slots Q (F0 m (pc + 3) ls rest)) :
    W p l e Rm s m args below meth c H locs cells slots Q (F0 m pc ls (.int v :: .ref b :: rest)) := by
  have hR := xJfill_in
  have hg := xRGs _ hR
  have ex : ∃ n, xexec xMs xTL n xR_J7_fill_53178 (0, lv_args 0 [.ref 0, .int v], [], ((fun _ => f), (fun _ _ => 0))) = some (none, xu (xu (xu (xu ((fun _ => f), (fun _ _ => 0)) 0 0 v) 0 1 v) 0 2 v) 0 3 v) := xTr.end (ok_fillT v ((fun _ => f), (fun _ _ => 0))) (xfillT f v) rfl
  have ea : xw cI cZ (xadl [b] ad) xTL ((fun _ => f), (fun _ _ => 0)) = [(b, .inl (cI, 4, .inl f))] := rfl
  have ea1 : xw cI cZ (xadl [b] ad) xTL (xu (xu (xu (xu ((fun _ => f), (fun _ _ => 0)) 0 0 v) 0 1 v) 0 2 v) 0 3 v) = [(b, .inl (cI, 4, .inl (xf4 f v)))] := rfl
  have hE' : xEn (xadl [b] ad) A s s.heap := hE.to xadl_ge
  have hPc : va_P D vwCl (xw cI cZ (xadl [b] ad) xTL ((fun _ => f), (fun _ _ => 0))) H := by
    rw [ea]
    intro k q hq
    match k, hq with
    | 0, hq => cases hq; exact hP qi _ he
    | k + 1, hq => simp at hq
  have hDc : va_D A (xw cI cZ (xadl [b] ad) xTL ((fun _ => f), (fun _ _ => 0))) := by
    rw [ea]
    refine ⟨fun i j x y hi hj _ => ?_, fun k q hq => ?_⟩
    · match i, j, hi, hj with
      | 0, 0, _, _ => rfl
      | i + 1, _, hi, _ => simp at hi
      | 0, j + 1, _, hj => simp at hj
    · match k, hq with
      | 0, hq => cases hq; exact hD.2 qi _ he
      | k + 1, hq => simp at hq
  have hM := xmet l D cI cZ (xadl [b] ad) xTLk hR ex (Nat.le_of_ble_eq_true rfl) H.size
  have hFc := xw_free hDc hS hA
  have hEH : xEn (xadl [b] ad) A s H := hE'.kept hS.2.1
  have cw := va_cwS (R := Rm) (s := s) (args := args) (own := own) (index := ix) (y := xry xR_J7_fill_53178) (bytes := xrc xR_J7_fill_53178) (maxL := xrL xR_J7_fill_53178) (mc := 0) (ms := 0) (ret := xrt xR_J7_fill_53178) (Ts := xTg) (ws := xws xR_J7_fill_53178) (ws' := xTg) (rm := xrm xR_J7_fill_53178) (xrn xR_J7_fill_53178) hts (xTg_good (fun w hw2 => by
    unfold va_wsS at hw2
    rcases List.mem_append.mp hw2 with h1 | h1
    · simp only [List.mem_cons, List.not_mem_nil, or_false] at h1
      rcases h1 with rfl | rfl | rfl
      · exact hlk
      · exact hg.2.2.2.2.2.2.2 rfl
      · exact hg.2.2.2.1
    · rcases List.mem_cons.mp h1 with rfl | h1
      · exact hg.2.2.1
      · exact h1)) rfl rfl rfl hg.2.2.2.2.2.1 ⟨hRf, hRl⟩
  have hblind : FrameBlind (xPc D cI cZ (xadl [b] ad) xTL [.ref 0, .int v] ((fun _ => f), (fun _ _ => 0)) H.size) := fun a U g mk q => by
    obtain ⟨q0, q1, qP, qK, qD, qE⟩ := q
    exact ⟨q0, q1, qP, va_K.moved (u := U) (U := U.calling g mk a) (Vm.Alike.refl U.vm) qK, qD, xEn.same (u := U) (U := U.calling g mk a) rfl (Vm.Alike.refl U.vm) qE⟩
  have hpre : ∀ U : State, U.heap = H → s.WarmedH U.vm → xPc D cI cZ (xadl [b] ad) xTL [.ref 0, .int v] ((fun _ => f), (fun _ _ => 0)) H.size ([.ref b, .int v] : List Value).toArray U := fun U hU hW =>
    ⟨rfl, by rw [hU], by rw [hU]; exact hPc, va_K.moved hW.alike hK, hDc.weaken (fun _ _ _ _ => trivial), by rw [hU]; exact (hEH.narrow hFc).warm hW⟩
  have hr := va_runS (p := p) (e := e) (below := below) (meth := meth) (locs := locs) (cells := cells) (slots := slots) (g := F0 m pc ls (.int v :: .ref b :: rest)) (As := [.ref b, .int v]) (rest := rest) (Ts := xTg) ⟨hx, hb, hml, hown, hts⟩ hM cw ⟨hblind, hpre⟩ rfl rfl hsz rfl (lv_room hcat) hdg ⟨by omega, by omega⟩
  intro T hT X
  obtain ⟨vv, st₀, t, T', L, h0, X', hL, e1, e2, ⟨hvv, hp, hz, hk⟩, st⟩ := hr T hT X
  cases hvv
  rw [h0] at hz hk
  rw [ea1] at hp
  rw [ea] at hk
  have hpb : va_at D vwCl (b, .inl (cI, 4, .inl (xf4 f v))) t.heap := hp 0 _ rfl
  have hPn : va_P D vwCl (ws.set qi (b, .inl (cI, 4, .inl (xf4 f v)))) t.heap := by
    intro k q hq
    rw [List.getElem?_set] at hq
    by_cases hkq : qi = k
    · subst hkq
      rw [if_pos rfl, if_pos (List.getElem?_eq_some_iff.mp he).1] at hq
      cases hq
      exact hpb
    · rw [if_neg hkq] at hq
      refine (hP k q hq).kept (hk q.1 ((hP k q hq).lt) ?_)
      rintro (⟨i, e, hi⟩ | hge)
      · match i, hi with
        | 0, hi =>
          have : b = q.1 := by simp at hi; exact hi.1
          exact hkq (hD.1 qi k _ q he hq this)
        | i + 1, hi => simp at hi
      · exact absurd ((hP k q hq).lt) (Nat.not_lt.mpr hge)
  obtain ⟨t2, a1, b1⟩ := kk T'.heap (locs ++ L) (by rw [e1]; exact hPn) (hD.set he)
    ⟨Nat.le_trans hS.1 (by rw [e1]; exact hz), fun q h1 h2 => by rw [e1, hk q (Nat.lt_of_lt_of_le h1 hS.1) (fun z => h2 (hFc q (by rw [ea]; exact z)))]; exact hS.2.1 q h1 h2, fun q hq => by
      rcases List.mem_append.mp hq with h | h
      · exact hS.2.2 q h
      · exact hFc _ (hL q h)⟩ T' rfl X'
  exact ⟨t2, st t2 a1, b1⟩
set_option maxHeartbeats 4000000 in
set_option maxRecDepth 100000 in
theorem ci_X5 (l : Launch) (D : va_G) (cI cZ : ClassId) (ad : Nat → Nat) (h0 sz : Nat) : Met l yX5_init (xwi yX5_init cX5_init 1) ({ frames := 1, cells := 3, slots := 248, locals := 23 }) (va_Pc [.ref h0] (fun U => U.heap.size = sz ∧ va_P D vwCl [(h0, .inr (5, [.null, .null, .null]))] U.heap ∧ va_K D vwCl (xty cI cZ) U ∧ va_D (fun _ => True) [(h0, .inr (5, [.null, .null, .null]))] ∧ xEn ad (va_A [(h0, .inr (5, [.null, .null, .null]))] sz) U U.heap)) (va_Qv (fun _ : Nat × Nat × Nat => True) (fun u t => match u with | (q1, q2, q3) => va_P D vwCl [(h0, .inr (5, [.ref q1, .ref q2, .ref q3])), (q1, .inl (cI, 4, .inl (xf4 (fun _ => 0) (-1)))), (q2, .inl (cI, 4, .inl (fun _ => 0))), (q3, .inl (cI, 240, .inl (fun _ => 0)))] t.heap ∧ va_D (va_A [(h0, .inr (5, [.null, .null, .null]))] sz) [(h0, .inr (5, [.ref q1, .ref q2, .ref q3])), (q1, .inl (cI, 4, .inl (xf4 (fun _ => 0) (-1)))), (q2, .inl (cI, 4, .inl (fun _ => 0))), (q3, .inl (cI, 240, .inl (fun _ => 0)))]) (va_A [(h0, .inr (5, [.null, .null, .null]))] sz)) 3 248 (va_A [(h0, .inr (5, [.null, .null, .null]))] sz) := by
  refine Met.ofW (cc := cX5_init) (maxL := 1) (ret := none) (by decide) rfl ?_
  intro p e s m args below meth c s₁ B hml hv
  obtain ⟨rfl, hsz, hP, hK, hD0, hE⟩ := hv
  have hx := B.exec
  have hb := B.bytes
  have hr := B.returns
  have hts : ∀ w ∈ xTg, w.before _ s = true := fun w hw => atoms_spec (ws := xwi yX5_init cX5_init 1) B.pre w (List.mem_cons_of_mem _ hw)
  have hown : s.vm.findClass RX5 = some m.cls := findClass_of_methodNamed B.named
  have hlocks := B.notSynchronized
  have hin : meth.name = "<init>" := (name_of_methodNamed B.named B.method).1
  subst hsz
  have hD := hD0.self (sz := s.heap.size)
  generalize hAe : va_A [(h0, .inr (5, [.null, .null, .null]))] s.heap.size = A at hD hE ⊢
  have hA : ∀ q : Nat, s.heap.size ≤ q → A q := fun q h => by rw [← hAe]; exact Or.inr h
  have hS : va_S A s.heap s.heap [] := va_S.rf
  have hl := lv_entry ([.ref h0]) (n := 1) (Nat.le_of_ble_eq_true rfl)
  rw [lg_entry_eq]
  generalize (lg_sl ([.ref h0]) ++ List.replicate (1 - (lg_sl ([.ref h0])).length) Slot.unset).toArray = ls at hl ⊢
  have hl : lv_has ls 1 [(0, .ref h0)] := hl
  generalize hHe : s.heap = H at hP
  have hS : va_S A s.heap H [] := by rw [← hHe]; exact hS
  refine lv_aload_n hx hb dX5_init_0 rfl (lv_at hl 0 rfl) ?_
  refine W.objInit hx hb hown (hts (.methodLink RX5 3 Lib.objectInit) (xin 296 (by decide +kernel) (by decide +kernel))) (hts (.instanceMethod Lib.objectInit) (xin 106 (by decide +kernel) (by decide +kernel))) (hts (.code Lib.objectInit ⟨#[0xb1]⟩ 1 none) (xin 107 (by decide +kernel) (by decide +kernel))) rfl (by rw [hml]; exact hl.1) rfl dX5_init_1 (Nat.le_of_ble_eq_true rfl) (Nat.le_of_ble_eq_true rfl) ?_
  refine W.eq (g2 := F0 m 4 ls []) rfl ?_
  refine lv_aload_n hx hb dX5_init_4 rfl (lv_at hl 0 rfl) ?_
  refine lv_iconst (v := 4) hx hb dX5_init_5 (by decide) ?_
  refine xnewI (N := 4) hx hb (hts _ (xin 132 (by decide +kernel) (by decide +kernel))) hK hP hD hS hA (by decide) (by decide) (by decide) (Nat.le_of_ble_eq_true rfl) (Nat.le_of_ble_eq_true rfl) dX5_init_6 (fun q1 H hP hD hS => ?_)
  have hP : va_P D vwCl [(h0, .inr (5, [.null, .null, .null])), (q1, .inl (cI, 4, .inl (fun _ => 0)))] H := hP
  have hD : va_D A [(h0, .inr (5, [.null, .null, .null])), (q1, .inl (cI, 4, .inl (fun _ => 0)))] := hD
  refine W.widen (k := 1) (n := 4) (by decide) (by decide) ?_
  refine va_putF (D := D) (ci := 5) (v := .ref q1) (ty := .array .int) (C := RX5) (T := TX5) (N := 3) hx hb hts xinX5 tyX5 tyX5_ok nmX5 hown hK hP hD hS 0 rfl rfl 0 (by decide) (hts (.fieldLink RX5 9 "FounderSleeps$Sheets" "forms" "[I") (xin 300 (by decide +kernel) (by decide +kernel))) (fun _ h9 => h9) rfl hin rfl (by decide +kernel) rfl rfl (Nat.le_of_ble_eq_true rfl) dX5_init_8 (fun H locs hP hD hS => ?_)
  have hP : va_P D vwCl [(h0, .inr (5, [.ref q1, .null, .null])), (q1, .inl (cI, 4, .inl (fun _ => 0)))] H := hP
  have hD : va_D A [(h0, .inr (5, [.ref q1, .null, .null])), (q1, .inl (cI, 4, .inl (fun _ => 0)))] := hD
  refine lv_aload_n hx hb dX5_init_11 rfl (lv_at hl 0 rfl) ?_
  refine lv_iconst (v := 4) hx hb dX5_init_12 (by decide) ?_
  refine xnewI (N := 4) hx hb (hts _ (xin 132 (by decide +kernel) (by decide +kernel))) hK hP hD hS hA (by decide) (by decide) (by decide) (Nat.le_of_ble_eq_true rfl) (Nat.le_of_ble_eq_true rfl) dX5_init_13 (fun q2 H hP hD hS => ?_)
  have hP : va_P D vwCl [(h0, .inr (5, [.ref q1, .null, .null])), (q1, .inl (cI, 4, .inl (fun _ => 0))), (q2, .inl (cI, 4, .inl (fun _ => 0)))] H := hP
  have hD : va_D A [(h0, .inr (5, [.ref q1, .null, .null])), (q1, .inl (cI, 4, .inl (fun _ => 0))), (q2, .inl (cI, 4, .inl (fun _ => 0)))] := hD
  refine W.widen (k := 2) (n := 8) (by decide) (by decide) ?_
  refine va_putF (D := D) (ci := 5) (v := .ref q2) (ty := .array .int) (C := RX5) (T := TX5) (N := 3) hx hb hts xinX5 tyX5 tyX5_ok nmX5 hown hK hP hD hS 0 rfl rfl 1 (by decide) (hts (.fieldLink RX5 15 "FounderSleeps$Sheets" "sizes" "[I") (xin 302 (by decide +kernel) (by decide +kernel))) (fun _ h9 => h9) rfl hin rfl (by decide +kernel) rfl rfl (Nat.le_of_ble_eq_true rfl) dX5_init_15 (fun H locs hP hD hS => ?_)
  have hP : va_P D vwCl [(h0, .inr (5, [.ref q1, .ref q2, .null])), (q1, .inl (cI, 4, .inl (fun _ => 0))), (q2, .inl (cI, 4, .inl (fun _ => 0)))] H := hP
  have hD : va_D A [(h0, .inr (5, [.ref q1, .ref q2, .null])), (q1, .inl (cI, 4, .inl (fun _ => 0))), (q2, .inl (cI, 4, .inl (fun _ => 0)))] := hD
  refine lv_aload_n hx hb dX5_init_18 rfl (lv_at hl 0 rfl) ?_
  refine lv_sipush (v := 240) hx hb dX5_init_19 (by decide) ?_
  refine xnewI (N := 240) hx hb (hts _ (xin 132 (by decide +kernel) (by decide +kernel))) hK hP hD hS hA (by decide) (by decide) (by decide) (Nat.le_of_ble_eq_true rfl) (Nat.le_of_ble_eq_true rfl) dX5_init_22 (fun q3 H hP hD hS => ?_)
  have hP : va_P D vwCl [(h0, .inr (5, [.ref q1, .ref q2, .null])), (q1, .inl (cI, 4, .inl (fun _ => 0))), (q2, .inl (cI, 4, .inl (fun _ => 0))), (q3, .inl (cI, 240, .inl (fun _ => 0)))] H := hP
  have hD : va_D A [(h0, .inr (5, [.ref q1, .ref q2, .null])), (q1, .inl (cI, 4, .inl (fun _ => 0))), (q2, .inl (cI, 4, .inl (fun _ => 0))), (q3, .inl (cI, 240, .inl (fun _ => 0)))] := hD
  refine W.widen (k := 3) (n := 248) (by decide) (by decide) ?_
  refine va_putF (D := D) (ci := 5) (v := .ref q3) (ty := .array .int) (C := RX5) (T := TX5) (N := 3) hx hb hts xinX5 tyX5 tyX5_ok nmX5 hown hK hP hD hS 0 rfl rfl 2 (by decide) (hts (.fieldLink RX5 18 "FounderSleeps$Sheets" "items" "[I") (xin 304 (by decide +kernel) (by decide +kernel))) (fun _ h9 => h9) rfl hin rfl (by decide +kernel) rfl rfl (Nat.le_of_ble_eq_true rfl) dX5_init_24 (fun H locs hP hD hS => ?_)
  have hP : va_P D vwCl [(h0, .inr (5, [.ref q1, .ref q2, .ref q3])), (q1, .inl (cI, 4, .inl (fun _ => 0))), (q2, .inl (cI, 4, .inl (fun _ => 0))), (q3, .inl (cI, 240, .inl (fun _ => 0)))] H := hP
  have hD : va_D A [(h0, .inr (5, [.ref q1, .ref q2, .ref q3])), (q1, .inl (cI, 4, .inl (fun _ => 0))), (q2, .inl (cI, 4, .inl (fun _ => 0))), (q3, .inl (cI, 240, .inl (fun _ => 0)))] := hD
  refine lv_aload_n hx hb dX5_init_27 rfl (lv_at hl 0 rfl) ?_
  refine va_get (D := D) (ci := 5) (v := .ref q1) (C := RX5) (T := TX5) (N := 3) hx hb hts xinX5 hown hK hP 0 rfl rfl 0 (by decide) (hts (.fieldLink RX5 9 "FounderSleeps$Sheets" "forms" "[I") (xin 300 (by decide +kernel) (by decide +kernel))) (fun _ h9 => h9) rfl dX5_init_28 ?_
  refine lv_iconst (v := (-1)) hx hb dX5_init_31 (by decide) ?_
  refine xifill hK hP hD hS hA hE 1 rfl hx hb hml hown hts (xin 297 (by decide +kernel) (by decide +kernel)) (Nat.le_of_ble_eq_true rfl) (Nat.le_of_ble_eq_true rfl) (Nat.le_of_ble_eq_true rfl) (Nat.le_of_ble_eq_true rfl) hl.1 (Nat.le_of_ble_eq_true rfl) dX5_init_32 (fun H locs hP hD hS => ?_)
  have hP : va_P D vwCl [(h0, .inr (5, [.ref q1, .ref q2, .ref q3])), (q1, .inl (cI, 4, .inl (xf4 (fun _ => 0) (-1)))), (q2, .inl (cI, 4, .inl (fun _ => 0))), (q3, .inl (cI, 240, .inl (fun _ => 0)))] H := hP
  have hD : va_D A [(h0, .inr (5, [.ref q1, .ref q2, .ref q3])), (q1, .inl (cI, 4, .inl (xf4 (fun _ => 0) (-1)))), (q2, .inl (cI, 4, .inl (fun _ => 0))), (q3, .inl (cI, 240, .inl (fun _ => 0)))] := hD
  exact W.vret hx hb hr (fun t ht hW => ⟨⟨(q1, q2, q3), rfl, trivial, by rw [ht]; exact hP, hD⟩, hS.F ht⟩) hS.2.2 dX5_init_35
