/-- a method of the table, by a run of the abstract machine -/
theorem xmet (l : Launch) (D : va_G) (cI cZ : ClassId) (ad : Nat → Nat) {Ly : xLy} (LK : xLyk Ly) {R : xRec} (hR : R ∈ xMs) {as : List Value} {s0 s1 : xS} {r : Option Value} (h : ∃ n, xexec xMs Ly n R (0, lv_args 0 as, [], s0) = some (r, s1)) (hfit : (lg_sl as).length ≤ xrL R) (sz : Nat) :
    Met l (xry R) (xws R) (xrm R) (xPc D cI cZ ad Ly as s0 sz) (xQc D cI cZ ad Ly r s1 (va_A (xw cI cZ ad Ly s0) sz)) 0 0 (va_A (xw cI cZ ad Ly s0) sz) := by
  obtain ⟨n, hxe⟩ := h
  have hg' := xRGs R hR
  have hfit' : (lg_sl (as.map (xcv ad))).length ≤ xrL R := by rw [lg_sl_cv]; exact hfit
  refine Met.ofW (cc := xrc R) (maxL := xrL R) (ret := xrt R) hg'.2.2.2.2.1 rfl ?_
  intro p' e' s' m' args' below' meth' c' s₁' B hml' hv
  obtain ⟨rfl, hsz, hP', hK', hD', hE'⟩ := hv
  have hts' := atoms_spec (ws := xws R) B.pre
  have hown' : s'.vm.findClass (xry R).cls = some m'.cls := findClass_of_methodNamed B.named
  rw [lg_entry_eq]
  have hl0 := lv_entry (as.map (xcv ad)) (n := xrL R) hfit'
  rw [lv_args_cv] at hl0
  rw [← hsz] at hE' ⊢
  exact xsim l D cI cZ ad xG xCFok LK xRGs xMl n R (0, lv_args 0 as, [], s0) r s1 hR hxe p' e' s' m' _ below' meth' c' _ s'.heap [] _ B.exec B.bytes hml' B.returns B.notSynchronized (fun w hw => hts' w (List.mem_cons_of_mem _ hw)) hown' (fun q hq => Or.inr hq) hE' hK' hP' hD'.self va_S.rf hl0
/-- two worlds, apart -/
def xdis (w1 w2 : va_W) : Prop := ∀ (i j : Nat) (p q : Nat × va_E), w1[i]? = some p → w2[j]? = some q → p.1 ≠ q.1
theorem xdis.symm {w1 w2 : va_W} (h : xdis w1 w2) : xdis w2 w1 := fun i j p q h1 h2 e => h j i q p h2 h1 e.symm
theorem xw_key {cI cZ : ClassId} {ad : Nat → Nat} {Ly : xLy} {s s' : xS} {i : Nat} {q : Nat × va_E} (hq : (xw cI cZ ad Ly s')[i]? = some q) : ∃ q', (xw cI cZ ad Ly s)[i]? = some q' ∧ q'.1 = q.1 := by
  unfold xw at hq ⊢
  rw [List.getElem?_mapIdx] at hq ⊢
  cases hL : Ly[i]? with
  | none => rw [hL] at hq; cases hq
  | some sh =>
    rw [hL] at hq
    cases hq
    exact ⟨_, rfl, rfl⟩
theorem xdis.ad {cI cZ : ClassId} {ad : Nat → Nat} {Ly : xLy} {s s' : xS} {w : va_W} (h : xdis (xw cI cZ ad Ly s) w) : xdis (xw cI cZ ad Ly s') w := fun i j p q h1 h2 => by
  obtain ⟨p', hp, ep⟩ := xw_key (s := s) h1
  rw [← ep]
  exact h i j p' q hp h2
/-- a call of a virtual method from the law (or a constructor) over one world, another beside it -/
theorem xlcall {p : Program} {l : Launch} {e : Env} {Rm : Room} {s : State} {m : MethodId} {args : Array Value} {below : List Frame} {meth : Method} {c : Code} {Q : State → Prop} {A : Nat → Prop} {D : va_G} {cI cZ : ClassId} {ad : Nat → Nat} {Ly : xLy} {R : xRec} {H : Heap} {locs : List Loc} {ls : Array Slot} {cc : ByteArray} {nL pc ix : Nat} {own : String} {wo : va_W} {as : List Value} {rest st0 : List Value} {s0 s1 : xS} {r : Option Value} {cells slots : Nat}
    (LK : xLyk Ly) (hR : R ∈ xMs) (h : ∃ n, xexec xMs Ly n R (0, lv_args 0 (.ref 0 :: as), [], s0) = some (r, s1)) (hfit : (lg_sl (.ref 0 :: as)).length ≤ xrL R) (hv : xrv R = true) (hrecv : xrecv Ly R [.ref 0] = true) (h12 : xro R ≠ 12) (hlk : Cond.methodLink own ix (xry R) ∈ xTg) (hn : as.length = xrn R)
    (hx : p.tables.exec = Jvm.exec) (hb : c.code = cc) (hml : c.maxLocals = nL) (hown : s.vm.findClass own = some m.cls) (hts : ∀ w ∈ xTg, w.before args s = true) (hA : ∀ q, s.heap.size ≤ q → A q) (hE : xEn ad A s s.heap) (hK : va_K D vwCl (xty cI cZ) s) (hP : va_P D vwCl (xw cI cZ ad Ly s0) H) (hD : va_D A (xw cI cZ ad Ly s0)) (hO : va_P D vwCl wo H) (hdis : xdis (xw cI cZ ad Ly s0) wo) (hS : va_S A s.heap H locs)
    (hRf : xrf R + 1 ≤ Rm.frames) (hRl : 8 + (xrL R + 11) + xrk R ≤ Rm.locals) (hRc : cells ≤ Rm.cells) (hRs : slots ≤ Rm.slots) (hsz : ls.size = nL) (hst : st0 = (as.map (xcv ad)).reverse ++ .ref (ad 0) :: rest) (hcat : (rest.map fun v => v.category).sum ≤ 8) (hdg : decode cc pc = .ok (.invokevirtual ix, 3))
    (kk : ∀ (H1 : Heap) (locs1 : List Loc), va_P D vwCl (xw cI cZ ad Ly s1) H1 → va_D A (xw cI cZ ad Ly s1) → va_P D vwCl wo H1 → xdis (xw cI cZ ad Ly s1) wo → va_S A s.heap H1 locs1 → W p l e Rm s m args below meth c H1 locs1 cells slots Q (F0 m (pc + 3) ls ((r.map (xcv ad)).toList ++ rest))) :
    W p l e Rm s m args below meth c H locs cells slots Q (F0 m pc ls st0) := by
  have hg := xRGs R hR
  have hM := xmet l D cI cZ ad LK hR h hfit H.size
  have hvi := hg.2.2.2.2.2.2.1 hv
  have hFc := xw_free hD hS hA
  have hEH : xEn ad A s H := hE.kept hS.2.1
  have cw := cwV (R := Rm) (s := s) (args := args) (own := own) (C := (xry R).cls) (index := ix) (y := xry R) (bytes := xrc R) (maxL := xrL R) (mc := 0) (ms := 0) (ret := xrt R) (Ts := xTg) (ws := xws R) (ws' := xTg) (rm := xrm R) (xrn R) hts (xTg_good (fun w hw2 => by
    unfold wsV at hw2
    rcases List.mem_append.mp hw2 with h1 | h1
    · simp only [List.mem_cons, List.not_mem_nil, or_false] at h1
      rcases h1 with rfl | rfl | rfl | rfl
      · exact hlk
      · exact hvi.1
      · exact hvi.2.1
      · exact hg.2.2.2.1
    · rcases List.mem_cons.mp h1 with rfl | h1
      · exact hg.2.2.1
      · exact h1)) rfl rfl rfl ⟨rfl, hg.2.2.2.2.2.1⟩ ⟨hRf, hRl⟩
  have hrc : ∃ cell : Cell, H[ad 0]? = some cell ∧ cell.vm.isStatics = false ∧ s.vm.findClass (xry R).cls = some cell.cls := by
    unfold xrecv at hrecv
    rw [hv] at hrecv
    simp only [cond_true] at hrecv
    rcases hvi.2.2 with ⟨g1, g2⟩ | ⟨T, N, g1⟩
    · exact absurd g1 h12
    · have h12' : Nat.beq (xro R) 12 = false := by
        cases hq : Nat.beq (xro R) 12 with
        | false => rfl
        | true => exact absurd (Nat.eq_of_beq_eq_true hq) h12
      rw [h12'] at hrecv
      simp only [cond_false] at hrecv
      split at hrecv
      · rename_i oo ho
        have eo : oo.1 = xro R := Nat.eq_of_beq_eq_true hrecv
        obtain ⟨o1', o2'⟩ := oo
        simp only at eo
        subst eo
        exact va_recv hK hP g1 (xw_at ho)
      · cases hrecv
  have hblind : FrameBlind (xPc D cI cZ ad Ly (.ref 0 :: as) s0 H.size) := fun a U g mk q => by
    obtain ⟨q0, q1, qP, qK, qD, qE⟩ := q
    exact ⟨q0, q1, qP, va_K.moved (u := U) (U := U.calling g mk a) (Vm.Alike.refl U.vm) qK, qD, xEn.same (u := U) (U := U.calling g mk a) rfl (Vm.Alike.refl U.vm) qE⟩
  have hpre : ∀ U : State, U.heap = H → s.WarmedH U.vm → xPc D cI cZ ad Ly (.ref 0 :: as) s0 H.size (Value.ref (ad 0) :: as.map (xcv ad)).toArray U := fun U hU hW =>
    ⟨rfl, by rw [hU], by rw [hU]; exact hP, va_K.moved hW.alike hK, hD.weaken (fun _ _ _ _ => trivial), by rw [hU]; exact (hEH.narrow hFc).warm hW⟩
  have hr := va_runV (p := p) (e := e) (below := below) (meth := meth) (locs := locs) (cells := cells) (slots := slots) (g := F0 m pc ls st0) (b := ad 0) (As := as.map (xcv ad)) (rest := rest) (Ts := xTg) ⟨hx, hb, hml, hown, hts⟩ hM cw ⟨hblind, hrc, hpre⟩ rfl (by rw [List.length_map]; exact hn) hsz hst (lv_room hcat) hdg ⟨by omega, by omega⟩
  intro T hT X
  obtain ⟨v, st₀, t, T', L, h0, X', hL, e1, e2, ⟨hvv, hp, hz, hk⟩, st⟩ := hr T hT X
  cases hvv
  rw [h0] at hz hk
  have hO' : va_P D vwCl wo t.heap := hO.kept (fun k q hq => hk q.1 ((hO k q hq).lt) (by
    rintro (⟨i, e, hi⟩ | hge)
    · exact hdis i k _ q hi hq rfl
    · exact absurd ((hO k q hq).lt) (Nat.not_lt.mpr hge)))
  obtain ⟨t2, a1, b1⟩ := kk T'.heap (locs ++ L) (by rw [e1]; exact hp) (xw_ad hD) (by rw [e1]; exact hO') hdis.ad
    ⟨Nat.le_trans hS.1 (by rw [e1]; exact hz), fun q h1 h2 => by rw [e1, hk q (Nat.lt_of_lt_of_le h1 hS.1) (fun z => h2 (hFc q z))]; exact hS.2.1 q h1 h2, fun q hq => by
      rcases List.mem_append.mp hq with h | h
      · exact hS.2.2 q h
      · exact hFc _ (hL q h)⟩ T' rfl X'
  exact ⟨t2, st t2 a1, b1⟩
