def xrm (R : xRec) : Room := { frames := xrf R, cells := 0, slots := 0, locals := xrk R }
def xws (R : xRec) : List Cond := Cond.code (xry R) (xrc R) (xrL R) (xrt R) :: xTg
def xPc (D : va_G) (cI cZ : ClassId) (ad : Nat → Nat) (Ly : xLy) (as : List Value) (s0 : xS) (sz : Nat) : Array Value → State → Prop := va_Pc (as.map (xcv ad)) (fun U => U.heap.size = sz ∧ va_P D vwCl (xw cI cZ ad Ly s0) U.heap ∧ va_K D vwCl (xty cI cZ) U ∧ va_D (fun _ => True) (xw cI cZ ad Ly s0) ∧ xEn ad (va_A (xw cI cZ ad Ly s0) sz) U U.heap)
def xQc (D : va_G) (cI cZ : ClassId) (ad : Nat → Nat) (Ly : xLy) (r : Option Value) (s1 : xS) (A : Nat → Prop) : Array Value → State → Outcome → State → Prop := fun _ st oc t => oc = .returned (r.map (xcv ad)) ∧ va_P D vwCl (xw cI cZ ad Ly s1) t.heap ∧ va_F A st t
/-- what is known of a method of the table -/
def xRg (Ms : List xRec) (R : xRec) : Prop := (∀ q ∈ xri R, xeb Ms R q = true) ∧ (xry R).cls = xcn (xro R) ∧ Cond.code (xry R) (xrc R) (xrL R) (xrt R) ∈ xTg ∧ Cond.initialized (xry R).cls ∈ xTg ∧ plainName (xry R).cls = true ∧
  ((xry R).cls ≠ "java/lang/invoke/MethodHandle" ∧ (xry R).cls ≠ "java/lang/invoke/VarHandle" ∧ (parseMethodDescriptor (xry R).desc).map (fun d => d.parameters.length) = some (xrn R)) ∧
  (xrv R = true → Cond.instanceMethod (xry R) ∈ xTg ∧ Cond.selects (xry R).cls (xry R) (xry R) ∈ xTg ∧ ((xro R = 12 ∧ (xry R).cls = "java/lang/String") ∨ ∃ T N, vwCl[xro R]? = some ((xry R).cls, T, N))) ∧
  (xrv R = false → Cond.static (xry R) ∈ xTg)
theorem xTg_good {ws : List Cond} (h : ∀ w ∈ ws, w ∈ xTg) : GoodIn xTg ws := fun w hw => ⟨h w hw, good_of_word (List.mem_filter.mp (h w hw)).2⟩
theorem lv_args_cv (ad : Nat → Nat) : ∀ (as : List Value) (i : Nat), lv_args i (as.map (xcv ad)) = xcl ad (lv_args i as)
  | [], _ => rfl
  | v :: vs, i => by
    show (i, xcv ad v) :: lv_args (if (xcv ad v).category = 2 then i + 2 else i + 1) (vs.map (xcv ad)) = (i, xcv ad v) :: xcl ad (lv_args (if v.category = 2 then i + 2 else i + 1) vs)
    rw [xcv_cat, lv_args_cv ad vs]
theorem lg_sl_cv (ad : Nat → Nat) : ∀ (as : List Value), (lg_sl (as.map (xcv ad))).length = (lg_sl as).length
  | [] => rfl
  | v :: vs => by
    have h := lg_sl_cv ad vs
    unfold lg_sl at h ⊢
    simp only [List.map_cons, List.flatMap_cons, List.length_append, xcv_cat, h]
    congr 1
    split <;> rfl
section XSIM
variable {p : Program} {l : Launch} {e : Env} {Rm : Room} {s : State} {m : MethodId} {args : Array Value} {below : List Frame} {meth : Method} {c : Code} {Q : State → Prop} {A A1 : Nat → Prop} {D : va_G} {cI cZ : ClassId} {ad : Nat → Nat} {Ly : xLy} {Ms : List xRec} {R : xRec} {H : Heap} {locs : List Loc} {ls : Array Slot}
theorem xcall {pc : Nat} {rest st0 : List Value} {a : Array Value} {free : Addr → Prop} {r : Option Value} {s1 : xS} (hr : va_Run p l e Rm s m args below meth c H locs 0 0 0 0 (F0 m pc ls st0) rest (xQc D cI cZ ad Ly r s1 A1 a) free) (hS : va_S A s.heap H locs) (hA : ∀ q, q < H.size → A1 q → A q) (hf : ∀ q, free q → A q)
    (kk : ∀ (H1 : Heap) (locs1 : List Loc), va_P D vwCl (xw cI cZ ad Ly s1) H1 → va_S A s.heap H1 locs1 → W p l e Rm s m args below meth c H1 locs1 0 0 Q (F0 m (pc + 3) ls ((r.map (xcv ad)).toList ++ rest))) : W p l e Rm s m args below meth c H locs 0 0 Q (F0 m pc ls st0) := by
  intro T hT X
  obtain ⟨v, st₀, t, T', L, h0, X', hL, e1, e2, ⟨hv, hp, hz, hk⟩, st⟩ := hr T hT X
  cases hv
  rw [h0] at hz hk
  obtain ⟨t2, a1, b1⟩ := kk T'.heap (locs ++ L) (by rw [e1]; exact hp)
    ⟨Nat.le_trans hS.1 (by rw [e1]; exact hz), fun q h1 h2 => by rw [e1, hk q (Nat.lt_of_lt_of_le h1 hS.1) (fun z => h2 (hA q (Nat.lt_of_lt_of_le h1 hS.1) z))]; exact hS.2.1 q h1 h2, fun q hq => by
      rcases List.mem_append.mp hq with h | h
      · exact hS.2.2 q h
      · exact hf _ (hL q h)⟩ T' rfl X'
  exact ⟨t2, st t2 a1, b1⟩
theorem xw_free {s0 : xS} (hD : va_D A (xw cI cZ ad Ly s0)) (hS : va_S A s.heap H locs) (hA : ∀ q, s.heap.size ≤ q → A q) : ∀ q, va_A (xw cI cZ ad Ly s0) H.size q → A q := by
  intro q hq
  rcases hq with ⟨k, e, hk⟩ | h
  · exact hD.2 k _ hk
  · exact hA q (Nat.le_trans hS.1 h)
set_option maxHeartbeats 4000000 in
/-- a return -/
theorem xret (RG : xRg Ms R) {pc : Nat} {en : xEnt} {lv : xLv} {st : List Value} {s0 : xS} {r : Option Value} (hstep : xstep Ly (xrz R) pc en lv st s0 = some (.inr (.inr r))) (hisr : xisr en.1 = true) (hen : xeb Ms R (pc, en) = true)
    (hx : p.tables.exec = Jvm.exec) (hb : c.code = xrc R) (hr : meth.sig.returnType = xrt R) (hlocks : meth.locks = false) (hP : va_P D vwCl (xw cI cZ ad Ly s0) H) (hS : va_S A s.heap H locs) :
    W p l e Rm s m args below meth c H locs 0 0 (MQ below (xQc D cI cZ ad Ly r s0 A) args s 0 0 A) (F0 m pc ls (st.map (xcv ad))) := by
  obtain ⟨i, len, a, b, mk⟩ := en
  unfold xeb at hen
  simp only [Bool.and_eq_true, decide_eq_true_eq, Bool.or_eq_true] at hen
  obtain ⟨⟨hdg, hln⟩, hlb⟩ := hen
  have hlen : ∀ {i' : Instr}, i = i' → xsx i' = false → decode (xrc R) pc = .ok (i', xlen i') := by
    intro i' e1 e2
    subst e1
    rw [e2] at hln
    simp only [Bool.false_eq_true, false_or] at hln
    rw [hdg, Nat.eq_of_beq_eq_true hln]
  have hq : ∀ (v : Option Value) (t : State), v = r.map (xcv ad) → t.heap = H → s.WarmedH t.vm → xQc D cI cZ ad Ly r s0 A args s (.returned v) t := fun v t ev ht _ => ⟨by rw [ev], by rw [ht]; exact hP, hS.F ht⟩
  cases i with
  | return_ =>
    simp only [xstep] at hstep
    simp only [xlb] at hlb
    split at hstep
    · cases hstep
      exact W.vret hx hb (hr.trans (of_decide_eq_true hlb)) (hq none · rfl) hS.2.2 (hlen rfl rfl)
    · cases hstep
  | ireturn =>
    simp only [xstep] at hstep
    simp only [xlb] at hlb
    split at hstep
    · rename_i v
      split at hstep
      · cases hstep
      · rename_i hv
        cases hstep
        simp only [Bool.or_eq_true, decide_eq_true_eq] at hlb
        rcases hlb with (h | h) | h
        · exact W.iret hx hb (hr.trans h) (hq (some (.int v)) · rfl) hS.2.2 (hlen rfl rfl)
        · have hz : xrz R = true := by unfold xrz; rw [h]
          have h01 : v = 0 ∨ v = 1 := by
            by_cases h0 : v = 0
            · exact Or.inl h0
            · by_cases h1 : v = 1
              · exact Or.inr h1
              · exact absurd ⟨hz, h0, h1⟩ hv
          exact W.zret hx hb (hr.trans h) (by rcases h01 with rfl | rfl <;> rfl) (hq (some (.int v)) · rfl) hS.2.2 (hlen rfl rfl)
        · have hz : xrz R = true := by unfold xrz; rw [h]
          have h01 : v = 0 ∨ v = 1 := by
            by_cases h0 : v = 0
            · exact Or.inl h0
            · by_cases h1 : v = 1
              · exact Or.inr h1
              · exact absurd ⟨hz, h0, h1⟩ hv
          exact W.zret hx hb (hr.trans h) (by rcases h01 with rfl | rfl <;> rfl) (hq (some (.int v)) · rfl) hS.2.2 (hlen rfl rfl)
    · cases hstep
  | lreturn =>
    simp only [xstep] at hstep
    simp only [xlb] at hlb
    split at hstep
    · rename_i v
      cases hstep
      exact W.lret hx hb (hr.trans (of_decide_eq_true hlb)) (hq (some (.long v)) · rfl) hS.2.2 (hlen rfl rfl)
    · cases hstep
  | areturn =>
    simp only [xstep] at hstep
    simp only [xlb] at hlb
    split at hstep
    · rename_i v
      cases hstep
      split at hlb
      · rename_i nm hn
        exact W.aret hx hb (hr.trans hn) (Or.inl ⟨_, rfl⟩) (Or.inr ⟨ad v, rfl⟩) (hq (some (.ref (ad v))) · rfl) hS.2.2 (hlen rfl rfl)
      · cases hlb
    · cases hstep
  | _ => cases hisr
set_option maxHeartbeats 4000000 in
set_option maxRecDepth 100000 in
/-- the abstract machine's runs are the machine's -/
theorem xsim (l : Launch) (D : va_G) (cI cZ : ClassId) (ad : Nat → Nat) (G : xLG Ms) (CF : xCF) (LK : xLyk Ly) (RG : ∀ R ∈ Ms, xRg Ms R) (ML : Ms.length ≤ 900) : ∀ (n : Nat) (R : xRec) (f : xF) (r : Option Value) (s1 : xS), R ∈ Ms → xexec Ms Ly n R f = some (r, s1) →
    ∀ (p : Program) (e : Env) (s : State) (m : MethodId) (args : Array Value) (below : List Frame) (meth : Method) (c : Code) (A : Nat → Prop) (H : Heap) (locs : List Loc) (ls : Array Slot),
    p.tables.exec = Jvm.exec → c.code = xrc R → c.maxLocals = xrL R → meth.sig.returnType = xrt R → meth.locks = false → (∀ w ∈ xTg, w.before args s = true) → s.vm.findClass (xry R).cls = some m.cls → (∀ q, s.heap.size ≤ q → A q) → xEn ad A s s.heap →
    va_K D vwCl (xty cI cZ) s → va_P D vwCl (xw cI cZ ad Ly f.2.2.2) H → va_D A (xw cI cZ ad Ly f.2.2.2) → va_S A s.heap H locs → lv_has ls (xrL R) (xcl ad f.2.1) →
    W p l e (xrm R) s m args below meth c H locs 0 0 (MQ below (xQc D cI cZ ad Ly r s1 A) args s 0 0 A) (F0 m f.1 ls (f.2.2.1.map (xcv ad))) := by
  intro n
  induction n with
  | zero => intro R f r s1 hR h; cases h
  | succ n ih =>
    intro R f r s1 hR h p e s m args below meth c A H locs ls hx hb hml hr hlocks hts hown hA hE hK hP hD hS hl
    obtain ⟨pc, lv, st, s0⟩ := f
    simp only [xexec] at h
    cases hlk : xlk (xri R) pc with
    | none => rw [hlk] at h; cases h
    | some en =>
      rw [hlk] at h
      simp only at h
      have hg := RG R hR
      have hen := hg.1 _ (xlk_mem hlk)
      have hl' := xmask_has (m := en.2.2.2.2) hl
      cases hst : xstep Ly (xrz R) pc en (xmask en.2.2.2.2 lv) st s0 with
      | none => rw [hst] at h; cases h
      | some o =>
        rw [hst] at h
        rcases o with g | cc | rr
        · exact xgo G CF LK hst hen rfl hg.2.1 hx hb hml hts hown hE hK hP hD hS hl' (fun H1 locs1 ls1 hP1 hD1 hS1 hl1 => ih R g r s1 hR h p e s m args below meth c A H1 locs1 ls1 hx hb hml hr hlocks hts hown hA hE hK hP1 hD1 hS1 hl1)
        · simp only at h
          cases hms : Ms[cc.1]? with
          | none => rw [hms] at h; cases h
          | some R' =>
            rw [hms] at h
            obtain ⟨hcd, h⟩ := cond_some h
            rw [Bool.and_eq_true, Bool.and_eq_true] at hcd
            obtain ⟨⟨hisc, hrecv⟩, hfit⟩ := hcd
            cases hxe : xexec Ms Ly n R' (0, lv_args 0 cc.2.1, [], s0) with
            | none => rw [hxe] at h; cases h
            | some q =>
              rw [hxe] at h
              simp only at h
              obtain ⟨r2, s2⟩ := q
              have hR' : R' ∈ Ms := List.mem_of_getElem? hms
              have hg' := RG R' hR'
              have hfit' : (lg_sl (cc.2.1.map (xcv ad))).length ≤ xrL R' := by rw [lg_sl_cv]; exact Nat.le_of_ble_eq_true hfit
              -- the callee's contract
              have hM : Met l (xry R') (xws R') (xrm R') (xPc D cI cZ ad Ly cc.2.1 s0 H.size) (xQc D cI cZ ad Ly r2 s2 (va_A (xw cI cZ ad Ly s0) H.size)) 0 0 (va_A (xw cI cZ ad Ly s0) H.size) := by
                refine Met.ofW (cc := xrc R') (maxL := xrL R') (ret := xrt R') hg'.2.2.2.2.1 rfl ?_
                intro p' e' s' m' args' below' meth' c' s₁' B hml' hv
                obtain ⟨rfl, hsz, hP', hK', hD', hE'⟩ := hv
                have hts' := atoms_spec (ws := xws R') B.pre
                have hown' : s'.vm.findClass (xry R').cls = some m'.cls := findClass_of_methodNamed B.named
                rw [lg_entry_eq]
                have hl0 := lv_entry (cc.2.1.map (xcv ad)) (n := xrL R') hfit'
                rw [lv_args_cv] at hl0
                rw [← hsz] at hE' ⊢
                exact ih R' (0, lv_args 0 cc.2.1, [], s0) r2 s2 hR' hxe p' e' s' m' _ below' meth' c' _ s'.heap [] _ B.exec B.bytes hml' B.returns B.notSynchronized (fun w hw => hts' w (List.mem_cons_of_mem _ hw)) hown' (fun q hq => Or.inr hq) hE' hK' hP' hD'.self va_S.rf hl0
              have hFc := xw_free hD hS hA
              have hEH : xEn ad A s H := hE.kept hS.2.1
              have hblind : FrameBlind (xPc D cI cZ ad Ly cc.2.1 s0 H.size) := fun a U g mk q => by
                obtain ⟨q0, q1, qP, qK, qD, qE⟩ := q
                exact ⟨q0, q1, qP, va_K.moved (u := U) (U := U.calling g mk a) (Vm.Alike.refl U.vm) qK, qD, xEn.same (u := U) (U := U.calling g mk a) rfl (Vm.Alike.refl U.vm) qE⟩
              have hpre : ∀ U : State, U.heap = H → s.WarmedH U.vm → xPc D cI cZ ad Ly cc.2.1 s0 H.size (cc.2.1.map (xcv ad)).toArray U := fun U hU hW =>
                ⟨rfl, by rw [hU], by rw [hU]; exact hP, va_K.moved hW.alike hK, hD.weaken (fun _ _ _ _ => trivial), by rw [hU]; exact (hEH.narrow hFc).warm hW⟩
              have hkk : ∀ (H1 : Heap) (locs1 : List Loc), va_P D vwCl (xw cI cZ ad Ly s2) H1 → va_S A s.heap H1 locs1 → W p l e (xrm R) s m args below meth c H1 locs1 0 0 (MQ below (xQc D cI cZ ad Ly r s1 A) args s 0 0 A) (F0 m (pc + 3) ls ((r2.map (xcv ad)).toList ++ cc.2.2.map (xcv ad))) := fun H1 locs1 hP1 hS1 => by
                have hz := ih R (pc + 3, xmask en.2.2.2.2 lv, r2.toList ++ cc.2.2, s2) r s1 hR h p e s m args below meth c A H1 locs1 ls hx hb hml hr hlocks hts hown hA hE hK hP1 (xw_ad hD) hS1 hl'
                rw [List.map_append] at hz
                have he : (r2.map (xcv ad)).toList = r2.toList.map (xcv ad) := by cases r2 <;> rfl
                rw [he]
                exact hz
              obtain ⟨i, len, a, b, mk⟩ := en
              have hen0 := hen
              unfold xeb at hen
              simp only [Bool.and_eq_true, decide_eq_true_eq, Bool.or_eq_true] at hen
              obtain ⟨⟨hdg, hln⟩, hlb⟩ := hen
              have hlen : ∀ {i' : Instr}, i = i' → xsx i' = false → decode (xrc R) pc = .ok (i', xlen i') := by
                intro i' e1 e2
                subst e1
                rw [e2] at hln
                simp only [Bool.false_eq_true, false_or] at hln
                rw [hdg, Nat.eq_of_beq_eq_true hln]
              have hown2 := hown
              rw [hg.2.1] at hown2
              cases i with
              | invokestatic ix =>
                simp only [xstep] at hst
                simp only [xlb] at hlb
                cases hc2 : Nat.beq a 902 with
                | true =>
                  rw [hc2] at hst
                  simp only [cond_true] at hst
                  split at hst
                  · obtain ⟨n0, -, h4⟩ := xaw_some hst
                    obtain ⟨n1, -, h6⟩ := xaw_some h4
                    obtain ⟨-, h8⟩ := xck_some h6
                    cases h8
                  · cases hst
                | false =>
                  rw [hc2] at hst hlb
                  simp only [cond_false] at hst hlb
                  cases hc0 : Nat.beq a 900 with
                  | true =>
                    rw [hc0] at hst
                    simp only [cond_true] at hst
                    obtain ⟨_, _, _, -, h2⟩ := xi2_some hst
                    have := (cond_some h2).2
                    cases this
                  | false =>
                  cases hc1 : Nat.beq a 901 with
                  | true =>
                    rw [hc0, hc1] at hst
                    simp only [cond_true, cond_false] at hst
                    obtain ⟨_, _, _, -, h2⟩ := xi2_some hst
                    have := (cond_some h2).2
                    cases this
                  | false =>
                  rw [hc0, hc1] at hst hlb
                  simp only [cond_false, Bool.false_or] at hst hlb
                  obtain ⟨hst1, hst2⟩ := cond_some hst
                  rw [Bool.and_eq_true] at hst1
                  have hble : b ≤ st.length := Nat.le_of_ble_eq_true hst1.1
                  have hcat : xcat (st.drop b) ≤ 8 := Nat.le_of_ble_eq_true hst1.2
                  have ecc : cc = (a, (st.take b).reverse, st.drop b) := by cases hst2; rfl
                  subst ecc
                  cases h98 : Nat.beq a 998 with
                  | true =>
                    have ea : a = 998 := Nat.eq_of_beq_eq_true h98
                    have := (List.getElem?_eq_some_iff.mp hms).1
                    simp only at this
                    omega
                  | false =>
                    rw [h98] at hlb
                    simp only [cond_false, Bool.and_eq_true, decide_eq_true_eq] at hlb
                    obtain ⟨hlk2, hok⟩ := hlb
                    unfold xcallok at hok
                    have hms2 : Ms[a]? = some R' := hms
                    rw [hms2] at hok
                    simp only [Bool.and_eq_true] at hok
                    obtain ⟨⟨⟨o1, o2⟩, o3⟩, o4⟩ := hok
                    have hsv : xrv R' = false := by simpa using o1
                    have hnb : xrn R' = b := Nat.eq_of_beq_eq_true o2
                    have hw := (G.2.2.2.1 _ hlk2).2 R' hms2
                    have cw := va_cwS (R := xrm R) (s := s) (args := args) (own := xcn (xro R)) (index := ix) (y := xry R') (bytes := xrc R') (maxL := xrL R') (mc := 0) (ms := 0) (ret := xrt R') (Ts := xTg) (ws := xws R') (ws' := xTg) (rm := xrm R') (xrn R') hts (xTg_good (fun w hw2 => by
                      unfold va_wsS at hw2
                      rcases List.mem_append.mp hw2 with h1 | h1
                      · simp only [List.mem_cons, List.not_mem_nil, or_false] at h1
                        rcases h1 with rfl | rfl | rfl
                        · exact hw
                        · exact hg'.2.2.2.2.2.2.2 hsv
                        · exact hg'.2.2.2.1
                      · rcases List.mem_cons.mp h1 with rfl | h1
                        · exact hg'.2.2.1
                        · exact h1)) rfl rfl rfl hg'.2.2.2.2.2.1 ⟨Nat.le_of_ble_eq_true o3, Nat.le_of_ble_eq_true o4⟩
                    refine xcall (va_runS (g := F0 m pc ls (st.map (xcv ad))) (As := (st.take b).reverse.map (xcv ad)) (rest := (st.drop b).map (xcv ad)) (Ts := xTg) ⟨hx, hb, hml, hown2, hts⟩ hM cw ⟨hblind, hpre⟩ rfl (by rw [List.length_map, List.length_reverse, List.length_take, hnb]; omega) hl.1 ?_ (lv_room (by rw [xcat_map]; exact hcat)) (hlen rfl rfl) ⟨Nat.le_refl _, Nat.le_refl _⟩) hS (fun q _ h => hFc q h) hFc hkk
                    show st.map (xcv ad) = _
                    rw [← List.map_reverse, List.reverse_reverse, ← List.map_append, List.take_append_drop]
              | invokevirtual ix =>
                simp only [xstep] at hst
                simp only [xlb, Bool.and_eq_true, decide_eq_true_eq] at hlb
                obtain ⟨hlk2, hok⟩ := hlb
                split at hst
                · rename_i q rr hdr
                  obtain ⟨hst1, hst2⟩ := cond_some hst
                  have hcat : xcat rr ≤ 8 := Nat.le_of_ble_eq_true hst1
                  have ecc : cc = (a, .ref q :: (st.take b).reverse, rr) := by cases hst2; rfl
                  subst ecc
                  have hbl : b < st.length := by
                    rcases Nat.lt_or_ge b st.length with h1 | h1
                    · exact h1
                    · rw [List.drop_eq_nil_of_le h1] at hdr; cases hdr
                  unfold xcallok at hok
                  have hms2 : Ms[a]? = some R' := hms
                  rw [hms2] at hok
                  simp only [Bool.and_eq_true] at hok
                  obtain ⟨⟨⟨o1, o2⟩, o3⟩, o4⟩ := hok
                  have hsv : xrv R' = true := by simpa using o1
                  have hnb : xrn R' = b := Nat.eq_of_beq_eq_true o2
                  have hw := G.2.2.1 _ hlk2 R' hms2
                  have hvi := hg'.2.2.2.2.2.2.1 hsv
                  have cw := cwV (R := xrm R) (s := s) (args := args) (own := xcn (xro R)) (C := (xry R').cls) (index := ix) (y := xry R') (bytes := xrc R') (maxL := xrL R') (mc := 0) (ms := 0) (ret := xrt R') (Ts := xTg) (ws := xws R') (ws' := xTg) (rm := xrm R') (xrn R') hts (xTg_good (fun w hw2 => by
                    unfold wsV at hw2
                    rcases List.mem_append.mp hw2 with h1 | h1
                    · simp only [List.mem_cons, List.not_mem_nil, or_false] at h1
                      rcases h1 with rfl | rfl | rfl | rfl
                      · exact hw
                      · exact hvi.1
                      · exact hvi.2.1
                      · exact hg'.2.2.2.1
                    · rcases List.mem_cons.mp h1 with rfl | h1
                      · exact hg'.2.2.1
                      · exact h1)) rfl rfl rfl ⟨rfl, hg'.2.2.2.2.2.1⟩ ⟨Nat.le_of_ble_eq_true o3, Nat.le_of_ble_eq_true o4⟩
                  have hrc : ∃ cell : Cell, H[ad q]? = some cell ∧ cell.vm.isStatics = false ∧ s.vm.findClass (xry R').cls = some cell.cls := by
                    unfold xrecv at hrecv
                    rw [hsv] at hrecv
                    simp only [cond_true] at hrecv
                    rcases hvi.2.2 with ⟨g1, g2⟩ | ⟨T, N, g1⟩
                    · rw [g1] at hrecv
                      rw [g2]
                      have hq : ∃ i, i < 2 ∧ q = 1002 + i := by
                        have h3 : (Nat.beq q 1002 || Nat.beq q 1003) = true := hrecv
                        rcases Bool.or_eq_true _ _ ▸ h3 with h | h
                        · exact ⟨0, by decide, Nat.eq_of_beq_eq_true h⟩
                        · exact ⟨1, by decide, Nat.eq_of_beq_eq_true h⟩
                      obtain ⟨i, hi, rfl⟩ := hq
                      exact vk_recv (i := i) (adK := fun i => ad (1002 + i)) hE.2.2.2.2.2.1 hi hS
                    · cases h12 : Nat.beq (xro R') 12 with
                      | true =>
                        have := Nat.eq_of_beq_eq_true h12
                        rw [this] at g1
                        cases g1
                      | false =>
                        rw [h12] at hrecv
                        simp only [cond_false] at hrecv
                        split at hrecv
                        · rename_i oo ho
                          have eo : oo.1 = xro R' := Nat.eq_of_beq_eq_true hrecv
                          obtain ⟨o1', o2'⟩ := oo
                          simp only at eo
                          subst eo
                          exact va_recv hK hP g1 (xw_at ho)
                        · cases hrecv
                  refine xcall (va_runV (g := F0 m pc ls (st.map (xcv ad))) (b := ad q) (As := (st.take b).reverse.map (xcv ad)) (rest := rr.map (xcv ad)) (Ts := xTg) ⟨hx, hb, hml, hown2, hts⟩ hM cw ⟨hblind, hrc, hpre⟩ rfl (by rw [List.length_map, List.length_reverse, List.length_take, hnb]; omega) hl.1 ?_ (lv_room (by rw [xcat_map]; exact hcat)) (hlen rfl rfl) ⟨Nat.le_refl _, Nat.le_refl _⟩) hS (fun q _ h => hFc q h) hFc hkk
                  show st.map (xcv ad) = _
                  rw [← List.map_reverse, List.reverse_reverse]
                  conv => lhs; rw [← List.take_append_drop b st, List.map_append, hdr]
                  rfl
                · cases hst
              | _ => cases hisc
        · obtain ⟨hi, h⟩ := cond_some h
          cases h
          exact xret hg hst hi hen hx hb hr hlocks hP hS
end XSIM
