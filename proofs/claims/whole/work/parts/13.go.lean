section XGO
variable {p : Program} {l : Launch} {e : Env} {Rm : Room} {s : State} {m : MethodId} {args : Array Value} {below : List Frame} {meth : Method} {c : Code} {Q : State → Prop} {A : Nat → Prop} {D : va_G} {cI cZ : ClassId} {ad : Nat → Nat} {Ly : xLy} {Ms : List xRec} {R : xRec}
theorem xnx_inj {pc : Nat} {lv : xLv} {st : List Value} {s : xS} {g : xF} (h : xnx pc lv st s = some (.inl g)) : (pc, lv, st, s) = g := by
  unfold xnx at h
  cases h
  rfl
theorem xmem {w : Cond} (h : w ∈ xTg) (hts : ∀ w ∈ xTg, w.before args s = true) : w.before args s = true := hts w h
set_option maxHeartbeats 4000000 in
set_option maxRecDepth 100000 in
/-- a step within the frame -/
theorem xgo (G : xLG Ms) (CF : xCF) (LK : xLyk Ly) {pc : Nat} {en : xEnt} {lv : xLv} {st : List Value} {s0 : xS} {g : xF} {z : Bool} {H : Heap} {locs : List Loc} {ls : Array Slot}
    (hstep : xstep Ly z pc en lv st s0 = some (.inl g)) (hen : xeb Ms R (pc, en) = true) (hRm : Rm = { frames := xrf R, cells := 0, slots := 0, locals := xrk R }) (hcn : (xry R).cls = xcn (xro R))
    (hx : p.tables.exec = Jvm.exec) (hb : c.code = xrc R) (hml : c.maxLocals = xrL R) (hts : ∀ w ∈ xTg, w.before args s = true) (hown : s.vm.findClass (xry R).cls = some m.cls) (hE : xEn ad A s s.heap)
    (hK : va_K D vwCl (xty cI cZ) s) (hP : va_P D vwCl (xw cI cZ ad Ly s0) H) (hD : va_D A (xw cI cZ ad Ly s0)) (hS : va_S A s.heap H locs) (hl : lv_has ls (xrL R) (xcl ad lv))
    (kk : ∀ (H1 : Heap) (locs1 : List Loc) (ls1 : Array Slot), va_P D vwCl (xw cI cZ ad Ly g.2.2.2) H1 → va_D A (xw cI cZ ad Ly g.2.2.2) → va_S A s.heap H1 locs1 → lv_has ls1 (xrL R) (xcl ad g.2.1) → W p l e Rm s m args below meth c H1 locs1 0 0 Q (F0 m g.1 ls1 (g.2.2.1.map (xcv ad)))) :
    W p l e Rm s m args below meth c H locs 0 0 Q (F0 m pc ls (st.map (xcv ad))) := by
  obtain ⟨i, len, a, b, mk⟩ := en
  unfold xeb at hen
  simp only [Bool.and_eq_true, decide_eq_true_eq, Bool.or_eq_true] at hen
  obtain ⟨⟨hdg, hln⟩, hlb⟩ := hen
  rw [hcn] at hown
  have hlen : ∀ {i' : Instr}, i = i' → xsx i' = false → decode (xrc R) pc = .ok (i', xlen i') := by
    intro i' e1 e2
    subst e1
    rw [e2] at hln
    simp only [Bool.false_eq_true, false_or] at hln
    rw [hdg, Nat.eq_of_beq_eq_true hln]
  have k0 := kk H locs ls
  cases i with
  | iconst n =>
    cases xnx_inj hstep
    exact lv_iconst hx hb (hlen rfl rfl) rfl (k0 hP hD hS hl)
  | bipush n =>
    cases xnx_inj hstep
    exact lv_bipush hx hb (hlen rfl rfl) rfl (k0 hP hD hS hl)
  | sipush n =>
    cases xnx_inj hstep
    exact lv_sipush hx hb (hlen rfl rfl) rfl (k0 hP hD hS hl)
  | lconst n =>
    cases xnx_inj hstep
    exact lv_lconst hx hb (hlen rfl rfl) rfl (k0 hP hD hS hl)
  | iload_n k =>
    obtain ⟨x, h1, h2⟩ := xil_some hstep
    cases xnx_inj h2
    exact lv_iload_n hx hb (hlen rfl rfl) rfl (xl_at hl h1) (k0 hP hD hS hl)
  | iload k =>
    obtain ⟨x, h1, h2⟩ := xil_some hstep
    cases xnx_inj h2
    exact lv_iload hx hb (hlen rfl rfl) (xl_at hl h1) (k0 hP hD hS hl)
  | lload_n k =>
    obtain ⟨x, h1, h2⟩ := xll_some hstep
    cases xnx_inj h2
    exact lv_lload_n hx hb (hlen rfl rfl) rfl (xl_at hl h1) (k0 hP hD hS hl)
  | lload k =>
    obtain ⟨x, h1, h2⟩ := xll_some hstep
    cases xnx_inj h2
    exact lv_lload hx hb (hlen rfl rfl) (xl_at hl h1) (k0 hP hD hS hl)
  | aload_n k =>
    obtain ⟨x, h1, h2⟩ := xrl_some hstep
    cases xnx_inj h2
    exact lv_aload_n hx hb (hlen rfl rfl) rfl (xl_at hl h1) (k0 hP hD hS hl)
  | aload k =>
    obtain ⟨x, h1, h2⟩ := xrl_some hstep
    cases xnx_inj h2
    exact lv_aload hx hb (hlen rfl rfl) (xl_at hl h1) (k0 hP hD hS hl)
  | istore_n k =>
    obtain ⟨x, r, rfl, h2⟩ := xi1_some hstep
    cases xnx_inj h2
    exact lv_istore_n hx hb (hlen rfl rfl) rfl hl (Nat.le_of_ble_eq_true hlb) rfl (fun ls1 h => kk H locs ls1 hP hD hS (xput1_has (v := .int x) h))
  | istore k =>
    obtain ⟨x, r, rfl, h2⟩ := xi1_some hstep
    cases xnx_inj h2
    exact lv_istore hx hb (hlen rfl rfl) hl (Nat.le_of_ble_eq_true hlb) rfl (fun ls1 h => kk H locs ls1 hP hD hS (xput1_has (v := .int x) h))
  | lstore_n k =>
    obtain ⟨x, r, rfl, h2⟩ := xi5_some hstep
    cases xnx_inj h2
    exact lv_lstore_n hx hb (hlen rfl rfl) rfl hl (Nat.le_of_ble_eq_true hlb) rfl (fun ls1 h => kk H locs ls1 hP hD hS (xput2_has (v := .long x) h))
  | lstore k =>
    obtain ⟨x, r, rfl, h2⟩ := xi5_some hstep
    cases xnx_inj h2
    exact lv_lstore hx hb (hlen rfl rfl) hl (Nat.le_of_ble_eq_true hlb) rfl (fun ls1 h => kk H locs ls1 hP hD hS (xput2_has (v := .long x) h))
  | astore_n k =>
    obtain ⟨x, r, rfl, h2⟩ := xi8_some hstep
    cases xnx_inj h2
    exact lv_astore_n hx hb (hlen rfl rfl) rfl hl (Nat.le_of_ble_eq_true hlb) rfl (fun ls1 h => kk H locs ls1 hP hD hS (xput1_has (v := .ref x) h))
  | iinc k n =>
    obtain ⟨x, h1, h2⟩ := xil_some hstep
    cases xnx_inj h2
    obtain ⟨j, hj⟩ := List.getElem?_of_mem (List.mem_map.mpr ⟨(k, Value.int x), xl_mem h1, rfl⟩ : (k, Value.int x) ∈ xcl ad lv)
    exact lv_iinc hx hb (hlen rfl rfl) hl hj rfl (Nat.le_of_ble_eq_true hlb) rfl (fun ls1 h => kk H locs ls1 hP hD hS (xput1_has (v := .int (x + Int32.ofInt n)) h))
  | iadd =>
    obtain ⟨x, y, r, rfl, h2⟩ := xi2_some hstep
    cases xnx_inj h2
    exact lv_iadd hx hb (hlen rfl rfl) (k0 hP hD hS hl)
  | isub =>
    obtain ⟨x, y, r, rfl, h2⟩ := xi2_some hstep
    cases xnx_inj h2
    exact lv_isub hx hb (hlen rfl rfl) (k0 hP hD hS hl)
  | imul =>
    obtain ⟨x, y, r, rfl, h2⟩ := xi2_some hstep
    cases xnx_inj h2
    exact lv_imul hx hb (hlen rfl rfl) (k0 hP hD hS hl)
  | iand =>
    obtain ⟨x, y, r, rfl, h2⟩ := xi2_some hstep
    cases xnx_inj h2
    exact lv_iand hx hb (hlen rfl rfl) (k0 hP hD hS hl)
  | ior =>
    obtain ⟨x, y, r, rfl, h2⟩ := xi2_some hstep
    cases xnx_inj h2
    exact lv_ior hx hb (hlen rfl rfl) (k0 hP hD hS hl)
  | ixor =>
    obtain ⟨x, y, r, rfl, h2⟩ := xi2_some hstep
    cases xnx_inj h2
    exact lv_ixor hx hb (hlen rfl rfl) (k0 hP hD hS hl)
  | idiv =>
    obtain ⟨x, y, r, rfl, h2⟩ := xi2_some hstep
    obtain ⟨h3, h4⟩ := xck_some h2
    cases xnx_inj h4
    exact lv_idiv hx hb (hlen rfl rfl) h3 (k0 hP hD hS hl)
  | irem =>
    obtain ⟨x, y, r, rfl, h2⟩ := xi2_some hstep
    obtain ⟨h3, h4⟩ := xck_some h2
    cases xnx_inj h4
    exact lv_irem hx hb (hlen rfl rfl) h3 (k0 hP hD hS hl)
  | ishl =>
    obtain ⟨x, y, r, rfl, h2⟩ := xi2_some hstep
    cases xnx_inj h2
    exact lv_ishl hx hb (hlen rfl rfl) (k0 hP hD hS hl)
  | ishr =>
    obtain ⟨x, y, r, rfl, h2⟩ := xi2_some hstep
    cases xnx_inj h2
    exact lv_ishr hx hb (hlen rfl rfl) (k0 hP hD hS hl)
  | iushr =>
    obtain ⟨x, y, r, rfl, h2⟩ := xi2_some hstep
    cases xnx_inj h2
    exact lv_iushr hx hb (hlen rfl rfl) rfl (k0 hP hD hS hl)
  | ladd =>
    obtain ⟨x, y, r, rfl, h2⟩ := xi3_some hstep
    cases xnx_inj h2
    exact lv_ladd hx hb (hlen rfl rfl) (k0 hP hD hS hl)
  | lsub =>
    obtain ⟨x, y, r, rfl, h2⟩ := xi3_some hstep
    cases xnx_inj h2
    exact lv_lsub hx hb (hlen rfl rfl) (k0 hP hD hS hl)
  | lmul =>
    obtain ⟨x, y, r, rfl, h2⟩ := xi3_some hstep
    cases xnx_inj h2
    exact lv_lmul hx hb (hlen rfl rfl) (k0 hP hD hS hl)
  | land =>
    obtain ⟨x, y, r, rfl, h2⟩ := xi3_some hstep
    cases xnx_inj h2
    exact lv_land hx hb (hlen rfl rfl) (k0 hP hD hS hl)
  | lor =>
    obtain ⟨x, y, r, rfl, h2⟩ := xi3_some hstep
    cases xnx_inj h2
    exact lv_lor hx hb (hlen rfl rfl) (k0 hP hD hS hl)
  | ldiv =>
    obtain ⟨x, y, r, rfl, h2⟩ := xi3_some hstep
    obtain ⟨h3, h4⟩ := xck_some h2
    cases xnx_inj h4
    exact lv_ldiv hx hb (hlen rfl rfl) h3 (k0 hP hD hS hl)
  | lrem =>
    obtain ⟨x, y, r, rfl, h2⟩ := xi3_some hstep
    obtain ⟨h3, h4⟩ := xck_some h2
    cases xnx_inj h4
    exact lv_lrem hx hb (hlen rfl rfl) h3 (k0 hP hD hS hl)
  | lcmp =>
    obtain ⟨x, y, r, rfl, h2⟩ := xi3_some hstep
    cases xnx_inj h2
    exact W.lcmp hx hb (hlen rfl rfl) (k0 hP hD hS hl)
  | lshl =>
    obtain ⟨x, y, r, rfl, h2⟩ := xi4_some hstep
    cases xnx_inj h2
    exact lv_lshl hx hb (hlen rfl rfl) rfl (k0 hP hD hS hl)
  | lshr =>
    obtain ⟨x, y, r, rfl, h2⟩ := xi4_some hstep
    cases xnx_inj h2
    exact lv_lshr hx hb (hlen rfl rfl) rfl (k0 hP hD hS hl)
  | lushr =>
    obtain ⟨x, y, r, rfl, h2⟩ := xi4_some hstep
    cases xnx_inj h2
    exact lv_lushr hx hb (hlen rfl rfl) rfl (k0 hP hD hS hl)
  | i2l =>
    obtain ⟨x, r, rfl, h2⟩ := xi1_some hstep
    cases xnx_inj h2
    exact lv_i2l hx hb (hlen rfl rfl) rfl (k0 hP hD hS hl)
  | i2b =>
    obtain ⟨x, r, rfl, h2⟩ := xi1_some hstep
    cases xnx_inj h2
    exact lv_i2b hx hb (hlen rfl rfl) rfl (k0 hP hD hS hl)
  | i2s =>
    obtain ⟨x, r, rfl, h2⟩ := xi1_some hstep
    cases xnx_inj h2
    exact lv_i2s hx hb (hlen rfl rfl) rfl (k0 hP hD hS hl)
  | i2c =>
    obtain ⟨x, r, rfl, h2⟩ := xi1_some hstep
    cases xnx_inj h2
    exact lv_i2c hx hb (hlen rfl rfl) rfl (k0 hP hD hS hl)
  | l2i =>
    obtain ⟨x, r, rfl, h2⟩ := xi5_some hstep
    cases xnx_inj h2
    exact lv_l2i hx hb (hlen rfl rfl) rfl (k0 hP hD hS hl)
  | dup =>
    simp only [xstep] at hstep
    split at hstep
    · obtain ⟨h1, h2⟩ := cond_some hstep
      cases xnx_inj h2
      exact lv_dup hx hb (hlen rfl rfl) (by rw [xcv_cat]; exact Nat.eq_of_beq_eq_true h1) (k0 hP hD hS hl)
    · cases hstep
  | dup2 =>
    simp only [xstep] at hstep
    split at hstep
    · obtain ⟨h1, h2⟩ := cond_some hstep
      cases xnx_inj h2
      rw [Bool.and_eq_true] at h1
      exact lv_dup2_11 hx hb (hlen rfl rfl) (by rw [xcv_cat]; exact Nat.eq_of_beq_eq_true h1.1) (by rw [xcv_cat]; exact Nat.eq_of_beq_eq_true h1.2) (k0 hP hD hS hl)
    · cases hstep
  | goto off =>
    cases xnx_inj hstep
    exact lv_goto hx hb (hlen rfl rfl) (of_decide_eq_true hlb) (k0 hP hD hS hl)
  | ifCond cd off =>
    obtain ⟨x, r, rfl, h2⟩ := xi1_some hstep
    have ht : (pc : Int) + off = (a : Int) := of_decide_eq_true hlb
    cases cd with
    | eq =>
      refine lv_if_eq hx hb (hlen rfl rfl) ht (fun q => ?_) (fun q => ?_)
      · simp only [q, if_true] at h2; cases xnx_inj h2; exact k0 hP hD hS hl
      · simp only [q, if_false] at h2; cases xnx_inj h2; exact k0 hP hD hS hl
    | ne =>
      refine lv_if_ne hx hb (hlen rfl rfl) ht (fun q => ?_) (fun q => ?_)
      · simp only [q, if_false] at h2; cases xnx_inj h2; exact k0 hP hD hS hl
      · simp only [q, if_true] at h2; cases xnx_inj h2; exact k0 hP hD hS hl
    | lt =>
      refine lv_if_lt hx hb (hlen rfl rfl) ht (fun q => ?_) (fun q => ?_)
      · simp only [q, if_true] at h2; cases xnx_inj h2; exact k0 hP hD hS hl
      · simp only [q, if_false] at h2; cases xnx_inj h2; exact k0 hP hD hS hl
    | ge =>
      refine lv_if_ge hx hb (hlen rfl rfl) ht (fun q => ?_) (fun q => ?_)
      · simp only [q, if_true] at h2; cases xnx_inj h2; exact k0 hP hD hS hl
      · simp only [q, if_false] at h2; cases xnx_inj h2; exact k0 hP hD hS hl
    | gt =>
      refine lv_if_gt hx hb (hlen rfl rfl) ht (fun q => ?_) (fun q => ?_)
      · simp only [q, if_true] at h2; cases xnx_inj h2; exact k0 hP hD hS hl
      · simp only [q, if_false] at h2; cases xnx_inj h2; exact k0 hP hD hS hl
    | le =>
      refine lv_if_le hx hb (hlen rfl rfl) ht (fun q => ?_) (fun q => ?_)
      · simp only [q, if_true] at h2; cases xnx_inj h2; exact k0 hP hD hS hl
      · simp only [q, if_false] at h2; cases xnx_inj h2; exact k0 hP hD hS hl
  | if_icmp cd off =>
    obtain ⟨x, y, r, rfl, h2⟩ := xi2_some hstep
    have ht : (pc : Int) + off = (a : Int) := of_decide_eq_true hlb
    cases cd with
    | eq =>
      refine lv_icmp_eq hx hb (hlen rfl rfl) ht (fun q => ?_) (fun q => ?_)
      · simp only [q, if_true] at h2; cases xnx_inj h2; exact k0 hP hD hS hl
      · simp only [q, if_false] at h2; cases xnx_inj h2; exact k0 hP hD hS hl
    | ne =>
      refine lv_icmp_ne hx hb (hlen rfl rfl) ht (fun q => ?_) (fun q => ?_)
      · simp only [q, if_false] at h2; cases xnx_inj h2; exact k0 hP hD hS hl
      · simp only [q, if_true] at h2; cases xnx_inj h2; exact k0 hP hD hS hl
    | lt =>
      refine lv_icmp_lt hx hb (hlen rfl rfl) ht (fun q => ?_) (fun q => ?_)
      · simp only [q, if_true] at h2; cases xnx_inj h2; exact k0 hP hD hS hl
      · simp only [q, if_false] at h2; cases xnx_inj h2; exact k0 hP hD hS hl
    | ge =>
      refine lv_icmp_ge hx hb (hlen rfl rfl) ht (fun q => ?_) (fun q => ?_)
      · simp only [q, if_true] at h2; cases xnx_inj h2; exact k0 hP hD hS hl
      · simp only [q, if_false] at h2; cases xnx_inj h2; exact k0 hP hD hS hl
    | gt =>
      refine lv_icmp_gt hx hb (hlen rfl rfl) ht (fun q => ?_) (fun q => ?_)
      · simp only [q, if_true] at h2; cases xnx_inj h2; exact k0 hP hD hS hl
      · simp only [q, if_false] at h2; cases xnx_inj h2; exact k0 hP hD hS hl
    | le =>
      refine lv_icmp_le hx hb (hlen rfl rfl) ht (fun q => ?_) (fun q => ?_)
      · simp only [q, if_true] at h2; cases xnx_inj h2; exact k0 hP hD hS hl
      · simp only [q, if_false] at h2; cases xnx_inj h2; exact k0 hP hD hS hl
  | tableswitch d lo hi os =>
    obtain ⟨x, r, rfl, h2⟩ := xi1_some hstep
    cases xnx_inj h2
    simp only [xlb, Bool.and_eq_true, decide_eq_true_eq] at hlb
    obtain ⟨⟨⟨⟨b1, b2⟩, b3⟩, b4⟩, b5⟩ := hlb
    by_cases hin : x.toInt < lo ∨ hi < x.toInt
    · have e1 := xsw_out (pc := pc) (x := x) (d := ((pc : Int) + d).toNat) os.toList lo b2 b3 (by omega)
      refine lv_tableOut (tgt := ((pc : Int) + d).toNat) hx hb hdg hin (by omega) ?_
      have := k0 hP hD hS hl
      rw [e1] at this
      exact this
    · obtain ⟨off, e1, e2⟩ := xsw_in (pc := pc) (x := x) (d := ((pc : Int) + d).toNat) os.toList lo b2 b3 (by omega) (by omega)
      have hnn : 0 ≤ (pc : Int) + off := of_decide_eq_true (List.all_eq_true.mp b5 off (List.mem_of_getElem? e1))
      refine lv_tableIn (tgt := ((pc : Int) + off).toNat) (off := off) hx hb hdg (by omega) (by omega) (by rw [← Array.getElem?_toList]; exact e1) (by omega) ?_
      have := k0 hP hD hS hl
      rw [e2] at this
      exact this
  | lookupswitch d ps =>
    obtain ⟨x, r, rfl, h2⟩ := xi1_some hstep
    cases xnx_inj h2
    simp only [xlb, Bool.and_eq_true] at hlb
    obtain ⟨⟨b1, b2⟩, b3⟩ := hlb
    have e1 := xsl_off (pc := pc) (x := x) (dflt := d) ps.toList b3
    have e2 := xsl_nn (pc := pc) (k := x.toInt) (dflt := d) (of_decide_eq_true b2) ps.toList b3
    refine lv_lookup (tgt := ((pc : Int) + Op.lookupswitch.offset ps.toList d x.toInt).toNat) hx hb hdg b1 rfl (by omega) ?_
    have := k0 hP hD hS hl
    rw [e1] at this
    exact this
  | ldc ix =>
    simp only [xlb] at hlb
    simp only [xstep] at hstep
    cases hc : Nat.beq b 1 with
    | true =>
      rw [hc] at hstep hlb
      cases xnx_inj hstep
      have hm := of_decide_eq_true hlb
      rcases G.2.2.2.2.2.1 _ hm with q | q
      · simp only [Prod.mk.injEq] at q
        obtain ⟨q1, q2, q3, q4⟩ := q
        subst q2 q3
        have ho : xcn (xro R) = "FounderSleeps$Town" := by rw [q1]; rfl
        rw [ho] at hown
        exact va_ldcS hx hb hown hE.2.2.2.2.2.2.1 (hlen rfl rfl) (k0 hP hD hS hl)
      · simp only [Prod.mk.injEq] at q
        obtain ⟨q1, q2, q3, q4⟩ := q
        subst q2 q3
        have ho : xcn (xro R) = "FounderSleeps$Deeds" := by rw [q1]; rfl
        rw [ho] at hown
        exact va_ldcS hx hb hown hE.2.2.2.2.2.2.2.1 (hlen rfl rfl) (k0 hP hD hS hl)
    | false =>
      rw [hc] at hstep hlb
      simp only [cond_false] at hstep hlb
      split at hstep
      · rename_i v hv
        cases xnx_inj hstep
        exact lv_ldc hx hb hown (hts _ (G.2.2.2.2.1 _ (of_decide_eq_true hlb) v hv)) (hlen rfl rfl) (k0 hP hD hS hl)
      · cases hstep
  | ldc_w ix =>
    simp only [xlb] at hlb
    simp only [xstep] at hstep
    split at hstep
    · rename_i v hv
      cases xnx_inj hstep
      exact lv_ldcw hx hb hown (hts _ (G.2.2.2.2.1 _ (of_decide_eq_true hlb) v hv)) (hlen rfl rfl) (k0 hP hD hS hl)
    · cases hstep
  | ldc2_w ix =>
    simp only [xlb] at hlb
    simp only [xstep] at hstep
    split at hstep
    · rename_i v hv
      cases xnx_inj hstep
      exact lv_ldc2 hx hb hown (hts _ (G.2.2.2.2.2.2.1 _ (of_decide_eq_true hlb) v hv)) (hlen rfl rfl) (k0 hP hD hS hl)
    · cases hstep
  | getstatic ix =>
    simp only [xlb] at hlb
    simp only [xstep] at hstep
    rcases G.2.2.2.2.2.2.2.1 _ (of_decide_eq_true hlb) with q | q | ⟨q, hw⟩ | ⟨q, hw⟩
    · simp only [Prod.mk.injEq] at q
      obtain ⟨q1, q2, q3, q4⟩ := q
      subst q2 q3
      have ho : xcn (xro R) = "FounderSleeps$Reach" := by rw [q1]; rfl
      rw [ho] at hown
      cases xnx_inj hstep
      exact va_getsN hx hb hE.1 hS hown (va_Nw.use rfl hE.2.2.2.2.2.2.2.2.1) (fun _ h => h) (hlen rfl rfl) (k0 hP hD hS hl)
    · simp only [Prod.mk.injEq] at q
      obtain ⟨q1, q2, q3, q4⟩ := q
      subst q2 q3
      have ho : xcn (xro R) = "FounderSleeps$Night" := by rw [q1]; rfl
      rw [ho] at hown
      cases xnx_inj hstep
      exact va_getsN hx hb hE.2.2.1 hS hown (va_Nw.use rfl hE.2.2.2.2.2.2.2.2.2) (fun _ h => h) (hlen rfl rfl) (k0 hP hD hS hl)
    · cases q
      cases xnx_inj hstep
      exact va_gets hx hb hE.2.2.1 hS hown (hts _ hw) (fun _ h => h) (hlen rfl rfl) (k0 hP hD hS hl)
    · cases q
      cases xnx_inj hstep
      exact va_gets hx hb hE.2.2.2.2.1 hS hown (hts _ hw) (fun _ h => h) (hlen rfl rfl) (k0 hP hD hS hl)
  | getfield ix =>
    simp only [xlb] at hlb
    simp only [xstep] at hstep
    cases hc : Nat.beq a 99 with
    | true =>
      rw [hc] at hstep hlb
      simp only [cond_true] at hstep hlb
      obtain ⟨q, r, rfl, h2⟩ := xi8_some hstep
      obtain ⟨h3, h4⟩ := cond_some h2
      have hw := G.2.2.2.2.2.2.2.2.1 _ (of_decide_eq_true hlb)
      have hq : ∃ i, i < 2 ∧ q = 1002 + i := by
        rcases Bool.or_eq_true _ _ ▸ h3 with h | h
        · exact ⟨0, by decide, Nat.eq_of_beq_eq_true h⟩
        · exact ⟨1, by decide, Nat.eq_of_beq_eq_true h⟩
      obtain ⟨i, hi, rfl⟩ := hq
      cases hf : Nat.beq b 0 with
      | true =>
        rw [hf] at h4
        have e0 : b = 0 := Nat.eq_of_beq_eq_true hf
        cases xnx_inj h4
        refine vk_getf hx hb (hE.2.2.2.2.2.1.1 i hi).2.2.1 hS hown (hts _ (hw.1 e0)) (fun _ h => h) (hlen rfl rfl) ?_
        have := k0 hP hD hS hl
        rw [Nat.add_right_comm 1002 i 2] at this
        exact this
      | false =>
        rw [hf] at h4
        have e0 : b ≠ 0 := Nat.ne_of_beq_eq_false hf
        cases xnx_inj h4
        exact vk_getf hx hb (hE.2.2.2.2.2.1.1 i hi).2.1 hS hown (hts _ (hw.2 e0)) (fun _ h => h) (hlen rfl rfl) (k0 hP hD hS hl)
    | false =>
      rw [hc] at hstep hlb
      simp only [cond_false] at hstep hlb
      obtain ⟨q, r, rfl, h2⟩ := xi8_some hstep
      obtain ⟨fl, f, h3, h4, h5⟩ := xob_some h2
      cases xnx_inj h5
      obtain ⟨C, T, N, g1, g2, g3⟩ := G.1 _ (of_decide_eq_true hlb)
      exact va_get hx hb hts (CF _ _ _ _ g1).1 hown hK hP q (xw_at h3) g1 b g2 (hts _ g3) (fun _ h => h) (v := xcv ad (xfa s0 q b f)) (by rw [List.getElem?_mapIdx, h4]; rfl) (hlen rfl rfl) (k0 hP hD hS hl)
  | putfield ix =>
    simp only [xlb] at hlb
    simp only [xstep] at hstep
    obtain ⟨C, T, N, g1, g2, g3, g4⟩ := G.2.1 _ (of_decide_eq_true hlb)
    obtain ⟨i1, ty0, i2, i3⟩ := CF _ _ _ _ g1
    split at hstep
    · rename_i x q r
      obtain ⟨fl, f, h3, h4, h5⟩ := xob_some hstep
      split at h5
      · cases xnx_inj h5
        refine va_put (ty := .int) (v := .int x) hx hb hts i1 ty0 i2 i3 hown hK hP hD hS q (xw_at h3) g1 b g2 (hts _ g3) (fun _ h => h) g4 (LK _ _ h3 _ _ _ g1 _ _ h4) rfl rfl (by rw [List.length_mapIdx]; exact (List.getElem?_eq_some_iff.mp h4).1) (hlen rfl rfl) (fun H1 locs1 hP1 hD1 hS1 => ?_)
        rw [xw_setI h3 h4 (by decide)] at hP1 hD1
        exact kk H1 locs1 ls hP1 hD1 hS1 hl
      · split at h5
        · rename_i hx01
          cases xnx_inj h5
          refine va_put (ty := .boolean) (v := .int x) hx hb hts i1 ty0 i2 i3 hown hK hP hD hS q (xw_at h3) g1 b g2 (hts _ g3) (fun _ h => h) g4 (LK _ _ h3 _ _ _ g1 _ _ h4) (by rcases hx01 with rfl | rfl <;> rfl) (by rcases hx01 with rfl | rfl <;> rfl) (by rw [List.length_mapIdx]; exact (List.getElem?_eq_some_iff.mp h4).1) (hlen rfl rfl) (fun H1 locs1 hP1 hD1 hS1 => ?_)
          rw [xw_setI h3 h4 (by decide)] at hP1 hD1
          exact kk H1 locs1 ls hP1 hD1 hS1 hl
        · cases h5
      · cases h5
    · rename_i x q r
      obtain ⟨fl, f, h3, h4, h5⟩ := xob_some hstep
      split at h5
      · cases xnx_inj h5
        refine va_put (ty := .long) (v := .long x) hx hb hts i1 ty0 i2 i3 hown hK hP hD hS q (xw_at h3) g1 b g2 (hts _ g3) (fun _ h => h) g4 (LK _ _ h3 _ _ _ g1 _ _ h4) rfl rfl (by rw [List.length_mapIdx]; exact (List.getElem?_eq_some_iff.mp h4).1) (hlen rfl rfl) (fun H1 locs1 hP1 hD1 hS1 => ?_)
        rw [xw_setL h3 h4] at hP1 hD1
        exact kk H1 locs1 ls hP1 hD1 hS1 hl
      · cases h5
    · cases hstep
  | iaload =>
    obtain ⟨x, q, r, rfl, h2⟩ := xi6_some hstep
    rcases xar_some h2 with ⟨n, h3, h4⟩ | ⟨n, f, h3, h4⟩
    · obtain ⟨h5, h6⟩ := xck_some h4
      cases xnx_inj h6
      exact va_iald hx hb hK hP q 0 (xw_at h3) rfl h5 (hlen rfl rfl) (k0 hP hD hS hl)
    · obtain ⟨h5, h6⟩ := xck_some h4
      cases xnx_inj h6
      unfold xRA at h3
      split at h3
      · cases h3; exact va_ti hx hb hE.2.1 hS h5 rfl (hlen rfl rfl) (k0 hP hD hS hl)
      · cases h3; exact va_ti hx hb hE.2.2.2.1 hS h5 rfl (hlen rfl rfl) (k0 hP hD hS hl)
      · cases h3
      · cases h3
      · cases h3
  | baload =>
    obtain ⟨x, q, r, rfl, h2⟩ := xi6_some hstep
    rcases xar_some h2 with ⟨n, h3, h4⟩ | ⟨n, f, h3, h4⟩
    · obtain ⟨h5, h6⟩ := xck_some h4
      cases xnx_inj h6
      exact va_zald hx hb hK hP q 1 (xw_at h3) rfl h5 (hlen rfl rfl) (k0 hP hD hS hl)
    · obtain ⟨h5, h6⟩ := xck_some h4
      cases xnx_inj h6
      unfold xRA at h3
      split at h3
      · cases h3
      · cases h3
      · cases h3; exact va_tb hx hb (hE.2.2.2.2.2.1.1 0 (by decide)).2.2.2 hS h5 rfl (hlen rfl rfl) (k0 hP hD hS hl)
      · cases h3; exact va_tb hx hb (hE.2.2.2.2.2.1.1 1 (by decide)).2.2.2 hS h5 rfl (hlen rfl rfl) (k0 hP hD hS hl)
      · cases h3
  | iastore =>
    obtain ⟨x, j, q, r, rfl, h2⟩ := xi7_some hstep
    obtain ⟨n, h3, h4⟩ := xaw_some h2
    obtain ⟨h5, h6⟩ := xck_some h4
    cases xnx_inj h6
    refine va_iast hx hb hK hP hD hS q 0 (xw_at h3) rfl h5 (hlen rfl rfl) (fun H1 locs1 hP1 hD1 hS1 => ?_)
    have e1 := xw_setA (cI := cI) (cZ := cZ) (ad := ad) (s := s0) (g := upd (s0.1 q) j.toNatClampNeg x) h3
    rw [e1] at hP1 hD1
    exact kk H1 locs1 ls hP1 hD1 hS1 hl
  | bastore =>
    obtain ⟨x, j, q, r, rfl, h2⟩ := xi7_some hstep
    obtain ⟨n, h3, h4⟩ := xaw_some h2
    obtain ⟨h5, h6⟩ := xck_some h4
    cases xnx_inj h6
    refine va_zast hx hb hK hP hD hS q 1 (xw_at h3) rfl h5 (hlen rfl rfl) (fun H1 locs1 hP1 hD1 hS1 => ?_)
    have e1 := xw_setA (cI := cI) (cZ := cZ) (ad := ad) (s := s0) (g := upd (s0.1 q) j.toNatClampNeg (vp_nar .boolean x)) h3
    rw [e1] at hP1 hD1
    exact kk H1 locs1 ls hP1 hD1 hS1 hl
  | arraylength =>
    obtain ⟨q, r, rfl, h2⟩ := xi8_some hstep
    split at h2
    · rename_i bb h3
      cases xnx_inj h2
      obtain ⟨zz, n⟩ := bb
      cases zz with
      | true => exact va_alen hx hb hK hP q 1 (xw_at h3) (ty := .boolean) rfl rfl (hlen rfl rfl) (k0 hP hD hS hl)
      | false => exact va_alen hx hb hK hP q 0 (xw_at h3) (ty := .int) rfl rfl (hlen rfl rfl) (k0 hP hD hS hl)
    · cases h2
    · split at h2
      · rename_i bb h3
        cases xnx_inj h2
        unfold xRA at h3
        split at h3
        · cases h3; exact va_tlen hx hb hE.2.1 hS rfl (hlen rfl rfl) (k0 hP hD hS hl)
        · cases h3; exact va_tlen hx hb hE.2.2.2.1 hS rfl (hlen rfl rfl) (k0 hP hD hS hl)
        · cases h3; exact va_tlen hx hb (hE.2.2.2.2.2.1.1 0 (by decide)).2.2.2 hS rfl (hlen rfl rfl) (k0 hP hD hS hl)
        · cases h3; exact va_tlen hx hb (hE.2.2.2.2.2.1.1 1 (by decide)).2.2.2 hS rfl (hlen rfl rfl) (k0 hP hD hS hl)
        · cases h3
      · cases h2
  | invokestatic ix =>
    simp only [xlb] at hlb
    simp only [xstep] at hstep
    cases hc : Nat.beq a 902 with
    | false =>
      rw [hc] at hstep
      simp only [cond_false] at hstep
      cases hc0 : Nat.beq a 900 with
      | true =>
        have ea : a = 900 := Nat.eq_of_beq_eq_true hc0
        rw [hc0] at hstep
        subst ea
        simp only [cond_true] at hstep
        obtain ⟨x, y, r, rfl, h2⟩ := xi2_some hstep
        obtain ⟨h3, h4⟩ := cond_some h2
        cases xnx_inj h4
        have g6 : xcat r ≤ 8 := Nat.le_of_ble_eq_true h3
        have hlb' := hlb
        simp only [show Nat.beq 900 998 = false from rfl, show (Nat.beq 900 902 || Nat.beq 900 900 || Nat.beq 900 901) = true from rfl, cond_true, cond_false, Bool.and_eq_true, decide_eq_true_eq] at hlb'
        obtain ⟨hlk, hf1, hf2⟩ := hlb'
        have f1 : 1 ≤ xrf R := Nat.le_of_ble_eq_true hf1
        have f2 : 26 ≤ xrk R := Nat.le_of_ble_eq_true hf2
        have hw := (G.2.2.2.1 _ hlk).1.2.1 rfl
        have gs := G.2.2.2.2.2.2.2.2.2.2.2.2
        exact va_mmin hx hb (hml.trans hl.1.symm) hown (hts _ hw) (hts _ gs.1) (hts _ gs.2.2.1) (hts _ gs.2.2.2.1) (by rw [hRm]; exact f1) (by rw [hRm, xcat_map]; show xcat r + 13 ≤ xrk R; omega) (Nat.zero_le _) (Nat.zero_le _) (hlen rfl rfl) (k0 hP hD hS hl)
      | false =>
        rw [hc0] at hstep
        simp only [cond_false] at hstep
        cases hc1 : Nat.beq a 901 with
        | true =>
          have ea : a = 901 := Nat.eq_of_beq_eq_true hc1
          rw [hc1] at hstep
          subst ea
          simp only [cond_true] at hstep
          obtain ⟨x, y, r, rfl, h2⟩ := xi2_some hstep
          obtain ⟨h3, h4⟩ := cond_some h2
          cases xnx_inj h4
          have g6 : xcat r ≤ 8 := Nat.le_of_ble_eq_true h3
          have hlb' := hlb
          simp only [show Nat.beq 901 998 = false from rfl, show (Nat.beq 901 902 || Nat.beq 901 900 || Nat.beq 901 901) = true from rfl, cond_true, cond_false, Bool.and_eq_true, decide_eq_true_eq] at hlb'
          obtain ⟨hlk, hf1, hf2⟩ := hlb'
          have f1 : 1 ≤ xrf R := Nat.le_of_ble_eq_true hf1
          have f2 : 26 ≤ xrk R := Nat.le_of_ble_eq_true hf2
          have hw := (G.2.2.2.1 _ hlk).1.2.2 rfl
          have gs := G.2.2.2.2.2.2.2.2.2.2.2.2
          exact va_mmax hx hb (hml.trans hl.1.symm) hown (hts _ hw) (hts _ gs.2.1) (hts _ gs.2.2.1) (hts _ gs.2.2.2.2) (by rw [hRm]; exact f1) (by rw [hRm, xcat_map]; show xcat r + 13 ≤ xrk R; omega) (Nat.zero_le _) (Nat.zero_le _) (hlen rfl rfl) (k0 hP hD hS hl)
        | false =>
          rw [hc1] at hstep
          simp only [cond_false] at hstep
          have := (cond_some hstep).2
          cases this
    | true =>
      rw [hc] at hstep hlb
      have ea : a = 902 := Nat.eq_of_beq_eq_true hc
      have h98 : Nat.beq a 998 = false := by rw [ea]; rfl
      rw [h98] at hlb
      simp only [cond_true, cond_false, Bool.true_or, Bool.and_eq_true, decide_eq_true_eq] at hstep hlb
      obtain ⟨hlk, hf1, hf2⟩ := hlb
      split at hstep
      · rename_i n j q i q0 r
        obtain ⟨n0, h3, h4⟩ := xaw_some hstep
        obtain ⟨n1, h5, h6⟩ := xaw_some h4
        obtain ⟨h7, h8⟩ := xck_some h6
        cases xnx_inj h8
        have hw := (G.2.2.2.1 _ hlk).1.1 ea
        have g1 : ¬ i < 0 := fun z => h7 (Or.inl z)
        have g2 : ¬ j < 0 := fun z => h7 (Or.inr (Or.inl z))
        have g3 : ¬ n < 0 := fun z => h7 (Or.inr (Or.inr (Or.inl z)))
        have g4 : i.toNatClampNeg + n.toNatClampNeg ≤ n0 := Nat.not_lt.mp fun z => h7 (Or.inr (Or.inr (Or.inr (Or.inl z))))
        have g5 : j.toNatClampNeg + n.toNatClampNeg ≤ n1 := Nat.not_lt.mp fun z => h7 (Or.inr (Or.inr (Or.inr (Or.inr (Or.inl z)))))
        have g6 : xcat r ≤ 8 := Nat.not_lt.mp fun z => h7 (Or.inr (Or.inr (Or.inr (Or.inr (Or.inr z)))))
        have f1 : 1 ≤ xrf R := Nat.le_of_ble_eq_true hf1
        have f2 : 26 ≤ xrk R := Nat.le_of_ble_eq_true hf2
        refine va_copyi hx hb (hml.trans hl.1.symm) hown (hts _ hw) (hts _ G.2.2.2.2.2.2.2.2.2.1) (hts _ G.2.2.2.2.2.2.2.2.2.2.1) (hts _ G.2.2.2.2.2.2.2.2.2.2.2.1) hK hP hD hS q0 q 0 0 (xw_at h3) (xw_at h5) rfl rfl rfl g1 g2 g3 g4 g5 (fun _ _ => rfl) (by rw [hRm]; exact f1) (by rw [hRm, xcat_map]; show xcat r + (5 + 2 + 11) ≤ xrk R; omega) (hlen rfl rfl) (fun H1 locs1 hP1 hD1 hS1 => ?_)
        have e1 := xw_setA (cI := cI) (cZ := cZ) (ad := ad) (s := s0) (g := va_cpy (s0.1 q0) (s0.1 q) i.toNatClampNeg j.toNatClampNeg n.toNatClampNeg) h5
        rw [e1] at hP1 hD1
        exact kk H1 locs1 ls hP1 hD1 hS1 hl
      · cases hstep
  | invokevirtual ix =>
    simp only [xstep] at hstep
    split at hstep
    · have := (cond_some hstep).2
      cases this
    · cases hstep
  | return_ =>
    simp only [xstep] at hstep
    split at hstep <;> cases hstep
  | ireturn =>
    simp only [xstep] at hstep
    split at hstep
    · split at hstep <;> cases hstep
    · cases hstep
  | lreturn =>
    simp only [xstep] at hstep
    split at hstep <;> cases hstep
  | areturn =>
    simp only [xstep] at hstep
    split at hstep <;> cases hstep
  | _ => cases hstep
end XGO
