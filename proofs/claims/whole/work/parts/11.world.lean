abbrev xRec : Type := MethodName × ByteArray × Nat × Option FieldType × Nat × Bool × Nat × Nat × Nat × List (Nat × xEnt)
def xry (R : xRec) : MethodName := R.1
def xrc (R : xRec) : ByteArray := R.2.1
def xrL (R : xRec) : Nat := R.2.2.1
def xrt (R : xRec) : Option FieldType := R.2.2.2.1
def xro (R : xRec) : Nat := R.2.2.2.2.1
def xrv (R : xRec) : Bool := R.2.2.2.2.2.1
def xrn (R : xRec) : Nat := R.2.2.2.2.2.2.1
def xrf (R : xRec) : Nat := R.2.2.2.2.2.2.2.1
def xrk (R : xRec) : Nat := R.2.2.2.2.2.2.2.2.1
def xri (R : xRec) : List (Nat × xEnt) := R.2.2.2.2.2.2.2.2.2
def xrz (R : xRec) : Bool := match xrt R with
  | some .int => false
  | _ => true
def xrecv (Ly : xLy) (R : xRec) (as : List Value) : Bool := cond (xrv R) (match as with
  | .ref p :: _ => cond (Nat.beq (xro R) 12) (Nat.beq p 1002 || Nat.beq p 1003) (match Ly[p]? with
    | some (.inr o) => Nat.beq o.1 (xro R)
    | _ => false)
  | _ => false) true
def xisr (i : Instr) : Bool := match i with
  | .return_ => true
  | .ireturn => true
  | .lreturn => true
  | .areturn => true
  | _ => false
def xisc (i : Instr) : Bool := match i with
  | .invokestatic _ => true
  | .invokevirtual _ => true
  | _ => false
/-- n steps, calls counted in -/
def xexec (Ms : List xRec) (Ly : xLy) : Nat → xRec → xF → Option (Option Value × xS)
  | 0, _, _ => none
  | n + 1, R, f => match xlk (xri R) f.1 with
    | none => none
    | some e => match xstep Ly (xrz R) f.1 e (xmask e.2.2.2.2 f.2.1) f.2.2.1 f.2.2.2 with
      | none => none
      | some (.inl g) => xexec Ms Ly n R g
      | some (.inr (.inr r)) => cond (xisr e.1) (some (r, f.2.2.2)) none
      | some (.inr (.inl c)) => match Ms[c.1]? with
        | none => none
        | some R' => cond (xisc e.1 && xrecv Ly R' c.2.1 && Nat.ble (lg_sl c.2.1).length (xrL R')) (match xexec Ms Ly n R' (0, lv_args 0 c.2.1, [], f.2.2.2) with
          | none => none
          | some q => xexec Ms Ly n R (f.1 + 3, xmask e.2.2.2.2 f.2.1, q.1.toList ++ c.2.2, q.2)) none
/-! ===== the machine's side ===== -/
def xcv (ad : Nat → Nat) (v : Value) : Value := match v with
  | .ref p => .ref (ad p)
  | v => v
def xcl (ad : Nat → Nat) (lv : xLv) : xLv := lv.map fun q => (q.1, xcv ad q.2)
def xfc (ad : Nat → Nat) (s : xS) (p k : Nat) (f : Nat ⊕ Nat) : Value := xcv ad (xfa s p k f)
def xce (cI cZ : ClassId) (ad : Nat → Nat) (s : xS) (p : Nat) (sh : xSh) : va_E := match sh with
  | .inl b => .inl (cond b.1 cZ cI, b.2, .inl (s.1 p))
  | .inr o => .inr (o.1, o.2.mapIdx (fun k f => xfc ad s p k f))
def xw (cI cZ : ClassId) (ad : Nat → Nat) (Ly : xLy) (s : xS) : va_W := Ly.mapIdx fun p sh => (ad p, xce cI cZ ad s p sh)
def xty (cI cZ : ClassId) : List (ClassId × FieldType) := [(cI, .int), (cZ, .boolean)]
theorem xcv_cat (ad : Nat → Nat) (v : Value) : (xcv ad v).category = v.category := by cases v <;> rfl
theorem xcat_map (ad : Nat → Nat) (st : List Value) : ((st.map (xcv ad)).map fun v => v.category).sum = xcat st := by
  unfold xcat
  rw [List.map_map]
  congr 1
  exact List.map_congr_left fun v _ => xcv_cat ad v
theorem xw_at {cI cZ : ClassId} {ad : Nat → Nat} {Ly : xLy} {s : xS} {p : Nat} {sh : xSh} (h : Ly[p]? = some sh) : (xw cI cZ ad Ly s)[p]? = some (ad p, xce cI cZ ad s p sh) := by
  unfold xw
  rw [List.getElem?_mapIdx, h]
  rfl
theorem xce_ne {cI cZ : ClassId} {ad : Nat → Nat} {s : xS} {p i : Nat} {sh : xSh} {g : Nat → Int32} {g2 : Nat → Int64} (h : i ≠ p) : xce cI cZ ad (va_up s.1 p g, va_up s.2 p g2) i sh = xce cI cZ ad s i sh := by
  cases sh with
  | inl b => simp only [xce, va_up_ne _ _ h]
  | inr o =>
    simp only [xce, xfc]
    congr 2
    congr 1
    funext k f
    rcases f with q | t
    · rfl
    · simp only [xfa, va_up_ne _ _ h]
theorem xup_self {α : Type} (f : Nat → α) (p : Nat) : va_up f p (f p) = f := by
  funext j
  by_cases h : j = p
  · subst h; rw [va_up_self]
  · rw [va_up_ne _ _ h]
theorem xw_set {cI cZ : ClassId} {ad : Nat → Nat} {Ly : xLy} {s : xS} {p : Nat} {sh : xSh} {g : Nat → Int32} {g2 : Nat → Int64} {e : va_E} (h : Ly[p]? = some sh) (he : e = xce cI cZ ad (va_up s.1 p g, va_up s.2 p g2) p sh) : (xw cI cZ ad Ly s).set p (ad p, e) = xw cI cZ ad Ly (va_up s.1 p g, va_up s.2 p g2) := by
  apply List.ext_getElem?
  intro i
  rw [List.getElem?_set]
  by_cases hi : p = i
  · subst hi
    have hlt : p < (xw cI cZ ad Ly s).length := by
      have := (List.getElem?_eq_some_iff.mp h).1
      simpa [xw] using this
    rw [if_pos rfl, if_pos hlt, xw_at h, he]
  · rw [if_neg hi]
    unfold xw
    rw [List.getElem?_mapIdx, List.getElem?_mapIdx]
    cases hL : Ly[i]? with
    | none => rfl
    | some sh2 =>
      simp only [Option.map_some]
      rw [xce_ne (Ne.symm hi)]
theorem xw_setA {cI cZ : ClassId} {ad : Nat → Nat} {Ly : xLy} {s : xS} {p : Nat} {b : Bool × Nat} {g : Nat → Int32} (h : Ly[p]? = some (.inl b)) : (xw cI cZ ad Ly s).set p (ad p, .inl (cond b.1 cZ cI, b.2, .inl g)) = xw cI cZ ad Ly (va_up s.1 p g, s.2) := by
  have := xw_set (cI := cI) (cZ := cZ) (ad := ad) (s := s) (g := g) (g2 := s.2 p) (e := .inl (cond b.1 cZ cI, b.2, .inl g)) h (by simp only [xce, va_up_self])
  rw [this, xup_self]
theorem xw_setI {cI cZ : ClassId} {ad : Nat → Nat} {Ly : xLy} {s : xS} {p k : Nat} {o : Nat × List (Nat ⊕ Nat)} {x : Int32} (h : Ly[p]? = some (.inr o)) {t : Nat} (hk : o.2[k]? = some (.inr t)) (ht : t ≠ 1) : (xw cI cZ ad Ly s).set p (ad p, .inr (o.1, (o.2.mapIdx (fun k f => xfc ad s p k f)).set k (.int x))) = xw cI cZ ad Ly (xu s p k x) := by
  have := xw_set (cI := cI) (cZ := cZ) (ad := ad) (s := s) (g := upd (s.1 p) k x) (g2 := s.2 p) (e := .inr (o.1, (o.2.mapIdx (fun k f => xfc ad s p k f)).set k (.int x))) h (by
    simp only [xce]
    congr 2
    apply List.ext_getElem?
    intro i
    rw [List.getElem?_set]
    by_cases hi : k = i
    · subst hi
      have hlt : k < (o.2.mapIdx (fun k f => xfc ad s p k f)).length := by
        have := (List.getElem?_eq_some_iff.mp hk).1
        simpa using this
      rw [if_pos rfl, if_pos hlt, List.getElem?_mapIdx, hk]
      simp only [Option.map_some, xfc, xfa, va_up_self]
      match t, ht with
      | 0, _ => simp [xcv, upd]
      | t + 2, _ => simp [xcv, upd]
    · rw [if_neg hi, List.getElem?_mapIdx, List.getElem?_mapIdx]
      cases ho : o.2[i]? with
      | none => rfl
      | some f =>
        simp only [Option.map_some, xfc]
        rcases f with q | t
        · rfl
        · simp only [xfa, va_up_self]
          have hn : i ≠ k := Ne.symm hi
          simp [upd, hn])
  rw [this, xup_self]
  rfl
theorem xw_setL {cI cZ : ClassId} {ad : Nat → Nat} {Ly : xLy} {s : xS} {p k : Nat} {o : Nat × List (Nat ⊕ Nat)} {x : Int64} (h : Ly[p]? = some (.inr o)) (hk : o.2[k]? = some (.inr 1)) : (xw cI cZ ad Ly s).set p (ad p, .inr (o.1, (o.2.mapIdx (fun k f => xfc ad s p k f)).set k (.long x))) = xw cI cZ ad Ly (xul s p k x) := by
  have := xw_set (cI := cI) (cZ := cZ) (ad := ad) (s := s) (g := s.1 p) (g2 := vp_updL (s.2 p) k x) (e := .inr (o.1, (o.2.mapIdx (fun k f => xfc ad s p k f)).set k (.long x))) h (by
    simp only [xce]
    congr 2
    apply List.ext_getElem?
    intro i
    rw [List.getElem?_set]
    by_cases hi : k = i
    · subst hi
      have hlt : k < (o.2.mapIdx (fun k f => xfc ad s p k f)).length := by
        have := (List.getElem?_eq_some_iff.mp hk).1
        simpa using this
      rw [if_pos rfl, if_pos hlt, List.getElem?_mapIdx, hk]
      simp [xfc, xfa, va_up_self, xcv, vp_updL]
    · rw [if_neg hi, List.getElem?_mapIdx, List.getElem?_mapIdx]
      cases ho : o.2[i]? with
      | none => rfl
      | some f =>
        simp only [Option.map_some, xfc]
        rcases f with q | t
        · rfl
        · simp only [xfa, va_up_self]
          have hn : i ≠ k := Ne.symm hi
          simp [vp_updL, hn])
  rw [this, xup_self]
  rfl
/-- the addresses stay -/
theorem xw_ad {cI cZ : ClassId} {ad : Nat → Nat} {Ly : xLy} {s s' : xS} {A : Nat → Prop} (h : va_D A (xw cI cZ ad Ly s)) : va_D A (xw cI cZ ad Ly s') := by
  have key : ∀ (i : Nat) (q : Nat × va_E), (xw cI cZ ad Ly s')[i]? = some q → ∃ q', (xw cI cZ ad Ly s)[i]? = some q' ∧ q'.1 = q.1 := by
    intro i q hq
    unfold xw at hq ⊢
    rw [List.getElem?_mapIdx] at hq ⊢
    cases hL : Ly[i]? with
    | none => rw [hL] at hq; cases hq
    | some sh =>
      rw [hL] at hq
      cases hq
      exact ⟨_, rfl, rfl⟩
  refine ⟨fun i j p q hi hj e => ?_, fun k q hk => ?_⟩
  · obtain ⟨p', hp, ep⟩ := key i p hi
    obtain ⟨q', hq, eq⟩ := key j q hj
    exact h.1 i j p' q' hp hq (by rw [ep, eq]; exact e)
  · obtain ⟨q', hq, eq⟩ := key k q hk
    rw [← eq]
    exact h.2 k q' hq
theorem xw_A {cI cZ : ClassId} {ad : Nat → Nat} {Ly : xLy} {s s' : xS} {sz q : Nat} (h : va_A (xw cI cZ ad Ly s) sz q) : va_A (xw cI cZ ad Ly s') sz q := by
  rcases h with ⟨k, e, hk⟩ | h
  · refine Or.inl ⟨k, ?_⟩
    unfold xw at hk ⊢
    rw [List.getElem?_mapIdx] at hk
    cases hL : Ly[k]? with
    | none => rw [hL] at hk; cases hk
    | some sh =>
      rw [hL] at hk
      have e1 : ad k = q := by simp at hk; exact hk.1
      refine ⟨xce cI cZ ad s' k sh, ?_⟩
      rw [List.getElem?_mapIdx, hL, ← e1]
      rfl
  · exact Or.inr h
/-! locals -/
theorem xl_mem : ∀ {lv : xLv} {k : Nat} {v : Value}, xl lv k = some v → (k, v) ∈ lv
  | [], _, _, h => by cases h
  | (j, w) :: r, k, v, h => by
    unfold xl at h
    cases hb : Nat.beq j k with
    | true =>
      rw [hb] at h
      have e := Nat.eq_of_beq_eq_true hb
      cases h
      subst e
      exact List.mem_cons_self
    | false =>
      rw [hb] at h
      exact List.mem_cons_of_mem _ (xl_mem h)
theorem xl_at {ad : Nat → Nat} {ls : Array Slot} {nL : Nat} {lv : xLv} (hl : lv_has ls nL (xcl ad lv)) {k : Nat} {v : Value} (h : xl lv k = some v) : ls[k]? = some (.val (xcv ad v)) :=
  hl.2.2 (k, xcv ad v) (List.mem_map.mpr ⟨(k, v), xl_mem h, rfl⟩)
theorem lv_mono {ls : Array Slot} {nL : Nat} {l l' : xLv} (h : lv_has ls nL l) (hs : ∀ q ∈ l', q ∈ l) : lv_has ls nL l' := ⟨h.1, h.2.1, fun q hq => h.2.2 q (hs q hq)⟩
theorem xins_mem {k : Nat} {v : Value} : ∀ {lv : xLv} {q : Nat × Value}, q ∈ xins k v lv → q = (k, v) ∨ q ∈ lv
  | [], q, h => by
    rcases List.mem_cons.mp h with h | h
    · exact Or.inl h
    · cases h
  | (j, w) :: r, q, h => by
    unfold xins at h
    cases hb : Nat.ble k j with
    | true =>
      rw [hb] at h
      rcases List.mem_cons.mp h with h | h
      · exact Or.inl h
      · exact Or.inr h
    | false =>
      rw [hb] at h
      rcases List.mem_cons.mp h with h | h
      · exact Or.inr (by rw [h]; exact List.mem_cons_self)
      · rcases xins_mem h with h | h
        · exact Or.inl h
        · exact Or.inr (List.mem_cons_of_mem _ h)
theorem xd1_mem {i : Nat} : ∀ {lv : xLv} {q : Nat × Value}, q ∈ xd1 i lv → q ∈ lv ∧ (!(q.1 == i) && !(q.1 + 1 == i && q.2.category == 2)) = true
  | [], q, h => by cases h
  | (j, w) :: r, q, h => by
    unfold xd1 at h
    have tail : q ∈ xd1 i r → q ∈ (j, w) :: r ∧ (!(q.1 == i) && !(q.1 + 1 == i && q.2.category == 2)) = true := fun h => ⟨List.mem_cons_of_mem _ (xd1_mem h).1, (xd1_mem h).2⟩
    cases hb : Nat.beq j i with
    | true => rw [hb] at h; exact tail h
    | false =>
      rw [hb] at h
      have n1 : j ≠ i := Nat.ne_of_beq_eq_false hb
      cases hc : Nat.beq (j + 1) i with
      | false =>
        rw [hc] at h
        have n2 : j + 1 ≠ i := Nat.ne_of_beq_eq_false hc
        rcases List.mem_cons.mp h with h | h
        · rw [h]; exact ⟨List.mem_cons_self, by simp [n1, n2]⟩
        · exact tail h
      | true =>
        rw [hc] at h
        cases hd : Nat.beq w.category 2 with
        | true => rw [hd] at h; exact tail h
        | false =>
          rw [hd] at h
          have n3 : w.category ≠ 2 := Nat.ne_of_beq_eq_false hd
          rcases List.mem_cons.mp h with h | h
          · rw [h]; exact ⟨List.mem_cons_self, by simp [n1, n3]⟩
          · exact tail h
theorem xd2_mem {i : Nat} : ∀ {lv : xLv} {q : Nat × Value}, q ∈ xd2 i lv → q ∈ lv ∧ (!(q.1 == i) && (!(q.1 == i + 1) && !(q.1 + 1 == i && q.2.category == 2))) = true
  | [], q, h => by cases h
  | (j, w) :: r, q, h => by
    unfold xd2 at h
    have tail : q ∈ xd2 i r → q ∈ (j, w) :: r ∧ (!(q.1 == i) && (!(q.1 == i + 1) && !(q.1 + 1 == i && q.2.category == 2))) = true := fun h => ⟨List.mem_cons_of_mem _ (xd2_mem h).1, (xd2_mem h).2⟩
    cases hb : Nat.beq j i with
    | true => rw [hb] at h; exact tail h
    | false =>
      rw [hb] at h
      have n1 : j ≠ i := Nat.ne_of_beq_eq_false hb
      cases he : Nat.beq j (i + 1) with
      | true => rw [he] at h; exact tail h
      | false =>
        rw [he] at h
        have n4 : j ≠ i + 1 := Nat.ne_of_beq_eq_false he
        cases hc : Nat.beq (j + 1) i with
        | false =>
          rw [hc] at h
          have n2 : j + 1 ≠ i := Nat.ne_of_beq_eq_false hc
          rcases List.mem_cons.mp h with h | h
          · rw [h]; exact ⟨List.mem_cons_self, by simp [n1, n2, n4]⟩
          · exact tail h
        | true =>
          rw [hc] at h
          cases hd : Nat.beq w.category 2 with
          | true => rw [hd] at h; exact tail h
          | false =>
            rw [hd] at h
            have n3 : w.category ≠ 2 := Nat.ne_of_beq_eq_false hd
            rcases List.mem_cons.mp h with h | h
            · rw [h]; exact ⟨List.mem_cons_self, by simp [n1, n3, n4]⟩
            · exact tail h
theorem xput1_has {ad : Nat → Nat} {ls : Array Slot} {nL : Nat} {lv : xLv} {i : Nat} {v : Value} (h : lv_has ls nL ((i, xcv ad v) :: (xcl ad lv).filter (fun q => !(q.1 == i) && !(q.1 + 1 == i && q.2.category == 2)))) : lv_has ls nL (xcl ad (xput1 lv i v)) := by
  refine lv_mono h fun q hq => ?_
  obtain ⟨x, hx, rfl⟩ := List.mem_map.mp hq
  rcases xins_mem hx with e | e
  · rw [e]; exact List.mem_cons_self
  · refine List.mem_cons_of_mem _ ?_
    obtain ⟨h1, h2⟩ := xd1_mem e
    refine List.mem_filter.mpr ⟨List.mem_map.mpr ⟨x, h1, rfl⟩, ?_⟩
    rw [xcv_cat]
    exact h2
theorem xput2_has {ad : Nat → Nat} {ls : Array Slot} {nL : Nat} {lv : xLv} {i : Nat} {v : Value} (h : lv_has ls nL ((i, xcv ad v) :: (xcl ad lv).filter (fun q => !(q.1 == i) && (!(q.1 == i + 1) && !(q.1 + 1 == i && q.2.category == 2))))) : lv_has ls nL (xcl ad (xput2 lv i v)) := by
  refine lv_mono h fun q hq => ?_
  obtain ⟨x, hx, rfl⟩ := List.mem_map.mp hq
  rcases xins_mem hx with e | e
  · rw [e]; exact List.mem_cons_self
  · refine List.mem_cons_of_mem _ ?_
    obtain ⟨h1, h2⟩ := xd2_mem e
    refine List.mem_filter.mpr ⟨List.mem_map.mpr ⟨x, h1, rfl⟩, ?_⟩
    rw [xcv_cat]
    exact h2
theorem xmf_mem {m : Nat} : ∀ {lv : xLv} {q : Nat × Value}, q ∈ xmf m lv → q ∈ lv
  | [], q, h => by cases h
  | (j, w) :: r, q, h => by
    unfold xmf at h
    cases hb : Nat.beq (m / 2 ^ j % 2) 1 with
    | true =>
      rw [hb] at h
      rcases List.mem_cons.mp h with h | h
      · rw [h]; exact List.mem_cons_self
      · exact List.mem_cons_of_mem _ (xmf_mem h)
    | false => rw [hb] at h; exact List.mem_cons_of_mem _ (xmf_mem h)
theorem xmask_has {ad : Nat → Nat} {ls : Array Slot} {nL : Nat} {lv : xLv} {m : Nat} (h : lv_has ls nL (xcl ad lv)) : lv_has ls nL (xcl ad (xmask m lv)) := by
  refine lv_mono h fun q hq => ?_
  obtain ⟨x, hx, rfl⟩ := List.mem_map.mp hq
  refine List.mem_map.mpr ⟨x, ?_, rfl⟩
  unfold xmask at hx
  cases hb : Nat.beq m 0 with
  | true => rw [hb] at hx; exact hx
  | false => rw [hb] at hx; exact xmf_mem hx
