/-! THE CLAIM OUT OF ONE WALK OF THE LAW'S BODY. Your part is whole_start (and what it stands on); all else here is the same for every law, but numbers. -/
def R_law : String := "FounderSleepsLaw"
def lw_P (b : Addr) (xs : List Int32) (args : Array Value) (s : State) : Prop := args = #[.ref b] ∧ s.IntsAt b xs ∧ xs.length ≤ 384 ∧ (Jvm.Cond.and given_1 narrow_1).before args s = true
def lw_Q (_ : Array Value) (s : State) (o : Outcome) (t : State) : Prop := o = .returned (some (.int 1)) ∧ Framed s o t [] 73 2382
def lw_Z (below : List Frame) (a : Array Value) (s : State) : State → Prop := fun t => ∃ o, t.status = .running ∧ Ended t below o ∧ lw_Q a s o t
/-- the law's own end, with 1 on the stack, nothing written that was there before, its room as the claim has it -/
theorem lw_ret {p : Program} {l : Launch} {e : Env} {s : State} {m : MethodId} {below : List Frame} {meth : Method} {c : Code} {b : Nat} (hx : p.tables.exec = Jvm.exec) (hb : c.code = code) (hr : meth.sig.returnType = ret) (hlocks : meth.locks = false) {pc : Nat} {H : Heap} {ls : Array Slot} (hdg : decode code pc = .ok (.ireturn, 1)) : W p l e room_1 s m #[Value.ref b] below meth c H [] 73 2382 (lw_Z below #[Value.ref b] s) (F0 m pc ls [.int 1]) := by
  intro T hT X
  obtain ⟨fs, hret, hrun, hended, hW, hframe⟩ := X.leave (v := some (.int 1)) (hlocks := hlocks) (fun h => by rw [hr] at h; cases h)
  have hmeth' : T.vm.method? m = some meth := X.method'
  refine ⟨T.setFrames fs, ?_, .returned (some (.int 1)), hrun, hended, rfl, ⟨_, rfl⟩, hW, hframe⟩
  jvm_step X.here [X.here.top, hx, hb, hdg, hmeth', hr, ret, narrow_b1]
  (try refine ⟨rfl, ?_⟩); (try refine ⟨rfl, ?_⟩)
  first | (intro acts; rw [hret _ acts rfl rfl rfl]) | rw [hret _ _ rfl rfl rfl]
  exact Steps.refl _
/-- what holds at the law's entry: the machine, the code, the tables' words (any of lw_tbl by 'hts w (by decide +kernel)'), the script of L ints xs at the cell b, what the Statement gives of the start (any of its parts by flat_of_before) -/
def lw_At (p : Program) (s : State) (m : MethodId) (meth : Method) (c : Code) (b L : Nat) (xs : Nat → Int32) : Prop :=
  p.tables.exec = Jvm.exec ∧ c.code = code ∧ meth.sig.returnType = ret ∧ c.maxLocals = 4 ∧ s.vm.findClass R_law = some m.cls ∧ (∀ w ∈ lw_tbl, w.before #[Value.ref b] s = true) ∧ va_X b L xs s s.heap ∧ b < s.heap.size ∧ meth.locks = false ∧ (Jvm.Cond.and given_1 narrow_1).before #[Value.ref b] s = true

def lh_type (Inv : xS → xS → Prop) : Prop := ∀ (a1 a2 : Int32) (s1 s2 : xS), Inv s1 s2 → ∃ (r : Int32) (t1 : xS) (t2 : xS), F_X8_type a1 a2 s1 = some (r, t1) ∧ F_X9_type a1 a2 s2 = some (r, t2) ∧ Inv t1 t2
def lh_wipe (Inv : xS → xS → Prop) : Prop := ∀ (a1 : Int32) (s1 s2 : xS), Inv s1 s2 → ∃ (r : Int32) (t1 : xS) (t2 : xS), F_X8_wipe a1 s1 = some (r, t1) ∧ F_X9_wipe a1 s2 = some (r, t2) ∧ Inv t1 t2
def lh_undo (Inv : xS → xS → Prop) : Prop := ∀ (a1 : Int32) (s1 s2 : xS), Inv s1 s2 → ∃ (r : Int32) (t1 : xS) (t2 : xS), F_X8_undo a1 s1 = some (r, t1) ∧ F_X9_undo a1 s2 = some (r, t2) ∧ Inv t1 t2
def lh_fault (Inv : xS → xS → Prop) : Prop := ∀ (a1 : Int32) (s1 s2 : xS), Inv s1 s2 → ∃ (r : Int32) (t2 : xS), F_X8_fault a1 s1 = some r ∧ F_X9_fault a1 s2 = some (r, t2) ∧ Inv s1 t2
def lh_cell (Inv : xS → xS → Prop) : Prop := ∀ (a1 : Int32) (s1 s2 : xS), Inv s1 s2 → ∃ (r : Int32) (t2 : xS), F_X8_cell a1 s1 = some r ∧ F_X9_cell a1 s2 = some (r, t2) ∧ Inv s1 t2
def lh_bed (Inv : xS → xS → Prop) : Prop := ∀ (s1 s2 : xS), Inv s1 s2 → ∃ (r : Int32) (t2 : xS), F_X8_bed s1 = some r ∧ F_X9_bed s2 = some (r, t2) ∧ Inv s1 t2
def lh_deed (Inv : xS → xS → Prop) : Prop := ∀ (a1 a2 : Int32) (s1 s2 : xS), Inv s1 s2 → ∃ (r : Int32) (t2 : xS), F_X8_deed a1 a2 s1 = some r ∧ F_X9_deed a1 a2 s2 = some (r, t2) ∧ Inv s1 t2
def lh_set (Inv : xS → xS → Prop) : Prop := ∀ (a1 a2 : Int32) (s1 s2 : xS), Inv s1 s2 → ∃ (r : Int32) (t1 : xS) (t2 : xS), F_X8_set a1 a2 s1 = some (r, t1) ∧ F_X9_set a1 a2 s2 = some (r, t2) ∧ Inv t1 t2
def lh_thunder (Inv : xS → xS → Prop) : Prop := ∀ (a1 a2 : Int32) (s1 s2 : xS), Inv s1 s2 → ∃ (r : Int32) (t1 : xS) (t2 : xS), F_X8_thunder a1 a2 s1 = some (r, t1) ∧ F_X9_thunder a1 a2 s2 = some (r, t2) ∧ Inv t1 t2
def lh_back (Inv : xS → xS → Prop) : Prop := ∀ (s1 s2 : xS), Inv s1 s2 → ∃ (r : Int32) (t1 : xS) (t2 : xS), F_X8_back s1 = some (r, t1) ∧ F_X9_back s2 = some (r, t2) ∧ Inv t1 t2
def lh_read (Inv : xS → xS → Prop) : Prop := ∀ (a1 : Int32) (s1 s2 : xS), Inv s1 s2 → ∃ (r : Int32) (t1 : xS) (t2 : xS), F_X8_read a1 s1 = some (r, t1) ∧ F_X9_read a1 s2 = some (r, t2) ∧ Inv t1 t2
def lh_carry (Inv : xS → xS → Prop) : Prop := ∀ (a1 a2 a3 : Int32) (s1 s2 : xS), Inv s1 s2 → ∃ (r : Int32) (t1 : xS) (t2 : xS), F_X8_carry a1 a2 a3 s1 = some (r, t1) ∧ F_X9_carry a1 a2 a3 s2 = some (r, t2) ∧ Inv t1 t2
def lh_heard (Inv : xS → xS → Prop) : Prop := ∀ (a1 a2 : Int32) (s1 s2 : xS), Inv s1 s2 → ∃ (r : Int32) (t2 : xS), F_X8_heard a1 a2 s1 = some r ∧ F_X9_heard a1 a2 s2 = some (r, t2) ∧ Inv s1 t2
def lh_noise (Inv : xS → xS → Prop) : Prop := ∀ (a1 : Int32) (s1 s2 : xS), Inv s1 s2 → ∃ (r : Int32) (t2 : xS), F_X8_noise a1 s1 = some r ∧ F_X9_noise a1 s2 = some (r, t2) ∧ Inv s1 t2
def lh_depth (Inv : xS → xS → Prop) : Prop := ∀ (a1 : Int32) (s1 s2 : xS), Inv s1 s2 → ∃ (r : Int32) (t2 : xS), F_X8_depth a1 s1 = some r ∧ F_X9_depth a1 s2 = some (r, t2) ∧ Inv s1 t2
def lh_wakes (Inv : xS → xS → Prop) : Prop := ∀ (s1 s2 : xS), Inv s1 s2 → ∃ (r : Int32) (t2 : xS), F_X8_wakes s1 = some r ∧ F_X9_wakes s2 = some (r, t2) ∧ Inv s1 t2
def lh_exiled (Inv : xS → xS → Prop) : Prop := ∀ (a1 : Int32) (s1 s2 : xS), Inv s1 s2 → ∃ (r : Int32) (t2 : xS), F_X8_exiled a1 s1 = some r ∧ F_X9_exiled a1 s2 = some (r, t2) ∧ Inv s1 t2
def lh_loudest (Inv : xS → xS → Prop) : Prop := ∀ (s1 s2 : xS), Inv s1 s2 → ∃ (r : Int32) (t2 : xS), F_X8_loudest s1 = some r ∧ F_X9_loudest s2 = some (r, t2) ∧ Inv s1 t2
def lh_hour (Inv : xS → xS → Prop) : Prop := ∀ (a1 a2 : Int32) (s1 s2 : xS), Inv s1 s2 → ∃ (r : Int32) (t1 : xS) (t2 : xS), F_X8_hour a1 a2 s1 = some (r, t1) ∧ F_X9_hour a1 a2 s2 = some (r, t2) ∧ Inv t1 t2
def lh_felt (Inv : xS → xS → Prop) : Prop := ∀ (a1 : Int32) (s1 s2 : xS), Inv s1 s2 → ∃ (r : Int32) (t1 : xS) (t2 : xS), F_X8_felt a1 s1 = some (r, t1) ∧ F_X9_felt a1 s2 = some (r, t2) ∧ Inv t1 t2
def lh_lay (Inv : xS → xS → Prop) : Prop := ∀ (a1 : Int32) (s1 s2 : xS), Inv s1 s2 → ∃ (r : Int32) (t1 : xS) (t2 : xS), F_X8_lay a1 s1 = some (r, t1) ∧ F_X9_lay a1 s2 = some (r, t2) ∧ Inv t1 t2
def lh_way (Inv : xS → xS → Prop) : Prop := ∀ (a1 a2 : Int32) (s1 s2 : xS), Inv s1 s2 → ∃ (r : Int32) (t1 : xS) (t2 : xS), F_X8_way a1 a2 s1 = some (r, t1) ∧ F_X9_way a1 a2 s2 = some (r, t2) ∧ Inv t1 t2
def lh_listened (Inv : xS → xS → Prop) : Prop := ∀ (a1 a2 : Int32) (s1 s2 : xS), Inv s1 s2 → ∃ (r : Int32) (t1 : xS) (t2 : xS), F_X8_listened a1 a2 s1 = some (r, t1) ∧ F_X9_listened a1 a2 s2 = some (r, t2) ∧ Inv t1 t2
def lh_forget (Inv : xS → xS → Prop) : Prop := ∀ (s1 s2 : xS), Inv s1 s2 → ∃ (r : Int32) (t1 : xS) (t2 : xS), F_X8_forget s1 = some (r, t1) ∧ F_X9_forget s2 = some (r, t2) ∧ Inv t1 t2
def lh_never (Inv : xS → xS → Prop) : Prop := ∀ (s1 s2 : xS), Inv s1 s2 → ∃ (r : Int32) (t1 : xS) (t2 : xS), F_X8_never s1 = some (r, t1) ∧ F_X9_never s2 = some (r, t2) ∧ Inv t1 t2
def lh_whence (Inv : xS → xS → Prop) : Prop := ∀ (a1 a2 : Int32) (s1 s2 : xS), Inv s1 s2 → ∃ (r : Int32) (t1 : xS) (t2 : xS), F_X8_whence a1 a2 s1 = some (r, t1) ∧ F_X9_whence a1 a2 s2 = some (r, t2) ∧ Inv t1 t2
def lh_what (Inv : xS → xS → Prop) : Prop := ∀ (a1 : Int32) (s1 s2 : xS), Inv s1 s2 → ∃ (r : Int32) (t1 : xS) (t2 : xS), F_X8_what a1 s1 = some (r, t1) ∧ F_X9_what a1 s2 = some (r, t2) ∧ Inv t1 t2
def lh_ask (Inv : xS → xS → Prop) : Prop := ∀ (a1 : Int32) (s1 s2 : xS), Inv s1 s2 → ∃ (r : Int32) (t1 : xS) (t2 : xS), F_X8_ask a1 s1 = some (r, t1) ∧ F_X9_ask a1 s2 = some (r, t2) ∧ Inv t1 t2
def lh_sleeps (Inv : xS → xS → Prop) : Prop := ∀ (a1 a2 : Int32) (s1 s2 : xS), Inv s1 s2 → ∃ (r : Int64) (t1 : xS) (t2 : xS), F_X8_sleeps a1 a2 s1 = some (r, t1) ∧ F_X9_sleeps a1 a2 s2 = some (r, t2) ∧ Inv t1 t2
def lh_day (Inv : xS → xS → Prop) : Prop := ∀ (a1 a2 a3 : Int32) (s1 s2 : xS), Inv s1 s2 → ∃ (r : Int32) (t1 : xS) (t2 : xS), F_X8_day a1 a2 a3 s1 = some (r, t1) ∧ F_X9_day a1 a2 a3 s2 = some (r, t2) ∧ Inv t1 t2
def lh_sheet (Inv : xS → xS → Prop) : Prop := ∀ (a1 a2 a3 : Int32) (s1 s2 : xS), Inv s1 s2 → ∃ (r : Int32) (t1 : xS) (t2 : xS), F_X8_sheet a1 a2 a3 s1 = some (r, t1) ∧ F_X9_sheet a1 a2 a3 s2 = some (r, t2) ∧ Inv t1 t2
def lh_lose (Inv : xS → xS → Prop) : Prop := ∀ (a1 : Int32) (s1 s2 : xS), Inv s1 s2 → ∃ (r : Int32) (t1 : xS) (t2 : xS), F_X8_lose a1 s1 = some (r, t1) ∧ F_X9_lose a1 s2 = some (r, t2) ∧ Inv t1 t2
def lh_put (Inv : xS → xS → Prop) : Prop := ∀ (a1 a2 a3 a4 : Int32) (s1 s2 : xS), Inv s1 s2 → ∃ (r : Int32) (t1 : xS) (t2 : xS), F_X8_put a1 a2 a3 a4 s1 = some (r, t1) ∧ F_X9_put a1 a2 a3 a4 s2 = some (r, t2) ∧ Inv t1 t2
def lh_get (Inv : xS → xS → Prop) : Prop := ∀ (a1 a2 a3 : Int32) (s1 s2 : xS), Inv s1 s2 → ∃ (r : Int32) (t1 : xS) (t2 : xS), F_X8_get a1 a2 a3 s1 = some (r, t1) ∧ F_X9_get a1 a2 a3 s2 = some (r, t2) ∧ Inv t1 t2
def lh_copy (Inv : xS → xS → Prop) : Prop := ∀ (a1 a2 a3 a4 a5 : Int32) (s1 s2 : xS), Inv s1 s2 → ∃ (r : Int32) (t1 : xS) (t2 : xS), F_X8_copy a1 a2 a3 a4 a5 s1 = some (r, t1) ∧ F_X9_copy a1 a2 a3 a4 a5 s2 = some (r, t2) ∧ Inv t1 t2
def lh_write (Inv : xS → xS → Prop) : Prop := ∀ (a1 : Int32) (s1 s2 : xS), Inv s1 s2 → ∃ (r : Int32) (t1 : xS) (t2 : xS), F_X8_write a1 s1 = some (r, t1) ∧ F_X9_write a1 s2 = some (r, t2) ∧ Inv t1 t2
def lh_count (Inv : xS → xS → Prop) : Prop := ∀ (a1 : Int32) (s1 s2 : xS), Inv s1 s2 → ∃ (r : Int32) (t2 : xS), F_X8_count a1 s1 = some r ∧ F_X9_count a1 s2 = some (r, t2) ∧ Inv s1 t2
def lh_digest (Inv : xS → xS → Prop) : Prop := ∀ (s1 s2 : xS), Inv s1 s2 → ∃ (r : Int64) (t1 : xS) (t2 : xS), F_X8_digest s1 = some (r, t1) ∧ F_X9_digest s2 = some (r, t2) ∧ Inv t1 t2
def lh_all (Inv : xS → xS → Prop) : Prop := lh_type Inv ∧ lh_wipe Inv ∧ lh_undo Inv ∧ lh_fault Inv ∧ lh_cell Inv ∧ lh_bed Inv ∧ lh_deed Inv ∧ lh_set Inv ∧ lh_thunder Inv ∧ lh_back Inv ∧ lh_read Inv ∧ lh_carry Inv ∧ lh_heard Inv ∧ lh_noise Inv ∧ lh_depth Inv ∧ lh_wakes Inv ∧ lh_exiled Inv ∧ lh_loudest Inv ∧ lh_hour Inv ∧ lh_felt Inv ∧ lh_lay Inv ∧ lh_way Inv ∧ lh_listened Inv ∧ lh_forget Inv ∧ lh_never Inv ∧ lh_whence Inv ∧ lh_what Inv ∧ lh_ask Inv ∧ lh_sleeps Inv ∧ lh_day Inv ∧ lh_sheet Inv ∧ lh_lose Inv ∧ lh_put Inv ∧ lh_get Inv ∧ lh_copy Inv ∧ lh_write Inv ∧ lh_count Inv ∧ lh_digest Inv
/-- what stays through the law -/
def lw_C (p : Program) (s : State) (m : MethodId) (meth : Method) (c : Code) (b L : Nat) (xs : Nat → Int32) (D : va_G) (cI cZ : ClassId) (ad1 ad2 : Nat → Nat) : Prop := lw_At p s m meth c b L xs ∧ va_K D vwCl (xty cI cZ) s ∧ xEn ad1 (fun q => s.heap.size ≤ q) s s.heap ∧ xEn ad2 (fun q => s.heap.size ≤ q) s s.heap
/-- the two worlds -/
def lw_S (s : State) (D : va_G) (cI cZ : ClassId) (ad1 ad2 : Nat → Nat) (s1 s2 : xS) (H : Heap) (locs : List Loc) : Prop := va_P D vwCl (xw cI cZ ad1 xFL s1) H ∧ va_D (fun q => s.heap.size ≤ q) (xw cI cZ ad1 xFL s1) ∧ va_P D vwCl (xw cI cZ ad2 xML s2) H ∧ va_D (fun q => s.heap.size ≤ q) (xw cI cZ ad2 xML s2) ∧ xdis (xw cI cZ ad1 xFL s1) (xw cI cZ ad2 xML s2) ∧ va_S (fun q => s.heap.size ≤ q) s.heap H locs
theorem lw_in {i L k : Nat} (hi : i + 6 ≤ L) (hL : L ≤ 384) (hk : k < 6) : vp_in (nI i + nI k) L := by rw [nI_add]; exact vp_in_nI (by omega) (by omega)
set_option maxHeartbeats 4000000 in
set_option maxRecDepth 100000 in
theorem law_type {p : Program} {l : Launch} {e : Env} {s : State} {m : MethodId} {below : List Frame} {meth : Method} {c : Code} {b L : Nat} {xs : Nat → Int32} {D : va_G} {cI cZ : ClassId} {ad1 ad2 : Nat → Nat} {Inv : xS → xS → Prop} {i : Nat} {s1 s2 : xS} {H : Heap} {locs : List Loc} {ls : Array Slot} (hh : lh_type Inv) (hL : L ≤ 384) (C : lw_C p s m meth c b L xs D cI cZ ad1 ad2) (hi : i + 6 ≤ L) (hI : Inv s1 s2) (hw : lw_S s D cI cZ ad1 ad2 s1 s2 H locs) (hl : lv_has ls 4 [(0, .ref b), (1, .ref (ad1 0)), (2, .ref (ad2 0)), (3, .int (nI i))])
    (nx : ∀ (t1 t2 : xS) (H : Heap) (locs : List Loc), Inv t1 t2 → lw_S s D cI cZ ad1 ad2 t1 t2 H locs → W p l e room_1 s m #[Value.ref b] below meth c H locs 73 2382 (lw_Z below #[Value.ref b] s) (F0 m 1256 ls [])) : W p l e room_1 s m #[Value.ref b] below meth c H locs 73 2382 (lw_Z below #[Value.ref b] s) (F0 m 200 ls []) := by
  obtain ⟨⟨hx, hb, hr, hml, hown, hts0, hX, hbl, hlocks, hgv⟩, hK, hE1, hE2⟩ := C
  obtain ⟨hP1, hD1, hP2, hD2, hdis, hS⟩ := hw
  have hts : ∀ w ∈ xTg, w.before #[Value.ref b] s = true := fun w hw => hts0 w (List.mem_filter.mp hw).1
  have hA : ∀ q : Nat, s.heap.size ≤ q → (fun q : Nat => s.heap.size ≤ q) q := fun _ h => h
  have hbA : ¬ (fun q : Nat => s.heap.size ≤ q) b := Nat.not_le.mpr hbl
  obtain ⟨r, t1, t2, e1, e2, hJ⟩ := hh (xs (nI i + 1).toNatClampNeg) (xs (nI i + 2).toNatClampNeg) s1 s2 hI
  refine lv_aload_n hx hb dL_law_200 rfl (lv_at hl 1 rfl) ?_
  refine lv_aload_n hx hb dL_law_201 rfl (lv_at hl 0 rfl) ?_
  refine lv_iload_n hx hb dL_law_202 rfl (lv_at hl 3 rfl) ?_
  refine lv_iconst (v := 1) hx hb dL_law_203 (by decide) ?_
  refine lv_iadd hx hb dL_law_204 ?_
  refine va_sld hx hb hX hbl hbA hS (lw_in hi hL (by decide)) dL_law_205 ?_
  refine lv_aload_n hx hb dL_law_206 rfl (lv_at hl 0 rfl) ?_
  refine lv_iload_n hx hb dL_law_207 rfl (lv_at hl 3 rfl) ?_
  refine lv_iconst (v := 2) hx hb dL_law_208 (by decide) ?_
  refine lv_iadd hx hb dL_law_209 ?_
  refine va_sld hx hb hX hbl hbA hS (lw_in hi hL (by decide)) dL_law_210 ?_
  refine xlcall (R := xR_X8_type) (as := [.int (xs (nI i + 1).toNatClampNeg), .int (xs (nI i + 2).toNatClampNeg)]) (s1 := t1) (r := some (.int r)) (wo := xw cI cZ ad2 xML s2) (ad := ad1) (rest := []) xFLk (List.mem_of_getElem? (i := 39) rfl) (xTr.end (ok_X8_type (xs (nI i + 1).toNatClampNeg) (xs (nI i + 2).toNatClampNeg) s1) e1 rfl) (Nat.le_of_ble_eq_true rfl) rfl rfl (by decide) (xin 415 (by decide +kernel) (by decide +kernel)) rfl hx hb hml hown hts hA hE1 hK hP1 hD1 hP2 hdis hS (Nat.le_of_ble_eq_true rfl) (Nat.le_of_ble_eq_true rfl) (Nat.le_of_ble_eq_true rfl) (Nat.le_of_ble_eq_true rfl) hl.1 rfl (Nat.le_of_ble_eq_true rfl) dL_law_211 (fun H locs hP1 hD1 hP2 hdis hS => ?_)
  refine lv_aload_n hx hb dL_law_214 rfl (lv_at hl 2 rfl) ?_
  refine lv_aload_n hx hb dL_law_215 rfl (lv_at hl 0 rfl) ?_
  refine lv_iload_n hx hb dL_law_216 rfl (lv_at hl 3 rfl) ?_
  refine lv_iconst (v := 1) hx hb dL_law_217 (by decide) ?_
  refine lv_iadd hx hb dL_law_218 ?_
  refine va_sld hx hb hX hbl hbA hS (lw_in hi hL (by decide)) dL_law_219 ?_
  refine lv_aload_n hx hb dL_law_220 rfl (lv_at hl 0 rfl) ?_
  refine lv_iload_n hx hb dL_law_221 rfl (lv_at hl 3 rfl) ?_
  refine lv_iconst (v := 2) hx hb dL_law_222 (by decide) ?_
  refine lv_iadd hx hb dL_law_223 ?_
  refine va_sld hx hb hX hbl hbA hS (lw_in hi hL (by decide)) dL_law_224 ?_
  refine xlcall (R := xR_X9_type) (as := [.int (xs (nI i + 1).toNatClampNeg), .int (xs (nI i + 2).toNatClampNeg)]) (s1 := t2) (r := some (.int r)) (wo := xw cI cZ ad1 xFL t1) (ad := ad2) (rest := [.int r]) xMLk (List.mem_of_getElem? (i := 108) rfl) (xTr.end (ok_X9_type (xs (nI i + 1).toNatClampNeg) (xs (nI i + 2).toNatClampNeg) s2) e2 rfl) (Nat.le_of_ble_eq_true rfl) rfl rfl (by decide) (xin 1029 (by decide +kernel) (by decide +kernel)) rfl hx hb hml hown hts hA hE2 hK hP2 hD2 hP1 hdis.symm hS (Nat.le_of_ble_eq_true rfl) (Nat.le_of_ble_eq_true rfl) (Nat.le_of_ble_eq_true rfl) (Nat.le_of_ble_eq_true rfl) hl.1 rfl (Nat.le_of_ble_eq_true rfl) dL_law_225 (fun H locs hP2 hD2 hP1 hdis hS => ?_)
  refine lv_icmp_eq (tgt := 1256) hx hb dL_law_228 (by decide) (fun _ => ?_) (fun q => absurd rfl q)
  exact nx t1 t2 H locs hJ ⟨hP1, hD1, hP2, hD2, hdis.symm, hS⟩
set_option maxHeartbeats 4000000 in
set_option maxRecDepth 100000 in
theorem law_wipe {p : Program} {l : Launch} {e : Env} {s : State} {m : MethodId} {below : List Frame} {meth : Method} {c : Code} {b L : Nat} {xs : Nat → Int32} {D : va_G} {cI cZ : ClassId} {ad1 ad2 : Nat → Nat} {Inv : xS → xS → Prop} {i : Nat} {s1 s2 : xS} {H : Heap} {locs : List Loc} {ls : Array Slot} (hh : lh_wipe Inv) (hL : L ≤ 384) (C : lw_C p s m meth c b L xs D cI cZ ad1 ad2) (hi : i + 6 ≤ L) (hI : Inv s1 s2) (hw : lw_S s D cI cZ ad1 ad2 s1 s2 H locs) (hl : lv_has ls 4 [(0, .ref b), (1, .ref (ad1 0)), (2, .ref (ad2 0)), (3, .int (nI i))])
    (nx : ∀ (t1 t2 : xS) (H : Heap) (locs : List Loc), Inv t1 t2 → lw_S s D cI cZ ad1 ad2 t1 t2 H locs → W p l e room_1 s m #[Value.ref b] below meth c H locs 73 2382 (lw_Z below #[Value.ref b] s) (F0 m 1256 ls [])) : W p l e room_1 s m #[Value.ref b] below meth c H locs 73 2382 (lw_Z below #[Value.ref b] s) (F0 m 233 ls []) := by
  obtain ⟨⟨hx, hb, hr, hml, hown, hts0, hX, hbl, hlocks, hgv⟩, hK, hE1, hE2⟩ := C
  obtain ⟨hP1, hD1, hP2, hD2, hdis, hS⟩ := hw
  have hts : ∀ w ∈ xTg, w.before #[Value.ref b] s = true := fun w hw => hts0 w (List.mem_filter.mp hw).1
  have hA : ∀ q : Nat, s.heap.size ≤ q → (fun q : Nat => s.heap.size ≤ q) q := fun _ h => h
  have hbA : ¬ (fun q : Nat => s.heap.size ≤ q) b := Nat.not_le.mpr hbl
  obtain ⟨r, t1, t2, e1, e2, hJ⟩ := hh (xs (nI i + 1).toNatClampNeg) s1 s2 hI
  refine lv_aload_n hx hb dL_law_233 rfl (lv_at hl 1 rfl) ?_
  refine lv_aload_n hx hb dL_law_234 rfl (lv_at hl 0 rfl) ?_
  refine lv_iload_n hx hb dL_law_235 rfl (lv_at hl 3 rfl) ?_
  refine lv_iconst (v := 1) hx hb dL_law_236 (by decide) ?_
  refine lv_iadd hx hb dL_law_237 ?_
  refine va_sld hx hb hX hbl hbA hS (lw_in hi hL (by decide)) dL_law_238 ?_
  refine xlcall (R := xR_X8_wipe) (as := [.int (xs (nI i + 1).toNatClampNeg)]) (s1 := t1) (r := some (.int r)) (wo := xw cI cZ ad2 xML s2) (ad := ad1) (rest := []) xFLk (List.mem_of_getElem? (i := 40) rfl) (xTr.end (ok_X8_wipe (xs (nI i + 1).toNatClampNeg) s1) e1 rfl) (Nat.le_of_ble_eq_true rfl) rfl rfl (by decide) (xin 571 (by decide +kernel) (by decide +kernel)) rfl hx hb hml hown hts hA hE1 hK hP1 hD1 hP2 hdis hS (Nat.le_of_ble_eq_true rfl) (Nat.le_of_ble_eq_true rfl) (Nat.le_of_ble_eq_true rfl) (Nat.le_of_ble_eq_true rfl) hl.1 rfl (Nat.le_of_ble_eq_true rfl) dL_law_239 (fun H locs hP1 hD1 hP2 hdis hS => ?_)
  refine lv_aload_n hx hb dL_law_242 rfl (lv_at hl 2 rfl) ?_
  refine lv_aload_n hx hb dL_law_243 rfl (lv_at hl 0 rfl) ?_
  refine lv_iload_n hx hb dL_law_244 rfl (lv_at hl 3 rfl) ?_
  refine lv_iconst (v := 1) hx hb dL_law_245 (by decide) ?_
  refine lv_iadd hx hb dL_law_246 ?_
  refine va_sld hx hb hX hbl hbA hS (lw_in hi hL (by decide)) dL_law_247 ?_
  refine xlcall (R := xR_X9_wipe) (as := [.int (xs (nI i + 1).toNatClampNeg)]) (s1 := t2) (r := some (.int r)) (wo := xw cI cZ ad1 xFL t1) (ad := ad2) (rest := [.int r]) xMLk (List.mem_of_getElem? (i := 109) rfl) (xTr.end (ok_X9_wipe (xs (nI i + 1).toNatClampNeg) s2) e2 rfl) (Nat.le_of_ble_eq_true rfl) rfl rfl (by decide) (xin 1039 (by decide +kernel) (by decide +kernel)) rfl hx hb hml hown hts hA hE2 hK hP2 hD2 hP1 hdis.symm hS (Nat.le_of_ble_eq_true rfl) (Nat.le_of_ble_eq_true rfl) (Nat.le_of_ble_eq_true rfl) (Nat.le_of_ble_eq_true rfl) hl.1 rfl (Nat.le_of_ble_eq_true rfl) dL_law_248 (fun H locs hP2 hD2 hP1 hdis hS => ?_)
  refine lv_icmp_eq (tgt := 1256) hx hb dL_law_251 (by decide) (fun _ => ?_) (fun q => absurd rfl q)
  exact nx t1 t2 H locs hJ ⟨hP1, hD1, hP2, hD2, hdis.symm, hS⟩
set_option maxHeartbeats 4000000 in
set_option maxRecDepth 100000 in
theorem law_undo {p : Program} {l : Launch} {e : Env} {s : State} {m : MethodId} {below : List Frame} {meth : Method} {c : Code} {b L : Nat} {xs : Nat → Int32} {D : va_G} {cI cZ : ClassId} {ad1 ad2 : Nat → Nat} {Inv : xS → xS → Prop} {i : Nat} {s1 s2 : xS} {H : Heap} {locs : List Loc} {ls : Array Slot} (hh : lh_undo Inv) (hL : L ≤ 384) (C : lw_C p s m meth c b L xs D cI cZ ad1 ad2) (hi : i + 6 ≤ L) (hI : Inv s1 s2) (hw : lw_S s D cI cZ ad1 ad2 s1 s2 H locs) (hl : lv_has ls 4 [(0, .ref b), (1, .ref (ad1 0)), (2, .ref (ad2 0)), (3, .int (nI i))])
    (nx : ∀ (t1 t2 : xS) (H : Heap) (locs : List Loc), Inv t1 t2 → lw_S s D cI cZ ad1 ad2 t1 t2 H locs → W p l e room_1 s m #[Value.ref b] below meth c H locs 73 2382 (lw_Z below #[Value.ref b] s) (F0 m 1256 ls [])) : W p l e room_1 s m #[Value.ref b] below meth c H locs 73 2382 (lw_Z below #[Value.ref b] s) (F0 m 256 ls []) := by
  obtain ⟨⟨hx, hb, hr, hml, hown, hts0, hX, hbl, hlocks, hgv⟩, hK, hE1, hE2⟩ := C
  obtain ⟨hP1, hD1, hP2, hD2, hdis, hS⟩ := hw
  have hts : ∀ w ∈ xTg, w.before #[Value.ref b] s = true := fun w hw => hts0 w (List.mem_filter.mp hw).1
  have hA : ∀ q : Nat, s.heap.size ≤ q → (fun q : Nat => s.heap.size ≤ q) q := fun _ h => h
  have hbA : ¬ (fun q : Nat => s.heap.size ≤ q) b := Nat.not_le.mpr hbl
  obtain ⟨r, t1, t2, e1, e2, hJ⟩ := hh (xs (nI i + 1).toNatClampNeg) s1 s2 hI
  refine lv_aload_n hx hb dL_law_256 rfl (lv_at hl 1 rfl) ?_
  refine lv_aload_n hx hb dL_law_257 rfl (lv_at hl 0 rfl) ?_
  refine lv_iload_n hx hb dL_law_258 rfl (lv_at hl 3 rfl) ?_
  refine lv_iconst (v := 1) hx hb dL_law_259 (by decide) ?_
  refine lv_iadd hx hb dL_law_260 ?_
  refine va_sld hx hb hX hbl hbA hS (lw_in hi hL (by decide)) dL_law_261 ?_
  refine xlcall (R := xR_X8_undo) (as := [.int (xs (nI i + 1).toNatClampNeg)]) (s1 := t1) (r := some (.int r)) (wo := xw cI cZ ad2 xML s2) (ad := ad1) (rest := []) xFLk (List.mem_of_getElem? (i := 41) rfl) (xTr.end (ok_X8_undo (xs (nI i + 1).toNatClampNeg) s1) e1 rfl) (Nat.le_of_ble_eq_true rfl) rfl rfl (by decide) (xin 575 (by decide +kernel) (by decide +kernel)) rfl hx hb hml hown hts hA hE1 hK hP1 hD1 hP2 hdis hS (Nat.le_of_ble_eq_true rfl) (Nat.le_of_ble_eq_true rfl) (Nat.le_of_ble_eq_true rfl) (Nat.le_of_ble_eq_true rfl) hl.1 rfl (Nat.le_of_ble_eq_true rfl) dL_law_262 (fun H locs hP1 hD1 hP2 hdis hS => ?_)
  refine lv_aload_n hx hb dL_law_265 rfl (lv_at hl 2 rfl) ?_
  refine lv_aload_n hx hb dL_law_266 rfl (lv_at hl 0 rfl) ?_
  refine lv_iload_n hx hb dL_law_267 rfl (lv_at hl 3 rfl) ?_
  refine lv_iconst (v := 1) hx hb dL_law_268 (by decide) ?_
  refine lv_iadd hx hb dL_law_269 ?_
  refine va_sld hx hb hX hbl hbA hS (lw_in hi hL (by decide)) dL_law_270 ?_
  refine xlcall (R := xR_X9_undo) (as := [.int (xs (nI i + 1).toNatClampNeg)]) (s1 := t2) (r := some (.int r)) (wo := xw cI cZ ad1 xFL t1) (ad := ad2) (rest := [.int r]) xMLk (List.mem_of_getElem? (i := 110) rfl) (xTr.end (ok_X9_undo (xs (nI i + 1).toNatClampNeg) s2) e2 rfl) (Nat.le_of_ble_eq_true rfl) rfl rfl (by decide) (xin 1043 (by decide +kernel) (by decide +kernel)) rfl hx hb hml hown hts hA hE2 hK hP2 hD2 hP1 hdis.symm hS (Nat.le_of_ble_eq_true rfl) (Nat.le_of_ble_eq_true rfl) (Nat.le_of_ble_eq_true rfl) (Nat.le_of_ble_eq_true rfl) hl.1 rfl (Nat.le_of_ble_eq_true rfl) dL_law_271 (fun H locs hP2 hD2 hP1 hdis hS => ?_)
  refine lv_icmp_eq (tgt := 1256) hx hb dL_law_274 (by decide) (fun _ => ?_) (fun q => absurd rfl q)
  exact nx t1 t2 H locs hJ ⟨hP1, hD1, hP2, hD2, hdis.symm, hS⟩
set_option maxHeartbeats 4000000 in
set_option maxRecDepth 100000 in
theorem law_fault {p : Program} {l : Launch} {e : Env} {s : State} {m : MethodId} {below : List Frame} {meth : Method} {c : Code} {b L : Nat} {xs : Nat → Int32} {D : va_G} {cI cZ : ClassId} {ad1 ad2 : Nat → Nat} {Inv : xS → xS → Prop} {i : Nat} {s1 s2 : xS} {H : Heap} {locs : List Loc} {ls : Array Slot} (hh : lh_fault Inv) (hL : L ≤ 384) (C : lw_C p s m meth c b L xs D cI cZ ad1 ad2) (hi : i + 6 ≤ L) (hI : Inv s1 s2) (hw : lw_S s D cI cZ ad1 ad2 s1 s2 H locs) (hl : lv_has ls 4 [(0, .ref b), (1, .ref (ad1 0)), (2, .ref (ad2 0)), (3, .int (nI i))])
    (nx : ∀ (t1 t2 : xS) (H : Heap) (locs : List Loc), Inv t1 t2 → lw_S s D cI cZ ad1 ad2 t1 t2 H locs → W p l e room_1 s m #[Value.ref b] below meth c H locs 73 2382 (lw_Z below #[Value.ref b] s) (F0 m 1256 ls [])) : W p l e room_1 s m #[Value.ref b] below meth c H locs 73 2382 (lw_Z below #[Value.ref b] s) (F0 m 279 ls []) := by
  obtain ⟨⟨hx, hb, hr, hml, hown, hts0, hX, hbl, hlocks, hgv⟩, hK, hE1, hE2⟩ := C
  obtain ⟨hP1, hD1, hP2, hD2, hdis, hS⟩ := hw
  have hts : ∀ w ∈ xTg, w.before #[Value.ref b] s = true := fun w hw => hts0 w (List.mem_filter.mp hw).1
  have hA : ∀ q : Nat, s.heap.size ≤ q → (fun q : Nat => s.heap.size ≤ q) q := fun _ h => h
  have hbA : ¬ (fun q : Nat => s.heap.size ≤ q) b := Nat.not_le.mpr hbl
  obtain ⟨r, t2, e1, e2, hJ⟩ := hh (xs (nI i + 1).toNatClampNeg) s1 s2 hI
  refine lv_aload_n hx hb dL_law_279 rfl (lv_at hl 1 rfl) ?_
  refine lv_aload_n hx hb dL_law_280 rfl (lv_at hl 0 rfl) ?_
  refine lv_iload_n hx hb dL_law_281 rfl (lv_at hl 3 rfl) ?_
  refine lv_iconst (v := 1) hx hb dL_law_282 (by decide) ?_
  refine lv_iadd hx hb dL_law_283 ?_
  refine va_sld hx hb hX hbl hbA hS (lw_in hi hL (by decide)) dL_law_284 ?_
  refine xlcall (R := xR_X8_fault) (as := [.int (xs (nI i + 1).toNatClampNeg)]) (s1 := s1) (r := some (.int r)) (wo := xw cI cZ ad2 xML s2) (ad := ad1) (rest := []) xFLk (List.mem_of_getElem? (i := 42) rfl) (xTr.end (ok_X8_fault (xs (nI i + 1).toNatClampNeg) s1) e1 rfl) (Nat.le_of_ble_eq_true rfl) rfl rfl (by decide) (xin 579 (by decide +kernel) (by decide +kernel)) rfl hx hb hml hown hts hA hE1 hK hP1 hD1 hP2 hdis hS (Nat.le_of_ble_eq_true rfl) (Nat.le_of_ble_eq_true rfl) (Nat.le_of_ble_eq_true rfl) (Nat.le_of_ble_eq_true rfl) hl.1 rfl (Nat.le_of_ble_eq_true rfl) dL_law_285 (fun H locs hP1 hD1 hP2 hdis hS => ?_)
  refine lv_aload_n hx hb dL_law_288 rfl (lv_at hl 2 rfl) ?_
  refine lv_aload_n hx hb dL_law_289 rfl (lv_at hl 0 rfl) ?_
  refine lv_iload_n hx hb dL_law_290 rfl (lv_at hl 3 rfl) ?_
  refine lv_iconst (v := 1) hx hb dL_law_291 (by decide) ?_
  refine lv_iadd hx hb dL_law_292 ?_
  refine va_sld hx hb hX hbl hbA hS (lw_in hi hL (by decide)) dL_law_293 ?_
  refine xlcall (R := xR_X9_fault) (as := [.int (xs (nI i + 1).toNatClampNeg)]) (s1 := t2) (r := some (.int r)) (wo := xw cI cZ ad1 xFL s1) (ad := ad2) (rest := [.int r]) xMLk (List.mem_of_getElem? (i := 119) rfl) (xTr.end (ok_X9_fault (xs (nI i + 1).toNatClampNeg) s2) e2 rfl) (Nat.le_of_ble_eq_true rfl) rfl rfl (by decide) (xin 1047 (by decide +kernel) (by decide +kernel)) rfl hx hb hml hown hts hA hE2 hK hP2 hD2 hP1 hdis.symm hS (Nat.le_of_ble_eq_true rfl) (Nat.le_of_ble_eq_true rfl) (Nat.le_of_ble_eq_true rfl) (Nat.le_of_ble_eq_true rfl) hl.1 rfl (Nat.le_of_ble_eq_true rfl) dL_law_294 (fun H locs hP2 hD2 hP1 hdis hS => ?_)
  refine lv_icmp_eq (tgt := 1256) hx hb dL_law_297 (by decide) (fun _ => ?_) (fun q => absurd rfl q)
  exact nx s1 t2 H locs hJ ⟨hP1, hD1, hP2, hD2, hdis.symm, hS⟩
set_option maxHeartbeats 4000000 in
set_option maxRecDepth 100000 in
theorem law_cell {p : Program} {l : Launch} {e : Env} {s : State} {m : MethodId} {below : List Frame} {meth : Method} {c : Code} {b L : Nat} {xs : Nat → Int32} {D : va_G} {cI cZ : ClassId} {ad1 ad2 : Nat → Nat} {Inv : xS → xS → Prop} {i : Nat} {s1 s2 : xS} {H : Heap} {locs : List Loc} {ls : Array Slot} (hh : lh_cell Inv) (hL : L ≤ 384) (C : lw_C p s m meth c b L xs D cI cZ ad1 ad2) (hi : i + 6 ≤ L) (hI : Inv s1 s2) (hw : lw_S s D cI cZ ad1 ad2 s1 s2 H locs) (hl : lv_has ls 4 [(0, .ref b), (1, .ref (ad1 0)), (2, .ref (ad2 0)), (3, .int (nI i))])
    (nx : ∀ (t1 t2 : xS) (H : Heap) (locs : List Loc), Inv t1 t2 → lw_S s D cI cZ ad1 ad2 t1 t2 H locs → W p l e room_1 s m #[Value.ref b] below meth c H locs 73 2382 (lw_Z below #[Value.ref b] s) (F0 m 1256 ls [])) : W p l e room_1 s m #[Value.ref b] below meth c H locs 73 2382 (lw_Z below #[Value.ref b] s) (F0 m 302 ls []) := by
  obtain ⟨⟨hx, hb, hr, hml, hown, hts0, hX, hbl, hlocks, hgv⟩, hK, hE1, hE2⟩ := C
  obtain ⟨hP1, hD1, hP2, hD2, hdis, hS⟩ := hw
  have hts : ∀ w ∈ xTg, w.before #[Value.ref b] s = true := fun w hw => hts0 w (List.mem_filter.mp hw).1
  have hA : ∀ q : Nat, s.heap.size ≤ q → (fun q : Nat => s.heap.size ≤ q) q := fun _ h => h
  have hbA : ¬ (fun q : Nat => s.heap.size ≤ q) b := Nat.not_le.mpr hbl
  obtain ⟨r, t2, e1, e2, hJ⟩ := hh (xs (nI i + 1).toNatClampNeg) s1 s2 hI
  refine lv_aload_n hx hb dL_law_302 rfl (lv_at hl 1 rfl) ?_
  refine lv_aload_n hx hb dL_law_303 rfl (lv_at hl 0 rfl) ?_
  refine lv_iload_n hx hb dL_law_304 rfl (lv_at hl 3 rfl) ?_
  refine lv_iconst (v := 1) hx hb dL_law_305 (by decide) ?_
  refine lv_iadd hx hb dL_law_306 ?_
  refine va_sld hx hb hX hbl hbA hS (lw_in hi hL (by decide)) dL_law_307 ?_
  refine xlcall (R := xR_X8_cell) (as := [.int (xs (nI i + 1).toNatClampNeg)]) (s1 := s1) (r := some (.int r)) (wo := xw cI cZ ad2 xML s2) (ad := ad1) (rest := []) xFLk (List.mem_of_getElem? (i := 43) rfl) (xTr.end (ok_X8_cell (xs (nI i + 1).toNatClampNeg) s1) e1 rfl) (Nat.le_of_ble_eq_true rfl) rfl rfl (by decide) (xin 583 (by decide +kernel) (by decide +kernel)) rfl hx hb hml hown hts hA hE1 hK hP1 hD1 hP2 hdis hS (Nat.le_of_ble_eq_true rfl) (Nat.le_of_ble_eq_true rfl) (Nat.le_of_ble_eq_true rfl) (Nat.le_of_ble_eq_true rfl) hl.1 rfl (Nat.le_of_ble_eq_true rfl) dL_law_308 (fun H locs hP1 hD1 hP2 hdis hS => ?_)
  refine lv_aload_n hx hb dL_law_311 rfl (lv_at hl 2 rfl) ?_
  refine lv_aload_n hx hb dL_law_312 rfl (lv_at hl 0 rfl) ?_
  refine lv_iload_n hx hb dL_law_313 rfl (lv_at hl 3 rfl) ?_
  refine lv_iconst (v := 1) hx hb dL_law_314 (by decide) ?_
  refine lv_iadd hx hb dL_law_315 ?_
  refine va_sld hx hb hX hbl hbA hS (lw_in hi hL (by decide)) dL_law_316 ?_
  refine xlcall (R := xR_X9_cell) (as := [.int (xs (nI i + 1).toNatClampNeg)]) (s1 := t2) (r := some (.int r)) (wo := xw cI cZ ad1 xFL s1) (ad := ad2) (rest := [.int r]) xMLk (List.mem_of_getElem? (i := 122) rfl) (xTr.end (ok_X9_cell (xs (nI i + 1).toNatClampNeg) s2) e2 rfl) (Nat.le_of_ble_eq_true rfl) rfl rfl (by decide) (xin 1078 (by decide +kernel) (by decide +kernel)) rfl hx hb hml hown hts hA hE2 hK hP2 hD2 hP1 hdis.symm hS (Nat.le_of_ble_eq_true rfl) (Nat.le_of_ble_eq_true rfl) (Nat.le_of_ble_eq_true rfl) (Nat.le_of_ble_eq_true rfl) hl.1 rfl (Nat.le_of_ble_eq_true rfl) dL_law_317 (fun H locs hP2 hD2 hP1 hdis hS => ?_)
  refine lv_icmp_eq (tgt := 1256) hx hb dL_law_320 (by decide) (fun _ => ?_) (fun q => absurd rfl q)
  exact nx s1 t2 H locs hJ ⟨hP1, hD1, hP2, hD2, hdis.symm, hS⟩
set_option maxHeartbeats 4000000 in
set_option maxRecDepth 100000 in
theorem law_bed {p : Program} {l : Launch} {e : Env} {s : State} {m : MethodId} {below : List Frame} {meth : Method} {c : Code} {b L : Nat} {xs : Nat → Int32} {D : va_G} {cI cZ : ClassId} {ad1 ad2 : Nat → Nat} {Inv : xS → xS → Prop} {i : Nat} {s1 s2 : xS} {H : Heap} {locs : List Loc} {ls : Array Slot} (hh : lh_bed Inv) (hL : L ≤ 384) (C : lw_C p s m meth c b L xs D cI cZ ad1 ad2) (hi : i + 6 ≤ L) (hI : Inv s1 s2) (hw : lw_S s D cI cZ ad1 ad2 s1 s2 H locs) (hl : lv_has ls 4 [(0, .ref b), (1, .ref (ad1 0)), (2, .ref (ad2 0)), (3, .int (nI i))])
    (nx : ∀ (t1 t2 : xS) (H : Heap) (locs : List Loc), Inv t1 t2 → lw_S s D cI cZ ad1 ad2 t1 t2 H locs → W p l e room_1 s m #[Value.ref b] below meth c H locs 73 2382 (lw_Z below #[Value.ref b] s) (F0 m 1256 ls [])) : W p l e room_1 s m #[Value.ref b] below meth c H locs 73 2382 (lw_Z below #[Value.ref b] s) (F0 m 325 ls []) := by
  obtain ⟨⟨hx, hb, hr, hml, hown, hts0, hX, hbl, hlocks, hgv⟩, hK, hE1, hE2⟩ := C
  obtain ⟨hP1, hD1, hP2, hD2, hdis, hS⟩ := hw
  have hts : ∀ w ∈ xTg, w.before #[Value.ref b] s = true := fun w hw => hts0 w (List.mem_filter.mp hw).1
  have hA : ∀ q : Nat, s.heap.size ≤ q → (fun q : Nat => s.heap.size ≤ q) q := fun _ h => h
  have hbA : ¬ (fun q : Nat => s.heap.size ≤ q) b := Nat.not_le.mpr hbl
  obtain ⟨r, t2, e1, e2, hJ⟩ := hh s1 s2 hI
  refine lv_aload_n hx hb dL_law_325 rfl (lv_at hl 1 rfl) ?_
  refine xlcall (R := xR_X8_bed) (as := []) (s1 := s1) (r := some (.int r)) (wo := xw cI cZ ad2 xML s2) (ad := ad1) (rest := []) xFLk (List.mem_of_getElem? (i := 44) rfl) (xTr.end (ok_X8_bed s1) e1 rfl) (Nat.le_of_ble_eq_true rfl) rfl rfl (by decide) (xin 588 (by decide +kernel) (by decide +kernel)) rfl hx hb hml hown hts hA hE1 hK hP1 hD1 hP2 hdis hS (Nat.le_of_ble_eq_true rfl) (Nat.le_of_ble_eq_true rfl) (Nat.le_of_ble_eq_true rfl) (Nat.le_of_ble_eq_true rfl) hl.1 rfl (Nat.le_of_ble_eq_true rfl) dL_law_326 (fun H locs hP1 hD1 hP2 hdis hS => ?_)
  refine lv_aload_n hx hb dL_law_329 rfl (lv_at hl 2 rfl) ?_
  refine xlcall (R := xR_X9_bed) (as := []) (s1 := t2) (r := some (.int r)) (wo := xw cI cZ ad1 xFL s1) (ad := ad2) (rest := [.int r]) xMLk (List.mem_of_getElem? (i := 124) rfl) (xTr.end (ok_X9_bed s2) e2 rfl) (Nat.le_of_ble_eq_true rfl) rfl rfl (by decide) (xin 1090 (by decide +kernel) (by decide +kernel)) rfl hx hb hml hown hts hA hE2 hK hP2 hD2 hP1 hdis.symm hS (Nat.le_of_ble_eq_true rfl) (Nat.le_of_ble_eq_true rfl) (Nat.le_of_ble_eq_true rfl) (Nat.le_of_ble_eq_true rfl) hl.1 rfl (Nat.le_of_ble_eq_true rfl) dL_law_330 (fun H locs hP2 hD2 hP1 hdis hS => ?_)
  refine lv_icmp_eq (tgt := 1256) hx hb dL_law_333 (by decide) (fun _ => ?_) (fun q => absurd rfl q)
  exact nx s1 t2 H locs hJ ⟨hP1, hD1, hP2, hD2, hdis.symm, hS⟩
set_option maxHeartbeats 4000000 in
set_option maxRecDepth 100000 in
theorem law_deed {p : Program} {l : Launch} {e : Env} {s : State} {m : MethodId} {below : List Frame} {meth : Method} {c : Code} {b L : Nat} {xs : Nat → Int32} {D : va_G} {cI cZ : ClassId} {ad1 ad2 : Nat → Nat} {Inv : xS → xS → Prop} {i : Nat} {s1 s2 : xS} {H : Heap} {locs : List Loc} {ls : Array Slot} (hh : lh_deed Inv) (hL : L ≤ 384) (C : lw_C p s m meth c b L xs D cI cZ ad1 ad2) (hi : i + 6 ≤ L) (hI : Inv s1 s2) (hw : lw_S s D cI cZ ad1 ad2 s1 s2 H locs) (hl : lv_has ls 4 [(0, .ref b), (1, .ref (ad1 0)), (2, .ref (ad2 0)), (3, .int (nI i))])
    (nx : ∀ (t1 t2 : xS) (H : Heap) (locs : List Loc), Inv t1 t2 → lw_S s D cI cZ ad1 ad2 t1 t2 H locs → W p l e room_1 s m #[Value.ref b] below meth c H locs 73 2382 (lw_Z below #[Value.ref b] s) (F0 m 1256 ls [])) : W p l e room_1 s m #[Value.ref b] below meth c H locs 73 2382 (lw_Z below #[Value.ref b] s) (F0 m 338 ls []) := by
  obtain ⟨⟨hx, hb, hr, hml, hown, hts0, hX, hbl, hlocks, hgv⟩, hK, hE1, hE2⟩ := C
  obtain ⟨hP1, hD1, hP2, hD2, hdis, hS⟩ := hw
  have hts : ∀ w ∈ xTg, w.before #[Value.ref b] s = true := fun w hw => hts0 w (List.mem_filter.mp hw).1
  have hA : ∀ q : Nat, s.heap.size ≤ q → (fun q : Nat => s.heap.size ≤ q) q := fun _ h => h
  have hbA : ¬ (fun q : Nat => s.heap.size ≤ q) b := Nat.not_le.mpr hbl
  obtain ⟨r, t2, e1, e2, hJ⟩ := hh (xs (nI i + 1).toNatClampNeg) (xs (nI i + 2).toNatClampNeg) s1 s2 hI
  refine lv_aload_n hx hb dL_law_338 rfl (lv_at hl 1 rfl) ?_
  refine lv_aload_n hx hb dL_law_339 rfl (lv_at hl 0 rfl) ?_
  refine lv_iload_n hx hb dL_law_340 rfl (lv_at hl 3 rfl) ?_
  refine lv_iconst (v := 1) hx hb dL_law_341 (by decide) ?_
  refine lv_iadd hx hb dL_law_342 ?_
  refine va_sld hx hb hX hbl hbA hS (lw_in hi hL (by decide)) dL_law_343 ?_
  refine lv_aload_n hx hb dL_law_344 rfl (lv_at hl 0 rfl) ?_
  refine lv_iload_n hx hb dL_law_345 rfl (lv_at hl 3 rfl) ?_
  refine lv_iconst (v := 2) hx hb dL_law_346 (by decide) ?_
  refine lv_iadd hx hb dL_law_347 ?_
  refine va_sld hx hb hX hbl hbA hS (lw_in hi hL (by decide)) dL_law_348 ?_
  refine xlcall (R := xR_X8_deed) (as := [.int (xs (nI i + 1).toNatClampNeg), .int (xs (nI i + 2).toNatClampNeg)]) (s1 := s1) (r := some (.int r)) (wo := xw cI cZ ad2 xML s2) (ad := ad1) (rest := []) xFLk (List.mem_of_getElem? (i := 45) rfl) (xTr.end (ok_X8_deed (xs (nI i + 1).toNatClampNeg) (xs (nI i + 2).toNatClampNeg) s1) e1 rfl) (Nat.le_of_ble_eq_true rfl) rfl rfl (by decide) (xin 592 (by decide +kernel) (by decide +kernel)) rfl hx hb hml hown hts hA hE1 hK hP1 hD1 hP2 hdis hS (Nat.le_of_ble_eq_true rfl) (Nat.le_of_ble_eq_true rfl) (Nat.le_of_ble_eq_true rfl) (Nat.le_of_ble_eq_true rfl) hl.1 rfl (Nat.le_of_ble_eq_true rfl) dL_law_349 (fun H locs hP1 hD1 hP2 hdis hS => ?_)
  refine lv_aload_n hx hb dL_law_352 rfl (lv_at hl 2 rfl) ?_
  refine lv_aload_n hx hb dL_law_353 rfl (lv_at hl 0 rfl) ?_
  refine lv_iload_n hx hb dL_law_354 rfl (lv_at hl 3 rfl) ?_
  refine lv_iconst (v := 1) hx hb dL_law_355 (by decide) ?_
  refine lv_iadd hx hb dL_law_356 ?_
  refine va_sld hx hb hX hbl hbA hS (lw_in hi hL (by decide)) dL_law_357 ?_
  refine lv_aload_n hx hb dL_law_358 rfl (lv_at hl 0 rfl) ?_
  refine lv_iload_n hx hb dL_law_359 rfl (lv_at hl 3 rfl) ?_
  refine lv_iconst (v := 2) hx hb dL_law_360 (by decide) ?_
  refine lv_iadd hx hb dL_law_361 ?_
  refine va_sld hx hb hX hbl hbA hS (lw_in hi hL (by decide)) dL_law_362 ?_
  refine xlcall (R := xR_X9_deed) (as := [.int (xs (nI i + 1).toNatClampNeg), .int (xs (nI i + 2).toNatClampNeg)]) (s1 := t2) (r := some (.int r)) (wo := xw cI cZ ad1 xFL s1) (ad := ad2) (rest := [.int r]) xMLk (List.mem_of_getElem? (i := 126) rfl) (xTr.end (ok_X9_deed (xs (nI i + 1).toNatClampNeg) (xs (nI i + 2).toNatClampNeg) s2) e2 rfl) (Nat.le_of_ble_eq_true rfl) rfl rfl (by decide) (xin 1098 (by decide +kernel) (by decide +kernel)) rfl hx hb hml hown hts hA hE2 hK hP2 hD2 hP1 hdis.symm hS (Nat.le_of_ble_eq_true rfl) (Nat.le_of_ble_eq_true rfl) (Nat.le_of_ble_eq_true rfl) (Nat.le_of_ble_eq_true rfl) hl.1 rfl (Nat.le_of_ble_eq_true rfl) dL_law_363 (fun H locs hP2 hD2 hP1 hdis hS => ?_)
  refine lv_icmp_eq (tgt := 1256) hx hb dL_law_366 (by decide) (fun _ => ?_) (fun q => absurd rfl q)
  exact nx s1 t2 H locs hJ ⟨hP1, hD1, hP2, hD2, hdis.symm, hS⟩
set_option maxHeartbeats 4000000 in
set_option maxRecDepth 100000 in
theorem law_set {p : Program} {l : Launch} {e : Env} {s : State} {m : MethodId} {below : List Frame} {meth : Method} {c : Code} {b L : Nat} {xs : Nat → Int32} {D : va_G} {cI cZ : ClassId} {ad1 ad2 : Nat → Nat} {Inv : xS → xS → Prop} {i : Nat} {s1 s2 : xS} {H : Heap} {locs : List Loc} {ls : Array Slot} (hh : lh_set Inv) (hL : L ≤ 384) (C : lw_C p s m meth c b L xs D cI cZ ad1 ad2) (hi : i + 6 ≤ L) (hI : Inv s1 s2) (hw : lw_S s D cI cZ ad1 ad2 s1 s2 H locs) (hl : lv_has ls 4 [(0, .ref b), (1, .ref (ad1 0)), (2, .ref (ad2 0)), (3, .int (nI i))])
    (nx : ∀ (t1 t2 : xS) (H : Heap) (locs : List Loc), Inv t1 t2 → lw_S s D cI cZ ad1 ad2 t1 t2 H locs → W p l e room_1 s m #[Value.ref b] below meth c H locs 73 2382 (lw_Z below #[Value.ref b] s) (F0 m 1256 ls [])) : W p l e room_1 s m #[Value.ref b] below meth c H locs 73 2382 (lw_Z below #[Value.ref b] s) (F0 m 371 ls []) := by
  obtain ⟨⟨hx, hb, hr, hml, hown, hts0, hX, hbl, hlocks, hgv⟩, hK, hE1, hE2⟩ := C
  obtain ⟨hP1, hD1, hP2, hD2, hdis, hS⟩ := hw
  have hts : ∀ w ∈ xTg, w.before #[Value.ref b] s = true := fun w hw => hts0 w (List.mem_filter.mp hw).1
  have hA : ∀ q : Nat, s.heap.size ≤ q → (fun q : Nat => s.heap.size ≤ q) q := fun _ h => h
  have hbA : ¬ (fun q : Nat => s.heap.size ≤ q) b := Nat.not_le.mpr hbl
  obtain ⟨r, t1, t2, e1, e2, hJ⟩ := hh (xs (nI i + 1).toNatClampNeg) (xs (nI i + 2).toNatClampNeg) s1 s2 hI
  refine lv_aload_n hx hb dL_law_371 rfl (lv_at hl 1 rfl) ?_
  refine lv_aload_n hx hb dL_law_372 rfl (lv_at hl 0 rfl) ?_
  refine lv_iload_n hx hb dL_law_373 rfl (lv_at hl 3 rfl) ?_
  refine lv_iconst (v := 1) hx hb dL_law_374 (by decide) ?_
  refine lv_iadd hx hb dL_law_375 ?_
  refine va_sld hx hb hX hbl hbA hS (lw_in hi hL (by decide)) dL_law_376 ?_
  refine lv_aload_n hx hb dL_law_377 rfl (lv_at hl 0 rfl) ?_
  refine lv_iload_n hx hb dL_law_378 rfl (lv_at hl 3 rfl) ?_
  refine lv_iconst (v := 2) hx hb dL_law_379 (by decide) ?_
  refine lv_iadd hx hb dL_law_380 ?_
  refine va_sld hx hb hX hbl hbA hS (lw_in hi hL (by decide)) dL_law_381 ?_
  refine xlcall (R := xR_X8_set) (as := [.int (xs (nI i + 1).toNatClampNeg), .int (xs (nI i + 2).toNatClampNeg)]) (s1 := t1) (r := some (.int r)) (wo := xw cI cZ ad2 xML s2) (ad := ad1) (rest := []) xFLk (List.mem_of_getElem? (i := 46) rfl) (xTr.end (ok_X8_set (xs (nI i + 1).toNatClampNeg) (xs (nI i + 2).toNatClampNeg) s1) e1 rfl) (Nat.le_of_ble_eq_true rfl) rfl rfl (by decide) (xin 600 (by decide +kernel) (by decide +kernel)) rfl hx hb hml hown hts hA hE1 hK hP1 hD1 hP2 hdis hS (Nat.le_of_ble_eq_true rfl) (Nat.le_of_ble_eq_true rfl) (Nat.le_of_ble_eq_true rfl) (Nat.le_of_ble_eq_true rfl) hl.1 rfl (Nat.le_of_ble_eq_true rfl) dL_law_382 (fun H locs hP1 hD1 hP2 hdis hS => ?_)
  refine lv_aload_n hx hb dL_law_385 rfl (lv_at hl 2 rfl) ?_
  refine lv_aload_n hx hb dL_law_386 rfl (lv_at hl 0 rfl) ?_
  refine lv_iload_n hx hb dL_law_387 rfl (lv_at hl 3 rfl) ?_
  refine lv_iconst (v := 1) hx hb dL_law_388 (by decide) ?_
  refine lv_iadd hx hb dL_law_389 ?_
  refine va_sld hx hb hX hbl hbA hS (lw_in hi hL (by decide)) dL_law_390 ?_
  refine lv_aload_n hx hb dL_law_391 rfl (lv_at hl 0 rfl) ?_
  refine lv_iload_n hx hb dL_law_392 rfl (lv_at hl 3 rfl) ?_
  refine lv_iconst (v := 2) hx hb dL_law_393 (by decide) ?_
  refine lv_iadd hx hb dL_law_394 ?_
  refine va_sld hx hb hX hbl hbA hS (lw_in hi hL (by decide)) dL_law_395 ?_
  refine xlcall (R := xR_X9_set) (as := [.int (xs (nI i + 1).toNatClampNeg), .int (xs (nI i + 2).toNatClampNeg)]) (s1 := t2) (r := some (.int r)) (wo := xw cI cZ ad1 xFL t1) (ad := ad2) (rest := [.int r]) xMLk (List.mem_of_getElem? (i := 127) rfl) (xTr.end (ok_X9_set (xs (nI i + 1).toNatClampNeg) (xs (nI i + 2).toNatClampNeg) s2) e2 rfl) (Nat.le_of_ble_eq_true rfl) rfl rfl (by decide) (xin 1110 (by decide +kernel) (by decide +kernel)) rfl hx hb hml hown hts hA hE2 hK hP2 hD2 hP1 hdis.symm hS (Nat.le_of_ble_eq_true rfl) (Nat.le_of_ble_eq_true rfl) (Nat.le_of_ble_eq_true rfl) (Nat.le_of_ble_eq_true rfl) hl.1 rfl (Nat.le_of_ble_eq_true rfl) dL_law_396 (fun H locs hP2 hD2 hP1 hdis hS => ?_)
  refine lv_icmp_eq (tgt := 1256) hx hb dL_law_399 (by decide) (fun _ => ?_) (fun q => absurd rfl q)
  exact nx t1 t2 H locs hJ ⟨hP1, hD1, hP2, hD2, hdis.symm, hS⟩
set_option maxHeartbeats 4000000 in
set_option maxRecDepth 100000 in
theorem law_thunder {p : Program} {l : Launch} {e : Env} {s : State} {m : MethodId} {below : List Frame} {meth : Method} {c : Code} {b L : Nat} {xs : Nat → Int32} {D : va_G} {cI cZ : ClassId} {ad1 ad2 : Nat → Nat} {Inv : xS → xS → Prop} {i : Nat} {s1 s2 : xS} {H : Heap} {locs : List Loc} {ls : Array Slot} (hh : lh_thunder Inv) (hL : L ≤ 384) (C : lw_C p s m meth c b L xs D cI cZ ad1 ad2) (hi : i + 6 ≤ L) (hI : Inv s1 s2) (hw : lw_S s D cI cZ ad1 ad2 s1 s2 H locs) (hl : lv_has ls 4 [(0, .ref b), (1, .ref (ad1 0)), (2, .ref (ad2 0)), (3, .int (nI i))])
    (nx : ∀ (t1 t2 : xS) (H : Heap) (locs : List Loc), Inv t1 t2 → lw_S s D cI cZ ad1 ad2 t1 t2 H locs → W p l e room_1 s m #[Value.ref b] below meth c H locs 73 2382 (lw_Z below #[Value.ref b] s) (F0 m 1256 ls [])) : W p l e room_1 s m #[Value.ref b] below meth c H locs 73 2382 (lw_Z below #[Value.ref b] s) (F0 m 404 ls []) := by
  obtain ⟨⟨hx, hb, hr, hml, hown, hts0, hX, hbl, hlocks, hgv⟩, hK, hE1, hE2⟩ := C
  obtain ⟨hP1, hD1, hP2, hD2, hdis, hS⟩ := hw
  have hts : ∀ w ∈ xTg, w.before #[Value.ref b] s = true := fun w hw => hts0 w (List.mem_filter.mp hw).1
  have hA : ∀ q : Nat, s.heap.size ≤ q → (fun q : Nat => s.heap.size ≤ q) q := fun _ h => h
  have hbA : ¬ (fun q : Nat => s.heap.size ≤ q) b := Nat.not_le.mpr hbl
  obtain ⟨r, t1, t2, e1, e2, hJ⟩ := hh (xs (nI i + 1).toNatClampNeg) (xs (nI i + 2).toNatClampNeg) s1 s2 hI
  refine lv_aload_n hx hb dL_law_404 rfl (lv_at hl 1 rfl) ?_
  refine lv_aload_n hx hb dL_law_405 rfl (lv_at hl 0 rfl) ?_
  refine lv_iload_n hx hb dL_law_406 rfl (lv_at hl 3 rfl) ?_
  refine lv_iconst (v := 1) hx hb dL_law_407 (by decide) ?_
  refine lv_iadd hx hb dL_law_408 ?_
  refine va_sld hx hb hX hbl hbA hS (lw_in hi hL (by decide)) dL_law_409 ?_
  refine lv_aload_n hx hb dL_law_410 rfl (lv_at hl 0 rfl) ?_
  refine lv_iload_n hx hb dL_law_411 rfl (lv_at hl 3 rfl) ?_
  refine lv_iconst (v := 2) hx hb dL_law_412 (by decide) ?_
  refine lv_iadd hx hb dL_law_413 ?_
  refine va_sld hx hb hX hbl hbA hS (lw_in hi hL (by decide)) dL_law_414 ?_
  refine xlcall (R := xR_X8_thunder) (as := [.int (xs (nI i + 1).toNatClampNeg), .int (xs (nI i + 2).toNatClampNeg)]) (s1 := t1) (r := some (.int r)) (wo := xw cI cZ ad2 xML s2) (ad := ad1) (rest := []) xFLk (List.mem_of_getElem? (i := 47) rfl) (xTr.end (ok_X8_thunder (xs (nI i + 1).toNatClampNeg) (xs (nI i + 2).toNatClampNeg) s1) e1 rfl) (Nat.le_of_ble_eq_true rfl) rfl rfl (by decide) (xin 604 (by decide +kernel) (by decide +kernel)) rfl hx hb hml hown hts hA hE1 hK hP1 hD1 hP2 hdis hS (Nat.le_of_ble_eq_true rfl) (Nat.le_of_ble_eq_true rfl) (Nat.le_of_ble_eq_true rfl) (Nat.le_of_ble_eq_true rfl) hl.1 rfl (Nat.le_of_ble_eq_true rfl) dL_law_415 (fun H locs hP1 hD1 hP2 hdis hS => ?_)
  refine lv_aload_n hx hb dL_law_418 rfl (lv_at hl 2 rfl) ?_
  refine lv_aload_n hx hb dL_law_419 rfl (lv_at hl 0 rfl) ?_
  refine lv_iload_n hx hb dL_law_420 rfl (lv_at hl 3 rfl) ?_
  refine lv_iconst (v := 1) hx hb dL_law_421 (by decide) ?_
  refine lv_iadd hx hb dL_law_422 ?_
  refine va_sld hx hb hX hbl hbA hS (lw_in hi hL (by decide)) dL_law_423 ?_
  refine lv_aload_n hx hb dL_law_424 rfl (lv_at hl 0 rfl) ?_
  refine lv_iload_n hx hb dL_law_425 rfl (lv_at hl 3 rfl) ?_
  refine lv_iconst (v := 2) hx hb dL_law_426 (by decide) ?_
  refine lv_iadd hx hb dL_law_427 ?_
  refine va_sld hx hb hX hbl hbA hS (lw_in hi hL (by decide)) dL_law_428 ?_
  refine xlcall (R := xR_X9_thunder) (as := [.int (xs (nI i + 1).toNatClampNeg), .int (xs (nI i + 2).toNatClampNeg)]) (s1 := t2) (r := some (.int r)) (wo := xw cI cZ ad1 xFL t1) (ad := ad2) (rest := [.int r]) xMLk (List.mem_of_getElem? (i := 128) rfl) (xTr.end (ok_X9_thunder (xs (nI i + 1).toNatClampNeg) (xs (nI i + 2).toNatClampNeg) s2) e2 rfl) (Nat.le_of_ble_eq_true rfl) rfl rfl (by decide) (xin 1114 (by decide +kernel) (by decide +kernel)) rfl hx hb hml hown hts hA hE2 hK hP2 hD2 hP1 hdis.symm hS (Nat.le_of_ble_eq_true rfl) (Nat.le_of_ble_eq_true rfl) (Nat.le_of_ble_eq_true rfl) (Nat.le_of_ble_eq_true rfl) hl.1 rfl (Nat.le_of_ble_eq_true rfl) dL_law_429 (fun H locs hP2 hD2 hP1 hdis hS => ?_)
  refine lv_icmp_eq (tgt := 1256) hx hb dL_law_432 (by decide) (fun _ => ?_) (fun q => absurd rfl q)
  exact nx t1 t2 H locs hJ ⟨hP1, hD1, hP2, hD2, hdis.symm, hS⟩
set_option maxHeartbeats 4000000 in
set_option maxRecDepth 100000 in
theorem law_back {p : Program} {l : Launch} {e : Env} {s : State} {m : MethodId} {below : List Frame} {meth : Method} {c : Code} {b L : Nat} {xs : Nat → Int32} {D : va_G} {cI cZ : ClassId} {ad1 ad2 : Nat → Nat} {Inv : xS → xS → Prop} {i : Nat} {s1 s2 : xS} {H : Heap} {locs : List Loc} {ls : Array Slot} (hh : lh_back Inv) (hL : L ≤ 384) (C : lw_C p s m meth c b L xs D cI cZ ad1 ad2) (hi : i + 6 ≤ L) (hI : Inv s1 s2) (hw : lw_S s D cI cZ ad1 ad2 s1 s2 H locs) (hl : lv_has ls 4 [(0, .ref b), (1, .ref (ad1 0)), (2, .ref (ad2 0)), (3, .int (nI i))])
    (nx : ∀ (t1 t2 : xS) (H : Heap) (locs : List Loc), Inv t1 t2 → lw_S s D cI cZ ad1 ad2 t1 t2 H locs → W p l e room_1 s m #[Value.ref b] below meth c H locs 73 2382 (lw_Z below #[Value.ref b] s) (F0 m 1256 ls [])) : W p l e room_1 s m #[Value.ref b] below meth c H locs 73 2382 (lw_Z below #[Value.ref b] s) (F0 m 437 ls []) := by
  obtain ⟨⟨hx, hb, hr, hml, hown, hts0, hX, hbl, hlocks, hgv⟩, hK, hE1, hE2⟩ := C
  obtain ⟨hP1, hD1, hP2, hD2, hdis, hS⟩ := hw
  have hts : ∀ w ∈ xTg, w.before #[Value.ref b] s = true := fun w hw => hts0 w (List.mem_filter.mp hw).1
  have hA : ∀ q : Nat, s.heap.size ≤ q → (fun q : Nat => s.heap.size ≤ q) q := fun _ h => h
  have hbA : ¬ (fun q : Nat => s.heap.size ≤ q) b := Nat.not_le.mpr hbl
  obtain ⟨r, t1, t2, e1, e2, hJ⟩ := hh s1 s2 hI
  refine lv_aload_n hx hb dL_law_437 rfl (lv_at hl 1 rfl) ?_
  refine xlcall (R := xR_X8_back) (as := []) (s1 := t1) (r := some (.int r)) (wo := xw cI cZ ad2 xML s2) (ad := ad1) (rest := []) xFLk (List.mem_of_getElem? (i := 48) rfl) (xTr.end (ok_X8_back s1) e1 rfl) (Nat.le_of_ble_eq_true rfl) rfl rfl (by decide) (xin 620 (by decide +kernel) (by decide +kernel)) rfl hx hb hml hown hts hA hE1 hK hP1 hD1 hP2 hdis hS (Nat.le_of_ble_eq_true rfl) (Nat.le_of_ble_eq_true rfl) (Nat.le_of_ble_eq_true rfl) (Nat.le_of_ble_eq_true rfl) hl.1 rfl (Nat.le_of_ble_eq_true rfl) dL_law_438 (fun H locs hP1 hD1 hP2 hdis hS => ?_)
  refine lv_aload_n hx hb dL_law_441 rfl (lv_at hl 2 rfl) ?_
  refine xlcall (R := xR_X9_back) (as := []) (s1 := t2) (r := some (.int r)) (wo := xw cI cZ ad1 xFL t1) (ad := ad2) (rest := [.int r]) xMLk (List.mem_of_getElem? (i := 129) rfl) (xTr.end (ok_X9_back s2) e2 rfl) (Nat.le_of_ble_eq_true rfl) rfl rfl (by decide) (xin 1121 (by decide +kernel) (by decide +kernel)) rfl hx hb hml hown hts hA hE2 hK hP2 hD2 hP1 hdis.symm hS (Nat.le_of_ble_eq_true rfl) (Nat.le_of_ble_eq_true rfl) (Nat.le_of_ble_eq_true rfl) (Nat.le_of_ble_eq_true rfl) hl.1 rfl (Nat.le_of_ble_eq_true rfl) dL_law_442 (fun H locs hP2 hD2 hP1 hdis hS => ?_)
  refine lv_icmp_eq (tgt := 1256) hx hb dL_law_445 (by decide) (fun _ => ?_) (fun q => absurd rfl q)
  exact nx t1 t2 H locs hJ ⟨hP1, hD1, hP2, hD2, hdis.symm, hS⟩
set_option maxHeartbeats 4000000 in
set_option maxRecDepth 100000 in
theorem law_read {p : Program} {l : Launch} {e : Env} {s : State} {m : MethodId} {below : List Frame} {meth : Method} {c : Code} {b L : Nat} {xs : Nat → Int32} {D : va_G} {cI cZ : ClassId} {ad1 ad2 : Nat → Nat} {Inv : xS → xS → Prop} {i : Nat} {s1 s2 : xS} {H : Heap} {locs : List Loc} {ls : Array Slot} (hh : lh_read Inv) (hL : L ≤ 384) (C : lw_C p s m meth c b L xs D cI cZ ad1 ad2) (hi : i + 6 ≤ L) (hI : Inv s1 s2) (hw : lw_S s D cI cZ ad1 ad2 s1 s2 H locs) (hl : lv_has ls 4 [(0, .ref b), (1, .ref (ad1 0)), (2, .ref (ad2 0)), (3, .int (nI i))])
    (nx : ∀ (t1 t2 : xS) (H : Heap) (locs : List Loc), Inv t1 t2 → lw_S s D cI cZ ad1 ad2 t1 t2 H locs → W p l e room_1 s m #[Value.ref b] below meth c H locs 73 2382 (lw_Z below #[Value.ref b] s) (F0 m 1256 ls [])) : W p l e room_1 s m #[Value.ref b] below meth c H locs 73 2382 (lw_Z below #[Value.ref b] s) (F0 m 450 ls []) := by
  obtain ⟨⟨hx, hb, hr, hml, hown, hts0, hX, hbl, hlocks, hgv⟩, hK, hE1, hE2⟩ := C
  obtain ⟨hP1, hD1, hP2, hD2, hdis, hS⟩ := hw
  have hts : ∀ w ∈ xTg, w.before #[Value.ref b] s = true := fun w hw => hts0 w (List.mem_filter.mp hw).1
  have hA : ∀ q : Nat, s.heap.size ≤ q → (fun q : Nat => s.heap.size ≤ q) q := fun _ h => h
  have hbA : ¬ (fun q : Nat => s.heap.size ≤ q) b := Nat.not_le.mpr hbl
  obtain ⟨r, t1, t2, e1, e2, hJ⟩ := hh (xs (nI i + 1).toNatClampNeg) s1 s2 hI
  refine lv_aload_n hx hb dL_law_450 rfl (lv_at hl 1 rfl) ?_
  refine lv_aload_n hx hb dL_law_451 rfl (lv_at hl 0 rfl) ?_
  refine lv_iload_n hx hb dL_law_452 rfl (lv_at hl 3 rfl) ?_
  refine lv_iconst (v := 1) hx hb dL_law_453 (by decide) ?_
  refine lv_iadd hx hb dL_law_454 ?_
  refine va_sld hx hb hX hbl hbA hS (lw_in hi hL (by decide)) dL_law_455 ?_
  refine xlcall (R := xR_X8_read) (as := [.int (xs (nI i + 1).toNatClampNeg)]) (s1 := t1) (r := some (.int r)) (wo := xw cI cZ ad2 xML s2) (ad := ad1) (rest := []) xFLk (List.mem_of_getElem? (i := 49) rfl) (xTr.end (ok_X8_read (xs (nI i + 1).toNatClampNeg) s1) e1 rfl) (Nat.le_of_ble_eq_true rfl) rfl rfl (by decide) (xin 624 (by decide +kernel) (by decide +kernel)) rfl hx hb hml hown hts hA hE1 hK hP1 hD1 hP2 hdis hS (Nat.le_of_ble_eq_true rfl) (Nat.le_of_ble_eq_true rfl) (Nat.le_of_ble_eq_true rfl) (Nat.le_of_ble_eq_true rfl) hl.1 rfl (Nat.le_of_ble_eq_true rfl) dL_law_456 (fun H locs hP1 hD1 hP2 hdis hS => ?_)
  refine lv_aload_n hx hb dL_law_459 rfl (lv_at hl 2 rfl) ?_
  refine lv_aload_n hx hb dL_law_460 rfl (lv_at hl 0 rfl) ?_
  refine lv_iload_n hx hb dL_law_461 rfl (lv_at hl 3 rfl) ?_
  refine lv_iconst (v := 1) hx hb dL_law_462 (by decide) ?_
  refine lv_iadd hx hb dL_law_463 ?_
  refine va_sld hx hb hX hbl hbA hS (lw_in hi hL (by decide)) dL_law_464 ?_
  refine xlcall (R := xR_X9_read) (as := [.int (xs (nI i + 1).toNatClampNeg)]) (s1 := t2) (r := some (.int r)) (wo := xw cI cZ ad1 xFL t1) (ad := ad2) (rest := [.int r]) xMLk (List.mem_of_getElem? (i := 130) rfl) (xTr.end (ok_X9_read (xs (nI i + 1).toNatClampNeg) s2) e2 rfl) (Nat.le_of_ble_eq_true rfl) rfl rfl (by decide) (xin 1125 (by decide +kernel) (by decide +kernel)) rfl hx hb hml hown hts hA hE2 hK hP2 hD2 hP1 hdis.symm hS (Nat.le_of_ble_eq_true rfl) (Nat.le_of_ble_eq_true rfl) (Nat.le_of_ble_eq_true rfl) (Nat.le_of_ble_eq_true rfl) hl.1 rfl (Nat.le_of_ble_eq_true rfl) dL_law_465 (fun H locs hP2 hD2 hP1 hdis hS => ?_)
  refine lv_icmp_eq (tgt := 1256) hx hb dL_law_468 (by decide) (fun _ => ?_) (fun q => absurd rfl q)
  exact nx t1 t2 H locs hJ ⟨hP1, hD1, hP2, hD2, hdis.symm, hS⟩
set_option maxHeartbeats 4000000 in
set_option maxRecDepth 100000 in
theorem law_carry {p : Program} {l : Launch} {e : Env} {s : State} {m : MethodId} {below : List Frame} {meth : Method} {c : Code} {b L : Nat} {xs : Nat → Int32} {D : va_G} {cI cZ : ClassId} {ad1 ad2 : Nat → Nat} {Inv : xS → xS → Prop} {i : Nat} {s1 s2 : xS} {H : Heap} {locs : List Loc} {ls : Array Slot} (hh : lh_carry Inv) (hL : L ≤ 384) (C : lw_C p s m meth c b L xs D cI cZ ad1 ad2) (hi : i + 6 ≤ L) (hI : Inv s1 s2) (hw : lw_S s D cI cZ ad1 ad2 s1 s2 H locs) (hl : lv_has ls 4 [(0, .ref b), (1, .ref (ad1 0)), (2, .ref (ad2 0)), (3, .int (nI i))])
    (nx : ∀ (t1 t2 : xS) (H : Heap) (locs : List Loc), Inv t1 t2 → lw_S s D cI cZ ad1 ad2 t1 t2 H locs → W p l e room_1 s m #[Value.ref b] below meth c H locs 73 2382 (lw_Z below #[Value.ref b] s) (F0 m 1256 ls [])) : W p l e room_1 s m #[Value.ref b] below meth c H locs 73 2382 (lw_Z below #[Value.ref b] s) (F0 m 473 ls []) := by
  obtain ⟨⟨hx, hb, hr, hml, hown, hts0, hX, hbl, hlocks, hgv⟩, hK, hE1, hE2⟩ := C
  obtain ⟨hP1, hD1, hP2, hD2, hdis, hS⟩ := hw
  have hts : ∀ w ∈ xTg, w.before #[Value.ref b] s = true := fun w hw => hts0 w (List.mem_filter.mp hw).1
  have hA : ∀ q : Nat, s.heap.size ≤ q → (fun q : Nat => s.heap.size ≤ q) q := fun _ h => h
  have hbA : ¬ (fun q : Nat => s.heap.size ≤ q) b := Nat.not_le.mpr hbl
  obtain ⟨r, t1, t2, e1, e2, hJ⟩ := hh (xs (nI i + 1).toNatClampNeg) (xs (nI i + 2).toNatClampNeg) (xs (nI i + 3).toNatClampNeg) s1 s2 hI
  refine lv_aload_n hx hb dL_law_473 rfl (lv_at hl 1 rfl) ?_
  refine lv_aload_n hx hb dL_law_474 rfl (lv_at hl 0 rfl) ?_
  refine lv_iload_n hx hb dL_law_475 rfl (lv_at hl 3 rfl) ?_
  refine lv_iconst (v := 1) hx hb dL_law_476 (by decide) ?_
  refine lv_iadd hx hb dL_law_477 ?_
  refine va_sld hx hb hX hbl hbA hS (lw_in hi hL (by decide)) dL_law_478 ?_
  refine lv_aload_n hx hb dL_law_479 rfl (lv_at hl 0 rfl) ?_
  refine lv_iload_n hx hb dL_law_480 rfl (lv_at hl 3 rfl) ?_
  refine lv_iconst (v := 2) hx hb dL_law_481 (by decide) ?_
  refine lv_iadd hx hb dL_law_482 ?_
  refine va_sld hx hb hX hbl hbA hS (lw_in hi hL (by decide)) dL_law_483 ?_
  refine lv_aload_n hx hb dL_law_484 rfl (lv_at hl 0 rfl) ?_
  refine lv_iload_n hx hb dL_law_485 rfl (lv_at hl 3 rfl) ?_
  refine lv_iconst (v := 3) hx hb dL_law_486 (by decide) ?_
  refine lv_iadd hx hb dL_law_487 ?_
  refine va_sld hx hb hX hbl hbA hS (lw_in hi hL (by decide)) dL_law_488 ?_
  refine xlcall (R := xR_X8_carry) (as := [.int (xs (nI i + 1).toNatClampNeg), .int (xs (nI i + 2).toNatClampNeg), .int (xs (nI i + 3).toNatClampNeg)]) (s1 := t1) (r := some (.int r)) (wo := xw cI cZ ad2 xML s2) (ad := ad1) (rest := []) xFLk (List.mem_of_getElem? (i := 50) rfl) (xTr.end (ok_X8_carry (xs (nI i + 1).toNatClampNeg) (xs (nI i + 2).toNatClampNeg) (xs (nI i + 3).toNatClampNeg) s1) e1 rfl) (Nat.le_of_ble_eq_true rfl) rfl rfl (by decide) (xin 644 (by decide +kernel) (by decide +kernel)) rfl hx hb hml hown hts hA hE1 hK hP1 hD1 hP2 hdis hS (Nat.le_of_ble_eq_true rfl) (Nat.le_of_ble_eq_true rfl) (Nat.le_of_ble_eq_true rfl) (Nat.le_of_ble_eq_true rfl) hl.1 rfl (Nat.le_of_ble_eq_true rfl) dL_law_489 (fun H locs hP1 hD1 hP2 hdis hS => ?_)
  refine lv_aload_n hx hb dL_law_492 rfl (lv_at hl 2 rfl) ?_
  refine lv_aload_n hx hb dL_law_493 rfl (lv_at hl 0 rfl) ?_
  refine lv_iload_n hx hb dL_law_494 rfl (lv_at hl 3 rfl) ?_
  refine lv_iconst (v := 1) hx hb dL_law_495 (by decide) ?_
  refine lv_iadd hx hb dL_law_496 ?_
  refine va_sld hx hb hX hbl hbA hS (lw_in hi hL (by decide)) dL_law_497 ?_
  refine lv_aload_n hx hb dL_law_498 rfl (lv_at hl 0 rfl) ?_
  refine lv_iload_n hx hb dL_law_499 rfl (lv_at hl 3 rfl) ?_
  refine lv_iconst (v := 2) hx hb dL_law_500 (by decide) ?_
  refine lv_iadd hx hb dL_law_501 ?_
  refine va_sld hx hb hX hbl hbA hS (lw_in hi hL (by decide)) dL_law_502 ?_
  refine lv_aload_n hx hb dL_law_503 rfl (lv_at hl 0 rfl) ?_
  refine lv_iload_n hx hb dL_law_504 rfl (lv_at hl 3 rfl) ?_
  refine lv_iconst (v := 3) hx hb dL_law_505 (by decide) ?_
  refine lv_iadd hx hb dL_law_506 ?_
  refine va_sld hx hb hX hbl hbA hS (lw_in hi hL (by decide)) dL_law_507 ?_
  refine xlcall (R := xR_X9_carry) (as := [.int (xs (nI i + 1).toNatClampNeg), .int (xs (nI i + 2).toNatClampNeg), .int (xs (nI i + 3).toNatClampNeg)]) (s1 := t2) (r := some (.int r)) (wo := xw cI cZ ad1 xFL t1) (ad := ad2) (rest := [.int r]) xMLk (List.mem_of_getElem? (i := 136) rfl) (xTr.end (ok_X9_carry (xs (nI i + 1).toNatClampNeg) (xs (nI i + 2).toNatClampNeg) (xs (nI i + 3).toNatClampNeg) s2) e2 rfl) (Nat.le_of_ble_eq_true rfl) rfl rfl (by decide) (xin 1137 (by decide +kernel) (by decide +kernel)) rfl hx hb hml hown hts hA hE2 hK hP2 hD2 hP1 hdis.symm hS (Nat.le_of_ble_eq_true rfl) (Nat.le_of_ble_eq_true rfl) (Nat.le_of_ble_eq_true rfl) (Nat.le_of_ble_eq_true rfl) hl.1 rfl (Nat.le_of_ble_eq_true rfl) dL_law_508 (fun H locs hP2 hD2 hP1 hdis hS => ?_)
  refine lv_icmp_eq (tgt := 1256) hx hb dL_law_511 (by decide) (fun _ => ?_) (fun q => absurd rfl q)
  exact nx t1 t2 H locs hJ ⟨hP1, hD1, hP2, hD2, hdis.symm, hS⟩
set_option maxHeartbeats 4000000 in
set_option maxRecDepth 100000 in
theorem law_heard {p : Program} {l : Launch} {e : Env} {s : State} {m : MethodId} {below : List Frame} {meth : Method} {c : Code} {b L : Nat} {xs : Nat → Int32} {D : va_G} {cI cZ : ClassId} {ad1 ad2 : Nat → Nat} {Inv : xS → xS → Prop} {i : Nat} {s1 s2 : xS} {H : Heap} {locs : List Loc} {ls : Array Slot} (hh : lh_heard Inv) (hL : L ≤ 384) (C : lw_C p s m meth c b L xs D cI cZ ad1 ad2) (hi : i + 6 ≤ L) (hI : Inv s1 s2) (hw : lw_S s D cI cZ ad1 ad2 s1 s2 H locs) (hl : lv_has ls 4 [(0, .ref b), (1, .ref (ad1 0)), (2, .ref (ad2 0)), (3, .int (nI i))])
    (nx : ∀ (t1 t2 : xS) (H : Heap) (locs : List Loc), Inv t1 t2 → lw_S s D cI cZ ad1 ad2 t1 t2 H locs → W p l e room_1 s m #[Value.ref b] below meth c H locs 73 2382 (lw_Z below #[Value.ref b] s) (F0 m 1256 ls [])) : W p l e room_1 s m #[Value.ref b] below meth c H locs 73 2382 (lw_Z below #[Value.ref b] s) (F0 m 516 ls []) := by
  obtain ⟨⟨hx, hb, hr, hml, hown, hts0, hX, hbl, hlocks, hgv⟩, hK, hE1, hE2⟩ := C
  obtain ⟨hP1, hD1, hP2, hD2, hdis, hS⟩ := hw
  have hts : ∀ w ∈ xTg, w.before #[Value.ref b] s = true := fun w hw => hts0 w (List.mem_filter.mp hw).1
  have hA : ∀ q : Nat, s.heap.size ≤ q → (fun q : Nat => s.heap.size ≤ q) q := fun _ h => h
  have hbA : ¬ (fun q : Nat => s.heap.size ≤ q) b := Nat.not_le.mpr hbl
  obtain ⟨r, t2, e1, e2, hJ⟩ := hh (xs (nI i + 1).toNatClampNeg) (xs (nI i + 2).toNatClampNeg) s1 s2 hI
  refine lv_aload_n hx hb dL_law_516 rfl (lv_at hl 1 rfl) ?_
  refine lv_aload_n hx hb dL_law_517 rfl (lv_at hl 0 rfl) ?_
  refine lv_iload_n hx hb dL_law_518 rfl (lv_at hl 3 rfl) ?_
  refine lv_iconst (v := 1) hx hb dL_law_519 (by decide) ?_
  refine lv_iadd hx hb dL_law_520 ?_
  refine va_sld hx hb hX hbl hbA hS (lw_in hi hL (by decide)) dL_law_521 ?_
  refine lv_aload_n hx hb dL_law_522 rfl (lv_at hl 0 rfl) ?_
  refine lv_iload_n hx hb dL_law_523 rfl (lv_at hl 3 rfl) ?_
  refine lv_iconst (v := 2) hx hb dL_law_524 (by decide) ?_
  refine lv_iadd hx hb dL_law_525 ?_
  refine va_sld hx hb hX hbl hbA hS (lw_in hi hL (by decide)) dL_law_526 ?_
  refine xlcall (R := xR_X8_heard) (as := [.int (xs (nI i + 1).toNatClampNeg), .int (xs (nI i + 2).toNatClampNeg)]) (s1 := s1) (r := some (.int r)) (wo := xw cI cZ ad2 xML s2) (ad := ad1) (rest := []) xFLk (List.mem_of_getElem? (i := 51) rfl) (xTr.end (ok_X8_heard (xs (nI i + 1).toNatClampNeg) (xs (nI i + 2).toNatClampNeg) s1) e1 rfl) (Nat.le_of_ble_eq_true rfl) rfl rfl (by decide) (xin 649 (by decide +kernel) (by decide +kernel)) rfl hx hb hml hown hts hA hE1 hK hP1 hD1 hP2 hdis hS (Nat.le_of_ble_eq_true rfl) (Nat.le_of_ble_eq_true rfl) (Nat.le_of_ble_eq_true rfl) (Nat.le_of_ble_eq_true rfl) hl.1 rfl (Nat.le_of_ble_eq_true rfl) dL_law_527 (fun H locs hP1 hD1 hP2 hdis hS => ?_)
  refine lv_aload_n hx hb dL_law_530 rfl (lv_at hl 2 rfl) ?_
  refine lv_aload_n hx hb dL_law_531 rfl (lv_at hl 0 rfl) ?_
  refine lv_iload_n hx hb dL_law_532 rfl (lv_at hl 3 rfl) ?_
  refine lv_iconst (v := 1) hx hb dL_law_533 (by decide) ?_
  refine lv_iadd hx hb dL_law_534 ?_
  refine va_sld hx hb hX hbl hbA hS (lw_in hi hL (by decide)) dL_law_535 ?_
  refine lv_aload_n hx hb dL_law_536 rfl (lv_at hl 0 rfl) ?_
  refine lv_iload_n hx hb dL_law_537 rfl (lv_at hl 3 rfl) ?_
  refine lv_iconst (v := 2) hx hb dL_law_538 (by decide) ?_
  refine lv_iadd hx hb dL_law_539 ?_
  refine va_sld hx hb hX hbl hbA hS (lw_in hi hL (by decide)) dL_law_540 ?_
  refine xlcall (R := xR_X9_heard) (as := [.int (xs (nI i + 1).toNatClampNeg), .int (xs (nI i + 2).toNatClampNeg)]) (s1 := t2) (r := some (.int r)) (wo := xw cI cZ ad1 xFL s1) (ad := ad2) (rest := [.int r]) xMLk (List.mem_of_getElem? (i := 146) rfl) (xTr.end (ok_X9_heard (xs (nI i + 1).toNatClampNeg) (xs (nI i + 2).toNatClampNeg) s2) e2 rfl) (Nat.le_of_ble_eq_true rfl) rfl rfl (by decide) (xin 1161 (by decide +kernel) (by decide +kernel)) rfl hx hb hml hown hts hA hE2 hK hP2 hD2 hP1 hdis.symm hS (Nat.le_of_ble_eq_true rfl) (Nat.le_of_ble_eq_true rfl) (Nat.le_of_ble_eq_true rfl) (Nat.le_of_ble_eq_true rfl) hl.1 rfl (Nat.le_of_ble_eq_true rfl) dL_law_541 (fun H locs hP2 hD2 hP1 hdis hS => ?_)
  refine lv_icmp_eq (tgt := 1256) hx hb dL_law_544 (by decide) (fun _ => ?_) (fun q => absurd rfl q)
  exact nx s1 t2 H locs hJ ⟨hP1, hD1, hP2, hD2, hdis.symm, hS⟩
set_option maxHeartbeats 4000000 in
set_option maxRecDepth 100000 in
theorem law_noise {p : Program} {l : Launch} {e : Env} {s : State} {m : MethodId} {below : List Frame} {meth : Method} {c : Code} {b L : Nat} {xs : Nat → Int32} {D : va_G} {cI cZ : ClassId} {ad1 ad2 : Nat → Nat} {Inv : xS → xS → Prop} {i : Nat} {s1 s2 : xS} {H : Heap} {locs : List Loc} {ls : Array Slot} (hh : lh_noise Inv) (hL : L ≤ 384) (C : lw_C p s m meth c b L xs D cI cZ ad1 ad2) (hi : i + 6 ≤ L) (hI : Inv s1 s2) (hw : lw_S s D cI cZ ad1 ad2 s1 s2 H locs) (hl : lv_has ls 4 [(0, .ref b), (1, .ref (ad1 0)), (2, .ref (ad2 0)), (3, .int (nI i))])
    (nx : ∀ (t1 t2 : xS) (H : Heap) (locs : List Loc), Inv t1 t2 → lw_S s D cI cZ ad1 ad2 t1 t2 H locs → W p l e room_1 s m #[Value.ref b] below meth c H locs 73 2382 (lw_Z below #[Value.ref b] s) (F0 m 1256 ls [])) : W p l e room_1 s m #[Value.ref b] below meth c H locs 73 2382 (lw_Z below #[Value.ref b] s) (F0 m 549 ls []) := by
  obtain ⟨⟨hx, hb, hr, hml, hown, hts0, hX, hbl, hlocks, hgv⟩, hK, hE1, hE2⟩ := C
  obtain ⟨hP1, hD1, hP2, hD2, hdis, hS⟩ := hw
  have hts : ∀ w ∈ xTg, w.before #[Value.ref b] s = true := fun w hw => hts0 w (List.mem_filter.mp hw).1
  have hA : ∀ q : Nat, s.heap.size ≤ q → (fun q : Nat => s.heap.size ≤ q) q := fun _ h => h
  have hbA : ¬ (fun q : Nat => s.heap.size ≤ q) b := Nat.not_le.mpr hbl
  obtain ⟨r, t2, e1, e2, hJ⟩ := hh (xs (nI i + 1).toNatClampNeg) s1 s2 hI
  refine lv_aload_n hx hb dL_law_549 rfl (lv_at hl 1 rfl) ?_
  refine lv_aload_n hx hb dL_law_550 rfl (lv_at hl 0 rfl) ?_
  refine lv_iload_n hx hb dL_law_551 rfl (lv_at hl 3 rfl) ?_
  refine lv_iconst (v := 1) hx hb dL_law_552 (by decide) ?_
  refine lv_iadd hx hb dL_law_553 ?_
  refine va_sld hx hb hX hbl hbA hS (lw_in hi hL (by decide)) dL_law_554 ?_
  refine xlcall (R := xR_X8_noise) (as := [.int (xs (nI i + 1).toNatClampNeg)]) (s1 := s1) (r := some (.int r)) (wo := xw cI cZ ad2 xML s2) (ad := ad1) (rest := []) xFLk (List.mem_of_getElem? (i := 52) rfl) (xTr.end (ok_X8_noise (xs (nI i + 1).toNatClampNeg) s1) e1 rfl) (Nat.le_of_ble_eq_true rfl) rfl rfl (by decide) (xin 653 (by decide +kernel) (by decide +kernel)) rfl hx hb hml hown hts hA hE1 hK hP1 hD1 hP2 hdis hS (Nat.le_of_ble_eq_true rfl) (Nat.le_of_ble_eq_true rfl) (Nat.le_of_ble_eq_true rfl) (Nat.le_of_ble_eq_true rfl) hl.1 rfl (Nat.le_of_ble_eq_true rfl) dL_law_555 (fun H locs hP1 hD1 hP2 hdis hS => ?_)
  refine lv_aload_n hx hb dL_law_558 rfl (lv_at hl 2 rfl) ?_
  refine lv_aload_n hx hb dL_law_559 rfl (lv_at hl 0 rfl) ?_
  refine lv_iload_n hx hb dL_law_560 rfl (lv_at hl 3 rfl) ?_
  refine lv_iconst (v := 1) hx hb dL_law_561 (by decide) ?_
  refine lv_iadd hx hb dL_law_562 ?_
  refine va_sld hx hb hX hbl hbA hS (lw_in hi hL (by decide)) dL_law_563 ?_
  refine xlcall (R := xR_X9_noise) (as := [.int (xs (nI i + 1).toNatClampNeg)]) (s1 := t2) (r := some (.int r)) (wo := xw cI cZ ad1 xFL s1) (ad := ad2) (rest := [.int r]) xMLk (List.mem_of_getElem? (i := 148) rfl) (xTr.end (ok_X9_noise (xs (nI i + 1).toNatClampNeg) s2) e2 rfl) (Nat.le_of_ble_eq_true rfl) rfl rfl (by decide) (xin 1203 (by decide +kernel) (by decide +kernel)) rfl hx hb hml hown hts hA hE2 hK hP2 hD2 hP1 hdis.symm hS (Nat.le_of_ble_eq_true rfl) (Nat.le_of_ble_eq_true rfl) (Nat.le_of_ble_eq_true rfl) (Nat.le_of_ble_eq_true rfl) hl.1 rfl (Nat.le_of_ble_eq_true rfl) dL_law_564 (fun H locs hP2 hD2 hP1 hdis hS => ?_)
  refine lv_icmp_eq (tgt := 1256) hx hb dL_law_567 (by decide) (fun _ => ?_) (fun q => absurd rfl q)
  exact nx s1 t2 H locs hJ ⟨hP1, hD1, hP2, hD2, hdis.symm, hS⟩
set_option maxHeartbeats 4000000 in
set_option maxRecDepth 100000 in
theorem law_depth {p : Program} {l : Launch} {e : Env} {s : State} {m : MethodId} {below : List Frame} {meth : Method} {c : Code} {b L : Nat} {xs : Nat → Int32} {D : va_G} {cI cZ : ClassId} {ad1 ad2 : Nat → Nat} {Inv : xS → xS → Prop} {i : Nat} {s1 s2 : xS} {H : Heap} {locs : List Loc} {ls : Array Slot} (hh : lh_depth Inv) (hL : L ≤ 384) (C : lw_C p s m meth c b L xs D cI cZ ad1 ad2) (hi : i + 6 ≤ L) (hI : Inv s1 s2) (hw : lw_S s D cI cZ ad1 ad2 s1 s2 H locs) (hl : lv_has ls 4 [(0, .ref b), (1, .ref (ad1 0)), (2, .ref (ad2 0)), (3, .int (nI i))])
    (nx : ∀ (t1 t2 : xS) (H : Heap) (locs : List Loc), Inv t1 t2 → lw_S s D cI cZ ad1 ad2 t1 t2 H locs → W p l e room_1 s m #[Value.ref b] below meth c H locs 73 2382 (lw_Z below #[Value.ref b] s) (F0 m 1256 ls [])) : W p l e room_1 s m #[Value.ref b] below meth c H locs 73 2382 (lw_Z below #[Value.ref b] s) (F0 m 572 ls []) := by
  obtain ⟨⟨hx, hb, hr, hml, hown, hts0, hX, hbl, hlocks, hgv⟩, hK, hE1, hE2⟩ := C
  obtain ⟨hP1, hD1, hP2, hD2, hdis, hS⟩ := hw
  have hts : ∀ w ∈ xTg, w.before #[Value.ref b] s = true := fun w hw => hts0 w (List.mem_filter.mp hw).1
  have hA : ∀ q : Nat, s.heap.size ≤ q → (fun q : Nat => s.heap.size ≤ q) q := fun _ h => h
  have hbA : ¬ (fun q : Nat => s.heap.size ≤ q) b := Nat.not_le.mpr hbl
  obtain ⟨r, t2, e1, e2, hJ⟩ := hh (xs (nI i + 1).toNatClampNeg) s1 s2 hI
  refine lv_aload_n hx hb dL_law_572 rfl (lv_at hl 1 rfl) ?_
  refine lv_aload_n hx hb dL_law_573 rfl (lv_at hl 0 rfl) ?_
  refine lv_iload_n hx hb dL_law_574 rfl (lv_at hl 3 rfl) ?_
  refine lv_iconst (v := 1) hx hb dL_law_575 (by decide) ?_
  refine lv_iadd hx hb dL_law_576 ?_
  refine va_sld hx hb hX hbl hbA hS (lw_in hi hL (by decide)) dL_law_577 ?_
  refine xlcall (R := xR_X8_depth) (as := [.int (xs (nI i + 1).toNatClampNeg)]) (s1 := s1) (r := some (.int r)) (wo := xw cI cZ ad2 xML s2) (ad := ad1) (rest := []) xFLk (List.mem_of_getElem? (i := 53) rfl) (xTr.end (ok_X8_depth (xs (nI i + 1).toNatClampNeg) s1) e1 rfl) (Nat.le_of_ble_eq_true rfl) rfl rfl (by decide) (xin 657 (by decide +kernel) (by decide +kernel)) rfl hx hb hml hown hts hA hE1 hK hP1 hD1 hP2 hdis hS (Nat.le_of_ble_eq_true rfl) (Nat.le_of_ble_eq_true rfl) (Nat.le_of_ble_eq_true rfl) (Nat.le_of_ble_eq_true rfl) hl.1 rfl (Nat.le_of_ble_eq_true rfl) dL_law_578 (fun H locs hP1 hD1 hP2 hdis hS => ?_)
  refine lv_aload_n hx hb dL_law_581 rfl (lv_at hl 2 rfl) ?_
  refine lv_aload_n hx hb dL_law_582 rfl (lv_at hl 0 rfl) ?_
  refine lv_iload_n hx hb dL_law_583 rfl (lv_at hl 3 rfl) ?_
  refine lv_iconst (v := 1) hx hb dL_law_584 (by decide) ?_
  refine lv_iadd hx hb dL_law_585 ?_
  refine va_sld hx hb hX hbl hbA hS (lw_in hi hL (by decide)) dL_law_586 ?_
  refine xlcall (R := xR_X9_depth) (as := [.int (xs (nI i + 1).toNatClampNeg)]) (s1 := t2) (r := some (.int r)) (wo := xw cI cZ ad1 xFL s1) (ad := ad2) (rest := [.int r]) xMLk (List.mem_of_getElem? (i := 150) rfl) (xTr.end (ok_X9_depth (xs (nI i + 1).toNatClampNeg) s2) e2 rfl) (Nat.le_of_ble_eq_true rfl) rfl rfl (by decide) (xin 1211 (by decide +kernel) (by decide +kernel)) rfl hx hb hml hown hts hA hE2 hK hP2 hD2 hP1 hdis.symm hS (Nat.le_of_ble_eq_true rfl) (Nat.le_of_ble_eq_true rfl) (Nat.le_of_ble_eq_true rfl) (Nat.le_of_ble_eq_true rfl) hl.1 rfl (Nat.le_of_ble_eq_true rfl) dL_law_587 (fun H locs hP2 hD2 hP1 hdis hS => ?_)
  refine lv_icmp_eq (tgt := 1256) hx hb dL_law_590 (by decide) (fun _ => ?_) (fun q => absurd rfl q)
  exact nx s1 t2 H locs hJ ⟨hP1, hD1, hP2, hD2, hdis.symm, hS⟩
set_option maxHeartbeats 4000000 in
set_option maxRecDepth 100000 in
theorem law_wakes {p : Program} {l : Launch} {e : Env} {s : State} {m : MethodId} {below : List Frame} {meth : Method} {c : Code} {b L : Nat} {xs : Nat → Int32} {D : va_G} {cI cZ : ClassId} {ad1 ad2 : Nat → Nat} {Inv : xS → xS → Prop} {i : Nat} {s1 s2 : xS} {H : Heap} {locs : List Loc} {ls : Array Slot} (hh : lh_wakes Inv) (hL : L ≤ 384) (C : lw_C p s m meth c b L xs D cI cZ ad1 ad2) (hi : i + 6 ≤ L) (hI : Inv s1 s2) (hw : lw_S s D cI cZ ad1 ad2 s1 s2 H locs) (hl : lv_has ls 4 [(0, .ref b), (1, .ref (ad1 0)), (2, .ref (ad2 0)), (3, .int (nI i))])
    (nx : ∀ (t1 t2 : xS) (H : Heap) (locs : List Loc), Inv t1 t2 → lw_S s D cI cZ ad1 ad2 t1 t2 H locs → W p l e room_1 s m #[Value.ref b] below meth c H locs 73 2382 (lw_Z below #[Value.ref b] s) (F0 m 1256 ls [])) : W p l e room_1 s m #[Value.ref b] below meth c H locs 73 2382 (lw_Z below #[Value.ref b] s) (F0 m 595 ls []) := by
  obtain ⟨⟨hx, hb, hr, hml, hown, hts0, hX, hbl, hlocks, hgv⟩, hK, hE1, hE2⟩ := C
  obtain ⟨hP1, hD1, hP2, hD2, hdis, hS⟩ := hw
  have hts : ∀ w ∈ xTg, w.before #[Value.ref b] s = true := fun w hw => hts0 w (List.mem_filter.mp hw).1
  have hA : ∀ q : Nat, s.heap.size ≤ q → (fun q : Nat => s.heap.size ≤ q) q := fun _ h => h
  have hbA : ¬ (fun q : Nat => s.heap.size ≤ q) b := Nat.not_le.mpr hbl
  obtain ⟨r, t2, e1, e2, hJ⟩ := hh s1 s2 hI
  refine lv_aload_n hx hb dL_law_595 rfl (lv_at hl 1 rfl) ?_
  refine xlcall (R := xR_X8_wakes) (as := []) (s1 := s1) (r := some (.int r)) (wo := xw cI cZ ad2 xML s2) (ad := ad1) (rest := []) xFLk (List.mem_of_getElem? (i := 54) rfl) (xTr.end (ok_X8_wakes s1) e1 rfl) (Nat.le_of_ble_eq_true rfl) rfl rfl (by decide) (xin 661 (by decide +kernel) (by decide +kernel)) rfl hx hb hml hown hts hA hE1 hK hP1 hD1 hP2 hdis hS (Nat.le_of_ble_eq_true rfl) (Nat.le_of_ble_eq_true rfl) (Nat.le_of_ble_eq_true rfl) (Nat.le_of_ble_eq_true rfl) hl.1 rfl (Nat.le_of_ble_eq_true rfl) dL_law_596 (fun H locs hP1 hD1 hP2 hdis hS => ?_)
  refine lv_aload_n hx hb dL_law_599 rfl (lv_at hl 2 rfl) ?_
  refine xlcall (R := xR_X9_wakes) (as := []) (s1 := t2) (r := some (.int r)) (wo := xw cI cZ ad1 xFL s1) (ad := ad2) (rest := [.int r]) xMLk (List.mem_of_getElem? (i := 152) rfl) (xTr.end (ok_X9_wakes s2) e2 rfl) (Nat.le_of_ble_eq_true rfl) rfl rfl (by decide) (xin 1219 (by decide +kernel) (by decide +kernel)) rfl hx hb hml hown hts hA hE2 hK hP2 hD2 hP1 hdis.symm hS (Nat.le_of_ble_eq_true rfl) (Nat.le_of_ble_eq_true rfl) (Nat.le_of_ble_eq_true rfl) (Nat.le_of_ble_eq_true rfl) hl.1 rfl (Nat.le_of_ble_eq_true rfl) dL_law_600 (fun H locs hP2 hD2 hP1 hdis hS => ?_)
  refine lv_icmp_eq (tgt := 1256) hx hb dL_law_603 (by decide) (fun _ => ?_) (fun q => absurd rfl q)
  exact nx s1 t2 H locs hJ ⟨hP1, hD1, hP2, hD2, hdis.symm, hS⟩
set_option maxHeartbeats 4000000 in
set_option maxRecDepth 100000 in
theorem law_exiled {p : Program} {l : Launch} {e : Env} {s : State} {m : MethodId} {below : List Frame} {meth : Method} {c : Code} {b L : Nat} {xs : Nat → Int32} {D : va_G} {cI cZ : ClassId} {ad1 ad2 : Nat → Nat} {Inv : xS → xS → Prop} {i : Nat} {s1 s2 : xS} {H : Heap} {locs : List Loc} {ls : Array Slot} (hh : lh_exiled Inv) (hL : L ≤ 384) (C : lw_C p s m meth c b L xs D cI cZ ad1 ad2) (hi : i + 6 ≤ L) (hI : Inv s1 s2) (hw : lw_S s D cI cZ ad1 ad2 s1 s2 H locs) (hl : lv_has ls 4 [(0, .ref b), (1, .ref (ad1 0)), (2, .ref (ad2 0)), (3, .int (nI i))])
    (nx : ∀ (t1 t2 : xS) (H : Heap) (locs : List Loc), Inv t1 t2 → lw_S s D cI cZ ad1 ad2 t1 t2 H locs → W p l e room_1 s m #[Value.ref b] below meth c H locs 73 2382 (lw_Z below #[Value.ref b] s) (F0 m 1256 ls [])) : W p l e room_1 s m #[Value.ref b] below meth c H locs 73 2382 (lw_Z below #[Value.ref b] s) (F0 m 608 ls []) := by
  obtain ⟨⟨hx, hb, hr, hml, hown, hts0, hX, hbl, hlocks, hgv⟩, hK, hE1, hE2⟩ := C
  obtain ⟨hP1, hD1, hP2, hD2, hdis, hS⟩ := hw
  have hts : ∀ w ∈ xTg, w.before #[Value.ref b] s = true := fun w hw => hts0 w (List.mem_filter.mp hw).1
  have hA : ∀ q : Nat, s.heap.size ≤ q → (fun q : Nat => s.heap.size ≤ q) q := fun _ h => h
  have hbA : ¬ (fun q : Nat => s.heap.size ≤ q) b := Nat.not_le.mpr hbl
  obtain ⟨r, t2, e1, e2, hJ⟩ := hh (xs (nI i + 1).toNatClampNeg) s1 s2 hI
  refine lv_aload_n hx hb dL_law_608 rfl (lv_at hl 1 rfl) ?_
  refine lv_aload_n hx hb dL_law_609 rfl (lv_at hl 0 rfl) ?_
  refine lv_iload_n hx hb dL_law_610 rfl (lv_at hl 3 rfl) ?_
  refine lv_iconst (v := 1) hx hb dL_law_611 (by decide) ?_
  refine lv_iadd hx hb dL_law_612 ?_
  refine va_sld hx hb hX hbl hbA hS (lw_in hi hL (by decide)) dL_law_613 ?_
  refine xlcall (R := xR_X8_exiled) (as := [.int (xs (nI i + 1).toNatClampNeg)]) (s1 := s1) (r := some (.int r)) (wo := xw cI cZ ad2 xML s2) (ad := ad1) (rest := []) xFLk (List.mem_of_getElem? (i := 55) rfl) (xTr.end (ok_X8_exiled (xs (nI i + 1).toNatClampNeg) s1) e1 rfl) (Nat.le_of_ble_eq_true rfl) rfl rfl (by decide) (xin 665 (by decide +kernel) (by decide +kernel)) rfl hx hb hml hown hts hA hE1 hK hP1 hD1 hP2 hdis hS (Nat.le_of_ble_eq_true rfl) (Nat.le_of_ble_eq_true rfl) (Nat.le_of_ble_eq_true rfl) (Nat.le_of_ble_eq_true rfl) hl.1 rfl (Nat.le_of_ble_eq_true rfl) dL_law_614 (fun H locs hP1 hD1 hP2 hdis hS => ?_)
  refine lv_aload_n hx hb dL_law_617 rfl (lv_at hl 2 rfl) ?_
  refine lv_aload_n hx hb dL_law_618 rfl (lv_at hl 0 rfl) ?_
  refine lv_iload_n hx hb dL_law_619 rfl (lv_at hl 3 rfl) ?_
  refine lv_iconst (v := 1) hx hb dL_law_620 (by decide) ?_
  refine lv_iadd hx hb dL_law_621 ?_
  refine va_sld hx hb hX hbl hbA hS (lw_in hi hL (by decide)) dL_law_622 ?_
  refine xlcall (R := xR_X9_exiled) (as := [.int (xs (nI i + 1).toNatClampNeg)]) (s1 := t2) (r := some (.int r)) (wo := xw cI cZ ad1 xFL s1) (ad := ad2) (rest := [.int r]) xMLk (List.mem_of_getElem? (i := 154) rfl) (xTr.end (ok_X9_exiled (xs (nI i + 1).toNatClampNeg) s2) e2 rfl) (Nat.le_of_ble_eq_true rfl) rfl rfl (by decide) (xin 1227 (by decide +kernel) (by decide +kernel)) rfl hx hb hml hown hts hA hE2 hK hP2 hD2 hP1 hdis.symm hS (Nat.le_of_ble_eq_true rfl) (Nat.le_of_ble_eq_true rfl) (Nat.le_of_ble_eq_true rfl) (Nat.le_of_ble_eq_true rfl) hl.1 rfl (Nat.le_of_ble_eq_true rfl) dL_law_623 (fun H locs hP2 hD2 hP1 hdis hS => ?_)
  refine lv_icmp_eq (tgt := 1256) hx hb dL_law_626 (by decide) (fun _ => ?_) (fun q => absurd rfl q)
  exact nx s1 t2 H locs hJ ⟨hP1, hD1, hP2, hD2, hdis.symm, hS⟩
set_option maxHeartbeats 4000000 in
set_option maxRecDepth 100000 in
theorem law_loudest {p : Program} {l : Launch} {e : Env} {s : State} {m : MethodId} {below : List Frame} {meth : Method} {c : Code} {b L : Nat} {xs : Nat → Int32} {D : va_G} {cI cZ : ClassId} {ad1 ad2 : Nat → Nat} {Inv : xS → xS → Prop} {i : Nat} {s1 s2 : xS} {H : Heap} {locs : List Loc} {ls : Array Slot} (hh : lh_loudest Inv) (hL : L ≤ 384) (C : lw_C p s m meth c b L xs D cI cZ ad1 ad2) (hi : i + 6 ≤ L) (hI : Inv s1 s2) (hw : lw_S s D cI cZ ad1 ad2 s1 s2 H locs) (hl : lv_has ls 4 [(0, .ref b), (1, .ref (ad1 0)), (2, .ref (ad2 0)), (3, .int (nI i))])
    (nx : ∀ (t1 t2 : xS) (H : Heap) (locs : List Loc), Inv t1 t2 → lw_S s D cI cZ ad1 ad2 t1 t2 H locs → W p l e room_1 s m #[Value.ref b] below meth c H locs 73 2382 (lw_Z below #[Value.ref b] s) (F0 m 1256 ls [])) : W p l e room_1 s m #[Value.ref b] below meth c H locs 73 2382 (lw_Z below #[Value.ref b] s) (F0 m 631 ls []) := by
  obtain ⟨⟨hx, hb, hr, hml, hown, hts0, hX, hbl, hlocks, hgv⟩, hK, hE1, hE2⟩ := C
  obtain ⟨hP1, hD1, hP2, hD2, hdis, hS⟩ := hw
  have hts : ∀ w ∈ xTg, w.before #[Value.ref b] s = true := fun w hw => hts0 w (List.mem_filter.mp hw).1
  have hA : ∀ q : Nat, s.heap.size ≤ q → (fun q : Nat => s.heap.size ≤ q) q := fun _ h => h
  have hbA : ¬ (fun q : Nat => s.heap.size ≤ q) b := Nat.not_le.mpr hbl
  obtain ⟨r, t2, e1, e2, hJ⟩ := hh s1 s2 hI
  refine lv_aload_n hx hb dL_law_631 rfl (lv_at hl 1 rfl) ?_
  refine xlcall (R := xR_X8_loudest) (as := []) (s1 := s1) (r := some (.int r)) (wo := xw cI cZ ad2 xML s2) (ad := ad1) (rest := []) xFLk (List.mem_of_getElem? (i := 56) rfl) (xTr.end (ok_X8_loudest s1) e1 rfl) (Nat.le_of_ble_eq_true rfl) rfl rfl (by decide) (xin 670 (by decide +kernel) (by decide +kernel)) rfl hx hb hml hown hts hA hE1 hK hP1 hD1 hP2 hdis hS (Nat.le_of_ble_eq_true rfl) (Nat.le_of_ble_eq_true rfl) (Nat.le_of_ble_eq_true rfl) (Nat.le_of_ble_eq_true rfl) hl.1 rfl (Nat.le_of_ble_eq_true rfl) dL_law_632 (fun H locs hP1 hD1 hP2 hdis hS => ?_)
  refine lv_aload_n hx hb dL_law_635 rfl (lv_at hl 2 rfl) ?_
  refine xlcall (R := xR_X9_loudest) (as := []) (s1 := t2) (r := some (.int r)) (wo := xw cI cZ ad1 xFL s1) (ad := ad2) (rest := [.int r]) xMLk (List.mem_of_getElem? (i := 156) rfl) (xTr.end (ok_X9_loudest s2) e2 rfl) (Nat.le_of_ble_eq_true rfl) rfl rfl (by decide) (xin 1235 (by decide +kernel) (by decide +kernel)) rfl hx hb hml hown hts hA hE2 hK hP2 hD2 hP1 hdis.symm hS (Nat.le_of_ble_eq_true rfl) (Nat.le_of_ble_eq_true rfl) (Nat.le_of_ble_eq_true rfl) (Nat.le_of_ble_eq_true rfl) hl.1 rfl (Nat.le_of_ble_eq_true rfl) dL_law_636 (fun H locs hP2 hD2 hP1 hdis hS => ?_)
  refine lv_icmp_eq (tgt := 1256) hx hb dL_law_639 (by decide) (fun _ => ?_) (fun q => absurd rfl q)
  exact nx s1 t2 H locs hJ ⟨hP1, hD1, hP2, hD2, hdis.symm, hS⟩
set_option maxHeartbeats 4000000 in
set_option maxRecDepth 100000 in
theorem law_hour {p : Program} {l : Launch} {e : Env} {s : State} {m : MethodId} {below : List Frame} {meth : Method} {c : Code} {b L : Nat} {xs : Nat → Int32} {D : va_G} {cI cZ : ClassId} {ad1 ad2 : Nat → Nat} {Inv : xS → xS → Prop} {i : Nat} {s1 s2 : xS} {H : Heap} {locs : List Loc} {ls : Array Slot} (hh : lh_hour Inv) (hL : L ≤ 384) (C : lw_C p s m meth c b L xs D cI cZ ad1 ad2) (hi : i + 6 ≤ L) (hI : Inv s1 s2) (hw : lw_S s D cI cZ ad1 ad2 s1 s2 H locs) (hl : lv_has ls 4 [(0, .ref b), (1, .ref (ad1 0)), (2, .ref (ad2 0)), (3, .int (nI i))])
    (nx : ∀ (t1 t2 : xS) (H : Heap) (locs : List Loc), Inv t1 t2 → lw_S s D cI cZ ad1 ad2 t1 t2 H locs → W p l e room_1 s m #[Value.ref b] below meth c H locs 73 2382 (lw_Z below #[Value.ref b] s) (F0 m 1256 ls [])) : W p l e room_1 s m #[Value.ref b] below meth c H locs 73 2382 (lw_Z below #[Value.ref b] s) (F0 m 644 ls []) := by
  obtain ⟨⟨hx, hb, hr, hml, hown, hts0, hX, hbl, hlocks, hgv⟩, hK, hE1, hE2⟩ := C
  obtain ⟨hP1, hD1, hP2, hD2, hdis, hS⟩ := hw
  have hts : ∀ w ∈ xTg, w.before #[Value.ref b] s = true := fun w hw => hts0 w (List.mem_filter.mp hw).1
  have hA : ∀ q : Nat, s.heap.size ≤ q → (fun q : Nat => s.heap.size ≤ q) q := fun _ h => h
  have hbA : ¬ (fun q : Nat => s.heap.size ≤ q) b := Nat.not_le.mpr hbl
  obtain ⟨r, t1, t2, e1, e2, hJ⟩ := hh (xs (nI i + 1).toNatClampNeg) (xs (nI i + 2).toNatClampNeg) s1 s2 hI
  refine lv_aload_n hx hb dL_law_644 rfl (lv_at hl 1 rfl) ?_
  refine lv_aload_n hx hb dL_law_645 rfl (lv_at hl 0 rfl) ?_
  refine lv_iload_n hx hb dL_law_646 rfl (lv_at hl 3 rfl) ?_
  refine lv_iconst (v := 1) hx hb dL_law_647 (by decide) ?_
  refine lv_iadd hx hb dL_law_648 ?_
  refine va_sld hx hb hX hbl hbA hS (lw_in hi hL (by decide)) dL_law_649 ?_
  refine lv_aload_n hx hb dL_law_650 rfl (lv_at hl 0 rfl) ?_
  refine lv_iload_n hx hb dL_law_651 rfl (lv_at hl 3 rfl) ?_
  refine lv_iconst (v := 2) hx hb dL_law_652 (by decide) ?_
  refine lv_iadd hx hb dL_law_653 ?_
  refine va_sld hx hb hX hbl hbA hS (lw_in hi hL (by decide)) dL_law_654 ?_
  refine xlcall (R := xR_X8_hour) (as := [.int (xs (nI i + 1).toNatClampNeg), .int (xs (nI i + 2).toNatClampNeg)]) (s1 := t1) (r := some (.int r)) (wo := xw cI cZ ad2 xML s2) (ad := ad1) (rest := []) xFLk (List.mem_of_getElem? (i := 57) rfl) (xTr.end (ok_X8_hour (xs (nI i + 1).toNatClampNeg) (xs (nI i + 2).toNatClampNeg) s1) e1 rfl) (Nat.le_of_ble_eq_true rfl) rfl rfl (by decide) (xin 674 (by decide +kernel) (by decide +kernel)) rfl hx hb hml hown hts hA hE1 hK hP1 hD1 hP2 hdis hS (Nat.le_of_ble_eq_true rfl) (Nat.le_of_ble_eq_true rfl) (Nat.le_of_ble_eq_true rfl) (Nat.le_of_ble_eq_true rfl) hl.1 rfl (Nat.le_of_ble_eq_true rfl) dL_law_655 (fun H locs hP1 hD1 hP2 hdis hS => ?_)
  refine lv_aload_n hx hb dL_law_658 rfl (lv_at hl 2 rfl) ?_
  refine lv_aload_n hx hb dL_law_659 rfl (lv_at hl 0 rfl) ?_
  refine lv_iload_n hx hb dL_law_660 rfl (lv_at hl 3 rfl) ?_
  refine lv_iconst (v := 1) hx hb dL_law_661 (by decide) ?_
  refine lv_iadd hx hb dL_law_662 ?_
  refine va_sld hx hb hX hbl hbA hS (lw_in hi hL (by decide)) dL_law_663 ?_
  refine lv_aload_n hx hb dL_law_664 rfl (lv_at hl 0 rfl) ?_
  refine lv_iload_n hx hb dL_law_665 rfl (lv_at hl 3 rfl) ?_
  refine lv_iconst (v := 2) hx hb dL_law_666 (by decide) ?_
  refine lv_iadd hx hb dL_law_667 ?_
  refine va_sld hx hb hX hbl hbA hS (lw_in hi hL (by decide)) dL_law_668 ?_
  refine xlcall (R := xR_X9_hour) (as := [.int (xs (nI i + 1).toNatClampNeg), .int (xs (nI i + 2).toNatClampNeg)]) (s1 := t2) (r := some (.int r)) (wo := xw cI cZ ad1 xFL t1) (ad := ad2) (rest := [.int r]) xMLk (List.mem_of_getElem? (i := 158) rfl) (xTr.end (ok_X9_hour (xs (nI i + 1).toNatClampNeg) (xs (nI i + 2).toNatClampNeg) s2) e2 rfl) (Nat.le_of_ble_eq_true rfl) rfl rfl (by decide) (xin 1243 (by decide +kernel) (by decide +kernel)) rfl hx hb hml hown hts hA hE2 hK hP2 hD2 hP1 hdis.symm hS (Nat.le_of_ble_eq_true rfl) (Nat.le_of_ble_eq_true rfl) (Nat.le_of_ble_eq_true rfl) (Nat.le_of_ble_eq_true rfl) hl.1 rfl (Nat.le_of_ble_eq_true rfl) dL_law_669 (fun H locs hP2 hD2 hP1 hdis hS => ?_)
  refine lv_icmp_eq (tgt := 1256) hx hb dL_law_672 (by decide) (fun _ => ?_) (fun q => absurd rfl q)
  exact nx t1 t2 H locs hJ ⟨hP1, hD1, hP2, hD2, hdis.symm, hS⟩
set_option maxHeartbeats 4000000 in
set_option maxRecDepth 100000 in
theorem law_felt {p : Program} {l : Launch} {e : Env} {s : State} {m : MethodId} {below : List Frame} {meth : Method} {c : Code} {b L : Nat} {xs : Nat → Int32} {D : va_G} {cI cZ : ClassId} {ad1 ad2 : Nat → Nat} {Inv : xS → xS → Prop} {i : Nat} {s1 s2 : xS} {H : Heap} {locs : List Loc} {ls : Array Slot} (hh : lh_felt Inv) (hL : L ≤ 384) (C : lw_C p s m meth c b L xs D cI cZ ad1 ad2) (hi : i + 6 ≤ L) (hI : Inv s1 s2) (hw : lw_S s D cI cZ ad1 ad2 s1 s2 H locs) (hl : lv_has ls 4 [(0, .ref b), (1, .ref (ad1 0)), (2, .ref (ad2 0)), (3, .int (nI i))])
    (nx : ∀ (t1 t2 : xS) (H : Heap) (locs : List Loc), Inv t1 t2 → lw_S s D cI cZ ad1 ad2 t1 t2 H locs → W p l e room_1 s m #[Value.ref b] below meth c H locs 73 2382 (lw_Z below #[Value.ref b] s) (F0 m 1256 ls [])) : W p l e room_1 s m #[Value.ref b] below meth c H locs 73 2382 (lw_Z below #[Value.ref b] s) (F0 m 677 ls []) := by
  obtain ⟨⟨hx, hb, hr, hml, hown, hts0, hX, hbl, hlocks, hgv⟩, hK, hE1, hE2⟩ := C
  obtain ⟨hP1, hD1, hP2, hD2, hdis, hS⟩ := hw
  have hts : ∀ w ∈ xTg, w.before #[Value.ref b] s = true := fun w hw => hts0 w (List.mem_filter.mp hw).1
  have hA : ∀ q : Nat, s.heap.size ≤ q → (fun q : Nat => s.heap.size ≤ q) q := fun _ h => h
  have hbA : ¬ (fun q : Nat => s.heap.size ≤ q) b := Nat.not_le.mpr hbl
  obtain ⟨r, t1, t2, e1, e2, hJ⟩ := hh (xs (nI i + 1).toNatClampNeg) s1 s2 hI
  refine lv_aload_n hx hb dL_law_677 rfl (lv_at hl 1 rfl) ?_
  refine lv_aload_n hx hb dL_law_678 rfl (lv_at hl 0 rfl) ?_
  refine lv_iload_n hx hb dL_law_679 rfl (lv_at hl 3 rfl) ?_
  refine lv_iconst (v := 1) hx hb dL_law_680 (by decide) ?_
  refine lv_iadd hx hb dL_law_681 ?_
  refine va_sld hx hb hX hbl hbA hS (lw_in hi hL (by decide)) dL_law_682 ?_
  refine xlcall (R := xR_X8_felt) (as := [.int (xs (nI i + 1).toNatClampNeg)]) (s1 := t1) (r := some (.int r)) (wo := xw cI cZ ad2 xML s2) (ad := ad1) (rest := []) xFLk (List.mem_of_getElem? (i := 58) rfl) (xTr.end (ok_X8_felt (xs (nI i + 1).toNatClampNeg) s1) e1 rfl) (Nat.le_of_ble_eq_true rfl) rfl rfl (by decide) (xin 697 (by decide +kernel) (by decide +kernel)) rfl hx hb hml hown hts hA hE1 hK hP1 hD1 hP2 hdis hS (Nat.le_of_ble_eq_true rfl) (Nat.le_of_ble_eq_true rfl) (Nat.le_of_ble_eq_true rfl) (Nat.le_of_ble_eq_true rfl) hl.1 rfl (Nat.le_of_ble_eq_true rfl) dL_law_683 (fun H locs hP1 hD1 hP2 hdis hS => ?_)
  refine lv_aload_n hx hb dL_law_686 rfl (lv_at hl 2 rfl) ?_
  refine lv_aload_n hx hb dL_law_687 rfl (lv_at hl 0 rfl) ?_
  refine lv_iload_n hx hb dL_law_688 rfl (lv_at hl 3 rfl) ?_
  refine lv_iconst (v := 1) hx hb dL_law_689 (by decide) ?_
  refine lv_iadd hx hb dL_law_690 ?_
  refine va_sld hx hb hX hbl hbA hS (lw_in hi hL (by decide)) dL_law_691 ?_
  refine xlcall (R := xR_X9_felt) (as := [.int (xs (nI i + 1).toNatClampNeg)]) (s1 := t2) (r := some (.int r)) (wo := xw cI cZ ad1 xFL t1) (ad := ad2) (rest := [.int r]) xMLk (List.mem_of_getElem? (i := 162) rfl) (xTr.end (ok_X9_felt (xs (nI i + 1).toNatClampNeg) s2) e2 rfl) (Nat.le_of_ble_eq_true rfl) rfl rfl (by decide) (xin 1251 (by decide +kernel) (by decide +kernel)) rfl hx hb hml hown hts hA hE2 hK hP2 hD2 hP1 hdis.symm hS (Nat.le_of_ble_eq_true rfl) (Nat.le_of_ble_eq_true rfl) (Nat.le_of_ble_eq_true rfl) (Nat.le_of_ble_eq_true rfl) hl.1 rfl (Nat.le_of_ble_eq_true rfl) dL_law_692 (fun H locs hP2 hD2 hP1 hdis hS => ?_)
  refine lv_icmp_eq (tgt := 1256) hx hb dL_law_695 (by decide) (fun _ => ?_) (fun q => absurd rfl q)
  exact nx t1 t2 H locs hJ ⟨hP1, hD1, hP2, hD2, hdis.symm, hS⟩
set_option maxHeartbeats 4000000 in
set_option maxRecDepth 100000 in
theorem law_lay {p : Program} {l : Launch} {e : Env} {s : State} {m : MethodId} {below : List Frame} {meth : Method} {c : Code} {b L : Nat} {xs : Nat → Int32} {D : va_G} {cI cZ : ClassId} {ad1 ad2 : Nat → Nat} {Inv : xS → xS → Prop} {i : Nat} {s1 s2 : xS} {H : Heap} {locs : List Loc} {ls : Array Slot} (hh : lh_lay Inv) (hL : L ≤ 384) (C : lw_C p s m meth c b L xs D cI cZ ad1 ad2) (hi : i + 6 ≤ L) (hI : Inv s1 s2) (hw : lw_S s D cI cZ ad1 ad2 s1 s2 H locs) (hl : lv_has ls 4 [(0, .ref b), (1, .ref (ad1 0)), (2, .ref (ad2 0)), (3, .int (nI i))])
    (nx : ∀ (t1 t2 : xS) (H : Heap) (locs : List Loc), Inv t1 t2 → lw_S s D cI cZ ad1 ad2 t1 t2 H locs → W p l e room_1 s m #[Value.ref b] below meth c H locs 73 2382 (lw_Z below #[Value.ref b] s) (F0 m 1256 ls [])) : W p l e room_1 s m #[Value.ref b] below meth c H locs 73 2382 (lw_Z below #[Value.ref b] s) (F0 m 700 ls []) := by
  obtain ⟨⟨hx, hb, hr, hml, hown, hts0, hX, hbl, hlocks, hgv⟩, hK, hE1, hE2⟩ := C
  obtain ⟨hP1, hD1, hP2, hD2, hdis, hS⟩ := hw
  have hts : ∀ w ∈ xTg, w.before #[Value.ref b] s = true := fun w hw => hts0 w (List.mem_filter.mp hw).1
  have hA : ∀ q : Nat, s.heap.size ≤ q → (fun q : Nat => s.heap.size ≤ q) q := fun _ h => h
  have hbA : ¬ (fun q : Nat => s.heap.size ≤ q) b := Nat.not_le.mpr hbl
  obtain ⟨r, t1, t2, e1, e2, hJ⟩ := hh (xs (nI i + 1).toNatClampNeg) s1 s2 hI
  refine lv_aload_n hx hb dL_law_700 rfl (lv_at hl 1 rfl) ?_
  refine lv_aload_n hx hb dL_law_701 rfl (lv_at hl 0 rfl) ?_
  refine lv_iload_n hx hb dL_law_702 rfl (lv_at hl 3 rfl) ?_
  refine lv_iconst (v := 1) hx hb dL_law_703 (by decide) ?_
  refine lv_iadd hx hb dL_law_704 ?_
  refine va_sld hx hb hX hbl hbA hS (lw_in hi hL (by decide)) dL_law_705 ?_
  refine xlcall (R := xR_X8_lay) (as := [.int (xs (nI i + 1).toNatClampNeg)]) (s1 := t1) (r := some (.int r)) (wo := xw cI cZ ad2 xML s2) (ad := ad1) (rest := []) xFLk (List.mem_of_getElem? (i := 59) rfl) (xTr.end (ok_X8_lay (xs (nI i + 1).toNatClampNeg) s1) e1 rfl) (Nat.le_of_ble_eq_true rfl) rfl rfl (by decide) (xin 726 (by decide +kernel) (by decide +kernel)) rfl hx hb hml hown hts hA hE1 hK hP1 hD1 hP2 hdis hS (Nat.le_of_ble_eq_true rfl) (Nat.le_of_ble_eq_true rfl) (Nat.le_of_ble_eq_true rfl) (Nat.le_of_ble_eq_true rfl) hl.1 rfl (Nat.le_of_ble_eq_true rfl) dL_law_706 (fun H locs hP1 hD1 hP2 hdis hS => ?_)
  refine lv_aload_n hx hb dL_law_709 rfl (lv_at hl 2 rfl) ?_
  refine lv_aload_n hx hb dL_law_710 rfl (lv_at hl 0 rfl) ?_
  refine lv_iload_n hx hb dL_law_711 rfl (lv_at hl 3 rfl) ?_
  refine lv_iconst (v := 1) hx hb dL_law_712 (by decide) ?_
  refine lv_iadd hx hb dL_law_713 ?_
  refine va_sld hx hb hX hbl hbA hS (lw_in hi hL (by decide)) dL_law_714 ?_
  refine xlcall (R := xR_X9_lay) (as := [.int (xs (nI i + 1).toNatClampNeg)]) (s1 := t2) (r := some (.int r)) (wo := xw cI cZ ad1 xFL t1) (ad := ad2) (rest := [.int r]) xMLk (List.mem_of_getElem? (i := 164) rfl) (xTr.end (ok_X9_lay (xs (nI i + 1).toNatClampNeg) s2) e2 rfl) (Nat.le_of_ble_eq_true rfl) rfl rfl (by decide) (xin 1267 (by decide +kernel) (by decide +kernel)) rfl hx hb hml hown hts hA hE2 hK hP2 hD2 hP1 hdis.symm hS (Nat.le_of_ble_eq_true rfl) (Nat.le_of_ble_eq_true rfl) (Nat.le_of_ble_eq_true rfl) (Nat.le_of_ble_eq_true rfl) hl.1 rfl (Nat.le_of_ble_eq_true rfl) dL_law_715 (fun H locs hP2 hD2 hP1 hdis hS => ?_)
  refine lv_icmp_eq (tgt := 1256) hx hb dL_law_718 (by decide) (fun _ => ?_) (fun q => absurd rfl q)
  exact nx t1 t2 H locs hJ ⟨hP1, hD1, hP2, hD2, hdis.symm, hS⟩
set_option maxHeartbeats 4000000 in
set_option maxRecDepth 100000 in
theorem law_way {p : Program} {l : Launch} {e : Env} {s : State} {m : MethodId} {below : List Frame} {meth : Method} {c : Code} {b L : Nat} {xs : Nat → Int32} {D : va_G} {cI cZ : ClassId} {ad1 ad2 : Nat → Nat} {Inv : xS → xS → Prop} {i : Nat} {s1 s2 : xS} {H : Heap} {locs : List Loc} {ls : Array Slot} (hh : lh_way Inv) (hL : L ≤ 384) (C : lw_C p s m meth c b L xs D cI cZ ad1 ad2) (hi : i + 6 ≤ L) (hI : Inv s1 s2) (hw : lw_S s D cI cZ ad1 ad2 s1 s2 H locs) (hl : lv_has ls 4 [(0, .ref b), (1, .ref (ad1 0)), (2, .ref (ad2 0)), (3, .int (nI i))])
    (nx : ∀ (t1 t2 : xS) (H : Heap) (locs : List Loc), Inv t1 t2 → lw_S s D cI cZ ad1 ad2 t1 t2 H locs → W p l e room_1 s m #[Value.ref b] below meth c H locs 73 2382 (lw_Z below #[Value.ref b] s) (F0 m 1256 ls [])) : W p l e room_1 s m #[Value.ref b] below meth c H locs 73 2382 (lw_Z below #[Value.ref b] s) (F0 m 723 ls []) := by
  obtain ⟨⟨hx, hb, hr, hml, hown, hts0, hX, hbl, hlocks, hgv⟩, hK, hE1, hE2⟩ := C
  obtain ⟨hP1, hD1, hP2, hD2, hdis, hS⟩ := hw
  have hts : ∀ w ∈ xTg, w.before #[Value.ref b] s = true := fun w hw => hts0 w (List.mem_filter.mp hw).1
  have hA : ∀ q : Nat, s.heap.size ≤ q → (fun q : Nat => s.heap.size ≤ q) q := fun _ h => h
  have hbA : ¬ (fun q : Nat => s.heap.size ≤ q) b := Nat.not_le.mpr hbl
  obtain ⟨r, t1, t2, e1, e2, hJ⟩ := hh (xs (nI i + 1).toNatClampNeg) (xs (nI i + 2).toNatClampNeg) s1 s2 hI
  refine lv_aload_n hx hb dL_law_723 rfl (lv_at hl 1 rfl) ?_
  refine lv_aload_n hx hb dL_law_724 rfl (lv_at hl 0 rfl) ?_
  refine lv_iload_n hx hb dL_law_725 rfl (lv_at hl 3 rfl) ?_
  refine lv_iconst (v := 1) hx hb dL_law_726 (by decide) ?_
  refine lv_iadd hx hb dL_law_727 ?_
  refine va_sld hx hb hX hbl hbA hS (lw_in hi hL (by decide)) dL_law_728 ?_
  refine lv_aload_n hx hb dL_law_729 rfl (lv_at hl 0 rfl) ?_
  refine lv_iload_n hx hb dL_law_730 rfl (lv_at hl 3 rfl) ?_
  refine lv_iconst (v := 2) hx hb dL_law_731 (by decide) ?_
  refine lv_iadd hx hb dL_law_732 ?_
  refine va_sld hx hb hX hbl hbA hS (lw_in hi hL (by decide)) dL_law_733 ?_
  refine xlcall (R := xR_X8_way) (as := [.int (xs (nI i + 1).toNatClampNeg), .int (xs (nI i + 2).toNatClampNeg)]) (s1 := t1) (r := some (.int r)) (wo := xw cI cZ ad2 xML s2) (ad := ad1) (rest := []) xFLk (List.mem_of_getElem? (i := 60) rfl) (xTr.end (ok_X8_way (xs (nI i + 1).toNatClampNeg) (xs (nI i + 2).toNatClampNeg) s1) e1 rfl) (Nat.le_of_ble_eq_true rfl) rfl rfl (by decide) (xin 738 (by decide +kernel) (by decide +kernel)) rfl hx hb hml hown hts hA hE1 hK hP1 hD1 hP2 hdis hS (Nat.le_of_ble_eq_true rfl) (Nat.le_of_ble_eq_true rfl) (Nat.le_of_ble_eq_true rfl) (Nat.le_of_ble_eq_true rfl) hl.1 rfl (Nat.le_of_ble_eq_true rfl) dL_law_734 (fun H locs hP1 hD1 hP2 hdis hS => ?_)
  refine lv_aload_n hx hb dL_law_737 rfl (lv_at hl 2 rfl) ?_
  refine lv_aload_n hx hb dL_law_738 rfl (lv_at hl 0 rfl) ?_
  refine lv_iload_n hx hb dL_law_739 rfl (lv_at hl 3 rfl) ?_
  refine lv_iconst (v := 1) hx hb dL_law_740 (by decide) ?_
  refine lv_iadd hx hb dL_law_741 ?_
  refine va_sld hx hb hX hbl hbA hS (lw_in hi hL (by decide)) dL_law_742 ?_
  refine lv_aload_n hx hb dL_law_743 rfl (lv_at hl 0 rfl) ?_
  refine lv_iload_n hx hb dL_law_744 rfl (lv_at hl 3 rfl) ?_
  refine lv_iconst (v := 2) hx hb dL_law_745 (by decide) ?_
  refine lv_iadd hx hb dL_law_746 ?_
  refine va_sld hx hb hX hbl hbA hS (lw_in hi hL (by decide)) dL_law_747 ?_
  refine xlcall (R := xR_X9_way) (as := [.int (xs (nI i + 1).toNatClampNeg), .int (xs (nI i + 2).toNatClampNeg)]) (s1 := t2) (r := some (.int r)) (wo := xw cI cZ ad1 xFL t1) (ad := ad2) (rest := [.int r]) xMLk (List.mem_of_getElem? (i := 167) rfl) (xTr.end (ok_X9_way (xs (nI i + 1).toNatClampNeg) (xs (nI i + 2).toNatClampNeg) s2) e2 rfl) (Nat.le_of_ble_eq_true rfl) rfl rfl (by decide) (xin 1275 (by decide +kernel) (by decide +kernel)) rfl hx hb hml hown hts hA hE2 hK hP2 hD2 hP1 hdis.symm hS (Nat.le_of_ble_eq_true rfl) (Nat.le_of_ble_eq_true rfl) (Nat.le_of_ble_eq_true rfl) (Nat.le_of_ble_eq_true rfl) hl.1 rfl (Nat.le_of_ble_eq_true rfl) dL_law_748 (fun H locs hP2 hD2 hP1 hdis hS => ?_)
  refine lv_icmp_eq (tgt := 1256) hx hb dL_law_751 (by decide) (fun _ => ?_) (fun q => absurd rfl q)
  exact nx t1 t2 H locs hJ ⟨hP1, hD1, hP2, hD2, hdis.symm, hS⟩
set_option maxHeartbeats 4000000 in
set_option maxRecDepth 100000 in
theorem law_listened {p : Program} {l : Launch} {e : Env} {s : State} {m : MethodId} {below : List Frame} {meth : Method} {c : Code} {b L : Nat} {xs : Nat → Int32} {D : va_G} {cI cZ : ClassId} {ad1 ad2 : Nat → Nat} {Inv : xS → xS → Prop} {i : Nat} {s1 s2 : xS} {H : Heap} {locs : List Loc} {ls : Array Slot} (hh : lh_listened Inv) (hL : L ≤ 384) (C : lw_C p s m meth c b L xs D cI cZ ad1 ad2) (hi : i + 6 ≤ L) (hI : Inv s1 s2) (hw : lw_S s D cI cZ ad1 ad2 s1 s2 H locs) (hl : lv_has ls 4 [(0, .ref b), (1, .ref (ad1 0)), (2, .ref (ad2 0)), (3, .int (nI i))])
    (nx : ∀ (t1 t2 : xS) (H : Heap) (locs : List Loc), Inv t1 t2 → lw_S s D cI cZ ad1 ad2 t1 t2 H locs → W p l e room_1 s m #[Value.ref b] below meth c H locs 73 2382 (lw_Z below #[Value.ref b] s) (F0 m 1256 ls [])) : W p l e room_1 s m #[Value.ref b] below meth c H locs 73 2382 (lw_Z below #[Value.ref b] s) (F0 m 756 ls []) := by
  obtain ⟨⟨hx, hb, hr, hml, hown, hts0, hX, hbl, hlocks, hgv⟩, hK, hE1, hE2⟩ := C
  obtain ⟨hP1, hD1, hP2, hD2, hdis, hS⟩ := hw
  have hts : ∀ w ∈ xTg, w.before #[Value.ref b] s = true := fun w hw => hts0 w (List.mem_filter.mp hw).1
  have hA : ∀ q : Nat, s.heap.size ≤ q → (fun q : Nat => s.heap.size ≤ q) q := fun _ h => h
  have hbA : ¬ (fun q : Nat => s.heap.size ≤ q) b := Nat.not_le.mpr hbl
  obtain ⟨r, t1, t2, e1, e2, hJ⟩ := hh (xs (nI i + 1).toNatClampNeg) (xs (nI i + 2).toNatClampNeg) s1 s2 hI
  refine lv_aload_n hx hb dL_law_756 rfl (lv_at hl 1 rfl) ?_
  refine lv_aload_n hx hb dL_law_757 rfl (lv_at hl 0 rfl) ?_
  refine lv_iload_n hx hb dL_law_758 rfl (lv_at hl 3 rfl) ?_
  refine lv_iconst (v := 1) hx hb dL_law_759 (by decide) ?_
  refine lv_iadd hx hb dL_law_760 ?_
  refine va_sld hx hb hX hbl hbA hS (lw_in hi hL (by decide)) dL_law_761 ?_
  refine lv_aload_n hx hb dL_law_762 rfl (lv_at hl 0 rfl) ?_
  refine lv_iload_n hx hb dL_law_763 rfl (lv_at hl 3 rfl) ?_
  refine lv_iconst (v := 2) hx hb dL_law_764 (by decide) ?_
  refine lv_iadd hx hb dL_law_765 ?_
  refine va_sld hx hb hX hbl hbA hS (lw_in hi hL (by decide)) dL_law_766 ?_
  refine xlcall (R := xR_X8_listened) (as := [.int (xs (nI i + 1).toNatClampNeg), .int (xs (nI i + 2).toNatClampNeg)]) (s1 := t1) (r := some (.int r)) (wo := xw cI cZ ad2 xML s2) (ad := ad1) (rest := []) xFLk (List.mem_of_getElem? (i := 61) rfl) (xTr.end (ok_X8_listened (xs (nI i + 1).toNatClampNeg) (xs (nI i + 2).toNatClampNeg) s1) e1 rfl) (Nat.le_of_ble_eq_true rfl) rfl rfl (by decide) (xin 744 (by decide +kernel) (by decide +kernel)) rfl hx hb hml hown hts hA hE1 hK hP1 hD1 hP2 hdis hS (Nat.le_of_ble_eq_true rfl) (Nat.le_of_ble_eq_true rfl) (Nat.le_of_ble_eq_true rfl) (Nat.le_of_ble_eq_true rfl) hl.1 rfl (Nat.le_of_ble_eq_true rfl) dL_law_767 (fun H locs hP1 hD1 hP2 hdis hS => ?_)
  refine lv_aload_n hx hb dL_law_770 rfl (lv_at hl 2 rfl) ?_
  refine lv_aload_n hx hb dL_law_771 rfl (lv_at hl 0 rfl) ?_
  refine lv_iload_n hx hb dL_law_772 rfl (lv_at hl 3 rfl) ?_
  refine lv_iconst (v := 1) hx hb dL_law_773 (by decide) ?_
  refine lv_iadd hx hb dL_law_774 ?_
  refine va_sld hx hb hX hbl hbA hS (lw_in hi hL (by decide)) dL_law_775 ?_
  refine lv_aload_n hx hb dL_law_776 rfl (lv_at hl 0 rfl) ?_
  refine lv_iload_n hx hb dL_law_777 rfl (lv_at hl 3 rfl) ?_
  refine lv_iconst (v := 2) hx hb dL_law_778 (by decide) ?_
  refine lv_iadd hx hb dL_law_779 ?_
  refine va_sld hx hb hX hbl hbA hS (lw_in hi hL (by decide)) dL_law_780 ?_
  refine xlcall (R := xR_X9_listened) (as := [.int (xs (nI i + 1).toNatClampNeg), .int (xs (nI i + 2).toNatClampNeg)]) (s1 := t2) (r := some (.int r)) (wo := xw cI cZ ad1 xFL t1) (ad := ad2) (rest := [.int r]) xMLk (List.mem_of_getElem? (i := 168) rfl) (xTr.end (ok_X9_listened (xs (nI i + 1).toNatClampNeg) (xs (nI i + 2).toNatClampNeg) s2) e2 rfl) (Nat.le_of_ble_eq_true rfl) rfl rfl (by decide) (xin 1287 (by decide +kernel) (by decide +kernel)) rfl hx hb hml hown hts hA hE2 hK hP2 hD2 hP1 hdis.symm hS (Nat.le_of_ble_eq_true rfl) (Nat.le_of_ble_eq_true rfl) (Nat.le_of_ble_eq_true rfl) (Nat.le_of_ble_eq_true rfl) hl.1 rfl (Nat.le_of_ble_eq_true rfl) dL_law_781 (fun H locs hP2 hD2 hP1 hdis hS => ?_)
  refine lv_icmp_eq (tgt := 1256) hx hb dL_law_784 (by decide) (fun _ => ?_) (fun q => absurd rfl q)
  exact nx t1 t2 H locs hJ ⟨hP1, hD1, hP2, hD2, hdis.symm, hS⟩
set_option maxHeartbeats 4000000 in
set_option maxRecDepth 100000 in
theorem law_forget {p : Program} {l : Launch} {e : Env} {s : State} {m : MethodId} {below : List Frame} {meth : Method} {c : Code} {b L : Nat} {xs : Nat → Int32} {D : va_G} {cI cZ : ClassId} {ad1 ad2 : Nat → Nat} {Inv : xS → xS → Prop} {i : Nat} {s1 s2 : xS} {H : Heap} {locs : List Loc} {ls : Array Slot} (hh : lh_forget Inv) (hL : L ≤ 384) (C : lw_C p s m meth c b L xs D cI cZ ad1 ad2) (hi : i + 6 ≤ L) (hI : Inv s1 s2) (hw : lw_S s D cI cZ ad1 ad2 s1 s2 H locs) (hl : lv_has ls 4 [(0, .ref b), (1, .ref (ad1 0)), (2, .ref (ad2 0)), (3, .int (nI i))])
    (nx : ∀ (t1 t2 : xS) (H : Heap) (locs : List Loc), Inv t1 t2 → lw_S s D cI cZ ad1 ad2 t1 t2 H locs → W p l e room_1 s m #[Value.ref b] below meth c H locs 73 2382 (lw_Z below #[Value.ref b] s) (F0 m 1256 ls [])) : W p l e room_1 s m #[Value.ref b] below meth c H locs 73 2382 (lw_Z below #[Value.ref b] s) (F0 m 789 ls []) := by
  obtain ⟨⟨hx, hb, hr, hml, hown, hts0, hX, hbl, hlocks, hgv⟩, hK, hE1, hE2⟩ := C
  obtain ⟨hP1, hD1, hP2, hD2, hdis, hS⟩ := hw
  have hts : ∀ w ∈ xTg, w.before #[Value.ref b] s = true := fun w hw => hts0 w (List.mem_filter.mp hw).1
  have hA : ∀ q : Nat, s.heap.size ≤ q → (fun q : Nat => s.heap.size ≤ q) q := fun _ h => h
  have hbA : ¬ (fun q : Nat => s.heap.size ≤ q) b := Nat.not_le.mpr hbl
  obtain ⟨r, t1, t2, e1, e2, hJ⟩ := hh s1 s2 hI
  refine lv_aload_n hx hb dL_law_789 rfl (lv_at hl 1 rfl) ?_
  refine xlcall (R := xR_X8_forget) (as := []) (s1 := t1) (r := some (.int r)) (wo := xw cI cZ ad2 xML s2) (ad := ad1) (rest := []) xFLk (List.mem_of_getElem? (i := 62) rfl) (xTr.end (ok_X8_forget s1) e1 rfl) (Nat.le_of_ble_eq_true rfl) rfl rfl (by decide) (xin 748 (by decide +kernel) (by decide +kernel)) rfl hx hb hml hown hts hA hE1 hK hP1 hD1 hP2 hdis hS (Nat.le_of_ble_eq_true rfl) (Nat.le_of_ble_eq_true rfl) (Nat.le_of_ble_eq_true rfl) (Nat.le_of_ble_eq_true rfl) hl.1 rfl (Nat.le_of_ble_eq_true rfl) dL_law_790 (fun H locs hP1 hD1 hP2 hdis hS => ?_)
  refine lv_aload_n hx hb dL_law_793 rfl (lv_at hl 2 rfl) ?_
  refine xlcall (R := xR_X9_forget) (as := []) (s1 := t2) (r := some (.int r)) (wo := xw cI cZ ad1 xFL t1) (ad := ad2) (rest := [.int r]) xMLk (List.mem_of_getElem? (i := 169) rfl) (xTr.end (ok_X9_forget s2) e2 rfl) (Nat.le_of_ble_eq_true rfl) rfl rfl (by decide) (xin 1291 (by decide +kernel) (by decide +kernel)) rfl hx hb hml hown hts hA hE2 hK hP2 hD2 hP1 hdis.symm hS (Nat.le_of_ble_eq_true rfl) (Nat.le_of_ble_eq_true rfl) (Nat.le_of_ble_eq_true rfl) (Nat.le_of_ble_eq_true rfl) hl.1 rfl (Nat.le_of_ble_eq_true rfl) dL_law_794 (fun H locs hP2 hD2 hP1 hdis hS => ?_)
  refine lv_icmp_eq (tgt := 1256) hx hb dL_law_797 (by decide) (fun _ => ?_) (fun q => absurd rfl q)
  exact nx t1 t2 H locs hJ ⟨hP1, hD1, hP2, hD2, hdis.symm, hS⟩
set_option maxHeartbeats 4000000 in
set_option maxRecDepth 100000 in
theorem law_never {p : Program} {l : Launch} {e : Env} {s : State} {m : MethodId} {below : List Frame} {meth : Method} {c : Code} {b L : Nat} {xs : Nat → Int32} {D : va_G} {cI cZ : ClassId} {ad1 ad2 : Nat → Nat} {Inv : xS → xS → Prop} {i : Nat} {s1 s2 : xS} {H : Heap} {locs : List Loc} {ls : Array Slot} (hh : lh_never Inv) (hL : L ≤ 384) (C : lw_C p s m meth c b L xs D cI cZ ad1 ad2) (hi : i + 6 ≤ L) (hI : Inv s1 s2) (hw : lw_S s D cI cZ ad1 ad2 s1 s2 H locs) (hl : lv_has ls 4 [(0, .ref b), (1, .ref (ad1 0)), (2, .ref (ad2 0)), (3, .int (nI i))])
    (nx : ∀ (t1 t2 : xS) (H : Heap) (locs : List Loc), Inv t1 t2 → lw_S s D cI cZ ad1 ad2 t1 t2 H locs → W p l e room_1 s m #[Value.ref b] below meth c H locs 73 2382 (lw_Z below #[Value.ref b] s) (F0 m 1256 ls [])) : W p l e room_1 s m #[Value.ref b] below meth c H locs 73 2382 (lw_Z below #[Value.ref b] s) (F0 m 802 ls []) := by
  obtain ⟨⟨hx, hb, hr, hml, hown, hts0, hX, hbl, hlocks, hgv⟩, hK, hE1, hE2⟩ := C
  obtain ⟨hP1, hD1, hP2, hD2, hdis, hS⟩ := hw
  have hts : ∀ w ∈ xTg, w.before #[Value.ref b] s = true := fun w hw => hts0 w (List.mem_filter.mp hw).1
  have hA : ∀ q : Nat, s.heap.size ≤ q → (fun q : Nat => s.heap.size ≤ q) q := fun _ h => h
  have hbA : ¬ (fun q : Nat => s.heap.size ≤ q) b := Nat.not_le.mpr hbl
  obtain ⟨r, t1, t2, e1, e2, hJ⟩ := hh s1 s2 hI
  refine lv_aload_n hx hb dL_law_802 rfl (lv_at hl 1 rfl) ?_
  refine xlcall (R := xR_X8_never) (as := []) (s1 := t1) (r := some (.int r)) (wo := xw cI cZ ad2 xML s2) (ad := ad1) (rest := []) xFLk (List.mem_of_getElem? (i := 63) rfl) (xTr.end (ok_X8_never s1) e1 rfl) (Nat.le_of_ble_eq_true rfl) rfl rfl (by decide) (xin 752 (by decide +kernel) (by decide +kernel)) rfl hx hb hml hown hts hA hE1 hK hP1 hD1 hP2 hdis hS (Nat.le_of_ble_eq_true rfl) (Nat.le_of_ble_eq_true rfl) (Nat.le_of_ble_eq_true rfl) (Nat.le_of_ble_eq_true rfl) hl.1 rfl (Nat.le_of_ble_eq_true rfl) dL_law_803 (fun H locs hP1 hD1 hP2 hdis hS => ?_)
  refine lv_aload_n hx hb dL_law_806 rfl (lv_at hl 2 rfl) ?_
  refine xlcall (R := xR_X9_never) (as := []) (s1 := t2) (r := some (.int r)) (wo := xw cI cZ ad1 xFL t1) (ad := ad2) (rest := [.int r]) xMLk (List.mem_of_getElem? (i := 172) rfl) (xTr.end (ok_X9_never s2) e2 rfl) (Nat.le_of_ble_eq_true rfl) rfl rfl (by decide) (xin 1295 (by decide +kernel) (by decide +kernel)) rfl hx hb hml hown hts hA hE2 hK hP2 hD2 hP1 hdis.symm hS (Nat.le_of_ble_eq_true rfl) (Nat.le_of_ble_eq_true rfl) (Nat.le_of_ble_eq_true rfl) (Nat.le_of_ble_eq_true rfl) hl.1 rfl (Nat.le_of_ble_eq_true rfl) dL_law_807 (fun H locs hP2 hD2 hP1 hdis hS => ?_)
  refine lv_icmp_eq (tgt := 1256) hx hb dL_law_810 (by decide) (fun _ => ?_) (fun q => absurd rfl q)
  exact nx t1 t2 H locs hJ ⟨hP1, hD1, hP2, hD2, hdis.symm, hS⟩
set_option maxHeartbeats 4000000 in
set_option maxRecDepth 100000 in
theorem law_whence {p : Program} {l : Launch} {e : Env} {s : State} {m : MethodId} {below : List Frame} {meth : Method} {c : Code} {b L : Nat} {xs : Nat → Int32} {D : va_G} {cI cZ : ClassId} {ad1 ad2 : Nat → Nat} {Inv : xS → xS → Prop} {i : Nat} {s1 s2 : xS} {H : Heap} {locs : List Loc} {ls : Array Slot} (hh : lh_whence Inv) (hL : L ≤ 384) (C : lw_C p s m meth c b L xs D cI cZ ad1 ad2) (hi : i + 6 ≤ L) (hI : Inv s1 s2) (hw : lw_S s D cI cZ ad1 ad2 s1 s2 H locs) (hl : lv_has ls 4 [(0, .ref b), (1, .ref (ad1 0)), (2, .ref (ad2 0)), (3, .int (nI i))])
    (nx : ∀ (t1 t2 : xS) (H : Heap) (locs : List Loc), Inv t1 t2 → lw_S s D cI cZ ad1 ad2 t1 t2 H locs → W p l e room_1 s m #[Value.ref b] below meth c H locs 73 2382 (lw_Z below #[Value.ref b] s) (F0 m 1256 ls [])) : W p l e room_1 s m #[Value.ref b] below meth c H locs 73 2382 (lw_Z below #[Value.ref b] s) (F0 m 815 ls []) := by
  obtain ⟨⟨hx, hb, hr, hml, hown, hts0, hX, hbl, hlocks, hgv⟩, hK, hE1, hE2⟩ := C
  obtain ⟨hP1, hD1, hP2, hD2, hdis, hS⟩ := hw
  have hts : ∀ w ∈ xTg, w.before #[Value.ref b] s = true := fun w hw => hts0 w (List.mem_filter.mp hw).1
  have hA : ∀ q : Nat, s.heap.size ≤ q → (fun q : Nat => s.heap.size ≤ q) q := fun _ h => h
  have hbA : ¬ (fun q : Nat => s.heap.size ≤ q) b := Nat.not_le.mpr hbl
  obtain ⟨r, t1, t2, e1, e2, hJ⟩ := hh (xs (nI i + 1).toNatClampNeg) (xs (nI i + 2).toNatClampNeg) s1 s2 hI
  refine lv_aload_n hx hb dL_law_815 rfl (lv_at hl 1 rfl) ?_
  refine lv_aload_n hx hb dL_law_816 rfl (lv_at hl 0 rfl) ?_
  refine lv_iload_n hx hb dL_law_817 rfl (lv_at hl 3 rfl) ?_
  refine lv_iconst (v := 1) hx hb dL_law_818 (by decide) ?_
  refine lv_iadd hx hb dL_law_819 ?_
  refine va_sld hx hb hX hbl hbA hS (lw_in hi hL (by decide)) dL_law_820 ?_
  refine lv_aload_n hx hb dL_law_821 rfl (lv_at hl 0 rfl) ?_
  refine lv_iload_n hx hb dL_law_822 rfl (lv_at hl 3 rfl) ?_
  refine lv_iconst (v := 2) hx hb dL_law_823 (by decide) ?_
  refine lv_iadd hx hb dL_law_824 ?_
  refine va_sld hx hb hX hbl hbA hS (lw_in hi hL (by decide)) dL_law_825 ?_
  refine xlcall (R := xR_X8_whence) (as := [.int (xs (nI i + 1).toNatClampNeg), .int (xs (nI i + 2).toNatClampNeg)]) (s1 := t1) (r := some (.int r)) (wo := xw cI cZ ad2 xML s2) (ad := ad1) (rest := []) xFLk (List.mem_of_getElem? (i := 64) rfl) (xTr.end (ok_X8_whence (xs (nI i + 1).toNatClampNeg) (xs (nI i + 2).toNatClampNeg) s1) e1 rfl) (Nat.le_of_ble_eq_true rfl) rfl rfl (by decide) (xin 760 (by decide +kernel) (by decide +kernel)) rfl hx hb hml hown hts hA hE1 hK hP1 hD1 hP2 hdis hS (Nat.le_of_ble_eq_true rfl) (Nat.le_of_ble_eq_true rfl) (Nat.le_of_ble_eq_true rfl) (Nat.le_of_ble_eq_true rfl) hl.1 rfl (Nat.le_of_ble_eq_true rfl) dL_law_826 (fun H locs hP1 hD1 hP2 hdis hS => ?_)
  refine lv_aload_n hx hb dL_law_829 rfl (lv_at hl 2 rfl) ?_
  refine lv_aload_n hx hb dL_law_830 rfl (lv_at hl 0 rfl) ?_
  refine lv_iload_n hx hb dL_law_831 rfl (lv_at hl 3 rfl) ?_
  refine lv_iconst (v := 1) hx hb dL_law_832 (by decide) ?_
  refine lv_iadd hx hb dL_law_833 ?_
  refine va_sld hx hb hX hbl hbA hS (lw_in hi hL (by decide)) dL_law_834 ?_
  refine lv_aload_n hx hb dL_law_835 rfl (lv_at hl 0 rfl) ?_
  refine lv_iload_n hx hb dL_law_836 rfl (lv_at hl 3 rfl) ?_
  refine lv_iconst (v := 2) hx hb dL_law_837 (by decide) ?_
  refine lv_iadd hx hb dL_law_838 ?_
  refine va_sld hx hb hX hbl hbA hS (lw_in hi hL (by decide)) dL_law_839 ?_
  refine xlcall (R := xR_X9_whence) (as := [.int (xs (nI i + 1).toNatClampNeg), .int (xs (nI i + 2).toNatClampNeg)]) (s1 := t2) (r := some (.int r)) (wo := xw cI cZ ad1 xFL t1) (ad := ad2) (rest := [.int r]) xMLk (List.mem_of_getElem? (i := 175) rfl) (xTr.end (ok_X9_whence (xs (nI i + 1).toNatClampNeg) (xs (nI i + 2).toNatClampNeg) s2) e2 rfl) (Nat.le_of_ble_eq_true rfl) rfl rfl (by decide) (xin 1307 (by decide +kernel) (by decide +kernel)) rfl hx hb hml hown hts hA hE2 hK hP2 hD2 hP1 hdis.symm hS (Nat.le_of_ble_eq_true rfl) (Nat.le_of_ble_eq_true rfl) (Nat.le_of_ble_eq_true rfl) (Nat.le_of_ble_eq_true rfl) hl.1 rfl (Nat.le_of_ble_eq_true rfl) dL_law_840 (fun H locs hP2 hD2 hP1 hdis hS => ?_)
  refine lv_icmp_eq (tgt := 1256) hx hb dL_law_843 (by decide) (fun _ => ?_) (fun q => absurd rfl q)
  exact nx t1 t2 H locs hJ ⟨hP1, hD1, hP2, hD2, hdis.symm, hS⟩
set_option maxHeartbeats 4000000 in
set_option maxRecDepth 100000 in
theorem law_what {p : Program} {l : Launch} {e : Env} {s : State} {m : MethodId} {below : List Frame} {meth : Method} {c : Code} {b L : Nat} {xs : Nat → Int32} {D : va_G} {cI cZ : ClassId} {ad1 ad2 : Nat → Nat} {Inv : xS → xS → Prop} {i : Nat} {s1 s2 : xS} {H : Heap} {locs : List Loc} {ls : Array Slot} (hh : lh_what Inv) (hL : L ≤ 384) (C : lw_C p s m meth c b L xs D cI cZ ad1 ad2) (hi : i + 6 ≤ L) (hI : Inv s1 s2) (hw : lw_S s D cI cZ ad1 ad2 s1 s2 H locs) (hl : lv_has ls 4 [(0, .ref b), (1, .ref (ad1 0)), (2, .ref (ad2 0)), (3, .int (nI i))])
    (nx : ∀ (t1 t2 : xS) (H : Heap) (locs : List Loc), Inv t1 t2 → lw_S s D cI cZ ad1 ad2 t1 t2 H locs → W p l e room_1 s m #[Value.ref b] below meth c H locs 73 2382 (lw_Z below #[Value.ref b] s) (F0 m 1256 ls [])) : W p l e room_1 s m #[Value.ref b] below meth c H locs 73 2382 (lw_Z below #[Value.ref b] s) (F0 m 848 ls []) := by
  obtain ⟨⟨hx, hb, hr, hml, hown, hts0, hX, hbl, hlocks, hgv⟩, hK, hE1, hE2⟩ := C
  obtain ⟨hP1, hD1, hP2, hD2, hdis, hS⟩ := hw
  have hts : ∀ w ∈ xTg, w.before #[Value.ref b] s = true := fun w hw => hts0 w (List.mem_filter.mp hw).1
  have hA : ∀ q : Nat, s.heap.size ≤ q → (fun q : Nat => s.heap.size ≤ q) q := fun _ h => h
  have hbA : ¬ (fun q : Nat => s.heap.size ≤ q) b := Nat.not_le.mpr hbl
  obtain ⟨r, t1, t2, e1, e2, hJ⟩ := hh (xs (nI i + 1).toNatClampNeg) s1 s2 hI
  refine lv_aload_n hx hb dL_law_848 rfl (lv_at hl 1 rfl) ?_
  refine lv_aload_n hx hb dL_law_849 rfl (lv_at hl 0 rfl) ?_
  refine lv_iload_n hx hb dL_law_850 rfl (lv_at hl 3 rfl) ?_
  refine lv_iconst (v := 1) hx hb dL_law_851 (by decide) ?_
  refine lv_iadd hx hb dL_law_852 ?_
  refine va_sld hx hb hX hbl hbA hS (lw_in hi hL (by decide)) dL_law_853 ?_
  refine xlcall (R := xR_X8_what) (as := [.int (xs (nI i + 1).toNatClampNeg)]) (s1 := t1) (r := some (.int r)) (wo := xw cI cZ ad2 xML s2) (ad := ad1) (rest := []) xFLk (List.mem_of_getElem? (i := 65) rfl) (xTr.end (ok_X8_what (xs (nI i + 1).toNatClampNeg) s1) e1 rfl) (Nat.le_of_ble_eq_true rfl) rfl rfl (by decide) (xin 771 (by decide +kernel) (by decide +kernel)) rfl hx hb hml hown hts hA hE1 hK hP1 hD1 hP2 hdis hS (Nat.le_of_ble_eq_true rfl) (Nat.le_of_ble_eq_true rfl) (Nat.le_of_ble_eq_true rfl) (Nat.le_of_ble_eq_true rfl) hl.1 rfl (Nat.le_of_ble_eq_true rfl) dL_law_854 (fun H locs hP1 hD1 hP2 hdis hS => ?_)
  refine lv_aload_n hx hb dL_law_857 rfl (lv_at hl 2 rfl) ?_
  refine lv_aload_n hx hb dL_law_858 rfl (lv_at hl 0 rfl) ?_
  refine lv_iload_n hx hb dL_law_859 rfl (lv_at hl 3 rfl) ?_
  refine lv_iconst (v := 1) hx hb dL_law_860 (by decide) ?_
  refine lv_iadd hx hb dL_law_861 ?_
  refine va_sld hx hb hX hbl hbA hS (lw_in hi hL (by decide)) dL_law_862 ?_
  refine xlcall (R := xR_X9_what) (as := [.int (xs (nI i + 1).toNatClampNeg)]) (s1 := t2) (r := some (.int r)) (wo := xw cI cZ ad1 xFL t1) (ad := ad2) (rest := [.int r]) xMLk (List.mem_of_getElem? (i := 177) rfl) (xTr.end (ok_X9_what (xs (nI i + 1).toNatClampNeg) s2) e2 rfl) (Nat.le_of_ble_eq_true rfl) rfl rfl (by decide) (xin 1319 (by decide +kernel) (by decide +kernel)) rfl hx hb hml hown hts hA hE2 hK hP2 hD2 hP1 hdis.symm hS (Nat.le_of_ble_eq_true rfl) (Nat.le_of_ble_eq_true rfl) (Nat.le_of_ble_eq_true rfl) (Nat.le_of_ble_eq_true rfl) hl.1 rfl (Nat.le_of_ble_eq_true rfl) dL_law_863 (fun H locs hP2 hD2 hP1 hdis hS => ?_)
  refine lv_icmp_eq (tgt := 1256) hx hb dL_law_866 (by decide) (fun _ => ?_) (fun q => absurd rfl q)
  exact nx t1 t2 H locs hJ ⟨hP1, hD1, hP2, hD2, hdis.symm, hS⟩
set_option maxHeartbeats 4000000 in
set_option maxRecDepth 100000 in
theorem law_ask {p : Program} {l : Launch} {e : Env} {s : State} {m : MethodId} {below : List Frame} {meth : Method} {c : Code} {b L : Nat} {xs : Nat → Int32} {D : va_G} {cI cZ : ClassId} {ad1 ad2 : Nat → Nat} {Inv : xS → xS → Prop} {i : Nat} {s1 s2 : xS} {H : Heap} {locs : List Loc} {ls : Array Slot} (hh : lh_ask Inv) (hL : L ≤ 384) (C : lw_C p s m meth c b L xs D cI cZ ad1 ad2) (hi : i + 6 ≤ L) (hI : Inv s1 s2) (hw : lw_S s D cI cZ ad1 ad2 s1 s2 H locs) (hl : lv_has ls 4 [(0, .ref b), (1, .ref (ad1 0)), (2, .ref (ad2 0)), (3, .int (nI i))])
    (nx : ∀ (t1 t2 : xS) (H : Heap) (locs : List Loc), Inv t1 t2 → lw_S s D cI cZ ad1 ad2 t1 t2 H locs → W p l e room_1 s m #[Value.ref b] below meth c H locs 73 2382 (lw_Z below #[Value.ref b] s) (F0 m 1256 ls [])) : W p l e room_1 s m #[Value.ref b] below meth c H locs 73 2382 (lw_Z below #[Value.ref b] s) (F0 m 871 ls []) := by
  obtain ⟨⟨hx, hb, hr, hml, hown, hts0, hX, hbl, hlocks, hgv⟩, hK, hE1, hE2⟩ := C
  obtain ⟨hP1, hD1, hP2, hD2, hdis, hS⟩ := hw
  have hts : ∀ w ∈ xTg, w.before #[Value.ref b] s = true := fun w hw => hts0 w (List.mem_filter.mp hw).1
  have hA : ∀ q : Nat, s.heap.size ≤ q → (fun q : Nat => s.heap.size ≤ q) q := fun _ h => h
  have hbA : ¬ (fun q : Nat => s.heap.size ≤ q) b := Nat.not_le.mpr hbl
  obtain ⟨r, t1, t2, e1, e2, hJ⟩ := hh (xs (nI i + 1).toNatClampNeg) s1 s2 hI
  refine lv_aload_n hx hb dL_law_871 rfl (lv_at hl 1 rfl) ?_
  refine lv_aload_n hx hb dL_law_872 rfl (lv_at hl 0 rfl) ?_
  refine lv_iload_n hx hb dL_law_873 rfl (lv_at hl 3 rfl) ?_
  refine lv_iconst (v := 1) hx hb dL_law_874 (by decide) ?_
  refine lv_iadd hx hb dL_law_875 ?_
  refine va_sld hx hb hX hbl hbA hS (lw_in hi hL (by decide)) dL_law_876 ?_
  refine xlcall (R := xR_X8_ask) (as := [.int (xs (nI i + 1).toNatClampNeg)]) (s1 := t1) (r := some (.int r)) (wo := xw cI cZ ad2 xML s2) (ad := ad1) (rest := []) xFLk (List.mem_of_getElem? (i := 66) rfl) (xTr.end (ok_X8_ask (xs (nI i + 1).toNatClampNeg) s1) e1 rfl) (Nat.le_of_ble_eq_true rfl) rfl rfl (by decide) (xin 775 (by decide +kernel) (by decide +kernel)) rfl hx hb hml hown hts hA hE1 hK hP1 hD1 hP2 hdis hS (Nat.le_of_ble_eq_true rfl) (Nat.le_of_ble_eq_true rfl) (Nat.le_of_ble_eq_true rfl) (Nat.le_of_ble_eq_true rfl) hl.1 rfl (Nat.le_of_ble_eq_true rfl) dL_law_877 (fun H locs hP1 hD1 hP2 hdis hS => ?_)
  refine lv_aload_n hx hb dL_law_880 rfl (lv_at hl 2 rfl) ?_
  refine lv_aload_n hx hb dL_law_881 rfl (lv_at hl 0 rfl) ?_
  refine lv_iload_n hx hb dL_law_882 rfl (lv_at hl 3 rfl) ?_
  refine lv_iconst (v := 1) hx hb dL_law_883 (by decide) ?_
  refine lv_iadd hx hb dL_law_884 ?_
  refine va_sld hx hb hX hbl hbA hS (lw_in hi hL (by decide)) dL_law_885 ?_
  refine xlcall (R := xR_X9_ask) (as := [.int (xs (nI i + 1).toNatClampNeg)]) (s1 := t2) (r := some (.int r)) (wo := xw cI cZ ad1 xFL t1) (ad := ad2) (rest := [.int r]) xMLk (List.mem_of_getElem? (i := 179) rfl) (xTr.end (ok_X9_ask (xs (nI i + 1).toNatClampNeg) s2) e2 rfl) (Nat.le_of_ble_eq_true rfl) rfl rfl (by decide) (xin 1327 (by decide +kernel) (by decide +kernel)) rfl hx hb hml hown hts hA hE2 hK hP2 hD2 hP1 hdis.symm hS (Nat.le_of_ble_eq_true rfl) (Nat.le_of_ble_eq_true rfl) (Nat.le_of_ble_eq_true rfl) (Nat.le_of_ble_eq_true rfl) hl.1 rfl (Nat.le_of_ble_eq_true rfl) dL_law_886 (fun H locs hP2 hD2 hP1 hdis hS => ?_)
  refine lv_icmp_eq (tgt := 1256) hx hb dL_law_889 (by decide) (fun _ => ?_) (fun q => absurd rfl q)
  exact nx t1 t2 H locs hJ ⟨hP1, hD1, hP2, hD2, hdis.symm, hS⟩
set_option maxHeartbeats 4000000 in
set_option maxRecDepth 100000 in
theorem law_sleeps {p : Program} {l : Launch} {e : Env} {s : State} {m : MethodId} {below : List Frame} {meth : Method} {c : Code} {b L : Nat} {xs : Nat → Int32} {D : va_G} {cI cZ : ClassId} {ad1 ad2 : Nat → Nat} {Inv : xS → xS → Prop} {i : Nat} {s1 s2 : xS} {H : Heap} {locs : List Loc} {ls : Array Slot} (hh : lh_sleeps Inv) (hL : L ≤ 384) (C : lw_C p s m meth c b L xs D cI cZ ad1 ad2) (hi : i + 6 ≤ L) (hI : Inv s1 s2) (hw : lw_S s D cI cZ ad1 ad2 s1 s2 H locs) (hl : lv_has ls 4 [(0, .ref b), (1, .ref (ad1 0)), (2, .ref (ad2 0)), (3, .int (nI i))])
    (nx : ∀ (t1 t2 : xS) (H : Heap) (locs : List Loc), Inv t1 t2 → lw_S s D cI cZ ad1 ad2 t1 t2 H locs → W p l e room_1 s m #[Value.ref b] below meth c H locs 73 2382 (lw_Z below #[Value.ref b] s) (F0 m 1256 ls [])) : W p l e room_1 s m #[Value.ref b] below meth c H locs 73 2382 (lw_Z below #[Value.ref b] s) (F0 m 894 ls []) := by
  obtain ⟨⟨hx, hb, hr, hml, hown, hts0, hX, hbl, hlocks, hgv⟩, hK, hE1, hE2⟩ := C
  obtain ⟨hP1, hD1, hP2, hD2, hdis, hS⟩ := hw
  have hts : ∀ w ∈ xTg, w.before #[Value.ref b] s = true := fun w hw => hts0 w (List.mem_filter.mp hw).1
  have hA : ∀ q : Nat, s.heap.size ≤ q → (fun q : Nat => s.heap.size ≤ q) q := fun _ h => h
  have hbA : ¬ (fun q : Nat => s.heap.size ≤ q) b := Nat.not_le.mpr hbl
  obtain ⟨r, t1, t2, e1, e2, hJ⟩ := hh (xs (nI i + 1).toNatClampNeg) (xs (nI i + 2).toNatClampNeg) s1 s2 hI
  refine lv_aload_n hx hb dL_law_894 rfl (lv_at hl 1 rfl) ?_
  refine lv_aload_n hx hb dL_law_895 rfl (lv_at hl 0 rfl) ?_
  refine lv_iload_n hx hb dL_law_896 rfl (lv_at hl 3 rfl) ?_
  refine lv_iconst (v := 1) hx hb dL_law_897 (by decide) ?_
  refine lv_iadd hx hb dL_law_898 ?_
  refine va_sld hx hb hX hbl hbA hS (lw_in hi hL (by decide)) dL_law_899 ?_
  refine lv_aload_n hx hb dL_law_900 rfl (lv_at hl 0 rfl) ?_
  refine lv_iload_n hx hb dL_law_901 rfl (lv_at hl 3 rfl) ?_
  refine lv_iconst (v := 2) hx hb dL_law_902 (by decide) ?_
  refine lv_iadd hx hb dL_law_903 ?_
  refine va_sld hx hb hX hbl hbA hS (lw_in hi hL (by decide)) dL_law_904 ?_
  refine xlcall (R := xR_X8_sleeps) (as := [.int (xs (nI i + 1).toNatClampNeg), .int (xs (nI i + 2).toNatClampNeg)]) (s1 := t1) (r := some (.long r)) (wo := xw cI cZ ad2 xML s2) (ad := ad1) (rest := []) xFLk (List.mem_of_getElem? (i := 67) rfl) (xTr.end (ok_X8_sleeps (xs (nI i + 1).toNatClampNeg) (xs (nI i + 2).toNatClampNeg) s1) e1 rfl) (Nat.le_of_ble_eq_true rfl) rfl rfl (by decide) (xin 784 (by decide +kernel) (by decide +kernel)) rfl hx hb hml hown hts hA hE1 hK hP1 hD1 hP2 hdis hS (Nat.le_of_ble_eq_true rfl) (Nat.le_of_ble_eq_true rfl) (Nat.le_of_ble_eq_true rfl) (Nat.le_of_ble_eq_true rfl) hl.1 rfl (Nat.le_of_ble_eq_true rfl) dL_law_905 (fun H locs hP1 hD1 hP2 hdis hS => ?_)
  refine lv_aload_n hx hb dL_law_908 rfl (lv_at hl 2 rfl) ?_
  refine lv_aload_n hx hb dL_law_909 rfl (lv_at hl 0 rfl) ?_
  refine lv_iload_n hx hb dL_law_910 rfl (lv_at hl 3 rfl) ?_
  refine lv_iconst (v := 1) hx hb dL_law_911 (by decide) ?_
  refine lv_iadd hx hb dL_law_912 ?_
  refine va_sld hx hb hX hbl hbA hS (lw_in hi hL (by decide)) dL_law_913 ?_
  refine lv_aload_n hx hb dL_law_914 rfl (lv_at hl 0 rfl) ?_
  refine lv_iload_n hx hb dL_law_915 rfl (lv_at hl 3 rfl) ?_
  refine lv_iconst (v := 2) hx hb dL_law_916 (by decide) ?_
  refine lv_iadd hx hb dL_law_917 ?_
  refine va_sld hx hb hX hbl hbA hS (lw_in hi hL (by decide)) dL_law_918 ?_
  refine xlcall (R := xR_X9_sleeps) (as := [.int (xs (nI i + 1).toNatClampNeg), .int (xs (nI i + 2).toNatClampNeg)]) (s1 := t2) (r := some (.long r)) (wo := xw cI cZ ad1 xFL t1) (ad := ad2) (rest := [.long r]) xMLk (List.mem_of_getElem? (i := 181) rfl) (xTr.end (ok_X9_sleeps (xs (nI i + 1).toNatClampNeg) (xs (nI i + 2).toNatClampNeg) s2) e2 rfl) (Nat.le_of_ble_eq_true rfl) rfl rfl (by decide) (xin 1335 (by decide +kernel) (by decide +kernel)) rfl hx hb hml hown hts hA hE2 hK hP2 hD2 hP1 hdis.symm hS (Nat.le_of_ble_eq_true rfl) (Nat.le_of_ble_eq_true rfl) (Nat.le_of_ble_eq_true rfl) (Nat.le_of_ble_eq_true rfl) hl.1 rfl (Nat.le_of_ble_eq_true rfl) dL_law_919 (fun H locs hP2 hD2 hP1 hdis hS => ?_)
  refine W.lcmp hx hb dL_law_922 ?_
  refine lv_if_eq (tgt := 1256) hx hb dL_law_923 (by decide) (fun _ => ?_) (fun q => absurd ((lg_cmp_eq r r).mpr rfl) q)
  exact nx t1 t2 H locs hJ ⟨hP1, hD1, hP2, hD2, hdis.symm, hS⟩
set_option maxHeartbeats 4000000 in
set_option maxRecDepth 100000 in
theorem law_day {p : Program} {l : Launch} {e : Env} {s : State} {m : MethodId} {below : List Frame} {meth : Method} {c : Code} {b L : Nat} {xs : Nat → Int32} {D : va_G} {cI cZ : ClassId} {ad1 ad2 : Nat → Nat} {Inv : xS → xS → Prop} {i : Nat} {s1 s2 : xS} {H : Heap} {locs : List Loc} {ls : Array Slot} (hh : lh_day Inv) (hL : L ≤ 384) (C : lw_C p s m meth c b L xs D cI cZ ad1 ad2) (hi : i + 6 ≤ L) (hI : Inv s1 s2) (hw : lw_S s D cI cZ ad1 ad2 s1 s2 H locs) (hl : lv_has ls 4 [(0, .ref b), (1, .ref (ad1 0)), (2, .ref (ad2 0)), (3, .int (nI i))])
    (nx : ∀ (t1 t2 : xS) (H : Heap) (locs : List Loc), Inv t1 t2 → lw_S s D cI cZ ad1 ad2 t1 t2 H locs → W p l e room_1 s m #[Value.ref b] below meth c H locs 73 2382 (lw_Z below #[Value.ref b] s) (F0 m 1256 ls [])) : W p l e room_1 s m #[Value.ref b] below meth c H locs 73 2382 (lw_Z below #[Value.ref b] s) (F0 m 928 ls []) := by
  obtain ⟨⟨hx, hb, hr, hml, hown, hts0, hX, hbl, hlocks, hgv⟩, hK, hE1, hE2⟩ := C
  obtain ⟨hP1, hD1, hP2, hD2, hdis, hS⟩ := hw
  have hts : ∀ w ∈ xTg, w.before #[Value.ref b] s = true := fun w hw => hts0 w (List.mem_filter.mp hw).1
  have hA : ∀ q : Nat, s.heap.size ≤ q → (fun q : Nat => s.heap.size ≤ q) q := fun _ h => h
  have hbA : ¬ (fun q : Nat => s.heap.size ≤ q) b := Nat.not_le.mpr hbl
  obtain ⟨r, t1, t2, e1, e2, hJ⟩ := hh (xs (nI i + 1).toNatClampNeg) (xs (nI i + 2).toNatClampNeg) (xs (nI i + 3).toNatClampNeg) s1 s2 hI
  refine lv_aload_n hx hb dL_law_928 rfl (lv_at hl 1 rfl) ?_
  refine lv_aload_n hx hb dL_law_929 rfl (lv_at hl 0 rfl) ?_
  refine lv_iload_n hx hb dL_law_930 rfl (lv_at hl 3 rfl) ?_
  refine lv_iconst (v := 1) hx hb dL_law_931 (by decide) ?_
  refine lv_iadd hx hb dL_law_932 ?_
  refine va_sld hx hb hX hbl hbA hS (lw_in hi hL (by decide)) dL_law_933 ?_
  refine lv_aload_n hx hb dL_law_934 rfl (lv_at hl 0 rfl) ?_
  refine lv_iload_n hx hb dL_law_935 rfl (lv_at hl 3 rfl) ?_
  refine lv_iconst (v := 2) hx hb dL_law_936 (by decide) ?_
  refine lv_iadd hx hb dL_law_937 ?_
  refine va_sld hx hb hX hbl hbA hS (lw_in hi hL (by decide)) dL_law_938 ?_
  refine lv_aload_n hx hb dL_law_939 rfl (lv_at hl 0 rfl) ?_
  refine lv_iload_n hx hb dL_law_940 rfl (lv_at hl 3 rfl) ?_
  refine lv_iconst (v := 3) hx hb dL_law_941 (by decide) ?_
  refine lv_iadd hx hb dL_law_942 ?_
  refine va_sld hx hb hX hbl hbA hS (lw_in hi hL (by decide)) dL_law_943 ?_
  refine xlcall (R := xR_X8_day) (as := [.int (xs (nI i + 1).toNatClampNeg), .int (xs (nI i + 2).toNatClampNeg), .int (xs (nI i + 3).toNatClampNeg)]) (s1 := t1) (r := some (.int r)) (wo := xw cI cZ ad2 xML s2) (ad := ad1) (rest := []) xFLk (List.mem_of_getElem? (i := 68) rfl) (xTr.end (ok_X8_day (xs (nI i + 1).toNatClampNeg) (xs (nI i + 2).toNatClampNeg) (xs (nI i + 3).toNatClampNeg) s1) e1 rfl) (Nat.le_of_ble_eq_true rfl) rfl rfl (by decide) (xin 799 (by decide +kernel) (by decide +kernel)) rfl hx hb hml hown hts hA hE1 hK hP1 hD1 hP2 hdis hS (Nat.le_of_ble_eq_true rfl) (Nat.le_of_ble_eq_true rfl) (Nat.le_of_ble_eq_true rfl) (Nat.le_of_ble_eq_true rfl) hl.1 rfl (Nat.le_of_ble_eq_true rfl) dL_law_944 (fun H locs hP1 hD1 hP2 hdis hS => ?_)
  refine lv_aload_n hx hb dL_law_947 rfl (lv_at hl 2 rfl) ?_
  refine lv_aload_n hx hb dL_law_948 rfl (lv_at hl 0 rfl) ?_
  refine lv_iload_n hx hb dL_law_949 rfl (lv_at hl 3 rfl) ?_
  refine lv_iconst (v := 1) hx hb dL_law_950 (by decide) ?_
  refine lv_iadd hx hb dL_law_951 ?_
  refine va_sld hx hb hX hbl hbA hS (lw_in hi hL (by decide)) dL_law_952 ?_
  refine lv_aload_n hx hb dL_law_953 rfl (lv_at hl 0 rfl) ?_
  refine lv_iload_n hx hb dL_law_954 rfl (lv_at hl 3 rfl) ?_
  refine lv_iconst (v := 2) hx hb dL_law_955 (by decide) ?_
  refine lv_iadd hx hb dL_law_956 ?_
  refine va_sld hx hb hX hbl hbA hS (lw_in hi hL (by decide)) dL_law_957 ?_
  refine lv_aload_n hx hb dL_law_958 rfl (lv_at hl 0 rfl) ?_
  refine lv_iload_n hx hb dL_law_959 rfl (lv_at hl 3 rfl) ?_
  refine lv_iconst (v := 3) hx hb dL_law_960 (by decide) ?_
  refine lv_iadd hx hb dL_law_961 ?_
  refine va_sld hx hb hX hbl hbA hS (lw_in hi hL (by decide)) dL_law_962 ?_
  refine xlcall (R := xR_X9_day) (as := [.int (xs (nI i + 1).toNatClampNeg), .int (xs (nI i + 2).toNatClampNeg), .int (xs (nI i + 3).toNatClampNeg)]) (s1 := t2) (r := some (.int r)) (wo := xw cI cZ ad1 xFL t1) (ad := ad2) (rest := [.int r]) xMLk (List.mem_of_getElem? (i := 184) rfl) (xTr.end (ok_X9_day (xs (nI i + 1).toNatClampNeg) (xs (nI i + 2).toNatClampNeg) (xs (nI i + 3).toNatClampNeg) s2) e2 rfl) (Nat.le_of_ble_eq_true rfl) rfl rfl (by decide) (xin 1350 (by decide +kernel) (by decide +kernel)) rfl hx hb hml hown hts hA hE2 hK hP2 hD2 hP1 hdis.symm hS (Nat.le_of_ble_eq_true rfl) (Nat.le_of_ble_eq_true rfl) (Nat.le_of_ble_eq_true rfl) (Nat.le_of_ble_eq_true rfl) hl.1 rfl (Nat.le_of_ble_eq_true rfl) dL_law_963 (fun H locs hP2 hD2 hP1 hdis hS => ?_)
  refine lv_icmp_eq (tgt := 1256) hx hb dL_law_966 (by decide) (fun _ => ?_) (fun q => absurd rfl q)
  exact nx t1 t2 H locs hJ ⟨hP1, hD1, hP2, hD2, hdis.symm, hS⟩
set_option maxHeartbeats 4000000 in
set_option maxRecDepth 100000 in
theorem law_sheet {p : Program} {l : Launch} {e : Env} {s : State} {m : MethodId} {below : List Frame} {meth : Method} {c : Code} {b L : Nat} {xs : Nat → Int32} {D : va_G} {cI cZ : ClassId} {ad1 ad2 : Nat → Nat} {Inv : xS → xS → Prop} {i : Nat} {s1 s2 : xS} {H : Heap} {locs : List Loc} {ls : Array Slot} (hh : lh_sheet Inv) (hL : L ≤ 384) (C : lw_C p s m meth c b L xs D cI cZ ad1 ad2) (hi : i + 6 ≤ L) (hI : Inv s1 s2) (hw : lw_S s D cI cZ ad1 ad2 s1 s2 H locs) (hl : lv_has ls 4 [(0, .ref b), (1, .ref (ad1 0)), (2, .ref (ad2 0)), (3, .int (nI i))])
    (nx : ∀ (t1 t2 : xS) (H : Heap) (locs : List Loc), Inv t1 t2 → lw_S s D cI cZ ad1 ad2 t1 t2 H locs → W p l e room_1 s m #[Value.ref b] below meth c H locs 73 2382 (lw_Z below #[Value.ref b] s) (F0 m 1256 ls [])) : W p l e room_1 s m #[Value.ref b] below meth c H locs 73 2382 (lw_Z below #[Value.ref b] s) (F0 m 971 ls []) := by
  obtain ⟨⟨hx, hb, hr, hml, hown, hts0, hX, hbl, hlocks, hgv⟩, hK, hE1, hE2⟩ := C
  obtain ⟨hP1, hD1, hP2, hD2, hdis, hS⟩ := hw
  have hts : ∀ w ∈ xTg, w.before #[Value.ref b] s = true := fun w hw => hts0 w (List.mem_filter.mp hw).1
  have hA : ∀ q : Nat, s.heap.size ≤ q → (fun q : Nat => s.heap.size ≤ q) q := fun _ h => h
  have hbA : ¬ (fun q : Nat => s.heap.size ≤ q) b := Nat.not_le.mpr hbl
  obtain ⟨r, t1, t2, e1, e2, hJ⟩ := hh (xs (nI i + 1).toNatClampNeg) (xs (nI i + 2).toNatClampNeg) (xs (nI i + 3).toNatClampNeg) s1 s2 hI
  refine lv_aload_n hx hb dL_law_971 rfl (lv_at hl 1 rfl) ?_
  refine lv_aload_n hx hb dL_law_972 rfl (lv_at hl 0 rfl) ?_
  refine lv_iload_n hx hb dL_law_973 rfl (lv_at hl 3 rfl) ?_
  refine lv_iconst (v := 1) hx hb dL_law_974 (by decide) ?_
  refine lv_iadd hx hb dL_law_975 ?_
  refine va_sld hx hb hX hbl hbA hS (lw_in hi hL (by decide)) dL_law_976 ?_
  refine lv_aload_n hx hb dL_law_977 rfl (lv_at hl 0 rfl) ?_
  refine lv_iload_n hx hb dL_law_978 rfl (lv_at hl 3 rfl) ?_
  refine lv_iconst (v := 2) hx hb dL_law_979 (by decide) ?_
  refine lv_iadd hx hb dL_law_980 ?_
  refine va_sld hx hb hX hbl hbA hS (lw_in hi hL (by decide)) dL_law_981 ?_
  refine lv_aload_n hx hb dL_law_982 rfl (lv_at hl 0 rfl) ?_
  refine lv_iload_n hx hb dL_law_983 rfl (lv_at hl 3 rfl) ?_
  refine lv_iconst (v := 3) hx hb dL_law_984 (by decide) ?_
  refine lv_iadd hx hb dL_law_985 ?_
  refine va_sld hx hb hX hbl hbA hS (lw_in hi hL (by decide)) dL_law_986 ?_
  refine xlcall (R := xR_X8_sheet) (as := [.int (xs (nI i + 1).toNatClampNeg), .int (xs (nI i + 2).toNatClampNeg), .int (xs (nI i + 3).toNatClampNeg)]) (s1 := t1) (r := some (.int r)) (wo := xw cI cZ ad2 xML s2) (ad := ad1) (rest := []) xFLk (List.mem_of_getElem? (i := 69) rfl) (xTr.end (ok_X8_sheet (xs (nI i + 1).toNatClampNeg) (xs (nI i + 2).toNatClampNeg) (xs (nI i + 3).toNatClampNeg) s1) e1 rfl) (Nat.le_of_ble_eq_true rfl) rfl rfl (by decide) (xin 818 (by decide +kernel) (by decide +kernel)) rfl hx hb hml hown hts hA hE1 hK hP1 hD1 hP2 hdis hS (Nat.le_of_ble_eq_true rfl) (Nat.le_of_ble_eq_true rfl) (Nat.le_of_ble_eq_true rfl) (Nat.le_of_ble_eq_true rfl) hl.1 rfl (Nat.le_of_ble_eq_true rfl) dL_law_987 (fun H locs hP1 hD1 hP2 hdis hS => ?_)
  refine lv_aload_n hx hb dL_law_990 rfl (lv_at hl 2 rfl) ?_
  refine lv_aload_n hx hb dL_law_991 rfl (lv_at hl 0 rfl) ?_
  refine lv_iload_n hx hb dL_law_992 rfl (lv_at hl 3 rfl) ?_
  refine lv_iconst (v := 1) hx hb dL_law_993 (by decide) ?_
  refine lv_iadd hx hb dL_law_994 ?_
  refine va_sld hx hb hX hbl hbA hS (lw_in hi hL (by decide)) dL_law_995 ?_
  refine lv_aload_n hx hb dL_law_996 rfl (lv_at hl 0 rfl) ?_
  refine lv_iload_n hx hb dL_law_997 rfl (lv_at hl 3 rfl) ?_
  refine lv_iconst (v := 2) hx hb dL_law_998 (by decide) ?_
  refine lv_iadd hx hb dL_law_999 ?_
  refine va_sld hx hb hX hbl hbA hS (lw_in hi hL (by decide)) dL_law_1000 ?_
  refine lv_aload_n hx hb dL_law_1001 rfl (lv_at hl 0 rfl) ?_
  refine lv_iload_n hx hb dL_law_1002 rfl (lv_at hl 3 rfl) ?_
  refine lv_iconst (v := 3) hx hb dL_law_1003 (by decide) ?_
  refine lv_iadd hx hb dL_law_1004 ?_
  refine va_sld hx hb hX hbl hbA hS (lw_in hi hL (by decide)) dL_law_1005 ?_
  refine xlcall (R := xR_X9_sheet) (as := [.int (xs (nI i + 1).toNatClampNeg), .int (xs (nI i + 2).toNatClampNeg), .int (xs (nI i + 3).toNatClampNeg)]) (s1 := t2) (r := some (.int r)) (wo := xw cI cZ ad1 xFL t1) (ad := ad2) (rest := [.int r]) xMLk (List.mem_of_getElem? (i := 187) rfl) (xTr.end (ok_X9_sheet (xs (nI i + 1).toNatClampNeg) (xs (nI i + 2).toNatClampNeg) (xs (nI i + 3).toNatClampNeg) s2) e2 rfl) (Nat.le_of_ble_eq_true rfl) rfl rfl (by decide) (xin 1363 (by decide +kernel) (by decide +kernel)) rfl hx hb hml hown hts hA hE2 hK hP2 hD2 hP1 hdis.symm hS (Nat.le_of_ble_eq_true rfl) (Nat.le_of_ble_eq_true rfl) (Nat.le_of_ble_eq_true rfl) (Nat.le_of_ble_eq_true rfl) hl.1 rfl (Nat.le_of_ble_eq_true rfl) dL_law_1006 (fun H locs hP2 hD2 hP1 hdis hS => ?_)
  refine lv_icmp_eq (tgt := 1256) hx hb dL_law_1009 (by decide) (fun _ => ?_) (fun q => absurd rfl q)
  exact nx t1 t2 H locs hJ ⟨hP1, hD1, hP2, hD2, hdis.symm, hS⟩
set_option maxHeartbeats 4000000 in
set_option maxRecDepth 100000 in
theorem law_lose {p : Program} {l : Launch} {e : Env} {s : State} {m : MethodId} {below : List Frame} {meth : Method} {c : Code} {b L : Nat} {xs : Nat → Int32} {D : va_G} {cI cZ : ClassId} {ad1 ad2 : Nat → Nat} {Inv : xS → xS → Prop} {i : Nat} {s1 s2 : xS} {H : Heap} {locs : List Loc} {ls : Array Slot} (hh : lh_lose Inv) (hL : L ≤ 384) (C : lw_C p s m meth c b L xs D cI cZ ad1 ad2) (hi : i + 6 ≤ L) (hI : Inv s1 s2) (hw : lw_S s D cI cZ ad1 ad2 s1 s2 H locs) (hl : lv_has ls 4 [(0, .ref b), (1, .ref (ad1 0)), (2, .ref (ad2 0)), (3, .int (nI i))])
    (nx : ∀ (t1 t2 : xS) (H : Heap) (locs : List Loc), Inv t1 t2 → lw_S s D cI cZ ad1 ad2 t1 t2 H locs → W p l e room_1 s m #[Value.ref b] below meth c H locs 73 2382 (lw_Z below #[Value.ref b] s) (F0 m 1256 ls [])) : W p l e room_1 s m #[Value.ref b] below meth c H locs 73 2382 (lw_Z below #[Value.ref b] s) (F0 m 1014 ls []) := by
  obtain ⟨⟨hx, hb, hr, hml, hown, hts0, hX, hbl, hlocks, hgv⟩, hK, hE1, hE2⟩ := C
  obtain ⟨hP1, hD1, hP2, hD2, hdis, hS⟩ := hw
  have hts : ∀ w ∈ xTg, w.before #[Value.ref b] s = true := fun w hw => hts0 w (List.mem_filter.mp hw).1
  have hA : ∀ q : Nat, s.heap.size ≤ q → (fun q : Nat => s.heap.size ≤ q) q := fun _ h => h
  have hbA : ¬ (fun q : Nat => s.heap.size ≤ q) b := Nat.not_le.mpr hbl
  obtain ⟨r, t1, t2, e1, e2, hJ⟩ := hh (xs (nI i + 1).toNatClampNeg) s1 s2 hI
  refine lv_aload_n hx hb dL_law_1014 rfl (lv_at hl 1 rfl) ?_
  refine lv_aload_n hx hb dL_law_1015 rfl (lv_at hl 0 rfl) ?_
  refine lv_iload_n hx hb dL_law_1016 rfl (lv_at hl 3 rfl) ?_
  refine lv_iconst (v := 1) hx hb dL_law_1017 (by decide) ?_
  refine lv_iadd hx hb dL_law_1018 ?_
  refine va_sld hx hb hX hbl hbA hS (lw_in hi hL (by decide)) dL_law_1019 ?_
  refine xlcall (R := xR_X8_lose) (as := [.int (xs (nI i + 1).toNatClampNeg)]) (s1 := t1) (r := some (.int r)) (wo := xw cI cZ ad2 xML s2) (ad := ad1) (rest := []) xFLk (List.mem_of_getElem? (i := 70) rfl) (xTr.end (ok_X8_lose (xs (nI i + 1).toNatClampNeg) s1) e1 rfl) (Nat.le_of_ble_eq_true rfl) rfl rfl (by decide) (xin 826 (by decide +kernel) (by decide +kernel)) rfl hx hb hml hown hts hA hE1 hK hP1 hD1 hP2 hdis hS (Nat.le_of_ble_eq_true rfl) (Nat.le_of_ble_eq_true rfl) (Nat.le_of_ble_eq_true rfl) (Nat.le_of_ble_eq_true rfl) hl.1 rfl (Nat.le_of_ble_eq_true rfl) dL_law_1020 (fun H locs hP1 hD1 hP2 hdis hS => ?_)
  refine lv_aload_n hx hb dL_law_1023 rfl (lv_at hl 2 rfl) ?_
  refine lv_aload_n hx hb dL_law_1024 rfl (lv_at hl 0 rfl) ?_
  refine lv_iload_n hx hb dL_law_1025 rfl (lv_at hl 3 rfl) ?_
  refine lv_iconst (v := 1) hx hb dL_law_1026 (by decide) ?_
  refine lv_iadd hx hb dL_law_1027 ?_
  refine va_sld hx hb hX hbl hbA hS (lw_in hi hL (by decide)) dL_law_1028 ?_
  refine xlcall (R := xR_X9_lose) (as := [.int (xs (nI i + 1).toNatClampNeg)]) (s1 := t2) (r := some (.int r)) (wo := xw cI cZ ad1 xFL t1) (ad := ad2) (rest := [.int r]) xMLk (List.mem_of_getElem? (i := 188) rfl) (xTr.end (ok_X9_lose (xs (nI i + 1).toNatClampNeg) s2) e2 rfl) (Nat.le_of_ble_eq_true rfl) rfl rfl (by decide) (xin 1367 (by decide +kernel) (by decide +kernel)) rfl hx hb hml hown hts hA hE2 hK hP2 hD2 hP1 hdis.symm hS (Nat.le_of_ble_eq_true rfl) (Nat.le_of_ble_eq_true rfl) (Nat.le_of_ble_eq_true rfl) (Nat.le_of_ble_eq_true rfl) hl.1 rfl (Nat.le_of_ble_eq_true rfl) dL_law_1029 (fun H locs hP2 hD2 hP1 hdis hS => ?_)
  refine lv_icmp_eq (tgt := 1256) hx hb dL_law_1032 (by decide) (fun _ => ?_) (fun q => absurd rfl q)
  exact nx t1 t2 H locs hJ ⟨hP1, hD1, hP2, hD2, hdis.symm, hS⟩
set_option maxHeartbeats 4000000 in
set_option maxRecDepth 100000 in
theorem law_put {p : Program} {l : Launch} {e : Env} {s : State} {m : MethodId} {below : List Frame} {meth : Method} {c : Code} {b L : Nat} {xs : Nat → Int32} {D : va_G} {cI cZ : ClassId} {ad1 ad2 : Nat → Nat} {Inv : xS → xS → Prop} {i : Nat} {s1 s2 : xS} {H : Heap} {locs : List Loc} {ls : Array Slot} (hh : lh_put Inv) (hL : L ≤ 384) (C : lw_C p s m meth c b L xs D cI cZ ad1 ad2) (hi : i + 6 ≤ L) (hI : Inv s1 s2) (hw : lw_S s D cI cZ ad1 ad2 s1 s2 H locs) (hl : lv_has ls 4 [(0, .ref b), (1, .ref (ad1 0)), (2, .ref (ad2 0)), (3, .int (nI i))])
    (nx : ∀ (t1 t2 : xS) (H : Heap) (locs : List Loc), Inv t1 t2 → lw_S s D cI cZ ad1 ad2 t1 t2 H locs → W p l e room_1 s m #[Value.ref b] below meth c H locs 73 2382 (lw_Z below #[Value.ref b] s) (F0 m 1256 ls [])) : W p l e room_1 s m #[Value.ref b] below meth c H locs 73 2382 (lw_Z below #[Value.ref b] s) (F0 m 1037 ls []) := by
  obtain ⟨⟨hx, hb, hr, hml, hown, hts0, hX, hbl, hlocks, hgv⟩, hK, hE1, hE2⟩ := C
  obtain ⟨hP1, hD1, hP2, hD2, hdis, hS⟩ := hw
  have hts : ∀ w ∈ xTg, w.before #[Value.ref b] s = true := fun w hw => hts0 w (List.mem_filter.mp hw).1
  have hA : ∀ q : Nat, s.heap.size ≤ q → (fun q : Nat => s.heap.size ≤ q) q := fun _ h => h
  have hbA : ¬ (fun q : Nat => s.heap.size ≤ q) b := Nat.not_le.mpr hbl
  obtain ⟨r, t1, t2, e1, e2, hJ⟩ := hh (xs (nI i + 1).toNatClampNeg) (xs (nI i + 2).toNatClampNeg) (xs (nI i + 3).toNatClampNeg) (xs (nI i + 4).toNatClampNeg) s1 s2 hI
  refine lv_aload_n hx hb dL_law_1037 rfl (lv_at hl 1 rfl) ?_
  refine lv_aload_n hx hb dL_law_1038 rfl (lv_at hl 0 rfl) ?_
  refine lv_iload_n hx hb dL_law_1039 rfl (lv_at hl 3 rfl) ?_
  refine lv_iconst (v := 1) hx hb dL_law_1040 (by decide) ?_
  refine lv_iadd hx hb dL_law_1041 ?_
  refine va_sld hx hb hX hbl hbA hS (lw_in hi hL (by decide)) dL_law_1042 ?_
  refine lv_aload_n hx hb dL_law_1043 rfl (lv_at hl 0 rfl) ?_
  refine lv_iload_n hx hb dL_law_1044 rfl (lv_at hl 3 rfl) ?_
  refine lv_iconst (v := 2) hx hb dL_law_1045 (by decide) ?_
  refine lv_iadd hx hb dL_law_1046 ?_
  refine va_sld hx hb hX hbl hbA hS (lw_in hi hL (by decide)) dL_law_1047 ?_
  refine lv_aload_n hx hb dL_law_1048 rfl (lv_at hl 0 rfl) ?_
  refine lv_iload_n hx hb dL_law_1049 rfl (lv_at hl 3 rfl) ?_
  refine lv_iconst (v := 3) hx hb dL_law_1050 (by decide) ?_
  refine lv_iadd hx hb dL_law_1051 ?_
  refine va_sld hx hb hX hbl hbA hS (lw_in hi hL (by decide)) dL_law_1052 ?_
  refine lv_aload_n hx hb dL_law_1053 rfl (lv_at hl 0 rfl) ?_
  refine lv_iload_n hx hb dL_law_1054 rfl (lv_at hl 3 rfl) ?_
  refine lv_iconst (v := 4) hx hb dL_law_1055 (by decide) ?_
  refine lv_iadd hx hb dL_law_1056 ?_
  refine va_sld hx hb hX hbl hbA hS (lw_in hi hL (by decide)) dL_law_1057 ?_
  refine xlcall (R := xR_X8_put) (as := [.int (xs (nI i + 1).toNatClampNeg), .int (xs (nI i + 2).toNatClampNeg), .int (xs (nI i + 3).toNatClampNeg), .int (xs (nI i + 4).toNatClampNeg)]) (s1 := t1) (r := some (.int r)) (wo := xw cI cZ ad2 xML s2) (ad := ad1) (rest := []) xFLk (List.mem_of_getElem? (i := 71) rfl) (xTr.end (ok_X8_put (xs (nI i + 1).toNatClampNeg) (xs (nI i + 2).toNatClampNeg) (xs (nI i + 3).toNatClampNeg) (xs (nI i + 4).toNatClampNeg) s1) e1 rfl) (Nat.le_of_ble_eq_true rfl) rfl rfl (by decide) (xin 830 (by decide +kernel) (by decide +kernel)) rfl hx hb hml hown hts hA hE1 hK hP1 hD1 hP2 hdis hS (Nat.le_of_ble_eq_true rfl) (Nat.le_of_ble_eq_true rfl) (Nat.le_of_ble_eq_true rfl) (Nat.le_of_ble_eq_true rfl) hl.1 rfl (Nat.le_of_ble_eq_true rfl) dL_law_1058 (fun H locs hP1 hD1 hP2 hdis hS => ?_)
  refine lv_aload_n hx hb dL_law_1061 rfl (lv_at hl 2 rfl) ?_
  refine lv_aload_n hx hb dL_law_1062 rfl (lv_at hl 0 rfl) ?_
  refine lv_iload_n hx hb dL_law_1063 rfl (lv_at hl 3 rfl) ?_
  refine lv_iconst (v := 1) hx hb dL_law_1064 (by decide) ?_
  refine lv_iadd hx hb dL_law_1065 ?_
  refine va_sld hx hb hX hbl hbA hS (lw_in hi hL (by decide)) dL_law_1066 ?_
  refine lv_aload_n hx hb dL_law_1067 rfl (lv_at hl 0 rfl) ?_
  refine lv_iload_n hx hb dL_law_1068 rfl (lv_at hl 3 rfl) ?_
  refine lv_iconst (v := 2) hx hb dL_law_1069 (by decide) ?_
  refine lv_iadd hx hb dL_law_1070 ?_
  refine va_sld hx hb hX hbl hbA hS (lw_in hi hL (by decide)) dL_law_1071 ?_
  refine lv_aload_n hx hb dL_law_1072 rfl (lv_at hl 0 rfl) ?_
  refine lv_iload_n hx hb dL_law_1073 rfl (lv_at hl 3 rfl) ?_
  refine lv_iconst (v := 3) hx hb dL_law_1074 (by decide) ?_
  refine lv_iadd hx hb dL_law_1075 ?_
  refine va_sld hx hb hX hbl hbA hS (lw_in hi hL (by decide)) dL_law_1076 ?_
  refine lv_aload_n hx hb dL_law_1077 rfl (lv_at hl 0 rfl) ?_
  refine lv_iload_n hx hb dL_law_1078 rfl (lv_at hl 3 rfl) ?_
  refine lv_iconst (v := 4) hx hb dL_law_1079 (by decide) ?_
  refine lv_iadd hx hb dL_law_1080 ?_
  refine va_sld hx hb hX hbl hbA hS (lw_in hi hL (by decide)) dL_law_1081 ?_
  refine xlcall (R := xR_X9_put) (as := [.int (xs (nI i + 1).toNatClampNeg), .int (xs (nI i + 2).toNatClampNeg), .int (xs (nI i + 3).toNatClampNeg), .int (xs (nI i + 4).toNatClampNeg)]) (s1 := t2) (r := some (.int r)) (wo := xw cI cZ ad1 xFL t1) (ad := ad2) (rest := [.int r]) xMLk (List.mem_of_getElem? (i := 191) rfl) (xTr.end (ok_X9_put (xs (nI i + 1).toNatClampNeg) (xs (nI i + 2).toNatClampNeg) (xs (nI i + 3).toNatClampNeg) (xs (nI i + 4).toNatClampNeg) s2) e2 rfl) (Nat.le_of_ble_eq_true rfl) rfl rfl (by decide) (xin 1371 (by decide +kernel) (by decide +kernel)) rfl hx hb hml hown hts hA hE2 hK hP2 hD2 hP1 hdis.symm hS (Nat.le_of_ble_eq_true rfl) (Nat.le_of_ble_eq_true rfl) (Nat.le_of_ble_eq_true rfl) (Nat.le_of_ble_eq_true rfl) hl.1 rfl (Nat.le_of_ble_eq_true rfl) dL_law_1082 (fun H locs hP2 hD2 hP1 hdis hS => ?_)
  refine lv_icmp_eq (tgt := 1256) hx hb dL_law_1085 (by decide) (fun _ => ?_) (fun q => absurd rfl q)
  exact nx t1 t2 H locs hJ ⟨hP1, hD1, hP2, hD2, hdis.symm, hS⟩
set_option maxHeartbeats 4000000 in
set_option maxRecDepth 100000 in
theorem law_get {p : Program} {l : Launch} {e : Env} {s : State} {m : MethodId} {below : List Frame} {meth : Method} {c : Code} {b L : Nat} {xs : Nat → Int32} {D : va_G} {cI cZ : ClassId} {ad1 ad2 : Nat → Nat} {Inv : xS → xS → Prop} {i : Nat} {s1 s2 : xS} {H : Heap} {locs : List Loc} {ls : Array Slot} (hh : lh_get Inv) (hL : L ≤ 384) (C : lw_C p s m meth c b L xs D cI cZ ad1 ad2) (hi : i + 6 ≤ L) (hI : Inv s1 s2) (hw : lw_S s D cI cZ ad1 ad2 s1 s2 H locs) (hl : lv_has ls 4 [(0, .ref b), (1, .ref (ad1 0)), (2, .ref (ad2 0)), (3, .int (nI i))])
    (nx : ∀ (t1 t2 : xS) (H : Heap) (locs : List Loc), Inv t1 t2 → lw_S s D cI cZ ad1 ad2 t1 t2 H locs → W p l e room_1 s m #[Value.ref b] below meth c H locs 73 2382 (lw_Z below #[Value.ref b] s) (F0 m 1256 ls [])) : W p l e room_1 s m #[Value.ref b] below meth c H locs 73 2382 (lw_Z below #[Value.ref b] s) (F0 m 1090 ls []) := by
  obtain ⟨⟨hx, hb, hr, hml, hown, hts0, hX, hbl, hlocks, hgv⟩, hK, hE1, hE2⟩ := C
  obtain ⟨hP1, hD1, hP2, hD2, hdis, hS⟩ := hw
  have hts : ∀ w ∈ xTg, w.before #[Value.ref b] s = true := fun w hw => hts0 w (List.mem_filter.mp hw).1
  have hA : ∀ q : Nat, s.heap.size ≤ q → (fun q : Nat => s.heap.size ≤ q) q := fun _ h => h
  have hbA : ¬ (fun q : Nat => s.heap.size ≤ q) b := Nat.not_le.mpr hbl
  obtain ⟨r, t1, t2, e1, e2, hJ⟩ := hh (xs (nI i + 1).toNatClampNeg) (xs (nI i + 2).toNatClampNeg) (xs (nI i + 3).toNatClampNeg) s1 s2 hI
  refine lv_aload_n hx hb dL_law_1090 rfl (lv_at hl 1 rfl) ?_
  refine lv_aload_n hx hb dL_law_1091 rfl (lv_at hl 0 rfl) ?_
  refine lv_iload_n hx hb dL_law_1092 rfl (lv_at hl 3 rfl) ?_
  refine lv_iconst (v := 1) hx hb dL_law_1093 (by decide) ?_
  refine lv_iadd hx hb dL_law_1094 ?_
  refine va_sld hx hb hX hbl hbA hS (lw_in hi hL (by decide)) dL_law_1095 ?_
  refine lv_aload_n hx hb dL_law_1096 rfl (lv_at hl 0 rfl) ?_
  refine lv_iload_n hx hb dL_law_1097 rfl (lv_at hl 3 rfl) ?_
  refine lv_iconst (v := 2) hx hb dL_law_1098 (by decide) ?_
  refine lv_iadd hx hb dL_law_1099 ?_
  refine va_sld hx hb hX hbl hbA hS (lw_in hi hL (by decide)) dL_law_1100 ?_
  refine lv_aload_n hx hb dL_law_1101 rfl (lv_at hl 0 rfl) ?_
  refine lv_iload_n hx hb dL_law_1102 rfl (lv_at hl 3 rfl) ?_
  refine lv_iconst (v := 3) hx hb dL_law_1103 (by decide) ?_
  refine lv_iadd hx hb dL_law_1104 ?_
  refine va_sld hx hb hX hbl hbA hS (lw_in hi hL (by decide)) dL_law_1105 ?_
  refine xlcall (R := xR_X8_get) (as := [.int (xs (nI i + 1).toNatClampNeg), .int (xs (nI i + 2).toNatClampNeg), .int (xs (nI i + 3).toNatClampNeg)]) (s1 := t1) (r := some (.int r)) (wo := xw cI cZ ad2 xML s2) (ad := ad1) (rest := []) xFLk (List.mem_of_getElem? (i := 72) rfl) (xTr.end (ok_X8_get (xs (nI i + 1).toNatClampNeg) (xs (nI i + 2).toNatClampNeg) (xs (nI i + 3).toNatClampNeg) s1) e1 rfl) (Nat.le_of_ble_eq_true rfl) rfl rfl (by decide) (xin 846 (by decide +kernel) (by decide +kernel)) rfl hx hb hml hown hts hA hE1 hK hP1 hD1 hP2 hdis hS (Nat.le_of_ble_eq_true rfl) (Nat.le_of_ble_eq_true rfl) (Nat.le_of_ble_eq_true rfl) (Nat.le_of_ble_eq_true rfl) hl.1 rfl (Nat.le_of_ble_eq_true rfl) dL_law_1106 (fun H locs hP1 hD1 hP2 hdis hS => ?_)
  refine lv_aload_n hx hb dL_law_1109 rfl (lv_at hl 2 rfl) ?_
  refine lv_aload_n hx hb dL_law_1110 rfl (lv_at hl 0 rfl) ?_
  refine lv_iload_n hx hb dL_law_1111 rfl (lv_at hl 3 rfl) ?_
  refine lv_iconst (v := 1) hx hb dL_law_1112 (by decide) ?_
  refine lv_iadd hx hb dL_law_1113 ?_
  refine va_sld hx hb hX hbl hbA hS (lw_in hi hL (by decide)) dL_law_1114 ?_
  refine lv_aload_n hx hb dL_law_1115 rfl (lv_at hl 0 rfl) ?_
  refine lv_iload_n hx hb dL_law_1116 rfl (lv_at hl 3 rfl) ?_
  refine lv_iconst (v := 2) hx hb dL_law_1117 (by decide) ?_
  refine lv_iadd hx hb dL_law_1118 ?_
  refine va_sld hx hb hX hbl hbA hS (lw_in hi hL (by decide)) dL_law_1119 ?_
  refine lv_aload_n hx hb dL_law_1120 rfl (lv_at hl 0 rfl) ?_
  refine lv_iload_n hx hb dL_law_1121 rfl (lv_at hl 3 rfl) ?_
  refine lv_iconst (v := 3) hx hb dL_law_1122 (by decide) ?_
  refine lv_iadd hx hb dL_law_1123 ?_
  refine va_sld hx hb hX hbl hbA hS (lw_in hi hL (by decide)) dL_law_1124 ?_
  refine xlcall (R := xR_X9_get) (as := [.int (xs (nI i + 1).toNatClampNeg), .int (xs (nI i + 2).toNatClampNeg), .int (xs (nI i + 3).toNatClampNeg)]) (s1 := t2) (r := some (.int r)) (wo := xw cI cZ ad1 xFL t1) (ad := ad2) (rest := [.int r]) xMLk (List.mem_of_getElem? (i := 192) rfl) (xTr.end (ok_X9_get (xs (nI i + 1).toNatClampNeg) (xs (nI i + 2).toNatClampNeg) (xs (nI i + 3).toNatClampNeg) s2) e2 rfl) (Nat.le_of_ble_eq_true rfl) rfl rfl (by decide) (xin 1383 (by decide +kernel) (by decide +kernel)) rfl hx hb hml hown hts hA hE2 hK hP2 hD2 hP1 hdis.symm hS (Nat.le_of_ble_eq_true rfl) (Nat.le_of_ble_eq_true rfl) (Nat.le_of_ble_eq_true rfl) (Nat.le_of_ble_eq_true rfl) hl.1 rfl (Nat.le_of_ble_eq_true rfl) dL_law_1125 (fun H locs hP2 hD2 hP1 hdis hS => ?_)
  refine lv_icmp_eq (tgt := 1256) hx hb dL_law_1128 (by decide) (fun _ => ?_) (fun q => absurd rfl q)
  exact nx t1 t2 H locs hJ ⟨hP1, hD1, hP2, hD2, hdis.symm, hS⟩
set_option maxHeartbeats 4000000 in
set_option maxRecDepth 100000 in
theorem law_copy {p : Program} {l : Launch} {e : Env} {s : State} {m : MethodId} {below : List Frame} {meth : Method} {c : Code} {b L : Nat} {xs : Nat → Int32} {D : va_G} {cI cZ : ClassId} {ad1 ad2 : Nat → Nat} {Inv : xS → xS → Prop} {i : Nat} {s1 s2 : xS} {H : Heap} {locs : List Loc} {ls : Array Slot} (hh : lh_copy Inv) (hL : L ≤ 384) (C : lw_C p s m meth c b L xs D cI cZ ad1 ad2) (hi : i + 6 ≤ L) (hI : Inv s1 s2) (hw : lw_S s D cI cZ ad1 ad2 s1 s2 H locs) (hl : lv_has ls 4 [(0, .ref b), (1, .ref (ad1 0)), (2, .ref (ad2 0)), (3, .int (nI i))])
    (nx : ∀ (t1 t2 : xS) (H : Heap) (locs : List Loc), Inv t1 t2 → lw_S s D cI cZ ad1 ad2 t1 t2 H locs → W p l e room_1 s m #[Value.ref b] below meth c H locs 73 2382 (lw_Z below #[Value.ref b] s) (F0 m 1256 ls [])) : W p l e room_1 s m #[Value.ref b] below meth c H locs 73 2382 (lw_Z below #[Value.ref b] s) (F0 m 1133 ls []) := by
  obtain ⟨⟨hx, hb, hr, hml, hown, hts0, hX, hbl, hlocks, hgv⟩, hK, hE1, hE2⟩ := C
  obtain ⟨hP1, hD1, hP2, hD2, hdis, hS⟩ := hw
  have hts : ∀ w ∈ xTg, w.before #[Value.ref b] s = true := fun w hw => hts0 w (List.mem_filter.mp hw).1
  have hA : ∀ q : Nat, s.heap.size ≤ q → (fun q : Nat => s.heap.size ≤ q) q := fun _ h => h
  have hbA : ¬ (fun q : Nat => s.heap.size ≤ q) b := Nat.not_le.mpr hbl
  obtain ⟨r, t1, t2, e1, e2, hJ⟩ := hh (xs (nI i + 1).toNatClampNeg) (xs (nI i + 2).toNatClampNeg) (xs (nI i + 3).toNatClampNeg) (xs (nI i + 4).toNatClampNeg) (xs (nI i + 5).toNatClampNeg) s1 s2 hI
  refine lv_aload_n hx hb dL_law_1133 rfl (lv_at hl 1 rfl) ?_
  refine lv_aload_n hx hb dL_law_1134 rfl (lv_at hl 0 rfl) ?_
  refine lv_iload_n hx hb dL_law_1135 rfl (lv_at hl 3 rfl) ?_
  refine lv_iconst (v := 1) hx hb dL_law_1136 (by decide) ?_
  refine lv_iadd hx hb dL_law_1137 ?_
  refine va_sld hx hb hX hbl hbA hS (lw_in hi hL (by decide)) dL_law_1138 ?_
  refine lv_aload_n hx hb dL_law_1139 rfl (lv_at hl 0 rfl) ?_
  refine lv_iload_n hx hb dL_law_1140 rfl (lv_at hl 3 rfl) ?_
  refine lv_iconst (v := 2) hx hb dL_law_1141 (by decide) ?_
  refine lv_iadd hx hb dL_law_1142 ?_
  refine va_sld hx hb hX hbl hbA hS (lw_in hi hL (by decide)) dL_law_1143 ?_
  refine lv_aload_n hx hb dL_law_1144 rfl (lv_at hl 0 rfl) ?_
  refine lv_iload_n hx hb dL_law_1145 rfl (lv_at hl 3 rfl) ?_
  refine lv_iconst (v := 3) hx hb dL_law_1146 (by decide) ?_
  refine lv_iadd hx hb dL_law_1147 ?_
  refine va_sld hx hb hX hbl hbA hS (lw_in hi hL (by decide)) dL_law_1148 ?_
  refine lv_aload_n hx hb dL_law_1149 rfl (lv_at hl 0 rfl) ?_
  refine lv_iload_n hx hb dL_law_1150 rfl (lv_at hl 3 rfl) ?_
  refine lv_iconst (v := 4) hx hb dL_law_1151 (by decide) ?_
  refine lv_iadd hx hb dL_law_1152 ?_
  refine va_sld hx hb hX hbl hbA hS (lw_in hi hL (by decide)) dL_law_1153 ?_
  refine lv_aload_n hx hb dL_law_1154 rfl (lv_at hl 0 rfl) ?_
  refine lv_iload_n hx hb dL_law_1155 rfl (lv_at hl 3 rfl) ?_
  refine lv_iconst (v := 5) hx hb dL_law_1156 (by decide) ?_
  refine lv_iadd hx hb dL_law_1157 ?_
  refine va_sld hx hb hX hbl hbA hS (lw_in hi hL (by decide)) dL_law_1158 ?_
  refine xlcall (R := xR_X8_copy) (as := [.int (xs (nI i + 1).toNatClampNeg), .int (xs (nI i + 2).toNatClampNeg), .int (xs (nI i + 3).toNatClampNeg), .int (xs (nI i + 4).toNatClampNeg), .int (xs (nI i + 5).toNatClampNeg)]) (s1 := t1) (r := some (.int r)) (wo := xw cI cZ ad2 xML s2) (ad := ad1) (rest := []) xFLk (List.mem_of_getElem? (i := 73) rfl) (xTr.end (ok_X8_copy (xs (nI i + 1).toNatClampNeg) (xs (nI i + 2).toNatClampNeg) (xs (nI i + 3).toNatClampNeg) (xs (nI i + 4).toNatClampNeg) (xs (nI i + 5).toNatClampNeg) s1) e1 rfl) (Nat.le_of_ble_eq_true rfl) rfl rfl (by decide) (xin 851 (by decide +kernel) (by decide +kernel)) rfl hx hb hml hown hts hA hE1 hK hP1 hD1 hP2 hdis hS (Nat.le_of_ble_eq_true rfl) (Nat.le_of_ble_eq_true rfl) (Nat.le_of_ble_eq_true rfl) (Nat.le_of_ble_eq_true rfl) hl.1 rfl (Nat.le_of_ble_eq_true rfl) dL_law_1159 (fun H locs hP1 hD1 hP2 hdis hS => ?_)
  refine lv_aload_n hx hb dL_law_1162 rfl (lv_at hl 2 rfl) ?_
  refine lv_aload_n hx hb dL_law_1163 rfl (lv_at hl 0 rfl) ?_
  refine lv_iload_n hx hb dL_law_1164 rfl (lv_at hl 3 rfl) ?_
  refine lv_iconst (v := 1) hx hb dL_law_1165 (by decide) ?_
  refine lv_iadd hx hb dL_law_1166 ?_
  refine va_sld hx hb hX hbl hbA hS (lw_in hi hL (by decide)) dL_law_1167 ?_
  refine lv_aload_n hx hb dL_law_1168 rfl (lv_at hl 0 rfl) ?_
  refine lv_iload_n hx hb dL_law_1169 rfl (lv_at hl 3 rfl) ?_
  refine lv_iconst (v := 2) hx hb dL_law_1170 (by decide) ?_
  refine lv_iadd hx hb dL_law_1171 ?_
  refine va_sld hx hb hX hbl hbA hS (lw_in hi hL (by decide)) dL_law_1172 ?_
  refine lv_aload_n hx hb dL_law_1173 rfl (lv_at hl 0 rfl) ?_
  refine lv_iload_n hx hb dL_law_1174 rfl (lv_at hl 3 rfl) ?_
  refine lv_iconst (v := 3) hx hb dL_law_1175 (by decide) ?_
  refine lv_iadd hx hb dL_law_1176 ?_
  refine va_sld hx hb hX hbl hbA hS (lw_in hi hL (by decide)) dL_law_1177 ?_
  refine lv_aload_n hx hb dL_law_1178 rfl (lv_at hl 0 rfl) ?_
  refine lv_iload_n hx hb dL_law_1179 rfl (lv_at hl 3 rfl) ?_
  refine lv_iconst (v := 4) hx hb dL_law_1180 (by decide) ?_
  refine lv_iadd hx hb dL_law_1181 ?_
  refine va_sld hx hb hX hbl hbA hS (lw_in hi hL (by decide)) dL_law_1182 ?_
  refine lv_aload_n hx hb dL_law_1183 rfl (lv_at hl 0 rfl) ?_
  refine lv_iload_n hx hb dL_law_1184 rfl (lv_at hl 3 rfl) ?_
  refine lv_iconst (v := 5) hx hb dL_law_1185 (by decide) ?_
  refine lv_iadd hx hb dL_law_1186 ?_
  refine va_sld hx hb hX hbl hbA hS (lw_in hi hL (by decide)) dL_law_1187 ?_
  refine xlcall (R := xR_X9_copy) (as := [.int (xs (nI i + 1).toNatClampNeg), .int (xs (nI i + 2).toNatClampNeg), .int (xs (nI i + 3).toNatClampNeg), .int (xs (nI i + 4).toNatClampNeg), .int (xs (nI i + 5).toNatClampNeg)]) (s1 := t2) (r := some (.int r)) (wo := xw cI cZ ad1 xFL t1) (ad := ad2) (rest := [.int r]) xMLk (List.mem_of_getElem? (i := 193) rfl) (xTr.end (ok_X9_copy (xs (nI i + 1).toNatClampNeg) (xs (nI i + 2).toNatClampNeg) (xs (nI i + 3).toNatClampNeg) (xs (nI i + 4).toNatClampNeg) (xs (nI i + 5).toNatClampNeg) s2) e2 rfl) (Nat.le_of_ble_eq_true rfl) rfl rfl (by decide) (xin 1388 (by decide +kernel) (by decide +kernel)) rfl hx hb hml hown hts hA hE2 hK hP2 hD2 hP1 hdis.symm hS (Nat.le_of_ble_eq_true rfl) (Nat.le_of_ble_eq_true rfl) (Nat.le_of_ble_eq_true rfl) (Nat.le_of_ble_eq_true rfl) hl.1 rfl (Nat.le_of_ble_eq_true rfl) dL_law_1188 (fun H locs hP2 hD2 hP1 hdis hS => ?_)
  refine lv_icmp_eq (tgt := 1256) hx hb dL_law_1191 (by decide) (fun _ => ?_) (fun q => absurd rfl q)
  exact nx t1 t2 H locs hJ ⟨hP1, hD1, hP2, hD2, hdis.symm, hS⟩
set_option maxHeartbeats 4000000 in
set_option maxRecDepth 100000 in
theorem law_write {p : Program} {l : Launch} {e : Env} {s : State} {m : MethodId} {below : List Frame} {meth : Method} {c : Code} {b L : Nat} {xs : Nat → Int32} {D : va_G} {cI cZ : ClassId} {ad1 ad2 : Nat → Nat} {Inv : xS → xS → Prop} {i : Nat} {s1 s2 : xS} {H : Heap} {locs : List Loc} {ls : Array Slot} (hh : lh_write Inv) (hL : L ≤ 384) (C : lw_C p s m meth c b L xs D cI cZ ad1 ad2) (hi : i + 6 ≤ L) (hI : Inv s1 s2) (hw : lw_S s D cI cZ ad1 ad2 s1 s2 H locs) (hl : lv_has ls 4 [(0, .ref b), (1, .ref (ad1 0)), (2, .ref (ad2 0)), (3, .int (nI i))])
    (nx : ∀ (t1 t2 : xS) (H : Heap) (locs : List Loc), Inv t1 t2 → lw_S s D cI cZ ad1 ad2 t1 t2 H locs → W p l e room_1 s m #[Value.ref b] below meth c H locs 73 2382 (lw_Z below #[Value.ref b] s) (F0 m 1256 ls [])) : W p l e room_1 s m #[Value.ref b] below meth c H locs 73 2382 (lw_Z below #[Value.ref b] s) (F0 m 1196 ls []) := by
  obtain ⟨⟨hx, hb, hr, hml, hown, hts0, hX, hbl, hlocks, hgv⟩, hK, hE1, hE2⟩ := C
  obtain ⟨hP1, hD1, hP2, hD2, hdis, hS⟩ := hw
  have hts : ∀ w ∈ xTg, w.before #[Value.ref b] s = true := fun w hw => hts0 w (List.mem_filter.mp hw).1
  have hA : ∀ q : Nat, s.heap.size ≤ q → (fun q : Nat => s.heap.size ≤ q) q := fun _ h => h
  have hbA : ¬ (fun q : Nat => s.heap.size ≤ q) b := Nat.not_le.mpr hbl
  obtain ⟨r, t1, t2, e1, e2, hJ⟩ := hh (xs (nI i + 1).toNatClampNeg) s1 s2 hI
  refine lv_aload_n hx hb dL_law_1196 rfl (lv_at hl 1 rfl) ?_
  refine lv_aload_n hx hb dL_law_1197 rfl (lv_at hl 0 rfl) ?_
  refine lv_iload_n hx hb dL_law_1198 rfl (lv_at hl 3 rfl) ?_
  refine lv_iconst (v := 1) hx hb dL_law_1199 (by decide) ?_
  refine lv_iadd hx hb dL_law_1200 ?_
  refine va_sld hx hb hX hbl hbA hS (lw_in hi hL (by decide)) dL_law_1201 ?_
  refine xlcall (R := xR_X8_write) (as := [.int (xs (nI i + 1).toNatClampNeg)]) (s1 := t1) (r := some (.int r)) (wo := xw cI cZ ad2 xML s2) (ad := ad1) (rest := []) xFLk (List.mem_of_getElem? (i := 74) rfl) (xTr.end (ok_X8_write (xs (nI i + 1).toNatClampNeg) s1) e1 rfl) (Nat.le_of_ble_eq_true rfl) rfl rfl (by decide) (xin 865 (by decide +kernel) (by decide +kernel)) rfl hx hb hml hown hts hA hE1 hK hP1 hD1 hP2 hdis hS (Nat.le_of_ble_eq_true rfl) (Nat.le_of_ble_eq_true rfl) (Nat.le_of_ble_eq_true rfl) (Nat.le_of_ble_eq_true rfl) hl.1 rfl (Nat.le_of_ble_eq_true rfl) dL_law_1202 (fun H locs hP1 hD1 hP2 hdis hS => ?_)
  refine lv_aload_n hx hb dL_law_1205 rfl (lv_at hl 2 rfl) ?_
  refine lv_aload_n hx hb dL_law_1206 rfl (lv_at hl 0 rfl) ?_
  refine lv_iload_n hx hb dL_law_1207 rfl (lv_at hl 3 rfl) ?_
  refine lv_iconst (v := 1) hx hb dL_law_1208 (by decide) ?_
  refine lv_iadd hx hb dL_law_1209 ?_
  refine va_sld hx hb hX hbl hbA hS (lw_in hi hL (by decide)) dL_law_1210 ?_
  refine xlcall (R := xR_X9_write) (as := [.int (xs (nI i + 1).toNatClampNeg)]) (s1 := t2) (r := some (.int r)) (wo := xw cI cZ ad1 xFL t1) (ad := ad2) (rest := [.int r]) xMLk (List.mem_of_getElem? (i := 194) rfl) (xTr.end (ok_X9_write (xs (nI i + 1).toNatClampNeg) s2) e2 rfl) (Nat.le_of_ble_eq_true rfl) rfl rfl (by decide) (xin 1392 (by decide +kernel) (by decide +kernel)) rfl hx hb hml hown hts hA hE2 hK hP2 hD2 hP1 hdis.symm hS (Nat.le_of_ble_eq_true rfl) (Nat.le_of_ble_eq_true rfl) (Nat.le_of_ble_eq_true rfl) (Nat.le_of_ble_eq_true rfl) hl.1 rfl (Nat.le_of_ble_eq_true rfl) dL_law_1211 (fun H locs hP2 hD2 hP1 hdis hS => ?_)
  refine lv_icmp_eq (tgt := 1256) hx hb dL_law_1214 (by decide) (fun _ => ?_) (fun q => absurd rfl q)
  exact nx t1 t2 H locs hJ ⟨hP1, hD1, hP2, hD2, hdis.symm, hS⟩
set_option maxHeartbeats 4000000 in
set_option maxRecDepth 100000 in
theorem law_count {p : Program} {l : Launch} {e : Env} {s : State} {m : MethodId} {below : List Frame} {meth : Method} {c : Code} {b L : Nat} {xs : Nat → Int32} {D : va_G} {cI cZ : ClassId} {ad1 ad2 : Nat → Nat} {Inv : xS → xS → Prop} {i : Nat} {s1 s2 : xS} {H : Heap} {locs : List Loc} {ls : Array Slot} (hh : lh_count Inv) (hL : L ≤ 384) (C : lw_C p s m meth c b L xs D cI cZ ad1 ad2) (hi : i + 6 ≤ L) (hI : Inv s1 s2) (hw : lw_S s D cI cZ ad1 ad2 s1 s2 H locs) (hl : lv_has ls 4 [(0, .ref b), (1, .ref (ad1 0)), (2, .ref (ad2 0)), (3, .int (nI i))])
    (nx : ∀ (t1 t2 : xS) (H : Heap) (locs : List Loc), Inv t1 t2 → lw_S s D cI cZ ad1 ad2 t1 t2 H locs → W p l e room_1 s m #[Value.ref b] below meth c H locs 73 2382 (lw_Z below #[Value.ref b] s) (F0 m 1256 ls [])) : W p l e room_1 s m #[Value.ref b] below meth c H locs 73 2382 (lw_Z below #[Value.ref b] s) (F0 m 1219 ls []) := by
  obtain ⟨⟨hx, hb, hr, hml, hown, hts0, hX, hbl, hlocks, hgv⟩, hK, hE1, hE2⟩ := C
  obtain ⟨hP1, hD1, hP2, hD2, hdis, hS⟩ := hw
  have hts : ∀ w ∈ xTg, w.before #[Value.ref b] s = true := fun w hw => hts0 w (List.mem_filter.mp hw).1
  have hA : ∀ q : Nat, s.heap.size ≤ q → (fun q : Nat => s.heap.size ≤ q) q := fun _ h => h
  have hbA : ¬ (fun q : Nat => s.heap.size ≤ q) b := Nat.not_le.mpr hbl
  obtain ⟨r, t2, e1, e2, hJ⟩ := hh (xs (nI i + 1).toNatClampNeg) s1 s2 hI
  refine lv_aload_n hx hb dL_law_1219 rfl (lv_at hl 1 rfl) ?_
  refine lv_aload_n hx hb dL_law_1220 rfl (lv_at hl 0 rfl) ?_
  refine lv_iload_n hx hb dL_law_1221 rfl (lv_at hl 3 rfl) ?_
  refine lv_iconst (v := 1) hx hb dL_law_1222 (by decide) ?_
  refine lv_iadd hx hb dL_law_1223 ?_
  refine va_sld hx hb hX hbl hbA hS (lw_in hi hL (by decide)) dL_law_1224 ?_
  refine xlcall (R := xR_X8_count) (as := [.int (xs (nI i + 1).toNatClampNeg)]) (s1 := s1) (r := some (.int r)) (wo := xw cI cZ ad2 xML s2) (ad := ad1) (rest := []) xFLk (List.mem_of_getElem? (i := 75) rfl) (xTr.end (ok_X8_count (xs (nI i + 1).toNatClampNeg) s1) e1 rfl) (Nat.le_of_ble_eq_true rfl) rfl rfl (by decide) (xin 870 (by decide +kernel) (by decide +kernel)) rfl hx hb hml hown hts hA hE1 hK hP1 hD1 hP2 hdis hS (Nat.le_of_ble_eq_true rfl) (Nat.le_of_ble_eq_true rfl) (Nat.le_of_ble_eq_true rfl) (Nat.le_of_ble_eq_true rfl) hl.1 rfl (Nat.le_of_ble_eq_true rfl) dL_law_1225 (fun H locs hP1 hD1 hP2 hdis hS => ?_)
  refine lv_aload_n hx hb dL_law_1228 rfl (lv_at hl 2 rfl) ?_
  refine lv_aload_n hx hb dL_law_1229 rfl (lv_at hl 0 rfl) ?_
  refine lv_iload_n hx hb dL_law_1230 rfl (lv_at hl 3 rfl) ?_
  refine lv_iconst (v := 1) hx hb dL_law_1231 (by decide) ?_
  refine lv_iadd hx hb dL_law_1232 ?_
  refine va_sld hx hb hX hbl hbA hS (lw_in hi hL (by decide)) dL_law_1233 ?_
  refine xlcall (R := xR_X9_count) (as := [.int (xs (nI i + 1).toNatClampNeg)]) (s1 := t2) (r := some (.int r)) (wo := xw cI cZ ad1 xFL s1) (ad := ad2) (rest := [.int r]) xMLk (List.mem_of_getElem? (i := 197) rfl) (xTr.end (ok_X9_count (xs (nI i + 1).toNatClampNeg) s2) e2 rfl) (Nat.le_of_ble_eq_true rfl) rfl rfl (by decide) (xin 1396 (by decide +kernel) (by decide +kernel)) rfl hx hb hml hown hts hA hE2 hK hP2 hD2 hP1 hdis.symm hS (Nat.le_of_ble_eq_true rfl) (Nat.le_of_ble_eq_true rfl) (Nat.le_of_ble_eq_true rfl) (Nat.le_of_ble_eq_true rfl) hl.1 rfl (Nat.le_of_ble_eq_true rfl) dL_law_1234 (fun H locs hP2 hD2 hP1 hdis hS => ?_)
  refine lv_icmp_eq (tgt := 1256) hx hb dL_law_1237 (by decide) (fun _ => ?_) (fun q => absurd rfl q)
  exact nx s1 t2 H locs hJ ⟨hP1, hD1, hP2, hD2, hdis.symm, hS⟩
set_option maxHeartbeats 4000000 in
set_option maxRecDepth 100000 in
theorem law_digest {p : Program} {l : Launch} {e : Env} {s : State} {m : MethodId} {below : List Frame} {meth : Method} {c : Code} {b L : Nat} {xs : Nat → Int32} {D : va_G} {cI cZ : ClassId} {ad1 ad2 : Nat → Nat} {Inv : xS → xS → Prop} {i : Nat} {s1 s2 : xS} {H : Heap} {locs : List Loc} {ls : Array Slot} (hh : lh_digest Inv) (hL : L ≤ 384) (C : lw_C p s m meth c b L xs D cI cZ ad1 ad2) (hi : i + 6 ≤ L) (hI : Inv s1 s2) (hw : lw_S s D cI cZ ad1 ad2 s1 s2 H locs) (hl : lv_has ls 4 [(0, .ref b), (1, .ref (ad1 0)), (2, .ref (ad2 0)), (3, .int (nI i))])
    (nx : ∀ (t1 t2 : xS) (H : Heap) (locs : List Loc), Inv t1 t2 → lw_S s D cI cZ ad1 ad2 t1 t2 H locs → W p l e room_1 s m #[Value.ref b] below meth c H locs 73 2382 (lw_Z below #[Value.ref b] s) (F0 m 1256 ls [])) : W p l e room_1 s m #[Value.ref b] below meth c H locs 73 2382 (lw_Z below #[Value.ref b] s) (F0 m 1242 ls []) := by
  obtain ⟨⟨hx, hb, hr, hml, hown, hts0, hX, hbl, hlocks, hgv⟩, hK, hE1, hE2⟩ := C
  obtain ⟨hP1, hD1, hP2, hD2, hdis, hS⟩ := hw
  have hts : ∀ w ∈ xTg, w.before #[Value.ref b] s = true := fun w hw => hts0 w (List.mem_filter.mp hw).1
  have hA : ∀ q : Nat, s.heap.size ≤ q → (fun q : Nat => s.heap.size ≤ q) q := fun _ h => h
  have hbA : ¬ (fun q : Nat => s.heap.size ≤ q) b := Nat.not_le.mpr hbl
  obtain ⟨r, t1, t2, e1, e2, hJ⟩ := hh s1 s2 hI
  refine lv_aload_n hx hb dL_law_1242 rfl (lv_at hl 1 rfl) ?_
  refine xlcall (R := xR_X8_digest) (as := []) (s1 := t1) (r := some (.long r)) (wo := xw cI cZ ad2 xML s2) (ad := ad1) (rest := []) xFLk (List.mem_of_getElem? (i := 76) rfl) (xTr.end (ok_X8_digest s1) e1 rfl) (Nat.le_of_ble_eq_true rfl) rfl rfl (by decide) (xin 878 (by decide +kernel) (by decide +kernel)) rfl hx hb hml hown hts hA hE1 hK hP1 hD1 hP2 hdis hS (Nat.le_of_ble_eq_true rfl) (Nat.le_of_ble_eq_true rfl) (Nat.le_of_ble_eq_true rfl) (Nat.le_of_ble_eq_true rfl) hl.1 rfl (Nat.le_of_ble_eq_true rfl) dL_law_1243 (fun H locs hP1 hD1 hP2 hdis hS => ?_)
  refine lv_aload_n hx hb dL_law_1246 rfl (lv_at hl 2 rfl) ?_
  refine xlcall (R := xR_X9_digest) (as := []) (s1 := t2) (r := some (.long r)) (wo := xw cI cZ ad1 xFL t1) (ad := ad2) (rest := [.long r]) xMLk (List.mem_of_getElem? (i := 199) rfl) (xTr.end (ok_X9_digest s2) e2 rfl) (Nat.le_of_ble_eq_true rfl) rfl rfl (by decide) (xin 1408 (by decide +kernel) (by decide +kernel)) rfl hx hb hml hown hts hA hE2 hK hP2 hD2 hP1 hdis.symm hS (Nat.le_of_ble_eq_true rfl) (Nat.le_of_ble_eq_true rfl) (Nat.le_of_ble_eq_true rfl) (Nat.le_of_ble_eq_true rfl) hl.1 rfl (Nat.le_of_ble_eq_true rfl) dL_law_1247 (fun H locs hP2 hD2 hP1 hdis hS => ?_)
  refine W.lcmp hx hb dL_law_1250 ?_
  refine lv_if_eq (tgt := 1256) hx hb dL_law_1251 (by decide) (fun _ => ?_) (fun q => absurd ((lg_cmp_eq r r).mpr rfl) q)
  exact nx t1 t2 H locs hJ ⟨hP1, hD1, hP2, hD2, hdis.symm, hS⟩
