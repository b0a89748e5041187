/-! ===== what stands outside the world, and is never written ===== -/
def xEn (ad : Nat → Nat) (A : Nat → Prop) (U : State) (H : Heap) : Prop :=
  va_Z "FounderSleeps" "TOLLS" "[I" (.ref (ad 1000)) A U H ∧ va_T .int (ad 1000) 4 (fun j => .int (([1, 4, 3, 1] : List Int32).getD j 0)) A U H ∧
  va_Z "FounderSleeps" "LOUDNESS" "[I" (.ref (ad 1001)) A U H ∧ va_T .int (ad 1001) 4 (fun j => .int (([3, 6, 9, 14] : List Int32).getD j 0)) A U H ∧
  va_Z "java/lang/String" "COMPACT_STRINGS" "Z" (.int 1) A U H ∧
  vk_S 2 [4, 4] [[46, 104, 102, 98], [119, 99, 107, 110]] (fun i => ad (1002 + i)) (fun i => ad (1004 + i)) A U H ∧
  vk_R "FounderSleeps$Town" xsTown ".hfb" (ad 1002) U ∧ vk_R "FounderSleeps$Deeds" xsDeeds "wckn" (ad 1003) U ∧
  va_Nw (.fieldLinkNest "FounderSleeps$Reach" xiTolls "FounderSleeps" "TOLLS" "[I" "FounderSleeps") U ∧ va_Nw (.fieldLinkNest "FounderSleeps$Night" xiLoud "FounderSleeps" "LOUDNESS" "[I" "FounderSleeps") U
theorem xEn.kept {ad : Nat → Nat} {A : Nat → Prop} {U : State} {H H1 : Heap} (h : xEn ad A U H) (hq : ∀ a : Nat, a < H.size → ¬ A a → H1[a]? = H[a]?) : xEn ad A U H1 :=
  ⟨h.1.kept hq, h.2.1.kept hq, h.2.2.1.kept hq, h.2.2.2.1.kept hq, h.2.2.2.2.1.kept hq, h.2.2.2.2.2.1.kept hq, h.2.2.2.2.2.2⟩
theorem xEn.narrow {ad : Nat → Nat} {A B : Nat → Prop} {U : State} {H : Heap} (h : xEn ad A U H) (hAB : ∀ q, B q → A q) : xEn ad B U H :=
  ⟨h.1.narrow hAB, h.2.1.narrow hAB, h.2.2.1.narrow hAB, h.2.2.2.1.narrow hAB, h.2.2.2.2.1.narrow hAB, h.2.2.2.2.2.1.narrow hAB, h.2.2.2.2.2.2⟩
theorem xEn.warm {ad : Nat → Nat} {A : Nat → Prop} {s U : State} {H : Heap} (hW : s.WarmedH U.vm) (h : xEn ad A s H) : xEn ad A U H :=
  ⟨va_Z.moved hW.alike h.1, va_T.moved hW.alike h.2.1, va_Z.moved hW.alike h.2.2.1, va_T.moved hW.alike h.2.2.2.1, va_Z.moved hW.alike h.2.2.2.2.1, vk_S.moved hW.alike h.2.2.2.2.2.1, vk_R.warm hW h.2.2.2.2.2.2.1, vk_R.warm hW h.2.2.2.2.2.2.2.1, va_Nw.warmF hW h.2.2.2.2.2.2.2.2.1, va_Nw.warmF hW h.2.2.2.2.2.2.2.2.2⟩
theorem xEn.same {ad : Nat → Nat} {A : Nat → Prop} {u U : State} {H : Heap} (hv : U.vm = u.vm) (ha : u.vm.Alike U.vm) (h : xEn ad A u H) : xEn ad A U H :=
  ⟨va_Z.moved ha h.1, va_T.moved ha h.2.1, va_Z.moved ha h.2.2.1, va_T.moved ha h.2.2.2.1, va_Z.moved ha h.2.2.2.2.1, vk_S.moved ha h.2.2.2.2.2.1, vk_R.same hv h.2.2.2.2.2.2.1, vk_R.same hv h.2.2.2.2.2.2.2.1, va_tabs rfl hv.symm h.2.2.2.2.2.2.2.2.1, va_tabs rfl hv.symm h.2.2.2.2.2.2.2.2.2⟩
/-! ===== what a table's entry must keep ===== -/
def xlen (i : Instr) : Nat := match i with
  | .bipush _ => 2
  | .iload _ => 2
  | .lload _ => 2
  | .aload _ => 2
  | .istore _ => 2
  | .lstore _ => 2
  | .ldc _ => 2
  | .sipush _ => 3
  | .iinc _ _ => 3
  | .goto _ => 3
  | .ifCond _ _ => 3
  | .if_icmp _ _ => 3
  | .ldc_w _ => 3
  | .ldc2_w _ => 3
  | .getstatic _ => 3
  | .getfield _ => 3
  | .putfield _ => 3
  | .invokestatic _ => 3
  | .invokevirtual _ => 3
  | _ => 1
def xcallok (Ms : List xRec) (R : xRec) (v : Bool) (a b : Nat) : Bool := match Ms[a]? with
  | some R' => (xrv R' == v) && Nat.beq (xrn R') b && Nat.ble (xrf R' + 1) (xrf R) && Nat.ble (8 + (xrL R' + 11) + xrk R') (xrk R)
  | none => false
def xlb (Ms : List xRec) (R : xRec) (pc : Nat) (e : xEnt) : Bool := match e.1 with
  | .goto off => decide ((pc : Int) + off = (e.2.2.1 : Int))
  | .ifCond _ off => decide ((pc : Int) + off = (e.2.2.1 : Int))
  | .if_icmp _ off => decide ((pc : Int) + off = (e.2.2.1 : Int))
  | .iload_n _ => true
  | .istore_n k => Nat.blt (k : Nat) (xrL R)
  | .istore k => Nat.blt k (xrL R)
  | .iinc k _ => Nat.blt k (xrL R)
  | .lstore_n k => Nat.blt ((k : Nat) + 1) (xrL R)
  | .lstore k => Nat.blt (k + 1) (xrL R)
  | .astore_n k => Nat.blt (k : Nat) (xrL R)
  | .getfield i => cond (Nat.beq e.2.2.1 99) (decide ((xro R, i, e.2.2.1, e.2.2.2.1) ∈ xLs8)) (decide ((xro R, i, e.2.2.1, e.2.2.2.1) ∈ xLs0))
  | .putfield i => decide ((xro R, i, e.2.2.1, e.2.2.2.1) ∈ xLs1)
  | .invokevirtual i => decide ((xro R, i, e.2.2.1, e.2.2.2.1) ∈ xLs2) && xcallok Ms R true e.2.2.1 e.2.2.2.1
  | .invokestatic i => cond (Nat.beq e.2.2.1 998) true <| decide ((xro R, i, e.2.2.1, e.2.2.2.1) ∈ xLs3) && cond (Nat.beq e.2.2.1 902 || Nat.beq e.2.2.1 900 || Nat.beq e.2.2.1 901) (Nat.ble 1 (xrf R) && Nat.ble 26 (xrk R)) (xcallok Ms R false e.2.2.1 e.2.2.2.1)
  | .ldc i => cond (Nat.beq e.2.2.2.1 1) (decide ((xro R, i, e.2.2.1, e.2.2.2.1) ∈ xLs5)) (decide ((xro R, i, e.2.2.1, e.2.2.2.1) ∈ xLs4))
  | .ldc_w i => decide ((xro R, i, e.2.2.1, e.2.2.2.1) ∈ xLs4)
  | .ldc2_w i => decide ((xro R, i, e.2.2.1, e.2.2.2.1) ∈ xLs6)
  | .getstatic i => decide ((xro R, i, e.2.2.1, e.2.2.2.1) ∈ xLs7)
  | .return_ => decide (xrt R = none)
  | .ireturn => decide (xrt R = some .int) || decide (xrt R = some .boolean) || decide (xrt R = some .byte)
  | .lreturn => decide (xrt R = some .long)
  | .areturn => match xrt R with
    | some (.object _) => true
    | _ => false
  | .tableswitch d lo hi os => decide (hi + 1 = lo + os.toList.length) && decide (0 ≤ lo) && decide (lo + os.toList.length ≤ 1000) && decide (0 ≤ (pc : Int) + d) && os.toList.all (fun o => decide (0 ≤ (pc : Int) + o))
  | .lookupswitch d ps => (ps.toList.zip (ps.toList.drop 1)).all (fun (a, next) => a.1 < next.1) && decide (0 ≤ (pc : Int) + d) && ps.toList.all (fun o => decide (0 ≤ (pc : Int) + o.2) && decide (-1000 ≤ o.1) && decide (o.1 ≤ 1000))
  | _ => true
def xsx (i : Instr) : Bool := match i with
  | .tableswitch .. => true
  | .lookupswitch .. => true
  | _ => false
def xeb (Ms : List xRec) (R : xRec) (q : Nat × xEnt) : Bool := decide (decode (xrc R) q.1 = .ok (q.2.1, q.2.2.1)) && (xsx q.2.1 || Nat.beq q.2.2.1 (xlen q.2.1)) && xlb Ms R q.1 q.2
def xcn (o : Nat) : String := xCN.getD o ""
/-- the links: what a word of the tables says of each -/
def xLG (Ms : List xRec) : Prop :=
  (∀ q ∈ xLs0, ∃ C T N, vwCl[q.2.2.1]? = some (C, T, N) ∧ q.2.2.2 < N ∧ Cond.fieldLink (xcn q.1) q.2.1 (T q.2.2.2).1 (T q.2.2.2).2.1 (T q.2.2.2).2.2.1 ∈ xTg) ∧
  (∀ q ∈ xLs1, ∃ C T N, vwCl[q.2.2.1]? = some (C, T, N) ∧ q.2.2.2 < N ∧ Cond.fieldLink (xcn q.1) q.2.1 (T q.2.2.2).1 (T q.2.2.2).2.1 (T q.2.2.2).2.2.1 ∈ xTg ∧ (T q.2.2.2).2.2.2 = false) ∧
  (∀ q ∈ xLs2, ∀ R', Ms[q.2.2.1]? = some R' → Cond.methodLink (xcn q.1) q.2.1 (xry R') ∈ xTg) ∧
  (∀ q ∈ xLs3, ((q.2.2.1 = 902 → Cond.methodLink (xcn q.1) q.2.1 arraycopyName ∈ xTg) ∧ (q.2.2.1 = 900 → Cond.methodLink (xcn q.1) q.2.1 Lib.Math.min.name ∈ xTg) ∧ (q.2.2.1 = 901 → Cond.methodLink (xcn q.1) q.2.1 Lib.Math.max.name ∈ xTg)) ∧ ∀ R', Ms[q.2.2.1]? = some R' → Cond.methodLink (xcn q.1) q.2.1 (xry R') ∈ xTg) ∧
  (∀ q ∈ xLs4, ∀ v, xK[q.2.2.1]? = some v → Cond.constant (xcn q.1) q.2.1 v ∈ xTg) ∧
  (∀ q ∈ xLs5, q = (7, xsTown, 1002, 1) ∨ q = (0, xsDeeds, 1003, 1)) ∧
  (∀ q ∈ xLs6, ∀ v, xKL[q.2.2.1]? = some v → Cond.constantLong (xcn q.1) q.2.1 v ∈ xTg) ∧
  (∀ q ∈ xLs7, q = (4, xiTolls, 0, 1) ∨ q = (3, xiLoud, 1, 1) ∨ (q.2.2 = (1, 0) ∧ Cond.fieldLink (xcn q.1) q.2.1 "FounderSleeps" "LOUDNESS" "[I" ∈ xTg) ∨ (q.2.2 = (2, 0) ∧ Cond.fieldLink (xcn q.1) q.2.1 "java/lang/String" "COMPACT_STRINGS" "Z" ∈ xTg)) ∧
  (∀ q ∈ xLs8, (q.2.2.2 = 0 → Cond.fieldLink (xcn q.1) q.2.1 "java/lang/String" "value" "[B" ∈ xTg) ∧ (q.2.2.2 ≠ 0 → Cond.fieldLink (xcn q.1) q.2.1 "java/lang/String" "coder" "B" ∈ xTg)) ∧
  Cond.native arraycopyName ∈ xTg ∧ Cond.static arraycopyName ∈ xTg ∧ Cond.initialized "java/lang/System" ∈ xTg ∧
  Cond.static Lib.Math.min.name ∈ xTg ∧ Cond.static Lib.Math.max.name ∈ xTg ∧ Cond.initialized "java/lang/Math" ∈ xTg ∧ Cond.code Lib.Math.min.name Lib.Math.min.code 2 (some .int) ∈ xTg ∧ Cond.code Lib.Math.max.name Lib.Math.max.code 2 (some .int) ∈ xTg
def xCF : Prop := ∀ (ci : Nat) (C : String) (T : u_T) (N : Nat), vwCl[ci]? = some (C, T, N) → (∀ w ∈ u_ws C T N, w ∈ xTg) ∧ ∃ ty0 : Nat → FieldType, (∀ k, k < N → parseFieldDescriptor (T k).2.2.1 = some (ty0 k)) ∧ ∀ a, a < N → ∀ b, b < N → a ≠ b → (T a).2.1 ≠ (T b).2.1
def xtyp (t : Nat) : FieldType := match t with
  | 0 => .int
  | 1 => .long
  | _ => .boolean
/-- the layout's numbers have the types of their fields -/
def xLyk (Ly : xLy) : Prop := ∀ (p : Nat) (o : Nat × List (Nat ⊕ Nat)), Ly[p]? = some (.inr o) → ∀ (C : String) (T : u_T) (N : Nat), vwCl[o.1]? = some (C, T, N) → ∀ (k t : Nat), o.2[k]? = some (.inr t) → parseFieldDescriptor (T k).2.2.1 = some (xtyp t)
/-! ===== taking a step apart ===== -/
theorem xi1_some {st : List Value} {k : Int32 → List Value → Option xO} {o : xO} (h : xi1 st k = some o) : ∃ x r, st = .int x :: r ∧ k x r = some o := by
  unfold xi1 at h; split at h
  · exact ⟨_, _, rfl, h⟩
  · cases h
theorem xi2_some {st : List Value} {k : Int32 → Int32 → List Value → Option xO} {o : xO} (h : xi2 st k = some o) : ∃ x y r, st = .int y :: .int x :: r ∧ k x y r = some o := by
  unfold xi2 at h; split at h
  · exact ⟨_, _, _, rfl, h⟩
  · cases h
theorem xi3_some {st : List Value} {k : Int64 → Int64 → List Value → Option xO} {o : xO} (h : xi3 st k = some o) : ∃ x y r, st = .long y :: .long x :: r ∧ k x y r = some o := by
  unfold xi3 at h; split at h
  · exact ⟨_, _, _, rfl, h⟩
  · cases h
theorem xi4_some {st : List Value} {k : Int64 → Int32 → List Value → Option xO} {o : xO} (h : xi4 st k = some o) : ∃ x y r, st = .int y :: .long x :: r ∧ k x y r = some o := by
  unfold xi4 at h; split at h
  · exact ⟨_, _, _, rfl, h⟩
  · cases h
theorem xi5_some {st : List Value} {k : Int64 → List Value → Option xO} {o : xO} (h : xi5 st k = some o) : ∃ x r, st = .long x :: r ∧ k x r = some o := by
  unfold xi5 at h; split at h
  · exact ⟨_, _, rfl, h⟩
  · cases h
theorem xi6_some {st : List Value} {k : Int32 → Nat → List Value → Option xO} {o : xO} (h : xi6 st k = some o) : ∃ x p r, st = .int x :: .ref p :: r ∧ k x p r = some o := by
  unfold xi6 at h; split at h
  · exact ⟨_, _, _, rfl, h⟩
  · cases h
theorem xi7_some {st : List Value} {k : Int32 → Int32 → Nat → List Value → Option xO} {o : xO} (h : xi7 st k = some o) : ∃ x i p r, st = .int x :: .int i :: .ref p :: r ∧ k x i p r = some o := by
  unfold xi7 at h; split at h
  · exact ⟨_, _, _, _, rfl, h⟩
  · cases h
theorem xi8_some {st : List Value} {k : Nat → List Value → Option xO} {o : xO} (h : xi8 st k = some o) : ∃ p r, st = .ref p :: r ∧ k p r = some o := by
  unfold xi8 at h; split at h
  · exact ⟨_, _, rfl, h⟩
  · cases h
theorem xil_some {v : Option Value} {k : Int32 → Option xO} {o : xO} (h : xil v k = some o) : ∃ x, v = some (.int x) ∧ k x = some o := by
  unfold xil at h; split at h
  · exact ⟨_, rfl, h⟩
  · cases h
theorem xll_some {v : Option Value} {k : Int64 → Option xO} {o : xO} (h : xll v k = some o) : ∃ x, v = some (.long x) ∧ k x = some o := by
  unfold xll at h; split at h
  · exact ⟨_, rfl, h⟩
  · cases h
theorem xrl_some {v : Option Value} {k : Nat → Option xO} {o : xO} (h : xrl v k = some o) : ∃ x, v = some (.ref x) ∧ k x = some o := by
  unfold xrl at h; split at h
  · exact ⟨_, rfl, h⟩
  · cases h
theorem xck_some {c : Prop} {d : Decidable c} {k : Option xO} {o : xO} (h : @xck c d k = some o) : ¬ c ∧ k = some o := by
  unfold xck at h; split at h
  · cases h
  · exact ⟨by assumption, h⟩
theorem cond_some {α : Type} {b : Bool} {k : Option α} {o : α} (h : cond b k none = some o) : b = true ∧ k = some o := by
  cases b with
  | true => exact ⟨rfl, h⟩
  | false => cases h
theorem xar_some {Ly : xLy} {s : xS} {z : Bool} {p : Nat} {k : Nat → (Nat → Int32) → Option xO} {o : xO} (h : xar Ly s z p k = some o) : (∃ n, Ly[p]? = some (.inl (z, n)) ∧ k n (s.1 p) = some o) ∨ ∃ n f, xRA p = some (z, n, f) ∧ k n f = some o := by
  unfold xar at h; split at h
  · rename_i b hb
    obtain ⟨h1, h2⟩ := cond_some h
    have e : b.1 = z := by simpa using h1
    exact Or.inl ⟨b.2, by rw [hb, ← e], h2⟩
  · cases h
  · split at h
    · rename_i b hb
      obtain ⟨h1, h2⟩ := cond_some h
      have e : b.1 = z := by simpa using h1
      exact Or.inr ⟨b.2.1, b.2.2, by rw [hb, ← e], h2⟩
    · cases h
theorem xaw_some {Ly : xLy} {z : Bool} {p : Nat} {k : Nat → Option xO} {o : xO} (h : xaw Ly z p k = some o) : ∃ n, Ly[p]? = some (.inl (z, n)) ∧ k n = some o := by
  unfold xaw at h; split at h
  · rename_i b hb
    obtain ⟨h1, h2⟩ := cond_some h
    have e : b.1 = z := by simpa using h1
    exact ⟨b.2, by rw [hb, ← e], h2⟩
  · cases h
theorem xob_some {Ly : xLy} {p ci b : Nat} {k : Nat ⊕ Nat → Option xO} {o : xO} (h : xob Ly p ci b k = some o) : ∃ fl f, Ly[p]? = some (.inr (ci, fl)) ∧ fl[b]? = some f ∧ k f = some o := by
  unfold xob at h; split at h
  · rename_i q hb
    obtain ⟨h1, h2⟩ := cond_some h
    have e : q.1 = ci := Nat.eq_of_beq_eq_true h1
    split at h2
    · rename_i f hf
      exact ⟨q.2, f, by rw [hb, ← e], hf, h2⟩
    · cases h2
  · cases h
theorem xlk_mem : ∀ {l : List (Nat × xEnt)} {pc : Nat} {e : xEnt}, xlk l pc = some e → (pc, e) ∈ l
  | [], _, _, h => by cases h
  | q :: r, pc, e, h => by
    unfold xlk at h
    cases hb : Nat.beq q.1 pc with
    | true =>
      rw [hb] at h
      have e1 := Nat.eq_of_beq_eq_true hb
      cases h
      subst e1
      exact List.mem_cons_self
    | false =>
      rw [hb] at h
      exact List.mem_cons_of_mem _ (xlk_mem h)
theorem xtoInt {k : Int} (h1 : -1000 ≤ k) (h2 : k ≤ 1000) : (Int32.ofInt k).toInt = k := by
  rw [Int32.toInt_ofInt_of_le] <;> omega
theorem xsw_in {pc : Nat} {x : Int32} {d : Nat} : ∀ (os : List Int) (k : Int), 0 ≤ k → k + os.length ≤ 1000 → ¬ x.toInt < k → x.toInt < k + os.length → ∃ off, os[(x.toInt - k).toNat]? = some off ∧ xsw pc x k os d = ((pc : Int) + off).toNat
  | [], k, _, _, h1, h2 => by simp at h2; omega
  | o :: os, k, hk, hl, h1, h2 => by
    simp only [List.length_cons] at hl h2
    unfold xsw
    by_cases hx : x = Int32.ofInt k
    · have ht : x.toInt = k := by rw [hx]; exact xtoInt (by omega) (by omega)
      rw [if_pos hx]
      exact ⟨o, by rw [ht]; simp, rfl⟩
    · rw [if_neg hx]
      have hne : ¬ x.toInt = k := lv_neT hx (xtoInt (by omega) (by omega))
      obtain ⟨off, h3, h4⟩ := xsw_in (pc := pc) (x := x) (d := d) os (k + 1) (by omega) (by omega) (by omega) (by omega)
      refine ⟨off, ?_, h4⟩
      have e : (x.toInt - k).toNat = (x.toInt - (k + 1)).toNat + 1 := by omega
      rw [e]
      exact h3
theorem xsw_out {pc : Nat} {x : Int32} {d : Nat} : ∀ (os : List Int) (k : Int), 0 ≤ k → k + os.length ≤ 1000 → (x.toInt < k ∨ k + os.length ≤ x.toInt) → xsw pc x k os d = d
  | [], k, _, _, _ => rfl
  | o :: os, k, hk, hl, h => by
    simp only [List.length_cons] at hl h
    unfold xsw
    have hx : ¬ x = Int32.ofInt k := by
      intro e
      have ht : x.toInt = k := by rw [e]; exact xtoInt (by omega) (by omega)
      omega
    rw [if_neg hx]
    exact xsw_out os (k + 1) (by omega) (by omega) (by omega)
theorem xsl_off {pc : Nat} {x : Int32} {dflt : Int} : ∀ (ps : List (Int × Int)), ps.all (fun o => decide (0 ≤ (pc : Int) + o.2) && decide (-1000 ≤ o.1) && decide (o.1 ≤ 1000)) = true → xsl pc x ps ((pc : Int) + dflt).toNat = ((pc : Int) + Op.lookupswitch.offset ps dflt x.toInt).toNat
  | [], _ => rfl
  | (a, o) :: r, h => by
    simp only [List.all_cons, Bool.and_eq_true, decide_eq_true_eq] at h
    obtain ⟨⟨⟨h1, h2⟩, h3⟩, h4⟩ := h
    unfold xsl
    by_cases hx : x = Int32.ofInt a
    · have ht : x.toInt = a := by rw [hx]; exact xtoInt h2 h3
      rw [if_pos hx, Op.lookupswitch.offset_cons, if_pos (by rw [ht])]
    · rw [if_neg hx, lv_osw hx (xtoInt h2 h3)]
      exact xsl_off r h4
theorem xsl_nn {pc : Nat} {k : Int} {dflt : Int} (hd : 0 ≤ (pc : Int) + dflt) : ∀ (ps : List (Int × Int)), ps.all (fun o => decide (0 ≤ (pc : Int) + o.2) && decide (-1000 ≤ o.1) && decide (o.1 ≤ 1000)) = true → 0 ≤ (pc : Int) + Op.lookupswitch.offset ps dflt k
  | [], _ => hd
  | (a, o) :: r, h => by
    simp only [List.all_cons, Bool.and_eq_true, decide_eq_true_eq] at h
    obtain ⟨⟨⟨h1, h2⟩, h3⟩, h4⟩ := h
    rw [Op.lookupswitch.offset_cons]
    split
    · exact h1
    · exact xsl_nn hd r h4
