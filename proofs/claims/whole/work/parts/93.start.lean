theorem xvkS {N : Nat} {len : List Nat} {byt : List (List Int32)} {adK adV adK' adV' : Nat → Nat} {A : Nat → Prop} {U : State} {H : Heap} (h : vk_S N len byt adK adV A U H) (h1 : ∀ i, i < N → adK' i = adK i) (h2 : ∀ i, i < N → adV' i = adV i) : vk_S N len byt adK' adV' A U H :=
  ⟨fun i hi => by rw [h1 i hi, h2 i hi]; exact h.1 i hi, fun i j hi hj e => h.2 i j hi hj (by rw [← h1 i hi, ← h1 j hj]; exact e)⟩
theorem xarrOf {args : Array Value} {s : State} {ty : FieldType} (h : (Cond.arrayClass ty).before args s = true) (ho : ∀ C, ty ≠ .object C) : ∃ cA : ClassId, ArrOfT s cA ty ∧ va_RA s cA ty := by
  obtain ⟨cA, kA, comp, h1, h2, h3⟩ := Cond.arrayClass_spec h
  refine ⟨cA, fun n z => ⟨fun k h => (by cases h), kA, h2, comp, h3⟩, ?_⟩
  cases ty with
  | object C => exact absurd rfl (ho C)
  | _ => exact h1
def xtS (i : Nat) : Term := match i with
  | 0 => .string "FounderSleeps$Town" 53
  | _ => .string "FounderSleeps$Deeds" 39
set_option maxHeartbeats 8000000 in
set_option maxRecDepth 100000 in
/-- the law from its entry, open in the pure part -/
theorem whole_open {p : Program} {e : Env} {s : State} {m : MethodId} {below : List Frame} {meth : Method} {c : Code} (l : Launch) {b L : Nat} {xs : Nat → Int32} (hL : L ≤ 384) (C0 : lw_At p s m meth c b L xs) {Inv : xS → xS → Prop} (HA : lh_all Inv) (hsl : F_X8_sleepAnew xF00 = some xF0) (hI0 : Inv xF0 xM0) : W p l e room_1 s m #[Value.ref b] below meth c s.heap [] 0 0 (lw_Z below #[Value.ref b] s) (entryFrame m ([Value.ref b] : List Value).toArray 4) := by
  obtain ⟨hx, hb, hr, hml, hown, hts0, hX, hbl, hlocks, hgv⟩ := id C0
  have hts : ∀ w ∈ xTg, w.before #[Value.ref b] s = true := fun w hw => hts0 w (List.mem_filter.mp hw).1
  generalize hAe : (fun q : Nat => s.heap.size ≤ q) = A
  have hA : ∀ q : Nat, s.heap.size ≤ q → A q := fun q h => by rw [← hAe]; exact h
  have hAn : ∀ a : Nat, a < s.heap.size → ¬ A a := fun a h z => by rw [← hAe] at z; exact absurd h (Nat.not_lt.mpr z)
  have hs := flat_of_before _ hgv
  obtain ⟨t0, ht0, hT0⟩ := va_Tof (tm := (.static "FounderSleeps" "TOLLS" "[I")) (ty := .int) (N := 4) (f := fun j => .int (([1, 4, 3, 1] : List Int32).getD j 0)) (A := A) (args := #[Value.ref b]) (s := s) (by decide) (hs (.arrayOf (.static "FounderSleeps" "TOLLS" "[I") .int) (by decide +kernel)) (va_eqt (hs (.eq (.length (.static "FounderSleeps" "TOLLS" "[I")) (.int 4)) (by decide +kernel))) (fun j hj => by
    match j, hj with
    | 0, _ => exact va_eqt (hs (.eq (.elem (.static "FounderSleeps" "TOLLS" "[I") (.int 0)) (.int 1)) (by decide +kernel))
    | 1, _ => exact va_eqt (hs (.eq (.elem (.static "FounderSleeps" "TOLLS" "[I") (.int 1)) (.int 4)) (by decide +kernel))
    | 2, _ => exact va_eqt (hs (.eq (.elem (.static "FounderSleeps" "TOLLS" "[I") (.int 2)) (.int 3)) (by decide +kernel))
    | 3, _ => exact va_eqt (hs (.eq (.elem (.static "FounderSleeps" "TOLLS" "[I") (.int 3)) (.int 1)) (by decide +kernel))
    | j + 4, h => exact absurd h (by omega)) hAn
  obtain ⟨t1, ht1, hT1⟩ := va_Tof (tm := (.static "FounderSleeps" "LOUDNESS" "[I")) (ty := .int) (N := 4) (f := fun j => .int (([3, 6, 9, 14] : List Int32).getD j 0)) (A := A) (args := #[Value.ref b]) (s := s) (by decide) (hs (.arrayOf (.static "FounderSleeps" "LOUDNESS" "[I") .int) (by decide +kernel)) (va_eqt (hs (.eq (.length (.static "FounderSleeps" "LOUDNESS" "[I")) (.int 4)) (by decide +kernel))) (fun j hj => by
    match j, hj with
    | 0, _ => exact va_eqt (hs (.eq (.elem (.static "FounderSleeps" "LOUDNESS" "[I") (.int 0)) (.int 3)) (by decide +kernel))
    | 1, _ => exact va_eqt (hs (.eq (.elem (.static "FounderSleeps" "LOUDNESS" "[I") (.int 1)) (.int 6)) (by decide +kernel))
    | 2, _ => exact va_eqt (hs (.eq (.elem (.static "FounderSleeps" "LOUDNESS" "[I") (.int 2)) (.int 9)) (by decide +kernel))
    | 3, _ => exact va_eqt (hs (.eq (.elem (.static "FounderSleeps" "LOUDNESS" "[I") (.int 3)) (.int 14)) (by decide +kernel))
    | j + 4, h => exact absurd h (by omega)) hAn
  have hZ0 := va_Zref (A := A) (hts0 (.laysStatic "FounderSleeps" "TOLLS" "[I") (List.mem_of_getElem? (i := 321) (by decide +kernel))) (hts0 (.initialized "FounderSleeps") (List.mem_of_getElem? (i := 81) (by decide +kernel))) ht0 hAn
  have hZ1 := va_Zref (A := A) (hts0 (.laysStatic "FounderSleeps" "LOUDNESS" "[I") (List.mem_of_getElem? (i := 342) (by decide +kernel))) (hts0 (.initialized "FounderSleeps") (List.mem_of_getElem? (i := 81) (by decide +kernel))) ht1 hAn
  have hZ2 : va_Z "java/lang/String" "COMPACT_STRINGS" "Z" (.int 1) A s s.heap := va_Zof (hts0 (.laysStatic "java/lang/String" "COMPACT_STRINGS" "Z") (List.mem_of_getElem? (i := 468) (by decide +kernel))) (hts0 (.initialized "java/lang/String") (List.mem_of_getElem? (i := 93) (by decide +kernel))) (va_eqt (hs (.eq (.static "java/lang/String" "COMPACT_STRINGS" "Z") (.int 1)) (by decide +kernel))) hAn
  obtain ⟨adK, adV, hSt, hev⟩ := vk_Sof (N := 2) (tm := xtS) (len := [4, 4]) (byt := [[46, 104, 102, 98], [119, 99, 107, 110]]) (A := A) (args := #[Value.ref b]) (s := s) (fun i hi => by
    match i, hi with
    | 0, _ => decide
    | 1, _ => decide
    | i + 2, h => exact absurd h (by omega)) (fun i hi => by
    match i, hi with
    | 0, _ => exact hs (.exactly (.string "FounderSleeps$Town" 53) "java/lang/String") (by decide +kernel)
    | 1, _ => exact hs (.exactly (.string "FounderSleeps$Deeds" 39) "java/lang/String") (by decide +kernel)
    | i + 2, h => exact absurd h (by omega)) (fun i hi => by
    match i, hi with
    | 0, _ => exact hs (.eq (.field (.string "FounderSleeps$Town" 53) "java/lang/String" "coder" "B") (.int 0)) (by decide +kernel)
    | 1, _ => exact hs (.eq (.field (.string "FounderSleeps$Deeds" 39) "java/lang/String" "coder" "B") (.int 0)) (by decide +kernel)
    | i + 2, h => exact absurd h (by omega)) (fun i hi => by
    match i, hi with
    | 0, _ => exact hs (.arrayOf (.field (.string "FounderSleeps$Town" 53) "java/lang/String" "value" "[B") .byte) (by decide +kernel)
    | 1, _ => exact hs (.arrayOf (.field (.string "FounderSleeps$Deeds" 39) "java/lang/String" "value" "[B") .byte) (by decide +kernel)
    | i + 2, h => exact absurd h (by omega)) (fun i hi => by
    match i, hi with
    | 0, _ => exact hs (.eq (.length (.field (.string "FounderSleeps$Town" 53) "java/lang/String" "value" "[B")) (.int 4)) (by decide +kernel)
    | 1, _ => exact hs (.eq (.length (.field (.string "FounderSleeps$Deeds" 39) "java/lang/String" "value" "[B")) (.int 4)) (by decide +kernel)
    | i + 2, h => exact absurd h (by omega)) (fun i hi j hj => by
    match i, hi, j, hj with
    | 0, _, 0, _ => exact hs (.eq (.elem (.field (.string "FounderSleeps$Town" 53) "java/lang/String" "value" "[B") (.int 0)) (.int 46)) (by decide +kernel)
    | 0, _, 1, _ => exact hs (.eq (.elem (.field (.string "FounderSleeps$Town" 53) "java/lang/String" "value" "[B") (.int 1)) (.int 104)) (by decide +kernel)
    | 0, _, 2, _ => exact hs (.eq (.elem (.field (.string "FounderSleeps$Town" 53) "java/lang/String" "value" "[B") (.int 2)) (.int 102)) (by decide +kernel)
    | 0, _, 3, _ => exact hs (.eq (.elem (.field (.string "FounderSleeps$Town" 53) "java/lang/String" "value" "[B") (.int 3)) (.int 98)) (by decide +kernel)
    | 1, _, 0, _ => exact hs (.eq (.elem (.field (.string "FounderSleeps$Deeds" 39) "java/lang/String" "value" "[B") (.int 0)) (.int 119)) (by decide +kernel)
    | 1, _, 1, _ => exact hs (.eq (.elem (.field (.string "FounderSleeps$Deeds" 39) "java/lang/String" "value" "[B") (.int 1)) (.int 99)) (by decide +kernel)
    | 1, _, 2, _ => exact hs (.eq (.elem (.field (.string "FounderSleeps$Deeds" 39) "java/lang/String" "value" "[B") (.int 2)) (.int 107)) (by decide +kernel)
    | 1, _, 3, _ => exact hs (.eq (.elem (.field (.string "FounderSleeps$Deeds" 39) "java/lang/String" "value" "[B") (.int 3)) (.int 110)) (by decide +kernel)
    | 0, _, j + 4, h => exact absurd (show j + 4 < 4 from h) (by omega)
    | 1, _, j + 4, h => exact absurd (show j + 4 < 4 from h) (by omega)
    | i + 2, h, _, _ => exact absurd h (by omega)) (fun i j hi hj hij => by
    match i, j, hi, hj, hij with
    | 0, 0, _, _, h => exact absurd rfl h
    | 1, 1, _, _, h => exact absurd rfl h
    | 0, 1, _, _, _ => exact Or.inl (hs (.not (.eq (.string "FounderSleeps$Town" 53) (.string "FounderSleeps$Deeds" 39))) (by decide +kernel))
    | 1, 0, _, _, _ => exact Or.inr (hs (.not (.eq (.string "FounderSleeps$Town" 53) (.string "FounderSleeps$Deeds" 39))) (by decide +kernel))
    | i + 2, _, h, _, _ => exact absurd h (by omega)
    | _, j + 2, _, h, _ => exact absurd h (by omega)) hAn
  obtain ⟨ad0, a0, a1, a2, a3⟩ : ∃ ad0 : Nat → Nat, ad0 1000 = t0 ∧ ad0 1001 = t1 ∧ (∀ i, i < 2 → ad0 (1002 + i) = adK i) ∧ (∀ i, i < 2 → ad0 (1004 + i) = adV i) := by
    refine ⟨fun p => if p = 1000 then t0 else if p = 1001 then t1 else if p < 1004 then adK (p - 1002) else adV (p - 1004), rfl, rfl, fun i hi => ?_, fun i hi => ?_⟩
    · match i, hi with
      | 0, _ => rfl
      | 1, _ => rfl
      | i + 2, h => exact absurd h (by omega)
    · match i, hi with
      | 0, _ => rfl
      | 1, _ => rfl
      | i + 2, h => exact absurd h (by omega)
  have hE : xEn ad0 A s s.heap := by
    refine ⟨by rw [a0]; exact hZ0, by rw [a0]; exact hT0, by rw [a1]; exact hZ1, by rw [a1]; exact hT1, hZ2, xvkS hSt a2 a3, ?_, ?_, va_Nw.of rfl (hts0 (.fieldLinkNest "FounderSleeps$Reach" xiTolls "FounderSleeps" "TOLLS" "[I" "FounderSleeps") (List.mem_of_getElem? (i := 320) (by decide +kernel))), va_Nw.of rfl (hts0 (.fieldLinkNest "FounderSleeps$Night" xiLoud "FounderSleeps" "LOUDNESS" "[I" "FounderSleeps") (List.mem_of_getElem? (i := 341) (by decide +kernel)))⟩
    · rw [show ad0 1002 = adK 0 from a2 0 (by decide)]
      exact vk_R.of (hts0 (.stringRef "FounderSleeps$Town" xsTown ".hfb") (List.mem_of_getElem? (i := 454) (by decide +kernel))) (hev 0 (by decide))
    · rw [show ad0 1003 = adK 1 from a2 1 (by decide)]
      exact vk_R.of (hts0 (.stringRef "FounderSleeps$Deeds" xsDeeds "wckn") (List.mem_of_getElem? (i := 561) (by decide +kernel))) (hev 1 (by decide))
  obtain ⟨c0, iS0, hKn0⟩ := u_known (C := RX0) (T := TX0) (N := 5) (n := 5) hts0 inX0 (hts0 (.instantiable RX0 5) (List.mem_of_getElem? (i := 166) (by decide +kernel)))
  obtain ⟨c1, iS1, hKn1⟩ := u_known (C := RX1) (T := TX1) (N := 3) (n := 3) hts0 inX1 (hts0 (.instantiable RX1 3) (List.mem_of_getElem? (i := 197) (by decide +kernel)))
  obtain ⟨c2, iS2, hKn2⟩ := u_known (C := RX2) (T := TX2) (N := 4) (n := 4) hts0 inX2 (hts0 (.instantiable RX2 4) (List.mem_of_getElem? (i := 203) (by decide +kernel)))
  obtain ⟨c3, iS3, hKn3⟩ := u_known (C := RX3) (T := TX3) (N := 7) (n := 7) hts0 inX3 (hts0 (.instantiable RX3 7) (List.mem_of_getElem? (i := 257) (by decide +kernel)))
  obtain ⟨c4, iS4, hKn4⟩ := u_known (C := RX4) (T := TX4) (N := 2) (n := 2) hts0 inX4 (hts0 (.instantiable RX4 2) (List.mem_of_getElem? (i := 242) (by decide +kernel)))
  obtain ⟨c5, iS5, hKn5⟩ := u_known (C := RX5) (T := TX5) (N := 3) (n := 3) hts0 inX5 (hts0 (.instantiable RX5 3) (List.mem_of_getElem? (i := 292) (by decide +kernel)))
  obtain ⟨c6, iS6, hKn6⟩ := u_known (C := RX6) (T := TX6) (N := 3) (n := 3) hts0 inX6 (hts0 (.instantiable RX6 3) (List.mem_of_getElem? (i := 109) (by decide +kernel)))
  obtain ⟨c7, iS7, hKn7⟩ := u_known (C := RX7) (T := TX7) (N := 6) (n := 6) hts0 inX7 (hts0 (.instantiable RX7 6) (List.mem_of_getElem? (i := 134) (by decide +kernel)))
  obtain ⟨c8, iS8, hKn8⟩ := u_known (C := RX8) (T := TX8) (N := 18) (n := 18) hts0 inX8 (hts0 (.instantiable RX8 18) (List.mem_of_getElem? (i := 101) (by decide +kernel)))
  obtain ⟨c9, iS9, hKn9⟩ := u_known (C := RX9) (T := TX9) (N := 36) (n := 36) hts0 inX9 (hts0 (.instantiable RX9 36) (List.mem_of_getElem? (i := 914) (by decide +kernel)))
  obtain ⟨D, hKc⟩ : ∃ D : va_G, ∀ (k : Nat) (q : vw_C), vwCl[k]? = some q → u_Kn s q.1 q.2.1 q.2.2 (D.1 k) (D.2 k) := by
    refine ⟨(fun k => [c0, c1, c2, c3, c4, c5, c6, c7, c8, c9].getD k 0, fun k => [iS0, iS1, iS2, iS3, iS4, iS5, iS6, iS7, iS8, iS9].getD k iS0), ?_⟩
    intro k q hq
    match k, hq with
    | 0, hq => cases hq; exact hKn0
    | 1, hq => cases hq; exact hKn1
    | 2, hq => cases hq; exact hKn2
    | 3, hq => cases hq; exact hKn3
    | 4, hq => cases hq; exact hKn4
    | 5, hq => cases hq; exact hKn5
    | 6, hq => cases hq; exact hKn6
    | 7, hq => cases hq; exact hKn7
    | 8, hq => cases hq; exact hKn8
    | 9, hq => cases hq; exact hKn9
    | k + 10, hq => simp [vwCl] at hq
  obtain ⟨cI, gI⟩ := xarrOf (hts0 (.arrayClass .int) (List.mem_of_getElem? (i := 132) (by decide +kernel))) (fun C h => by cases h)
  obtain ⟨cZ, gZ⟩ := xarrOf (hts0 (.arrayClass .boolean) (List.mem_of_getElem? (i := 1028) (by decide +kernel))) (fun C h => by cases h)
  have hK : va_K D vwCl (xty cI cZ) s := ⟨hKc, fun k q hk => by
    match k, hk with
    | 0, hk => cases hk; exact gI
    | 1, hk => cases hk; exact gZ
    | k + 2, hk => simp [xty] at hk⟩
  have hS : va_S A s.heap s.heap [] := va_S.rf
  have hP : va_P D vwCl [] s.heap := fun k q h => by simp at h
  have hD : va_D A [] := ⟨fun i j p q h => by simp at h, fun k q h => by simp at h⟩
  have hl := lv_entry ([.ref b]) (n := 4) (Nat.le_of_ble_eq_true rfl)
  rw [lg_entry_eq]
  generalize (lg_sl ([.ref b]) ++ List.replicate (4 - (lg_sl ([.ref b])).length) Slot.unset).toArray = ls at hl ⊢
  have hl : lv_has ls 4 [(0, .ref b)] := hl
  refine va_new (ci := 8) (fs := [.null, .null, .null, .null, .null, .null, .null, .null, .null, .null, .null, .null, .null, .null, .int 0, .int 0, .null, .int 0]) (C := RX8) (T := TX8) (N := 18) hx hb hts xinX8 tyX8 tyX8_ok hown (hts0 (.classLink R_law 7 RX8) (List.mem_of_getElem? (i := 100) (by decide +kernel))) (hts0 (.instantiable RX8 18) (List.mem_of_getElem? (i := 101) (by decide +kernel))) (hts0 (.initialized RX8) (List.mem_of_getElem? (i := 81) (by decide +kernel))) hK hP hD hS hA rfl (show ∀ j, j < 18 → defaultValue (tyX8 j) = vp_V [.null, .null, .null, .null, .null, .null, .null, .null, .null, .null, .null, .null, .null, .null, .int 0, .int 0, .null, .int 0] j by decide) (Nat.le_of_ble_eq_true rfl) (Nat.le_of_ble_eq_true rfl) dL_law_0 (fun q1 H hP hD hS => ?_)
  have hP : va_P D vwCl [(q1, .inr (8, [.null, .null, .null, .null, .null, .null, .null, .null, .null, .null, .null, .null, .null, .null, .int 0, .int 0, .null, .int 0]))] H := hP
  have hD : va_D A [(q1, .inr (8, [.null, .null, .null, .null, .null, .null, .null, .null, .null, .null, .null, .null, .null, .null, .int 0, .int 0, .null, .int 0]))] := hD
  refine W.widen (k := 1) (n := 18) (by decide) (by decide) ?_
  refine lv_dup hx hb dL_law_3 rfl ?_
  have hn0 := va_Nw.of (U := s) (w := .methodLinkNest RX8 23 yX7_init "FounderSleeps") rfl (hts0 (.methodLinkNest RX8 23 yX7_init "FounderSleeps") (List.mem_of_getElem? (i := 135) (by decide +kernel)))
  have hn1 := va_Nw.of (U := s) (w := .methodLinkNest RX8 30 yX0_init "FounderSleeps") rfl (hts0 (.methodLinkNest RX8 30 yX0_init "FounderSleeps") (List.mem_of_getElem? (i := 167) (by decide +kernel)))
  have hn2 := va_Nw.of (U := s) (w := .methodLinkNest RX8 37 yX1_init "FounderSleeps") rfl (hts0 (.methodLinkNest RX8 37 yX1_init "FounderSleeps") (List.mem_of_getElem? (i := 198) (by decide +kernel)))
  have hn3 := va_Nw.of (U := s) (w := .methodLinkNest RX8 51 yX4_init "FounderSleeps") rfl (hts0 (.methodLinkNest RX8 51 yX4_init "FounderSleeps") (List.mem_of_getElem? (i := 243) (by decide +kernel)))
  have hPc := hP
  have hDc := hD
  have hFc := va_free (wc := [(q1, .inr (8, [.null, .null, .null, .null, .null, .null, .null, .null, .null, .null, .null, .null, .null, .null, .int 0, .int 0, .null, .int 0]))]) hD hS hA [0] rfl
  refine va_callv (va_runI (As := []) (rest := [.ref q1]) ⟨hx, hb, hml, hown, hts⟩ (ci_X8 l D cI cZ ad0 q1 H.size hsl) (cwI 0 hts (xTg_good (xwi_in (xin 104 (by decide +kernel) (by decide +kernel)))) rfl rfl rfl (hts0 (.initialized RX8) (List.mem_of_getElem? (i := 81) (by decide +kernel))) (hts0 (.methodLink R_law 9 yX8_init) (List.mem_of_getElem? (i := 102) (by decide +kernel))) (hts0 (.instanceMethod yX8_init) (List.mem_of_getElem? (i := 103) (by decide +kernel))) rfl ⟨by decide, by decide, by decide +kernel⟩ ⟨(Nat.le_of_ble_eq_true rfl), (Nat.le_of_ble_eq_true rfl)⟩) ⟨fun a U g mk z => by obtain ⟨z0, z1, zP, zK, zD, zE, zN⟩ := z; exact ⟨z0, z1, zP, va_K.moved (u := U) (U := U.calling g mk a) (Vm.Alike.refl U.vm) zK, zD, xEn.same (u := U) (U := U.calling g mk a) rfl (Vm.Alike.refl U.vm) zE, zN⟩, fun U hU hW => ⟨rfl, by rw [hU], by rw [hU]; exact hPc, va_K.moved hW.alike hK, hDc.weaken (fun _ _ _ _ => trivial), by rw [hU]; exact ((hE.kept hS.2.1).narrow hFc).warm hW, ⟨va_Nw.warmM hW hn0, va_Nw.warmM hW hn1, va_Nw.warmM hW hn2, va_Nw.warmM hW hn3⟩⟩⟩ rfl rfl hl.1 rfl (lv_room (Nat.le_of_ble_eq_true rfl)) dL_law_4 ⟨(Nat.le_of_ble_eq_true rfl), (Nat.le_of_ble_eq_true rfl)⟩) hS (fun q _ h => hFc q h) hFc (fun ad1 t H1 locs ht hvm _ hB hz1 hk1 hS => ?_)
  obtain ⟨hq1, hae1, hP1, hD1⟩ := hB
  rw [ht] at hP1
  have hD1 : va_D A (xw cI cZ ad1 xFL xF0) := hD1.weaken (fun _ _ _ h => hFc _ h)
  generalize H1 = H at hP1 hS ⊢
  clear hPc hDc hFc hz1 hk1 hP hD
  refine W.widen (k := 46) (n := 1276) (by decide) (by decide) ?_
  refine lv_astore_n (lv' := [(1, .ref q1), (0, .ref b)]) hx hb dL_law_7 rfl hl (by decide) rfl (fun ls hl => ?_)
  refine va_new (ci := 9) (fs := [.null, .null, .int 0, .int 0, .null, .int 0, .null, .null, .null, .int 0, .int 0, .int 0, .null, .null, .null, .int 0, .null, .null, .null, .null, .int 0, .null, .null, .null, .null, .int 0, .null, .null, .null, .null, .null, .null, .null, .null, .null, .int 0]) (C := RX9) (T := TX9) (N := 36) hx hb hts xinX9 tyX9 tyX9_ok hown (hts0 (.classLink R_law 10 RX9) (List.mem_of_getElem? (i := 913) (by decide +kernel))) (hts0 (.instantiable RX9 36) (List.mem_of_getElem? (i := 914) (by decide +kernel))) (hts0 (.initialized RX9) (List.mem_of_getElem? (i := 92) (by decide +kernel))) hK hP1 hD1 hS hA rfl (show ∀ j, j < 36 → defaultValue (tyX9 j) = vp_V [.null, .null, .int 0, .int 0, .null, .int 0, .null, .null, .null, .int 0, .int 0, .int 0, .null, .null, .null, .int 0, .null, .null, .null, .null, .int 0, .null, .null, .null, .null, .int 0, .null, .null, .null, .null, .null, .null, .null, .null, .null, .int 0] j by decide) (Nat.le_of_ble_eq_true rfl) (Nat.le_of_ble_eq_true rfl) dL_law_8 (fun q2 H hP hD hS => ?_)
  have hPa : va_P D vwCl (xw cI cZ ad1 xFL xF0) H := fun k q hk => hP k q (by rw [List.getElem?_append_left (List.getElem?_eq_some_iff.mp hk).1]; exact hk)
  have hPc : va_P D vwCl [(q2, .inr (9, [.null, .null, .int 0, .int 0, .null, .int 0, .null, .null, .null, .int 0, .int 0, .int 0, .null, .null, .null, .int 0, .null, .null, .null, .null, .int 0, .null, .null, .null, .null, .int 0, .null, .null, .null, .null, .null, .null, .null, .null, .null, .int 0]))] H := fun k q hk => hP ((xw cI cZ ad1 xFL xF0).length + k) q (by rw [List.getElem?_append_right (Nat.le_add_right _ _), Nat.add_sub_cancel_left]; exact hk)
  have hdi : xdis (xw cI cZ ad1 xFL xF0) [(q2, .inr (9, [.null, .null, .int 0, .int 0, .null, .int 0, .null, .null, .null, .int 0, .int 0, .int 0, .null, .null, .null, .int 0, .null, .null, .null, .null, .int 0, .null, .null, .null, .null, .int 0, .null, .null, .null, .null, .null, .null, .null, .null, .null, .int 0]))] := fun i j x y hi hj e => by
    have h1 := hD.1 i ((xw cI cZ ad1 xFL xF0).length + j) x y (by rw [List.getElem?_append_left (List.getElem?_eq_some_iff.mp hi).1]; exact hi) (by rw [List.getElem?_append_right (Nat.le_add_right _ _), Nat.add_sub_cancel_left]; exact hj) e
    have h2 := (List.getElem?_eq_some_iff.mp hi).1
    omega
  have hDc : va_D A [(q2, .inr (9, [.null, .null, .int 0, .int 0, .null, .int 0, .null, .null, .null, .int 0, .int 0, .int 0, .null, .null, .null, .int 0, .null, .null, .null, .null, .int 0, .null, .null, .null, .null, .int 0, .null, .null, .null, .null, .null, .null, .null, .null, .null, .int 0]))] := by
    refine ⟨fun i j x y hi hj _ => ?_, fun k q hq => ?_⟩
    · match i, j, hi, hj with
      | 0, 0, _, _ => rfl
      | i + 1, _, hi, _ => simp at hi
      | 0, j + 1, _, hj => simp at hj
    · exact hD.2 ((xw cI cZ ad1 xFL xF0).length + k) q (by rw [List.getElem?_append_right (Nat.le_add_right _ _), Nat.add_sub_cancel_left]; exact hq)
  have hFc := va_free (wc := [(q2, .inr (9, [.null, .null, .int 0, .int 0, .null, .int 0, .null, .null, .null, .int 0, .int 0, .int 0, .null, .null, .null, .int 0, .null, .null, .null, .null, .int 0, .null, .null, .null, .null, .int 0, .null, .null, .null, .null, .null, .null, .null, .null, .null, .int 0]))]) hDc hS hA [0] rfl
  refine W.widen (k := 47) (n := 1312) (by decide) (by decide) ?_
  refine lv_dup hx hb dL_law_11 rfl ?_
  refine va_callv (va_runI (As := []) (rest := [.ref q2]) ⟨hx, hb, hml, hown, hts⟩ (ci_X9 l D cI cZ ad0 q2 H.size) (cwI 0 hts (xTg_good (xwi_in (xin 917 (by decide +kernel) (by decide +kernel)))) rfl rfl rfl (hts0 (.initialized RX9) (List.mem_of_getElem? (i := 92) (by decide +kernel))) (hts0 (.methodLink R_law 12 yX9_init) (List.mem_of_getElem? (i := 915) (by decide +kernel))) (hts0 (.instanceMethod yX9_init) (List.mem_of_getElem? (i := 916) (by decide +kernel))) rfl ⟨by decide, by decide, by decide +kernel⟩ ⟨(Nat.le_of_ble_eq_true rfl), (Nat.le_of_ble_eq_true rfl)⟩) ⟨fun a U g mk z => by obtain ⟨z0, z1, zP, zK, zD⟩ := z; exact ⟨z0, z1, zP, va_K.moved (u := U) (U := U.calling g mk a) (Vm.Alike.refl U.vm) zK, zD⟩, fun U hU hW => ⟨rfl, by rw [hU], by rw [hU]; exact hPc, va_K.moved hW.alike hK, hDc.weaken (fun _ _ _ _ => trivial)⟩⟩ rfl rfl hl.1 rfl (lv_room (Nat.le_of_ble_eq_true rfl)) dL_law_12 ⟨(Nat.le_of_ble_eq_true rfl), (Nat.le_of_ble_eq_true rfl)⟩) hS (fun q _ h => hFc q h) hFc (fun ad2 t H1 locs ht hvm _ hB hz1 hk1 hS => ?_)
  obtain ⟨hq2, hae2, hP2, hD2⟩ := hB
  rw [ht] at hP2
  have hnot : ∀ (k : Nat) (q : Nat × va_E), (xw cI cZ ad1 xFL xF0)[k]? = some q → ¬ va_A [(q2, .inr (9, [.null, .null, .int 0, .int 0, .null, .int 0, .null, .null, .null, .int 0, .int 0, .int 0, .null, .null, .null, .int 0, .null, .null, .null, .null, .int 0, .null, .null, .null, .null, .int 0, .null, .null, .null, .null, .null, .null, .null, .null, .null, .int 0]))] H.size q.1 := fun k q hk => by
    rintro (⟨i, e, hi⟩ | hge)
    · exact hdi k i q _ hk hi rfl
    · exact absurd ((hPa k q hk).lt) (Nat.not_lt.mpr hge)
  have hP1 : va_P D vwCl (xw cI cZ ad1 xFL xF0) H1 := hPa.kept (fun k q hk => hk1 q.1 ((hPa k q hk).lt) (hnot k q hk))
  have hdis : xdis (xw cI cZ ad1 xFL xF0) (xw cI cZ ad2 xML xM0) := fun i j x y hi hj e => hnot i x hi (by rw [e]; exact hD2.2 j y hj)
  have hD2 : va_D A (xw cI cZ ad2 xML xM0) := hD2.weaken (fun _ _ _ h => hFc _ h)
  refine W.widen (k := 73) (n := 2382) (by decide) (by decide) ?_
  refine lv_astore_n (lv' := [(2, .ref q2), (1, .ref q1), (0, .ref b)]) hx hb dL_law_15 rfl hl (by decide) rfl (fun ls hl => ?_)
  refine lv_iconst (v := 0) hx hb dL_law_16 (by decide) ?_
  refine lv_istore_n (lv' := [(3, .int 0), (2, .ref q2), (1, .ref q1), (0, .ref b)]) hx hb dL_law_17 rfl hl (by decide) rfl (fun ls hl => ?_)
  subst hAe
  have C : lw_C p s m meth c b L xs D cI cZ ad1 ad2 := ⟨C0, hK, hE.to hae1, hE.to hae2⟩
  exact law_loop HA hL C (L + 1) 0 (Nat.zero_le L) (by omega) xF0 xM0 H1 _ hI0 ⟨hP1, hD1, hP2, hD2, hdis, hS⟩ ls (by rw [hq1, hq2]; exact lv_sub hl [3, 2, 1, 0] rfl)
