/-! ===== felt, the other ===== -/
section SPEC
variable {u0 : Nat → Nat} {n0 : Nat} {u1 : Nat → Nat} {n1 : Nat} {l : LD} {e : ED} {s s4 a : xS}
def KM : List Nat := [9, 10, 11, 12, 13, 14, 15]
def kdf (kd : Nat → Nat) (x y : Option Nat) : Nat → Nat := fun j => if x = some j ∨ y = some j then 2 else kd j
theorem kdf_tl (kd : Nat → Nat) (x y : Option Nat) : (fun j => tl (kdf kd x y j)) = wfl kd x y := by
  funext j
  unfold kdf wfl
  by_cases c : x = some j ∨ y = some j
  · rw [if_pos c, if_pos c]; rfl
  · rw [if_neg c, if_neg c]
theorem feltRun {x y : Option Nat} {g : Nat → Int32} (rt : RT u0 n0 u1 n1 l s s4) (h15 : s4.1 0 15 = nI 0) (ka : KR KM [20] s4 a) (hx : ∀ j, x = some j → (twn u0 n0).2.2.2 j = 0) (hy : ∀ j, y = some j → (twn u0 n0).2.2.2 j = 0) (hg : ∀ j, j < (twn u0 n0).1 → g j = nI (kdf (twn u0 n0).2.2.2 x y j)) : ∃ s', F_X9_runs (xset a 3 g) = some s' ∧ KR (3 :: KM) [20] s4 s' ∧ s'.1 3 = g ∧ s'.1 15 = a.1 15 ∧ s'.1 0 20 = nbI (ngt (twn u0 n0).1 (lo (twn u0 n0).1 (twn u0 n0).2.1 (wfl (twn u0 n0).2.2.2 x y) (twn u0 n0).2.2.1) (ddat u1 n1) all_ l).1 := by
  have hok := twn_ok u0 n0
  obtain ⟨_, hb, hT, hD⟩ := rt
  have k3 : KR (3 :: KM) [20] s4 (xset a 3 g) := (ka.wide (fun x hx => List.mem_cons_of_mem _ hx) (fun x hx => hx)).set _ (by decide) (by decide)
  have hT' : TwM (xset a 3 g) (twn u0 n0).1 (twn u0 n0).2.1 (kdf (twn u0 n0).2.2.2 x y) := by
    refine ⟨hT.1, by rw [k3.2 3 (by decide)]; exact hT.2.1, fun z => by rw [k3.2 2 (by decide)]; exact hT.2.2.1 z, hT.2.2.2.1, fun i hi => ⟨?_, by rw [xset_same]; exact hg i hi⟩⟩
    have := (hok.2.2.1 i hi).1
    unfold kdf
    split <;> omega
  obtain ⟨s', e', k', n'⟩ := runsM (bd := (twn u0 n0).2.2.1) (d := (ddat u1 n1)) (pr := all_) (l := l) hT' (fun j hj => by
    unfold kdf
    by_cases c1 : x = some j ∨ y = some j
    · rw [if_pos c1]
      constructor
      · intro q; cases q
      · intro q
        have h3 := (hok.2.2.1 j hj).2.mpr q
        rcases c1 with c1 | c1
        · have := hx j c1; omega
        · have := hy j c1; omega
    · rw [if_neg c1]
      exact (hok.2.2.1 j hj).2) hok.2.2.2 (dd_ok hb.2.1) (DdM_K hD k3 (by decide) (by decide) (by decide) (by decide)) hb.2.2.2.2.2.2.1 (LwM_K hb.2.2.2.2.2.2.2 k3 (by decide) (by decide) (by decide) (by decide) (by decide)) (by rw [k3.2 15 (by decide), h15]; exact pr0)
  rw [kdf_tl] at n'
  exact ⟨s', e', k3.trans (k'.wide (by decide) (fun x hx => hx)), by rw [k'.1 3 (by decide) (by decide), xset_same], by rw [k'.1 15 (by decide) (by decide), xset_ne _ _ (by omega)], n'.1⟩
theorem KR3f {s4 s' : xS} {g : Nat → Int32} (k : KR (3 :: KM) [20] s4 s') (hg : g = s4.1 3) : KR KM [20] s4 (xset s' 3 g) := by
  refine ⟨fun q hq hL => ?_, fun j hj => ?_⟩
  · by_cases c : q = 3
    · subst c
      rw [xset_same, hg]
    · rw [xset_ne _ _ c]
      exact k.1 q hq (by simp only [List.mem_cons, List.not_mem_nil, or_false, KM] at hL ⊢; omega)
  · rw [xset_ne _ _ (by omega)]
    exact k.2 j hj
/-- the answer by the hour in which he wakes -/
theorem stl_ans {x y : Option Nat} {t : xS} (hl : LwOk l) (h : t.1 0 20 = nbI (ngt (twn u0 n0).1 (lo (twn u0 n0).1 (twn u0 n0).2.1 (wfl (twn u0 n0).2.2.2 x y) (twn u0 n0).2.2.1) (ddat u1 n1) all_ l).1) : (t.1 0 20 = nbI none) = (stl u0 n0 u1 n1 l x y = true) := by
  rw [h]
  unfold stl
  cases q : (ngt (twn u0 n0).1 (lo (twn u0 n0).1 (twn u0 n0).2.1 (wfl (twn u0 n0).2.2.2 x y) (twn u0 n0).2.2.1) (ddat u1 n1) all_ l).1 with
  | none => exact propext ⟨fun _ => rfl, fun _ => rfl⟩
  | some w =>
    have := ngt_wk hl q
    rw [nbI_some, m_eq_f (by omega)]
    exact propext ⟨fun z => absurd z id, fun z => by cases (of_decide_eq_true z)⟩
theorem still0 (rt : RT u0 n0 u1 n1 l s s4) (h15 : s4.1 0 15 = nI 0) (ka : KR KM [20] s4 a) : ∃ s', F_X9_isStill (nbI none) (nbI none) a = some (nI (b01 (stl u0 n0 u1 n1 l none none)), s') ∧ KR KM [20] s4 s' ∧ s'.1 15 = a.1 15 := by
  have hT := rt.2.2.1
  have hl := rt.2.1.2.2.2.2.2.2.1
  have r3 : a.1 3 = s4.1 3 := ka.1 3 (by decide) (by decide)
  obtain ⟨s', e', k', g', p', n'⟩ := feltRun (x := none) (y := none) (g := a.1 3) rt h15 ka (fun j q => by cases q) (fun j q => by cases q) (fun j hj => by
    unfold kdf
    rw [if_neg (fun z => z.elim (fun y => by cases y) (fun y => by cases y)), r3]
    exact (hT.2.2.2.2 j hj).2)
  rw [xset_self] at e'
  have kk := KR3f k' (g := s'.1 3) (by rw [g', r3])
  rw [xset_self] at kk
  refine ⟨s', ?_, kk, p'⟩
  have an := stl_ans (x := none) (y := none) hl n'
  unfold F_X9_isStill F_X9_isStill_J15 F_X9_isStill_J31 F_X9_isStill_J56 F_X9_isStill_J68 F_X9_isStill_J84
  cases z : stl u0 n0 u1 n1 l none none with
  | true =>
    have an' : (s'.1 0 20 = nbI none) = True := by rw [an, z]; exact eq_true rfl
    simp (disch := omega) only [↓Lm1, L0, L1, L2, L3, L4, L5, L6, L7, L8, L9, L10, L11, L12, L13, L14, L15, L16, L17, L18, L19, L20, L27, L30, L31, L35, L36, L37, L38, L39, L40, L41, L46, L48, L51, L57, L59, L60, L82, L98, L99, L100, L102, L104, L107, L110, L119, L144, L240, L255, L256, L360, L999, L1000000, nI_val, n_lt_t, n_lt_f, n_le_t, n_le_f, n_eq_t, n_eq_f, k_le_f, m_lt_t, m_lt_f, m_le_t, m_le_f, m_eq_f, m_eq_f', nI_add, nI_mulE, nI_subE, if_true, if_false, ite_true, ite_false, or_false, false_or, or_true, true_or, or_self, and_true, true_and, and_false, false_and, not_true_eq_false, not_false_eq_true, Option.bind_some, Sum.elim_inl, Sum.elim_inr, xu_set, xset_same, xset_ne, xset_2, xset_set, upd_same, upd_ne, nbI_some, ne_eq, reduceCtorEq, reduceIte, Nat.reduceAdd, Nat.reduceMul, Nat.reduceSub, Nat.add_zero, Nat.zero_add, Nat.mul_zero, Nat.zero_mul, e', an', b01]
  | false =>
    have an' : (s'.1 0 20 = nbI none) = False := by rw [an, z]; exact eq_false Bool.false_ne_true
    simp (disch := omega) only [↓Lm1, L0, L1, L2, L3, L4, L5, L6, L7, L8, L9, L10, L11, L12, L13, L14, L15, L16, L17, L18, L19, L20, L27, L30, L31, L35, L36, L37, L38, L39, L40, L41, L46, L48, L51, L57, L59, L60, L82, L98, L99, L100, L102, L104, L107, L110, L119, L144, L240, L255, L256, L360, L999, L1000000, nI_val, n_lt_t, n_lt_f, n_le_t, n_le_f, n_eq_t, n_eq_f, k_le_f, m_lt_t, m_lt_f, m_le_t, m_le_f, m_eq_f, m_eq_f', nI_add, nI_mulE, nI_subE, if_true, if_false, ite_true, ite_false, or_false, false_or, or_true, true_or, or_self, and_true, true_and, and_false, false_and, not_true_eq_false, not_false_eq_true, Option.bind_some, Sum.elim_inl, Sum.elim_inr, xu_set, xset_same, xset_ne, xset_2, xset_set, upd_same, upd_ne, nbI_some, ne_eq, reduceCtorEq, reduceIte, Nat.reduceAdd, Nat.reduceMul, Nat.reduceSub, Nat.add_zero, Nat.zero_add, Nat.mul_zero, Nat.zero_mul, e', an', b01, Bool.false_eq_true]
theorem still1 {i : Nat} (rt : RT u0 n0 u1 n1 l s s4) (h15 : s4.1 0 15 = nI 0) (ka : KR KM [20] s4 a) (hi : i < (twn u0 n0).1) : ∃ s', F_X9_isStill (nI i) (nbI none) a = some (nI (b01 (fQ1 u0 n0 u1 n1 l i)), s') ∧ KR KM [20] s4 s' ∧ s'.1 15 = a.1 15 := by
  have hok := twn_ok u0 n0
  have hN := hok.1.1
  have hT := rt.2.2.1
  have hl := rt.2.1.2.2.2.2.2.2.1
  have r3 : a.1 3 = s4.1 3 := ka.1 3 (by decide) (by decide)
  have e3 : a.1 3 i = nI ((twn u0 n0).2.2.2 i) := by rw [r3]; exact (hT.2.2.2.2 i hi).2
  have k3 := (hok.2.2.1 i hi).1
  unfold fQ1 F_X9_isStill F_X9_isStill_J15 F_X9_isStill_J31
  by_cases p : (twn u0 n0).2.2.2 i = 0
  · obtain ⟨s', e', k', g', p', n'⟩ := feltRun (x := some i) (y := none) (g := upd (a.1 3) i (nI 2)) rt h15 ka (fun j q => by cases q; exact p) (fun j q => by cases q) (fun j hj => by
      unfold kdf
      by_cases c : j = i
      · rw [if_pos (Or.inl (by rw [c])), c, upd_same]
      · rw [if_neg (fun z => z.elim (fun y => c (Option.some.inj y).symm) (fun y => by cases y)), upd_ne _ _ c, r3]
        exact (hT.2.2.2.2 j hj).2)
    have rr : upd (s'.1 3) i (nI 0) = s4.1 3 := by
      funext j
      rw [g']
      by_cases c : j = i
      · rw [c, upd_same, ← r3, e3, p]
      · rw [upd_ne _ _ c, upd_ne _ _ c, r3]
    refine ⟨xset s' 3 (upd (s'.1 3) i (nI 0)), ?_, KR3f k' rr, by rw [xset_ne _ _ (by omega)]; exact p'⟩
    have an := stl_ans (x := some i) (y := none) (t := xset s' 3 (upd (s'.1 3) i (nI 0))) hl (by rw [xset_ne _ _ (by omega)]; exact n')
    rw [xset_ne _ _ (by omega)] at an
    unfold F_X9_isStill_J56 F_X9_isStill_J68 F_X9_isStill_J84
    rw [p] at e3
    cases z : stl u0 n0 u1 n1 l (some i) none with
    | true =>
      have an' : (s'.1 0 20 = nbI none) = True := by rw [an, z]; exact eq_true rfl
      simp (disch := omega) only [↓Lm1, L0, L1, L2, L3, L4, L5, L6, L7, L8, L9, L10, L11, L12, L13, L14, L15, L16, L17, L18, L19, L20, L27, L30, L31, L35, L36, L37, L38, L39, L40, L41, L46, L48, L51, L57, L59, L60, L82, L98, L99, L100, L102, L104, L107, L110, L119, L144, L240, L255, L256, L360, L999, L1000000, nI_val, n_lt_t, n_lt_f, n_le_t, n_le_f, n_eq_t, n_eq_f, k_le_f, m_lt_t, m_lt_f, m_le_t, m_le_f, m_eq_f, m_eq_f', nI_add, nI_mulE, nI_subE, if_true, if_false, ite_true, ite_false, or_false, false_or, or_true, true_or, or_self, and_true, true_and, and_false, false_and, not_true_eq_false, not_false_eq_true, Option.bind_some, Sum.elim_inl, Sum.elim_inr, xu_set, xset_same, xset_ne, xset_2, xset_set, upd_same, upd_ne, nbI_some, ne_eq, reduceCtorEq, reduceIte, Nat.reduceAdd, Nat.reduceMul, Nat.reduceSub, Nat.add_zero, Nat.zero_add, Nat.mul_zero, Nat.zero_mul, e3, e', an', b01, p, decide_true, Bool.and_self]
    | false =>
      have an' : (s'.1 0 20 = nbI none) = False := by rw [an, z]; exact eq_false Bool.false_ne_true
      simp (disch := omega) only [↓Lm1, L0, L1, L2, L3, L4, L5, L6, L7, L8, L9, L10, L11, L12, L13, L14, L15, L16, L17, L18, L19, L20, L27, L30, L31, L35, L36, L37, L38, L39, L40, L41, L46, L48, L51, L57, L59, L60, L82, L98, L99, L100, L102, L104, L107, L110, L119, L144, L240, L255, L256, L360, L999, L1000000, nI_val, n_lt_t, n_lt_f, n_le_t, n_le_f, n_eq_t, n_eq_f, k_le_f, m_lt_t, m_lt_f, m_le_t, m_le_f, m_eq_f, m_eq_f', nI_add, nI_mulE, nI_subE, if_true, if_false, ite_true, ite_false, or_false, false_or, or_true, true_or, or_self, and_true, true_and, and_false, false_and, not_true_eq_false, not_false_eq_true, Option.bind_some, Sum.elim_inl, Sum.elim_inr, xu_set, xset_same, xset_ne, xset_2, xset_set, upd_same, upd_ne, nbI_some, ne_eq, reduceCtorEq, reduceIte, Nat.reduceAdd, Nat.reduceMul, Nat.reduceSub, Nat.add_zero, Nat.zero_add, Nat.mul_zero, Nat.zero_mul, e3, e', an', b01, Bool.and_false, Bool.false_eq_true]
  · refine ⟨a, ?_, ka, rfl⟩
    simp (disch := omega) only [↓Lm1, L0, L1, L2, L3, L4, L5, L6, L7, L8, L9, L10, L11, L12, L13, L14, L15, L16, L17, L18, L19, L20, L27, L30, L31, L35, L36, L37, L38, L39, L40, L41, L46, L48, L51, L57, L59, L60, L82, L98, L99, L100, L102, L104, L107, L110, L119, L144, L240, L255, L256, L360, L999, L1000000, nI_val, n_lt_t, n_lt_f, n_le_t, n_le_f, n_eq_t, n_eq_f, k_le_f, m_lt_t, m_lt_f, m_le_t, m_le_f, m_eq_f, m_eq_f', nI_add, nI_mulE, nI_subE, if_true, if_false, ite_true, ite_false, or_false, false_or, or_true, true_or, or_self, and_true, true_and, and_false, false_and, not_true_eq_false, not_false_eq_true, Option.bind_some, Sum.elim_inl, Sum.elim_inr, xu_set, xset_same, xset_ne, xset_2, xset_set, upd_same, upd_ne, nbI_some, ne_eq, reduceCtorEq, reduceIte, Nat.reduceAdd, Nat.reduceMul, Nat.reduceSub, Nat.add_zero, Nat.zero_add, Nat.mul_zero, Nat.zero_mul, e3, p, b01, decide_false, Bool.false_and, Bool.false_eq_true]
theorem still2 {i k : Nat} (rt : RT u0 n0 u1 n1 l s s4) (h15 : s4.1 0 15 = nI 0) (ka : KR KM [20] s4 a) (hi : i < k) (hk : k < (twn u0 n0).1) : ∃ s', F_X9_isStill (nI i) (nI k) a = some (nI (b01 (fQ2 u0 n0 u1 n1 l i k)), s') ∧ KR KM [20] s4 s' ∧ s'.1 15 = a.1 15 := by
  have hok := twn_ok u0 n0
  have hN := hok.1.1
  have hT := rt.2.2.1
  have hl := rt.2.1.2.2.2.2.2.2.1
  have r3 : a.1 3 = s4.1 3 := ka.1 3 (by decide) (by decide)
  have e3 : a.1 3 i = nI ((twn u0 n0).2.2.2 i) := by rw [r3]; exact (hT.2.2.2.2 i (by omega)).2
  have e3k : a.1 3 k = nI ((twn u0 n0).2.2.2 k) := by rw [r3]; exact (hT.2.2.2.2 k hk).2
  have k3 := (hok.2.2.1 i (by omega)).1
  have k3k := (hok.2.2.1 k hk).1
  have dl : decide (i < k) = true := decide_eq_true hi
  unfold fQ2 F_X9_isStill F_X9_isStill_J15 F_X9_isStill_J31
  by_cases p : (twn u0 n0).2.2.2 i = 0
  · by_cases pk : (twn u0 n0).2.2.2 k = 0
    · obtain ⟨s', e', k', g', p', n'⟩ := feltRun (x := some i) (y := some k) (g := upd (upd (a.1 3) i (nI 2)) k (nI 2)) rt h15 ka (fun j q => by cases q; exact p) (fun j q => by cases q; exact pk) (fun j hj => by
        unfold kdf
        by_cases ck : j = k
        · rw [if_pos (Or.inr (by rw [ck])), ck, upd_same]
        · by_cases c : j = i
          · rw [if_pos (Or.inl (by rw [c])), upd_ne _ _ ck, c, upd_same]
          · rw [if_neg (fun z => z.elim (fun y => c (Option.some.inj y).symm) (fun y => ck (Option.some.inj y).symm)), upd_ne _ _ ck, upd_ne _ _ c, r3]
            exact (hT.2.2.2.2 j hj).2)
      have rr : upd (upd (s'.1 3) i (nI 0)) k (nI 0) = s4.1 3 := by
        funext j
        rw [g']
        by_cases ck : j = k
        · rw [ck, upd_same, ← r3, e3k, pk]
        · rw [upd_ne _ _ ck]
          by_cases c : j = i
          · rw [c, upd_same, ← r3, e3, p]
          · rw [upd_ne _ _ c, upd_ne _ _ ck, upd_ne _ _ c, r3]
      refine ⟨xset s' 3 (upd (upd (s'.1 3) i (nI 0)) k (nI 0)), ?_, KR3f k' rr, by rw [xset_ne _ _ (by omega)]; exact p'⟩
      have an := stl_ans (x := some i) (y := some k) hl n'
      unfold F_X9_isStill_J56 F_X9_isStill_J68 F_X9_isStill_J84
      rw [p] at e3
      rw [pk] at e3k
      cases z : stl u0 n0 u1 n1 l (some i) (some k) with
      | true =>
        have an' : (s'.1 0 20 = nbI none) = True := by rw [an, z]; exact eq_true rfl
        simp (disch := omega) only [↓Lm1, L0, L1, L2, L3, L4, L5, L6, L7, L8, L9, L10, L11, L12, L13, L14, L15, L16, L17, L18, L19, L20, L27, L30, L31, L35, L36, L37, L38, L39, L40, L41, L46, L48, L51, L57, L59, L60, L82, L98, L99, L100, L102, L104, L107, L110, L119, L144, L240, L255, L256, L360, L999, L1000000, nI_val, n_lt_t, n_lt_f, n_le_t, n_le_f, n_eq_t, n_eq_f, k_le_f, m_lt_t, m_lt_f, m_le_t, m_le_f, m_eq_f, m_eq_f', nI_add, nI_mulE, nI_subE, if_true, if_false, ite_true, ite_false, or_false, false_or, or_true, true_or, or_self, and_true, true_and, and_false, false_and, not_true_eq_false, not_false_eq_true, Option.bind_some, Sum.elim_inl, Sum.elim_inr, xu_set, xset_same, xset_ne, xset_2, xset_set, upd_same, upd_ne, nbI_some, ne_eq, reduceCtorEq, reduceIte, Nat.reduceAdd, Nat.reduceMul, Nat.reduceSub, Nat.add_zero, Nat.zero_add, Nat.mul_zero, Nat.zero_mul, e3, e3k, e', an', b01, p, pk, dl, decide_true, Bool.and_self]
      | false =>
        have an' : (s'.1 0 20 = nbI none) = False := by rw [an, z]; exact eq_false Bool.false_ne_true
        simp (disch := omega) only [↓Lm1, L0, L1, L2, L3, L4, L5, L6, L7, L8, L9, L10, L11, L12, L13, L14, L15, L16, L17, L18, L19, L20, L27, L30, L31, L35, L36, L37, L38, L39, L40, L41, L46, L48, L51, L57, L59, L60, L82, L98, L99, L100, L102, L104, L107, L110, L119, L144, L240, L255, L256, L360, L999, L1000000, nI_val, n_lt_t, n_lt_f, n_le_t, n_le_f, n_eq_t, n_eq_f, k_le_f, m_lt_t, m_lt_f, m_le_t, m_le_f, m_eq_f, m_eq_f', nI_add, nI_mulE, nI_subE, if_true, if_false, ite_true, ite_false, or_false, false_or, or_true, true_or, or_self, and_true, true_and, and_false, false_and, not_true_eq_false, not_false_eq_true, Option.bind_some, Sum.elim_inl, Sum.elim_inr, xu_set, xset_same, xset_ne, xset_2, xset_set, upd_same, upd_ne, nbI_some, ne_eq, reduceCtorEq, reduceIte, Nat.reduceAdd, Nat.reduceMul, Nat.reduceSub, Nat.add_zero, Nat.zero_add, Nat.mul_zero, Nat.zero_mul, e3, e3k, e', an', b01, Bool.and_false, Bool.false_eq_true]
    · refine ⟨a, ?_, ka, rfl⟩
      rw [p] at e3
      simp (disch := omega) only [↓Lm1, L0, L1, L2, L3, L4, L5, L6, L7, L8, L9, L10, L11, L12, L13, L14, L15, L16, L17, L18, L19, L20, L27, L30, L31, L35, L36, L37, L38, L39, L40, L41, L46, L48, L51, L57, L59, L60, L82, L98, L99, L100, L102, L104, L107, L110, L119, L144, L240, L255, L256, L360, L999, L1000000, nI_val, n_lt_t, n_lt_f, n_le_t, n_le_f, n_eq_t, n_eq_f, k_le_f, m_lt_t, m_lt_f, m_le_t, m_le_f, m_eq_f, m_eq_f', nI_add, nI_mulE, nI_subE, if_true, if_false, ite_true, ite_false, or_false, false_or, or_true, true_or, or_self, and_true, true_and, and_false, false_and, not_true_eq_false, not_false_eq_true, Option.bind_some, Sum.elim_inl, Sum.elim_inr, xu_set, xset_same, xset_ne, xset_2, xset_set, upd_same, upd_ne, nbI_some, ne_eq, reduceCtorEq, reduceIte, Nat.reduceAdd, Nat.reduceMul, Nat.reduceSub, Nat.add_zero, Nat.zero_add, Nat.mul_zero, Nat.zero_mul, e3, e3k, p, pk, b01, decide_false, Bool.false_and, Bool.and_false, Bool.false_eq_true]
  · refine ⟨a, ?_, ka, rfl⟩
    simp (disch := omega) only [↓Lm1, L0, L1, L2, L3, L4, L5, L6, L7, L8, L9, L10, L11, L12, L13, L14, L15, L16, L17, L18, L19, L20, L27, L30, L31, L35, L36, L37, L38, L39, L40, L41, L46, L48, L51, L57, L59, L60, L82, L98, L99, L100, L102, L104, L107, L110, L119, L144, L240, L255, L256, L360, L999, L1000000, nI_val, n_lt_t, n_lt_f, n_le_t, n_le_f, n_eq_t, n_eq_f, k_le_f, m_lt_t, m_lt_f, m_le_t, m_le_f, m_eq_f, m_eq_f', nI_add, nI_mulE, nI_subE, if_true, if_false, ite_true, ite_false, or_false, false_or, or_true, true_or, or_self, and_true, true_and, and_false, false_and, not_true_eq_false, not_false_eq_true, Option.bind_some, Sum.elim_inl, Sum.elim_inr, xu_set, xset_same, xset_ne, xset_2, xset_set, upd_same, upd_ne, nbI_some, ne_eq, reduceCtorEq, reduceIte, Nat.reduceAdd, Nat.reduceMul, Nat.reduceSub, Nat.add_zero, Nat.zero_add, Nat.mul_zero, Nat.zero_mul, e3, e3k, p, b01, decide_false, Bool.false_and, Bool.and_false, Bool.false_eq_true]
theorem wfl_none (kd : Nat → Nat) : wfl kd none none = fun j => tl (kd j) := by
  funext j
  unfold wfl
  rw [if_neg (fun z => z.elim (fun y => by cases y) (fun y => by cases y))]
theorem oneM (rt : RT u0 n0 u1 n1 l s s4) (h15 : s4.1 0 15 = nI 0) (ka : KR KM [20] s4 a) : ∃ b, xlp F_X9_feltBy_L17 100000 (nI 0, a) = some b ∧ ((∃ i t, b = Sum.inl t ∧ fst_ (fQ1 u0 n0 u1 n1 l) (twn u0 n0).1 = some i ∧ KR KM [20] s4 t ∧ t.1 15 0 = nI i) ∨ (∃ t, b = Sum.inr t ∧ fst_ (fQ1 u0 n0 u1 n1 l) (twn u0 n0).1 = none ∧ KR KM [20] s4 t)) := by
  have hN := (twn_ok u0 n0).1.1
  obtain ⟨Q, hQ⟩ : ∃ Q : Nat → Bool, Q = fQ1 u0 n0 u1 n1 l := ⟨_, rfl⟩
  rw [← hQ]
  refine xlp_cnt (f := F_X9_feltBy_L17) (fun i a => a.1 = nI i ∧ KR KM [20] s4 a.2 ∧ fst_ Q i = none) (fun b => (∃ i t, b = Sum.inl t ∧ fst_ Q (twn u0 n0).1 = some i ∧ KR KM [20] s4 t ∧ t.1 15 0 = nI i) ∨ (∃ t, b = Sum.inr t ∧ fst_ Q (twn u0 n0).1 = none ∧ KR KM [20] s4 t)) (twn u0 n0).1 (by omega) ?_ ?_ (a := (nI 0, a)) ⟨rfl, ka, rfl⟩
  · intro i a hi ⟨h1, h2, h3⟩
    obtain ⟨a1, s'⟩ := a
    dsimp only at h1 h2
    subst h1
    have h03 : s'.1 0 3 = nI (twn u0 n0).1 := by rw [h2.2 3 (by decide)]; exact rt.2.2.1.2.1
    obtain ⟨t, et, kt, pt⟩ := still1 (a := xset s' 15 (upd (s'.1 15) 0 (nI i))) rt h15 (h2.set _ (by decide) (by decide)) hi
    rw [← hQ] at et
    unfold F_X9_feltBy_L17
    cases z : Q i with
    | false =>
      rw [z] at et
      have et' : F_X9_isStill (nI i) (nbI none) (xset s' 15 (upd (s'.1 15) 0 (nI i))) = some (nI 0, t) := et
      left
      refine ⟨(nI (i + 1), t), ?_, rfl, kt, fst_miss h3 z⟩
      simp (disch := omega) only [↓Lm1, L0, L1, L2, L3, L4, L5, L6, L7, L8, L9, L10, L11, L12, L13, L14, L15, L16, L17, L18, L19, L20, L27, L30, L31, L35, L36, L37, L38, L39, L40, L41, L46, L48, L51, L57, L59, L60, L82, L98, L99, L100, L102, L104, L107, L110, L119, L144, L240, L255, L256, L360, L999, L1000000, nI_val, n_lt_t, n_lt_f, n_le_t, n_le_f, n_eq_t, n_eq_f, k_le_f, m_lt_t, m_lt_f, m_le_t, m_le_f, m_eq_f, m_eq_f', nI_add, nI_mulE, nI_subE, if_true, if_false, ite_true, ite_false, or_false, false_or, or_true, true_or, or_self, and_true, true_and, and_false, false_and, not_true_eq_false, not_false_eq_true, Option.bind_some, Sum.elim_inl, Sum.elim_inr, xu_set, xset_same, xset_ne, xset_2, xset_set, upd_same, upd_ne, nbI_some, ne_eq, reduceCtorEq, reduceIte, Nat.reduceAdd, Nat.reduceMul, Nat.reduceSub, Nat.add_zero, Nat.zero_add, Nat.mul_zero, Nat.zero_mul, h03, et']
    | true =>
      rw [z] at et
      have et' : F_X9_isStill (nI i) (nbI none) (xset s' 15 (upd (s'.1 15) 0 (nI i))) = some (nI 1, t) := et
      right
      refine ⟨Sum.inl t, ?_, Or.inl ⟨i, t, rfl, fst_hit h3 z hi, kt, by rw [pt, xset_same, upd_same]⟩⟩
      simp (disch := omega) only [↓Lm1, L0, L1, L2, L3, L4, L5, L6, L7, L8, L9, L10, L11, L12, L13, L14, L15, L16, L17, L18, L19, L20, L27, L30, L31, L35, L36, L37, L38, L39, L40, L41, L46, L48, L51, L57, L59, L60, L82, L98, L99, L100, L102, L104, L107, L110, L119, L144, L240, L255, L256, L360, L999, L1000000, nI_val, n_lt_t, n_lt_f, n_le_t, n_le_f, n_eq_t, n_eq_f, k_le_f, m_lt_t, m_lt_f, m_le_t, m_le_f, m_eq_f, m_eq_f', nI_add, nI_mulE, nI_subE, if_true, if_false, ite_true, ite_false, or_false, false_or, or_true, true_or, or_self, and_true, true_and, and_false, false_and, not_true_eq_false, not_false_eq_true, Option.bind_some, Sum.elim_inl, Sum.elim_inr, xu_set, xset_same, xset_ne, xset_2, xset_set, upd_same, upd_ne, nbI_some, ne_eq, reduceCtorEq, reduceIte, Nat.reduceAdd, Nat.reduceMul, Nat.reduceSub, Nat.add_zero, Nat.zero_add, Nat.mul_zero, Nat.zero_mul, h03, et']
  · intro a ⟨h1, h2, h3⟩
    obtain ⟨a1, s'⟩ := a
    dsimp only at h1 h2
    subst h1
    have h03 : s'.1 0 3 = nI (twn u0 n0).1 := by rw [h2.2 3 (by decide)]; exact rt.2.2.1.2.1
    refine ⟨Sum.inr s', ?_, Or.inr ⟨s', rfl, h3, h2⟩⟩
    unfold F_X9_feltBy_L17
    simp (disch := omega) only [↓Lm1, L0, L1, L2, L3, L4, L5, L6, L7, L8, L9, L10, L11, L12, L13, L14, L15, L16, L17, L18, L19, L20, L27, L30, L31, L35, L36, L37, L38, L39, L40, L41, L46, L48, L51, L57, L59, L60, L82, L98, L99, L100, L102, L104, L107, L110, L119, L144, L240, L255, L256, L360, L999, L1000000, nI_val, n_lt_t, n_lt_f, n_le_t, n_le_f, n_eq_t, n_eq_f, k_le_f, m_lt_t, m_lt_f, m_le_t, m_le_f, m_eq_f, m_eq_f', nI_add, nI_mulE, nI_subE, if_true, if_false, ite_true, ite_false, or_false, false_or, or_true, true_or, or_self, and_true, true_and, and_false, false_and, not_true_eq_false, not_false_eq_true, Option.bind_some, Sum.elim_inl, Sum.elim_inr, xu_set, xset_same, xset_ne, xset_2, xset_set, upd_same, upd_ne, nbI_some, ne_eq, reduceCtorEq, reduceIte, Nat.reduceAdd, Nat.reduceMul, Nat.reduceSub, Nat.add_zero, Nat.zero_add, Nat.mul_zero, Nat.zero_mul, h03]
theorem twoM_in {i : Nat} (rt : RT u0 n0 u1 n1 l s s4) (h15 : s4.1 0 15 = nI 0) (ka : KR KM [20] s4 a) (hi : i < (twn u0 n0).1) : ∃ b, xlp (F_X9_feltBy_L63 (nI i)) 100000 (nI (i + 1), a) = some b ∧ ((∃ j t, b = Sum.inl t ∧ fst_ (fQ2 u0 n0 u1 n1 l i) (twn u0 n0).1 = some j ∧ KR KM [20] s4 t ∧ t.1 15 0 = nI i ∧ t.1 15 1 = nI j) ∨ (∃ t, b = Sum.inr t ∧ fst_ (fQ2 u0 n0 u1 n1 l i) (twn u0 n0).1 = none ∧ KR KM [20] s4 t)) := by
  have hN := (twn_ok u0 n0).1.1
  obtain ⟨Q, hQ⟩ : ∃ Q : Nat → Bool, Q = fQ2 u0 n0 u1 n1 l i := ⟨_, rfl⟩
  rw [← hQ]
  have start : fst_ Q (i + 1) = none := fst_all (fun c hc => by
    rw [hQ]
    show (decide (i < c) && _ && _ && _) = false
    rw [decide_eq_false (show ¬ i < c by omega)]
    rfl)
  refine xlp_cnt (f := F_X9_feltBy_L63 (nI i)) (fun k a => a.1 = nI (i + 1 + k) ∧ KR KM [20] s4 a.2 ∧ fst_ Q (i + 1 + k) = none) (fun b => (∃ j t, b = Sum.inl t ∧ fst_ Q (twn u0 n0).1 = some j ∧ KR KM [20] s4 t ∧ t.1 15 0 = nI i ∧ t.1 15 1 = nI j) ∨ (∃ t, b = Sum.inr t ∧ fst_ Q (twn u0 n0).1 = none ∧ KR KM [20] s4 t)) ((twn u0 n0).1 - (i + 1)) (by omega) ?_ ?_ (a := (nI (i + 1), a)) ⟨rfl, ka, start⟩
  · intro k a hk ⟨h1, h2, h3⟩
    obtain ⟨a1, s'⟩ := a
    dsimp only at h1 h2
    obtain ⟨j, hj⟩ : ∃ j, j = i + 1 + k := ⟨_, rfl⟩
    have hs : i + 1 + (k + 1) = j + 1 := by omega
    rw [← hj] at h1 h3
    rw [hs]
    subst h1
    have hjN : j < (twn u0 n0).1 := by omega
    have h03 : s'.1 0 3 = nI (twn u0 n0).1 := by rw [h2.2 3 (by decide)]; exact rt.2.2.1.2.1
    obtain ⟨t, et, kt, pt⟩ := still2 (a := xset s' 15 (upd (upd (s'.1 15) 0 (nI i)) 1 (nI j))) rt h15 (h2.set _ (by decide) (by decide)) (show i < j by omega) hjN
    rw [← hQ] at et
    have p0 : t.1 15 0 = nI i := by rw [pt, xset_same, upd_ne _ _ (by omega), upd_same]
    have p1 : t.1 15 1 = nI j := by rw [pt, xset_same, upd_same]
    unfold F_X9_feltBy_L63
    cases z : Q j with
    | false =>
      rw [z] at et
      have et' : F_X9_isStill (nI i) (nI j) (xset s' 15 (upd (upd (s'.1 15) 0 (nI i)) 1 (nI j))) = some (nI 0, t) := et
      left
      refine ⟨(nI (j + 1), t), ?_, rfl, kt, fst_miss h3 z⟩
      simp (disch := omega) only [↓Lm1, L0, L1, L2, L3, L4, L5, L6, L7, L8, L9, L10, L11, L12, L13, L14, L15, L16, L17, L18, L19, L20, L27, L30, L31, L35, L36, L37, L38, L39, L40, L41, L46, L48, L51, L57, L59, L60, L82, L98, L99, L100, L102, L104, L107, L110, L119, L144, L240, L255, L256, L360, L999, L1000000, nI_val, n_lt_t, n_lt_f, n_le_t, n_le_f, n_eq_t, n_eq_f, k_le_f, m_lt_t, m_lt_f, m_le_t, m_le_f, m_eq_f, m_eq_f', nI_add, nI_mulE, nI_subE, if_true, if_false, ite_true, ite_false, or_false, false_or, or_true, true_or, or_self, and_true, true_and, and_false, false_and, not_true_eq_false, not_false_eq_true, Option.bind_some, Sum.elim_inl, Sum.elim_inr, xu_set, xset_same, xset_ne, xset_2, xset_set, upd_same, upd_ne, nbI_some, ne_eq, reduceCtorEq, reduceIte, Nat.reduceAdd, Nat.reduceMul, Nat.reduceSub, Nat.add_zero, Nat.zero_add, Nat.mul_zero, Nat.zero_mul, h03, et']
    | true =>
      rw [z] at et
      have et' : F_X9_isStill (nI i) (nI j) (xset s' 15 (upd (upd (s'.1 15) 0 (nI i)) 1 (nI j))) = some (nI 1, t) := et
      right
      refine ⟨Sum.inl t, ?_, Or.inl ⟨j, t, rfl, fst_hit h3 z hjN, kt, p0, p1⟩⟩
      simp (disch := omega) only [↓Lm1, L0, L1, L2, L3, L4, L5, L6, L7, L8, L9, L10, L11, L12, L13, L14, L15, L16, L17, L18, L19, L20, L27, L30, L31, L35, L36, L37, L38, L39, L40, L41, L46, L48, L51, L57, L59, L60, L82, L98, L99, L100, L102, L104, L107, L110, L119, L144, L240, L255, L256, L360, L999, L1000000, nI_val, n_lt_t, n_lt_f, n_le_t, n_le_f, n_eq_t, n_eq_f, k_le_f, m_lt_t, m_lt_f, m_le_t, m_le_f, m_eq_f, m_eq_f', nI_add, nI_mulE, nI_subE, if_true, if_false, ite_true, ite_false, or_false, false_or, or_true, true_or, or_self, and_true, true_and, and_false, false_and, not_true_eq_false, not_false_eq_true, Option.bind_some, Sum.elim_inl, Sum.elim_inr, xu_set, xset_same, xset_ne, xset_2, xset_set, upd_same, upd_ne, nbI_some, ne_eq, reduceCtorEq, reduceIte, Nat.reduceAdd, Nat.reduceMul, Nat.reduceSub, Nat.add_zero, Nat.zero_add, Nat.mul_zero, Nat.zero_mul, h03, et']
  · intro a ⟨h1, h2, h3⟩
    obtain ⟨a1, s'⟩ := a
    dsimp only at h1 h2
    rw [show i + 1 + ((twn u0 n0).1 - (i + 1)) = (twn u0 n0).1 by omega] at h1 h3
    subst h1
    have h03 : s'.1 0 3 = nI (twn u0 n0).1 := by rw [h2.2 3 (by decide)]; exact rt.2.2.1.2.1
    refine ⟨Sum.inr s', ?_, Or.inr ⟨s', rfl, h3, h2⟩⟩
    unfold F_X9_feltBy_L63
    simp (disch := omega) only [↓Lm1, L0, L1, L2, L3, L4, L5, L6, L7, L8, L9, L10, L11, L12, L13, L14, L15, L16, L17, L18, L19, L20, L27, L30, L31, L35, L36, L37, L38, L39, L40, L41, L46, L48, L51, L57, L59, L60, L82, L98, L99, L100, L102, L104, L107, L110, L119, L144, L240, L255, L256, L360, L999, L1000000, nI_val, n_lt_t, n_lt_f, n_le_t, n_le_f, n_eq_t, n_eq_f, k_le_f, m_lt_t, m_lt_f, m_le_t, m_le_f, m_eq_f, m_eq_f', nI_add, nI_mulE, nI_subE, if_true, if_false, ite_true, ite_false, or_false, false_or, or_true, true_or, or_self, and_true, true_and, and_false, false_and, not_true_eq_false, not_false_eq_true, Option.bind_some, Sum.elim_inl, Sum.elim_inr, xu_set, xset_same, xset_ne, xset_2, xset_set, upd_same, upd_ne, nbI_some, ne_eq, reduceCtorEq, reduceIte, Nat.reduceAdd, Nat.reduceMul, Nat.reduceSub, Nat.add_zero, Nat.zero_add, Nat.mul_zero, Nat.zero_mul, h03]
theorem twoM (rt : RT u0 n0 u1 n1 l s s4) (h15 : s4.1 0 15 = nI 0) (ka : KR KM [20] s4 a) : ∃ b, xlp F_X9_feltBy_L51 100000 (nI 0, a) = some b ∧ ((∃ i j t, b = Sum.inl t ∧ fst_ (fQ3 u0 n0 u1 n1 l) (twn u0 n0).1 = some i ∧ fst_ (fQ2 u0 n0 u1 n1 l i) (twn u0 n0).1 = some j ∧ KR KM [20] s4 t ∧ t.1 15 0 = nI i ∧ t.1 15 1 = nI j) ∨ (∃ t, b = Sum.inr t ∧ fst_ (fQ3 u0 n0 u1 n1 l) (twn u0 n0).1 = none ∧ KR KM [20] s4 t)) := by
  have hN := (twn_ok u0 n0).1.1
  obtain ⟨Q, hQ⟩ : ∃ Q : Nat → Bool, Q = fQ3 u0 n0 u1 n1 l := ⟨_, rfl⟩
  rw [← hQ]
  refine xlp_cnt (f := F_X9_feltBy_L51) (fun i a => a.1 = nI i ∧ KR KM [20] s4 a.2 ∧ fst_ Q i = none) (fun b => (∃ i j t, b = Sum.inl t ∧ fst_ Q (twn u0 n0).1 = some i ∧ fst_ (fQ2 u0 n0 u1 n1 l i) (twn u0 n0).1 = some j ∧ KR KM [20] s4 t ∧ t.1 15 0 = nI i ∧ t.1 15 1 = nI j) ∨ (∃ t, b = Sum.inr t ∧ fst_ Q (twn u0 n0).1 = none ∧ KR KM [20] s4 t)) (twn u0 n0).1 (by omega) ?_ ?_ (a := (nI 0, a)) ⟨rfl, ka, rfl⟩
  · intro i a hi ⟨h1, h2, h3⟩
    obtain ⟨a1, s'⟩ := a
    dsimp only at h1 h2
    subst h1
    have h03 : s'.1 0 3 = nI (twn u0 n0).1 := by rw [h2.2 3 (by decide)]; exact rt.2.2.1.2.1
    have hQi : Q i = (fst_ (fQ2 u0 n0 u1 n1 l i) (twn u0 n0).1).isSome := by rw [hQ]; rfl
    obtain ⟨b, eb, q⟩ := twoM_in rt h15 h2 hi
    unfold F_X9_feltBy_L51
    rcases q with ⟨j, t, rfl, q1, q2, q3, q4⟩ | ⟨t, rfl, q1, q2⟩
    · right
      refine ⟨Sum.inl t, ?_, Or.inl ⟨i, j, t, rfl, fst_hit h3 (by rw [hQi, q1]; rfl) hi, q1, q2, q3, q4⟩⟩
      simp (disch := omega) only [↓Lm1, L0, L1, L2, L3, L4, L5, L6, L7, L8, L9, L10, L11, L12, L13, L14, L15, L16, L17, L18, L19, L20, L27, L30, L31, L35, L36, L37, L38, L39, L40, L41, L46, L48, L51, L57, L59, L60, L82, L98, L99, L100, L102, L104, L107, L110, L119, L144, L240, L255, L256, L360, L999, L1000000, nI_val, n_lt_t, n_lt_f, n_le_t, n_le_f, n_eq_t, n_eq_f, k_le_f, m_lt_t, m_lt_f, m_le_t, m_le_f, m_eq_f, m_eq_f', nI_add, nI_mulE, nI_subE, if_true, if_false, ite_true, ite_false, or_false, false_or, or_true, true_or, or_self, and_true, true_and, and_false, false_and, not_true_eq_false, not_false_eq_true, Option.bind_some, Sum.elim_inl, Sum.elim_inr, xu_set, xset_same, xset_ne, xset_2, xset_set, upd_same, upd_ne, nbI_some, ne_eq, reduceCtorEq, reduceIte, Nat.reduceAdd, Nat.reduceMul, Nat.reduceSub, Nat.add_zero, Nat.zero_add, Nat.mul_zero, Nat.zero_mul, h03, eb]
    · left
      refine ⟨(nI (i + 1), t), ?_, rfl, q2, fst_miss h3 (by rw [hQi, q1]; rfl)⟩
      simp (disch := omega) only [↓Lm1, L0, L1, L2, L3, L4, L5, L6, L7, L8, L9, L10, L11, L12, L13, L14, L15, L16, L17, L18, L19, L20, L27, L30, L31, L35, L36, L37, L38, L39, L40, L41, L46, L48, L51, L57, L59, L60, L82, L98, L99, L100, L102, L104, L107, L110, L119, L144, L240, L255, L256, L360, L999, L1000000, nI_val, n_lt_t, n_lt_f, n_le_t, n_le_f, n_eq_t, n_eq_f, k_le_f, m_lt_t, m_lt_f, m_le_t, m_le_f, m_eq_f, m_eq_f', nI_add, nI_mulE, nI_subE, if_true, if_false, ite_true, ite_false, or_false, false_or, or_true, true_or, or_self, and_true, true_and, and_false, false_and, not_true_eq_false, not_false_eq_true, Option.bind_some, Sum.elim_inl, Sum.elim_inr, xu_set, xset_same, xset_ne, xset_2, xset_set, upd_same, upd_ne, nbI_some, ne_eq, reduceCtorEq, reduceIte, Nat.reduceAdd, Nat.reduceMul, Nat.reduceSub, Nat.add_zero, Nat.zero_add, Nat.mul_zero, Nat.zero_mul, h03, eb]
  · intro a ⟨h1, h2, h3⟩
    obtain ⟨a1, s'⟩ := a
    dsimp only at h1 h2
    subst h1
    have h03 : s'.1 0 3 = nI (twn u0 n0).1 := by rw [h2.2 3 (by decide)]; exact rt.2.2.1.2.1
    refine ⟨Sum.inr s', ?_, Or.inr ⟨s', rfl, h3, h2⟩⟩
    unfold F_X9_feltBy_L51
    simp (disch := omega) only [↓Lm1, L0, L1, L2, L3, L4, L5, L6, L7, L8, L9, L10, L11, L12, L13, L14, L15, L16, L17, L18, L19, L20, L27, L30, L31, L35, L36, L37, L38, L39, L40, L41, L46, L48, L51, L57, L59, L60, L82, L98, L99, L100, L102, L104, L107, L110, L119, L144, L240, L255, L256, L360, L999, L1000000, nI_val, n_lt_t, n_lt_f, n_le_t, n_le_f, n_eq_t, n_eq_f, k_le_f, m_lt_t, m_lt_f, m_le_t, m_le_f, m_eq_f, m_eq_f', nI_add, nI_mulE, nI_subE, if_true, if_false, ite_true, ite_false, or_false, false_or, or_true, true_or, or_self, and_true, true_and, and_false, false_and, not_true_eq_false, not_false_eq_true, Option.bind_some, Sum.elim_inl, Sum.elim_inr, xu_set, xset_same, xset_ne, xset_2, xset_set, upd_same, upd_ne, nbI_some, ne_eq, reduceCtorEq, reduceIte, Nat.reduceAdd, Nat.reduceMul, Nat.reduceSub, Nat.add_zero, Nat.zero_add, Nat.mul_zero, Nat.zero_mul, h03]
theorem m_felt (h : BM u0 n0 u1 n1 l s) : ∃ s', F_X9_feltBy s = some (nbI (fsp u0 n0 u1 n1 l).1, s') ∧ RT u0 n0 u1 n1 l s s' ∧ ∀ i : Option Nat, (∀ x, i = some x → x < 2) → F_X9_ofRow (nbI (fsp u0 n0 u1 n1 l).1) (nbI i) s' = some (fev u0 n0 u1 n1 l i) := by
  obtain ⟨s4, e4, rt, h15⟩ := asToldM h
  have hl := h.2.2.2.2.2.2.1
  obtain ⟨t0, e0, k0, _⟩ := still0 rt h15 (KR.refl KM [20] s4)
  have hst : (stl u0 n0 u1 n1 l none none = true) = ((ngt (twn u0 n0).1 (ls0 u0 n0) (ddat u1 n1) all_ l).1 = none) := by
    unfold stl
    rw [wfl_none]
    exact propext ⟨fun q => of_decide_eq_true q, fun q => decide_eq_true q⟩
  have row : ∀ t : xS, ∀ i : Option Nat, i = none → F_X9_ofRow (nbI (fsp u0 n0 u1 n1 l).1) (nbI i) t = some (fev u0 n0 u1 n1 l i) := by
    intro t i hi
    subst hi
    unfold F_X9_ofRow fev
    exact if_pos rfl
  unfold F_X9_feltBy
  by_cases w : (ngt (twn u0 n0).1 (ls0 u0 n0) (ddat u1 n1) all_ l).1 = none
  · have z : stl u0 n0 u1 n1 l none none = true := by rw [hst]; exact w
    rw [z] at e0
    have e0' : F_X9_isStill (nbI none) (nbI none) s4 = some (nI 1, t0) := e0
    refine ⟨t0, ?_, rt.keep (k0.wide (by decide) (by decide)), ?_⟩
    · rw [fsp_0 w]
      simp (disch := omega) only [↓Lm1, L0, L1, L2, L3, L4, L5, L6, L7, L8, L9, L10, L11, L12, L13, L14, L15, L16, L17, L18, L19, L20, L27, L30, L31, L35, L36, L37, L38, L39, L40, L41, L46, L48, L51, L57, L59, L60, L82, L98, L99, L100, L102, L104, L107, L110, L119, L144, L240, L255, L256, L360, L999, L1000000, nI_val, n_lt_t, n_lt_f, n_le_t, n_le_f, n_eq_t, n_eq_f, k_le_f, m_lt_t, m_lt_f, m_le_t, m_le_f, m_eq_f, m_eq_f', nI_add, nI_mulE, nI_subE, if_true, if_false, ite_true, ite_false, or_false, false_or, or_true, true_or, or_self, and_true, true_and, and_false, false_and, not_true_eq_false, not_false_eq_true, Option.bind_some, Sum.elim_inl, Sum.elim_inr, xu_set, xset_same, xset_ne, xset_2, xset_set, upd_same, upd_ne, nbI_some, ne_eq, reduceCtorEq, reduceIte, Nat.reduceAdd, Nat.reduceMul, Nat.reduceSub, Nat.add_zero, Nat.zero_add, Nat.mul_zero, Nat.zero_mul, e4, e0']
    · intro i hi
      cases i with
      | none => exact row t0 none rfl
      | some i =>
        unfold F_X9_ofRow fev
        rw [fsp_0 w, nbI_some]
        rcases two_cases (hi i rfl) with rfl | rfl
        · simp (disch := omega) only [↓Lm1, L0, L1, L2, L3, L4, L5, L6, L7, L8, L9, L10, L11, L12, L13, L14, L15, L16, L17, L18, L19, L20, L27, L30, L31, L35, L36, L37, L38, L39, L40, L41, L46, L48, L51, L57, L59, L60, L82, L98, L99, L100, L102, L104, L107, L110, L119, L144, L240, L255, L256, L360, L999, L1000000, nI_val, n_lt_t, n_lt_f, n_le_t, n_le_f, n_eq_t, n_eq_f, k_le_f, m_lt_t, m_lt_f, m_le_t, m_le_f, m_eq_f, m_eq_f', nI_add, nI_mulE, nI_subE, if_true, if_false, ite_true, ite_false, or_false, false_or, or_true, true_or, or_self, and_true, true_and, and_false, false_and, not_true_eq_false, not_false_eq_true, Option.bind_some, Sum.elim_inl, Sum.elim_inr, xu_set, xset_same, xset_ne, xset_2, xset_set, upd_same, upd_ne, nbI_some, ne_eq, reduceCtorEq, reduceIte, Nat.reduceAdd, Nat.reduceMul, Nat.reduceSub, Nat.add_zero, Nat.zero_add, Nat.mul_zero, Nat.zero_mul]
        · simp (disch := omega) only [↓Lm1, L0, L1, L2, L3, L4, L5, L6, L7, L8, L9, L10, L11, L12, L13, L14, L15, L16, L17, L18, L19, L20, L27, L30, L31, L35, L36, L37, L38, L39, L40, L41, L46, L48, L51, L57, L59, L60, L82, L98, L99, L100, L102, L104, L107, L110, L119, L144, L240, L255, L256, L360, L999, L1000000, nI_val, n_lt_t, n_lt_f, n_le_t, n_le_f, n_eq_t, n_eq_f, k_le_f, m_lt_t, m_lt_f, m_le_t, m_le_f, m_eq_f, m_eq_f', nI_add, nI_mulE, nI_subE, if_true, if_false, ite_true, ite_false, or_false, false_or, or_true, true_or, or_self, and_true, true_and, and_false, false_and, not_true_eq_false, not_false_eq_true, Option.bind_some, Sum.elim_inl, Sum.elim_inr, xu_set, xset_same, xset_ne, xset_2, xset_set, upd_same, upd_ne, nbI_some, ne_eq, reduceCtorEq, reduceIte, Nat.reduceAdd, Nat.reduceMul, Nat.reduceSub, Nat.add_zero, Nat.zero_add, Nat.mul_zero, Nat.zero_mul]
  · have z : stl u0 n0 u1 n1 l none none = false := by
      cases q : stl u0 n0 u1 n1 l none none with
      | false => rfl
      | true => rw [q] at hst; exact absurd (hst ▸ rfl) w
    rw [z] at e0
    have e0' : F_X9_isStill (nbI none) (nbI none) s4 = some (nI 0, t0) := e0
    obtain ⟨b, eb, q⟩ := oneM rt h15 k0
    rcases q with ⟨i, t, rfl, q1, q2, q3⟩ | ⟨t, rfl, q1, q2⟩
    · refine ⟨t, ?_, rt.keep (q2.wide (by decide) (by decide)), ?_⟩
      · rw [fsp_1 w q1]
        simp (disch := omega) only [↓Lm1, L0, L1, L2, L3, L4, L5, L6, L7, L8, L9, L10, L11, L12, L13, L14, L15, L16, L17, L18, L19, L20, L27, L30, L31, L35, L36, L37, L38, L39, L40, L41, L46, L48, L51, L57, L59, L60, L82, L98, L99, L100, L102, L104, L107, L110, L119, L144, L240, L255, L256, L360, L999, L1000000, nI_val, n_lt_t, n_lt_f, n_le_t, n_le_f, n_eq_t, n_eq_f, k_le_f, m_lt_t, m_lt_f, m_le_t, m_le_f, m_eq_f, m_eq_f', nI_add, nI_mulE, nI_subE, if_true, if_false, ite_true, ite_false, or_false, false_or, or_true, true_or, or_self, and_true, true_and, and_false, false_and, not_true_eq_false, not_false_eq_true, Option.bind_some, Sum.elim_inl, Sum.elim_inr, xu_set, xset_same, xset_ne, xset_2, xset_set, upd_same, upd_ne, nbI_some, ne_eq, reduceCtorEq, reduceIte, Nat.reduceAdd, Nat.reduceMul, Nat.reduceSub, Nat.add_zero, Nat.zero_add, Nat.mul_zero, Nat.zero_mul, e4, e0', eb]
      · intro x hx
        cases x with
        | none => exact row t none rfl
        | some x =>
          unfold F_X9_ofRow fev
          rw [fsp_1 w q1, nbI_some]
          rcases two_cases (hx x rfl) with rfl | rfl
          · simp (disch := omega) only [↓Lm1, L0, L1, L2, L3, L4, L5, L6, L7, L8, L9, L10, L11, L12, L13, L14, L15, L16, L17, L18, L19, L20, L27, L30, L31, L35, L36, L37, L38, L39, L40, L41, L46, L48, L51, L57, L59, L60, L82, L98, L99, L100, L102, L104, L107, L110, L119, L144, L240, L255, L256, L360, L999, L1000000, nI_val, n_lt_t, n_lt_f, n_le_t, n_le_f, n_eq_t, n_eq_f, k_le_f, m_lt_t, m_lt_f, m_le_t, m_le_f, m_eq_f, m_eq_f', nI_add, nI_mulE, nI_subE, if_true, if_false, ite_true, ite_false, or_false, false_or, or_true, true_or, or_self, and_true, true_and, and_false, false_and, not_true_eq_false, not_false_eq_true, Option.bind_some, Sum.elim_inl, Sum.elim_inr, xu_set, xset_same, xset_ne, xset_2, xset_set, upd_same, upd_ne, nbI_some, ne_eq, reduceCtorEq, reduceIte, Nat.reduceAdd, Nat.reduceMul, Nat.reduceSub, Nat.add_zero, Nat.zero_add, Nat.mul_zero, Nat.zero_mul, q3]
          · simp (disch := omega) only [↓Lm1, L0, L1, L2, L3, L4, L5, L6, L7, L8, L9, L10, L11, L12, L13, L14, L15, L16, L17, L18, L19, L20, L27, L30, L31, L35, L36, L37, L38, L39, L40, L41, L46, L48, L51, L57, L59, L60, L82, L98, L99, L100, L102, L104, L107, L110, L119, L144, L240, L255, L256, L360, L999, L1000000, nI_val, n_lt_t, n_lt_f, n_le_t, n_le_f, n_eq_t, n_eq_f, k_le_f, m_lt_t, m_lt_f, m_le_t, m_le_f, m_eq_f, m_eq_f', nI_add, nI_mulE, nI_subE, if_true, if_false, ite_true, ite_false, or_false, false_or, or_true, true_or, or_self, and_true, true_and, and_false, false_and, not_true_eq_false, not_false_eq_true, Option.bind_some, Sum.elim_inl, Sum.elim_inr, xu_set, xset_same, xset_ne, xset_2, xset_set, upd_same, upd_ne, nbI_some, ne_eq, reduceCtorEq, reduceIte, Nat.reduceAdd, Nat.reduceMul, Nat.reduceSub, Nat.add_zero, Nat.zero_add, Nat.mul_zero, Nat.zero_mul]
    · obtain ⟨b2, eb2, q⟩ := twoM rt h15 q2
      rcases q with ⟨i, j, t', rfl, r1, r2, r3, r4, r5⟩ | ⟨t', rfl, r1, r3⟩
      · refine ⟨t', ?_, rt.keep (r3.wide (by decide) (by decide)), ?_⟩
        · rw [fsp_2 w q1 r1 r2]
          simp (disch := omega) only [↓Lm1, L0, L1, L2, L3, L4, L5, L6, L7, L8, L9, L10, L11, L12, L13, L14, L15, L16, L17, L18, L19, L20, L27, L30, L31, L35, L36, L37, L38, L39, L40, L41, L46, L48, L51, L57, L59, L60, L82, L98, L99, L100, L102, L104, L107, L110, L119, L144, L240, L255, L256, L360, L999, L1000000, nI_val, n_lt_t, n_lt_f, n_le_t, n_le_f, n_eq_t, n_eq_f, k_le_f, m_lt_t, m_lt_f, m_le_t, m_le_f, m_eq_f, m_eq_f', nI_add, nI_mulE, nI_subE, if_true, if_false, ite_true, ite_false, or_false, false_or, or_true, true_or, or_self, and_true, true_and, and_false, false_and, not_true_eq_false, not_false_eq_true, Option.bind_some, Sum.elim_inl, Sum.elim_inr, xu_set, xset_same, xset_ne, xset_2, xset_set, upd_same, upd_ne, nbI_some, ne_eq, reduceCtorEq, reduceIte, Nat.reduceAdd, Nat.reduceMul, Nat.reduceSub, Nat.add_zero, Nat.zero_add, Nat.mul_zero, Nat.zero_mul, e4, e0', eb, eb2]
        · intro x hx
          cases x with
          | none => exact row t' none rfl
          | some x =>
            unfold F_X9_ofRow fev
            rw [fsp_2 w q1 r1 r2, nbI_some]
            rcases two_cases (hx x rfl) with rfl | rfl
            · simp (disch := omega) only [↓Lm1, L0, L1, L2, L3, L4, L5, L6, L7, L8, L9, L10, L11, L12, L13, L14, L15, L16, L17, L18, L19, L20, L27, L30, L31, L35, L36, L37, L38, L39, L40, L41, L46, L48, L51, L57, L59, L60, L82, L98, L99, L100, L102, L104, L107, L110, L119, L144, L240, L255, L256, L360, L999, L1000000, nI_val, n_lt_t, n_lt_f, n_le_t, n_le_f, n_eq_t, n_eq_f, k_le_f, m_lt_t, m_lt_f, m_le_t, m_le_f, m_eq_f, m_eq_f', nI_add, nI_mulE, nI_subE, if_true, if_false, ite_true, ite_false, or_false, false_or, or_true, true_or, or_self, and_true, true_and, and_false, false_and, not_true_eq_false, not_false_eq_true, Option.bind_some, Sum.elim_inl, Sum.elim_inr, xu_set, xset_same, xset_ne, xset_2, xset_set, upd_same, upd_ne, nbI_some, ne_eq, reduceCtorEq, reduceIte, Nat.reduceAdd, Nat.reduceMul, Nat.reduceSub, Nat.add_zero, Nat.zero_add, Nat.mul_zero, Nat.zero_mul, r4]
            · simp (disch := omega) only [↓Lm1, L0, L1, L2, L3, L4, L5, L6, L7, L8, L9, L10, L11, L12, L13, L14, L15, L16, L17, L18, L19, L20, L27, L30, L31, L35, L36, L37, L38, L39, L40, L41, L46, L48, L51, L57, L59, L60, L82, L98, L99, L100, L102, L104, L107, L110, L119, L144, L240, L255, L256, L360, L999, L1000000, nI_val, n_lt_t, n_lt_f, n_le_t, n_le_f, n_eq_t, n_eq_f, k_le_f, m_lt_t, m_lt_f, m_le_t, m_le_f, m_eq_f, m_eq_f', nI_add, nI_mulE, nI_subE, if_true, if_false, ite_true, ite_false, or_false, false_or, or_true, true_or, or_self, and_true, true_and, and_false, false_and, not_true_eq_false, not_false_eq_true, Option.bind_some, Sum.elim_inl, Sum.elim_inr, xu_set, xset_same, xset_ne, xset_2, xset_set, upd_same, upd_ne, nbI_some, ne_eq, reduceCtorEq, reduceIte, Nat.reduceAdd, Nat.reduceMul, Nat.reduceSub, Nat.add_zero, Nat.zero_add, Nat.mul_zero, Nat.zero_mul, r5]
      · refine ⟨t', ?_, rt.keep (r3.wide (by decide) (by decide)), ?_⟩
        · rw [fsp_3 w q1 r1]
          simp (disch := omega) only [↓Lm1, L0, L1, L2, L3, L4, L5, L6, L7, L8, L9, L10, L11, L12, L13, L14, L15, L16, L17, L18, L19, L20, L27, L30, L31, L35, L36, L37, L38, L39, L40, L41, L46, L48, L51, L57, L59, L60, L82, L98, L99, L100, L102, L104, L107, L110, L119, L144, L240, L255, L256, L360, L999, L1000000, nI_val, n_lt_t, n_lt_f, n_le_t, n_le_f, n_eq_t, n_eq_f, k_le_f, m_lt_t, m_lt_f, m_le_t, m_le_f, m_eq_f, m_eq_f', nI_add, nI_mulE, nI_subE, if_true, if_false, ite_true, ite_false, or_false, false_or, or_true, true_or, or_self, and_true, true_and, and_false, false_and, not_true_eq_false, not_false_eq_true, Option.bind_some, Sum.elim_inl, Sum.elim_inr, xu_set, xset_same, xset_ne, xset_2, xset_set, upd_same, upd_ne, nbI_some, ne_eq, reduceCtorEq, reduceIte, Nat.reduceAdd, Nat.reduceMul, Nat.reduceSub, Nat.add_zero, Nat.zero_add, Nat.mul_zero, Nat.zero_mul, e4, e0', eb, eb2]
        · intro x hx
          cases x with
          | none => exact row t' none rfl
          | some x =>
            unfold F_X9_ofRow fev
            rw [fsp_3 w q1 r1, nbI_some]
            rcases two_cases (hx x rfl) with rfl | rfl
            · simp (disch := omega) only [↓Lm1, L0, L1, L2, L3, L4, L5, L6, L7, L8, L9, L10, L11, L12, L13, L14, L15, L16, L17, L18, L19, L20, L27, L30, L31, L35, L36, L37, L38, L39, L40, L41, L46, L48, L51, L57, L59, L60, L82, L98, L99, L100, L102, L104, L107, L110, L119, L144, L240, L255, L256, L360, L999, L1000000, nI_val, n_lt_t, n_lt_f, n_le_t, n_le_f, n_eq_t, n_eq_f, k_le_f, m_lt_t, m_lt_f, m_le_t, m_le_f, m_eq_f, m_eq_f', nI_add, nI_mulE, nI_subE, if_true, if_false, ite_true, ite_false, or_false, false_or, or_true, true_or, or_self, and_true, true_and, and_false, false_and, not_true_eq_false, not_false_eq_true, Option.bind_some, Sum.elim_inl, Sum.elim_inr, xu_set, xset_same, xset_ne, xset_2, xset_set, upd_same, upd_ne, nbI_some, ne_eq, reduceCtorEq, reduceIte, Nat.reduceAdd, Nat.reduceMul, Nat.reduceSub, Nat.add_zero, Nat.zero_add, Nat.mul_zero, Nat.zero_mul]
            · simp (disch := omega) only [↓Lm1, L0, L1, L2, L3, L4, L5, L6, L7, L8, L9, L10, L11, L12, L13, L14, L15, L16, L17, L18, L19, L20, L27, L30, L31, L35, L36, L37, L38, L39, L40, L41, L46, L48, L51, L57, L59, L60, L82, L98, L99, L100, L102, L104, L107, L110, L119, L144, L240, L255, L256, L360, L999, L1000000, nI_val, n_lt_t, n_lt_f, n_le_t, n_le_f, n_eq_t, n_eq_f, k_le_f, m_lt_t, m_lt_f, m_le_t, m_le_f, m_eq_f, m_eq_f', nI_add, nI_mulE, nI_subE, if_true, if_false, ite_true, ite_false, or_false, false_or, or_true, true_or, or_self, and_true, true_and, and_false, false_and, not_true_eq_false, not_false_eq_true, Option.bind_some, Sum.elim_inl, Sum.elim_inr, xu_set, xset_same, xset_ne, xset_2, xset_set, upd_same, upd_ne, nbI_some, ne_eq, reduceCtorEq, reduceIte, Nat.reduceAdd, Nat.reduceMul, Nat.reduceSub, Nat.add_zero, Nat.zero_add, Nat.mul_zero, Nat.zero_mul]
theorem c_felt : lh_felt Inv := by
  intro y s1 s2 hI
  have hI0 := hI
  obtain ⟨u0, n0, u1, n1, l, e, hA⟩ := hI
  have good : ∀ i : Option Nat, (∀ x, i = some x → x < 2) → F_X9_in (nbI i) (nbI none) (nI 1) s2 = some (nI 1) → ∃ (r : Int32) (t1 t2 : xS), F_X8_felt (nbI i) s1 = some (r, t1) ∧ F_X9_felt (nbI i) s2 = some (r, t2) ∧ Inv t1 t2 := by
    intro i hi hin
    obtain ⟨s', e', rt, row⟩ := m_felt hA.iM.1
    obtain ⟨t, et, ft, kt⟩ := q_felt hA.iF hi
    refine ⟨_, t, s', et, ?_, hA.mk2 ft kt rt.1⟩
    have er := row i hi
    unfold F_X9_felt
    simp (disch := omega) only [↓Lm1, L0, L1, L2, L3, L4, L5, L6, L7, L8, L9, L10, L11, L12, L13, L14, L15, L16, L17, L18, L19, L20, L27, L30, L31, L35, L36, L37, L38, L39, L40, L41, L46, L48, L51, L57, L59, L60, L82, L98, L99, L100, L102, L104, L107, L110, L119, L144, L240, L255, L256, L360, L999, L1000000, nI_val, n_lt_t, n_lt_f, n_le_t, n_le_f, n_eq_t, n_eq_f, k_le_f, m_lt_t, m_lt_f, m_le_t, m_le_f, m_eq_f, m_eq_f', nI_add, nI_mulE, nI_subE, if_true, if_false, ite_true, ite_false, or_false, false_or, or_true, true_or, or_self, and_true, true_and, and_false, false_and, not_true_eq_false, not_false_eq_true, Option.bind_some, Sum.elim_inl, Sum.elim_inr, xu_set, xset_same, xset_ne, xset_2, xset_set, upd_same, upd_ne, nbI_some, ne_eq, reduceCtorEq, reduceIte, Nat.reduceAdd, Nat.reduceMul, Nat.reduceSub, Nat.add_zero, Nat.zero_add, Nat.mul_zero, Nat.zero_mul, hin, e', er]
  by_cases y1 : y = nbI none
  · subst y1
    exact good none (fun x q => by cases q) (in_yes (by decide) (by decide))
  · rcases arg_cases y 2 with ⟨i, hi, rfl⟩ | hno
    · refine good (some i) (fun x q => by cases q; exact hi) ?_
      refine in_yes ?_ ?_
      · rw [nbI_some, m_lt_f (by omega)]; exact id
      · rw [nbI_some]; exact nI_nlt (by omega) (by omega)
    · refine ⟨-2, s1, s2, ?_, ?_, hI0⟩
      · unfold F_X8_felt
        by_cases c : y < nbI none
        · have c' := eq_true c
          simp (disch := omega) only [↓Lm1, L0, L1, L2, L3, L4, L5, L6, L7, L8, L9, L10, L11, L12, L13, L14, L15, L16, L17, L18, L19, L20, L27, L30, L31, L35, L36, L37, L38, L39, L40, L41, L46, L48, L51, L57, L59, L60, L82, L98, L99, L100, L102, L104, L107, L110, L119, L144, L240, L255, L256, L360, L999, L1000000, nI_val, n_lt_t, n_lt_f, n_le_t, n_le_f, n_eq_t, n_eq_f, k_le_f, m_lt_t, m_lt_f, m_le_t, m_le_f, m_eq_f, m_eq_f', nI_add, nI_mulE, nI_subE, if_true, if_false, ite_true, ite_false, or_false, false_or, or_true, true_or, or_self, and_true, true_and, and_false, false_and, not_true_eq_false, not_false_eq_true, Option.bind_some, Sum.elim_inl, Sum.elim_inr, xu_set, xset_same, xset_ne, xset_2, xset_set, upd_same, upd_ne, nbI_some, ne_eq, reduceCtorEq, reduceIte, Nat.reduceAdd, Nat.reduceMul, Nat.reduceSub, Nat.add_zero, Nat.zero_add, Nat.mul_zero, Nat.zero_mul, c']
        · have c' := eq_false c
          have c2 := arg_m_out (by omega) y1 hno c
          have c3 : (y ≤ nI 1) = False := eq_false (by rw [i_le, nI_toInt (by omega)]; rw [i_le, nI_toInt (by omega)] at c2; omega)
          simp (disch := omega) only [↓Lm1, L0, L1, L2, L3, L4, L5, L6, L7, L8, L9, L10, L11, L12, L13, L14, L15, L16, L17, L18, L19, L20, L27, L30, L31, L35, L36, L37, L38, L39, L40, L41, L46, L48, L51, L57, L59, L60, L82, L98, L99, L100, L102, L104, L107, L110, L119, L144, L240, L255, L256, L360, L999, L1000000, nI_val, n_lt_t, n_lt_f, n_le_t, n_le_f, n_eq_t, n_eq_f, k_le_f, m_lt_t, m_lt_f, m_le_t, m_le_f, m_eq_f, m_eq_f', nI_add, nI_mulE, nI_subE, if_true, if_false, ite_true, ite_false, or_false, false_or, or_true, true_or, or_self, and_true, true_and, and_false, false_and, not_true_eq_false, not_false_eq_true, Option.bind_some, Sum.elim_inl, Sum.elim_inr, xu_set, xset_same, xset_ne, xset_2, xset_set, upd_same, upd_ne, nbI_some, ne_eq, reduceCtorEq, reduceIte, Nat.reduceAdd, Nat.reduceMul, Nat.reduceSub, Nat.add_zero, Nat.zero_add, Nat.mul_zero, Nat.zero_mul, c', c3]
      · have hin : F_X9_in y (nbI none) (nI 1) s2 = some (nI 0) := by
          by_cases c : y < nbI none
          · exact in_lo c
          · refine in_hi c ?_
            have c2 := arg_m_out (by omega) y1 hno c
            rw [i_lt, nI_toInt (by omega)]
            rw [i_le, nI_toInt (by omega)] at c2
            omega
        unfold F_X9_felt
        simp (disch := omega) only [↓Lm1, L0, L1, L2, L3, L4, L5, L6, L7, L8, L9, L10, L11, L12, L13, L14, L15, L16, L17, L18, L19, L20, L27, L30, L31, L35, L36, L37, L38, L39, L40, L41, L46, L48, L51, L57, L59, L60, L82, L98, L99, L100, L102, L104, L107, L110, L119, L144, L240, L255, L256, L360, L999, L1000000, nI_val, n_lt_t, n_lt_f, n_le_t, n_le_f, n_eq_t, n_eq_f, k_le_f, m_lt_t, m_lt_f, m_le_t, m_le_f, m_eq_f, m_eq_f', nI_add, nI_mulE, nI_subE, if_true, if_false, ite_true, ite_false, or_false, false_or, or_true, true_or, or_self, and_true, true_and, and_false, false_and, not_true_eq_false, not_false_eq_true, Option.bind_some, Sum.elim_inl, Sum.elim_inr, xu_set, xset_same, xset_ne, xset_2, xset_set, upd_same, upd_ne, nbI_some, ne_eq, reduceCtorEq, reduceIte, Nat.reduceAdd, Nat.reduceMul, Nat.reduceSub, Nat.add_zero, Nat.zero_add, Nat.mul_zero, Nat.zero_mul, hin]
end SPEC
