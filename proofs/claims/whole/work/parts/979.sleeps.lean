/-! ===== sleeps ===== -/
section SPEC
variable {u0 : Nat → Nat} {n0 : Nat} {u1 : Nat → Nat} {n1 : Nat} {l : LD} {e : ED} {s s4 a : xS}
noncomputable def slT (u0 : Nat → Nat) (n0 : Nat) (u1 : Nat → Nat) (n1 : Nat) (l : LD) (c : Nat) (pr : Nat → Bool) : Nat := if (ngt (twn u0 n0).1 (ls0 u0 n0) (ddat u1 n1) pr l).1 = none then wgt c pr (ddat u1 n1).1 else 0
theorem slT_le {c : Nat} {pr : Nat → Bool} (hc : c ≤ 16) (h8 : (ddat u1 n1).1 ≤ 8) : slT u0 n0 u1 n1 l c pr ≤ 2 ^ 32 := by
  unfold slT
  split
  · have h1 := wgt_le (pr := pr) hc (ddat u1 n1).1
    have h2 : (16 : Nat) ^ (ddat u1 n1).1 ≤ 16 ^ 8 := Nat.pow_le_pow_right (by omega) h8
    have h3 : (16 : Nat) ^ 8 = 2 ^ 32 := by decide
    omega
  · omega
noncomputable def slS (u0 : Nat → Nat) (n0 : Nat) (u1 : Nat → Nat) (n1 : Nat) (l : LD) (c : Nat) : Nat := smN (fun k => slT u0 n0 u1 n1 l c (fun i => k.testBit i)) (2 ^ (ddat u1 n1).1)
theorem two_le {n : Nat} (h : n ≤ 8) : 2 ^ n ≤ 256 := by
  have q : 2 ^ n ≤ 2 ^ 8 := Nat.pow_le_pow_right (by omega) h
  exact q
theorem slS_le {c : Nat} (hc : c ≤ 16) (h8 : (ddat u1 n1).1 ≤ 8) : slS u0 n0 u1 n1 l c ≤ 2 ^ 40 := by
  have h1 := smN_le (g := fun k => slT u0 n0 u1 n1 l c (fun i => k.testBit i)) (F := 2 ^ 32) (2 ^ (ddat u1 n1).1) (fun j _ => slT_le hc h8)
  have h2 := two_le h8
  have h3 : 2 ^ (ddat u1 n1).1 * 2 ^ 32 ≤ 256 * 2 ^ 32 := Nat.mul_le_mul_right _ h2
  unfold slS
  omega
theorem slS_rev (c : Nat) : smN (fun k => slT u0 n0 u1 n1 l c (fun i => !k.testBit i)) (2 ^ (ddat u1 n1).1) = slS u0 n0 u1 n1 l c := by
  unfold slS
  rw [smN_rev (fun k => slT u0 n0 u1 n1 l c (fun i => k.testBit i))]
  refine smN_ext _ (fun j hj => ?_)
  have q : ∀ i, i < (ddat u1 n1).1 → (!j.testBit i) = (2 ^ (ddat u1 n1).1 - (j + 1)).testBit i := fun i hi => by
    rw [Nat.testBit_two_pow_sub_succ hj]
    simp [hi]
  have e1 : ngt (twn u0 n0).1 (ls0 u0 n0) (ddat u1 n1) (fun i => !j.testBit i) l = ngt (twn u0 n0).1 (ls0 u0 n0) (ddat u1 n1) (fun i => (2 ^ (ddat u1 n1).1 - (j + 1)).testBit i) l := nst_pr q 10
  show slT u0 n0 u1 n1 l c (fun i => !j.testBit i) = slT u0 n0 u1 n1 l c (fun i => (2 ^ (ddat u1 n1).1 - (j + 1)).testBit i)
  unfold slT
  rw [e1, wgt_ext (ddat u1 n1).1 q]
theorem slT_0 {c : Nat} {pr : Nat → Bool} (h : (ngt (twn u0 n0).1 (ls0 u0 n0) (ddat u1 n1) pr l).1 = none) : slT u0 n0 u1 n1 l c pr = wgt c pr (ddat u1 n1).1 := if_pos h
theorem slT_1 {c x : Nat} {pr : Nat → Bool} (h : (ngt (twn u0 n0).1 (ls0 u0 n0) (ddat u1 n1) pr l).1 = some x) : slT u0 n0 u1 n1 l c pr = 0 := if_neg (by rw [h]; intro q; cases q)
theorem weightF {k c n : Nat} (hk : k < 256) (hc : c ≤ 16) (hn : n ≤ 8) (h83 : s.1 8 3 = nI n) : F_X8_weightOf (nI k) (nI c) s = some (lI (wgt c (fun i => k.testBit i) n)) := by
  unfold F_X8_weightOf
  rw [xlp_at (f := F_X8_weightOf_L5 (nI k) (nI c) s) (a := (1, 0)) (fun i => (lI (wgt c (fun i => k.testBit i) i), nI i)) (b := lI (wgt c (fun i => k.testBit i) n)) n (by omega)]
  · rfl
  · rfl
  · intro i hi
    have pk : (xshr (nI k) (nI i) &&& nI 1 = nI 1) = (k.testBit i = true) := prK k hk i (by omega)
    unfold F_X8_weightOf_L5
    cases q : k.testBit i with
    | true =>
      have w := wgt_t (c := c) (pr := fun i => k.testBit i) q
      simp (disch := omega) only [↓Lm1, L0, L1, L2, L3, L4, L5, L6, L7, L8, L9, L10, L11, L12, L13, L14, L15, L16, L17, L18, L19, L20, L27, L30, L31, L35, L36, L37, L38, L39, L40, L41, L46, L48, L51, L57, L59, L60, L82, L98, L99, L100, L102, L104, L107, L110, L119, L144, L240, L255, L256, L360, L999, L1000000, nI_val, n_lt_t, n_lt_f, n_le_t, n_le_f, n_eq_t, n_eq_f, k_le_f, m_lt_t, m_lt_f, m_le_t, m_le_f, m_eq_f, m_eq_f', nI_add, nI_mulE, nI_subE, if_true, if_false, ite_true, ite_false, or_false, false_or, or_true, true_or, or_self, and_true, true_and, and_false, false_and, not_true_eq_false, not_false_eq_true, Option.bind_some, Sum.elim_inl, Sum.elim_inr, xu_set, xset_same, xset_ne, xset_2, xset_set, upd_same, upd_ne, nbI_some, ne_eq, reduceCtorEq, reduceIte, Nat.reduceAdd, Nat.reduceMul, Nat.reduceSub, Nat.add_zero, Nat.zero_add, Nat.mul_zero, Nat.zero_mul, h83, pk, q, lI_of, lI_mul, w]
    | false =>
      have w := wgt_f (c := c) (pr := fun i => k.testBit i) q
      simp (disch := omega) only [↓Lm1, L0, L1, L2, L3, L4, L5, L6, L7, L8, L9, L10, L11, L12, L13, L14, L15, L16, L17, L18, L19, L20, L27, L30, L31, L35, L36, L37, L38, L39, L40, L41, L46, L48, L51, L57, L59, L60, L82, L98, L99, L100, L102, L104, L107, L110, L119, L144, L240, L255, L256, L360, L999, L1000000, nI_val, n_lt_t, n_lt_f, n_le_t, n_le_f, n_eq_t, n_eq_f, k_le_f, m_lt_t, m_lt_f, m_le_t, m_le_f, m_eq_f, m_eq_f', nI_add, nI_mulE, nI_subE, if_true, if_false, ite_true, ite_false, or_false, false_or, or_true, true_or, or_self, and_true, true_and, and_false, false_and, not_true_eq_false, not_false_eq_true, Option.bind_some, Sum.elim_inl, Sum.elim_inr, xu_set, xset_same, xset_ne, xset_2, xset_set, upd_same, upd_ne, nbI_some, ne_eq, reduceCtorEq, reduceIte, Nat.reduceAdd, Nat.reduceMul, Nat.reduceSub, Nat.add_zero, Nat.zero_add, Nat.mul_zero, Nat.zero_mul, h83, pk, q, lI_of, lI_mul, w, Bool.false_eq_true]
  · unfold F_X8_weightOf_L5
    simp (disch := omega) only [↓Lm1, L0, L1, L2, L3, L4, L5, L6, L7, L8, L9, L10, L11, L12, L13, L14, L15, L16, L17, L18, L19, L20, L27, L30, L31, L35, L36, L37, L38, L39, L40, L41, L46, L48, L51, L57, L59, L60, L82, L98, L99, L100, L102, L104, L107, L110, L119, L144, L240, L255, L256, L360, L999, L1000000, nI_val, n_lt_t, n_lt_f, n_le_t, n_le_f, n_eq_t, n_eq_f, k_le_f, m_lt_t, m_lt_f, m_le_t, m_le_f, m_eq_f, m_eq_f', nI_add, nI_mulE, nI_subE, if_true, if_false, ite_true, ite_false, or_false, false_or, or_true, true_or, or_self, and_true, true_and, and_false, false_and, not_true_eq_false, not_false_eq_true, Option.bind_some, Sum.elim_inl, Sum.elim_inr, xu_set, xset_same, xset_ne, xset_2, xset_set, upd_same, upd_ne, nbI_some, ne_eq, reduceCtorEq, reduceIte, Nat.reduceAdd, Nat.reduceMul, Nat.reduceSub, Nat.add_zero, Nat.zero_add, Nat.mul_zero, Nat.zero_mul, h83]
theorem slpF {c : Nat} (hI : IF u0 n0 u1 n1 l e s) (hc : c ≤ 16) : ∃ s', F_X8_weightOfSleep (nI c) s = some (lI (slS u0 n0 u1 n1 l c), s') ∧ Kp 27 40 s s' := by
  have hok := dd_ok (u := u1) hI.1.1.2.1
  have h8 := hok.1
  have hl := hI.1.2.2.2.1
  have hN := (twn_ok u0 n0).1.1
  have hM := two_le h8
  have eM : xshl (nI 1) (nI (ddat u1 n1).1) = nI (2 ^ (ddat u1 n1).1) := shl_bit _ (by omega)
  obtain ⟨T, hT⟩ : ∃ T : Nat → Nat, T = fun k => slT u0 n0 u1 n1 l c (fun i => k.testBit i) := ⟨_, rfl⟩
  have eS : slS u0 n0 u1 n1 l c = smN T (2 ^ (ddat u1 n1).1) := by rw [hT]; rfl
  rw [eS]
  generalize 2 ^ (ddat u1 n1).1 = M at hM eM ⊢
  have key : ∃ b, xlp (F_X8_weightOfSleep_L5 (nI c)) 100000 (0, 0, s) = some b ∧ b.1 = lI (smN T M) ∧ Kp 27 40 s b.2 := by
    refine xlp_cnt (f := F_X8_weightOfSleep_L5 (nI c)) (fun i a => a.1 = lI (smN T i) ∧ a.2.1 = nI i ∧ Kp 27 40 s a.2.2) (fun b => b.1 = lI (smN T M) ∧ Kp 27 40 s b.2) M (by omega) ?_ ?_ (a := (0, 0, s)) ⟨rfl, rfl, Kp.refl _ _ _⟩
    · intro i a hi ⟨h1, h2, h4⟩
      obtain ⟨a1, a2, s'⟩ := a
      dsimp only at h1 h2 h4
      subst h1; subst h2
      have hI' := hI.keep h4
      have h83 : s'.1 8 3 = nI (ddat u1 n1).1 := hI'.1.2.2.1.1.1
      obtain ⟨s'', e'', k'', n''⟩ := passF (p0 := 34) (p1 := 8) (p3 := 19) (N := (twn u0 n0).1) (ls := (ls0 u0 n0)) (Or.inr (Or.inr ⟨rfl, rfl⟩)) (Or.inl rfl) hok hI'.1.2.2.1.1 hl hI'.1.2.2.2.2.1 (prK i (by omega)) hN hI'.2.1.1
      have kk := k''.wide (show 27 ≤ 34 by omega) (show 34 + 4 ≤ 40 by omega)
      have h83' : s''.1 8 3 = nI (ddat u1 n1).1 := (hI'.keep kk).1.2.2.1.1.1
      have ew := weightF (k := i) (c := c) (s := s'') (by omega) hc h8 h83'
      have h34 : s''.1 34 5 = nbI (ngt (twn u0 n0).1 (ls0 u0 n0) (ddat u1 n1) (fun j => i.testBit j) l).1 := n''.1
      have hTi : T i = slT u0 n0 u1 n1 l c (fun j => i.testBit j) := by rw [hT]
      have es : smN T (i + 1) = smN T i + T i := rfl
      left
      refine ⟨(lI (smN T (i + 1)), nI (i + 1), s''), ?_, rfl, rfl, h4.trans kk⟩
      unfold F_X8_weightOfSleep_L5
      cases q : (ngt (twn u0 n0).1 (ls0 u0 n0) (ddat u1 n1) (fun j => i.testBit j) l).1 with
      | none =>
        rw [q] at h34
        rw [slT_0 q] at hTi
        simp (disch := omega) only [↓Lm1, L0, L1, L2, L3, L4, L5, L6, L7, L8, L9, L10, L11, L12, L13, L14, L15, L16, L17, L18, L19, L20, L27, L30, L31, L35, L36, L37, L38, L39, L40, L41, L46, L48, L51, L57, L59, L60, L82, L98, L99, L100, L102, L104, L107, L110, L119, L144, L240, L255, L256, L360, L999, L1000000, nI_val, n_lt_t, n_lt_f, n_le_t, n_le_f, n_eq_t, n_eq_f, k_le_f, m_lt_t, m_lt_f, m_le_t, m_le_f, m_eq_f, m_eq_f', nI_add, nI_mulE, nI_subE, if_true, if_false, ite_true, ite_false, or_false, false_or, or_true, true_or, or_self, and_true, true_and, and_false, false_and, not_true_eq_false, not_false_eq_true, Option.bind_some, Sum.elim_inl, Sum.elim_inr, xu_set, xset_same, xset_ne, xset_2, xset_set, upd_same, upd_ne, nbI_some, ne_eq, reduceCtorEq, reduceIte, Nat.reduceAdd, Nat.reduceMul, Nat.reduceSub, Nat.add_zero, Nat.zero_add, Nat.mul_zero, Nat.zero_mul, h83, eM, e'', h34, ew, lI_add, es, hTi]
      | some x =>
        have := ngt_wk hl q
        rw [q] at h34
        rw [slT_1 q] at hTi
        simp (disch := omega) only [↓Lm1, L0, L1, L2, L3, L4, L5, L6, L7, L8, L9, L10, L11, L12, L13, L14, L15, L16, L17, L18, L19, L20, L27, L30, L31, L35, L36, L37, L38, L39, L40, L41, L46, L48, L51, L57, L59, L60, L82, L98, L99, L100, L102, L104, L107, L110, L119, L144, L240, L255, L256, L360, L999, L1000000, nI_val, n_lt_t, n_lt_f, n_le_t, n_le_f, n_eq_t, n_eq_f, k_le_f, m_lt_t, m_lt_f, m_le_t, m_le_f, m_eq_f, m_eq_f', nI_add, nI_mulE, nI_subE, if_true, if_false, ite_true, ite_false, or_false, false_or, or_true, true_or, or_self, and_true, true_and, and_false, false_and, not_true_eq_false, not_false_eq_true, Option.bind_some, Sum.elim_inl, Sum.elim_inr, xu_set, xset_same, xset_ne, xset_2, xset_set, upd_same, upd_ne, nbI_some, ne_eq, reduceCtorEq, reduceIte, Nat.reduceAdd, Nat.reduceMul, Nat.reduceSub, Nat.add_zero, Nat.zero_add, Nat.mul_zero, Nat.zero_mul, h83, eM, e'', h34, es, hTi]
    · intro a ⟨h1, h2, h4⟩
      obtain ⟨a1, a2, s'⟩ := a
      dsimp only at h1 h2 h4
      subst h1; subst h2
      have h83 : s'.1 8 3 = nI (ddat u1 n1).1 := (hI.keep h4).1.2.2.1.1.1
      refine ⟨(lI (smN T M), s'), ?_, rfl, h4⟩
      unfold F_X8_weightOfSleep_L5
      simp (disch := omega) only [↓Lm1, L0, L1, L2, L3, L4, L5, L6, L7, L8, L9, L10, L11, L12, L13, L14, L15, L16, L17, L18, L19, L20, L27, L30, L31, L35, L36, L37, L38, L39, L40, L41, L46, L48, L51, L57, L59, L60, L82, L98, L99, L100, L102, L104, L107, L110, L119, L144, L240, L255, L256, L360, L999, L1000000, nI_val, n_lt_t, n_lt_f, n_le_t, n_le_f, n_eq_t, n_eq_f, k_le_f, m_lt_t, m_lt_f, m_le_t, m_le_f, m_eq_f, m_eq_f', nI_add, nI_mulE, nI_subE, if_true, if_false, ite_true, ite_false, or_false, false_or, or_true, true_or, or_self, and_true, true_and, and_false, false_and, not_true_eq_false, not_false_eq_true, Option.bind_some, Sum.elim_inl, Sum.elim_inr, xu_set, xset_same, xset_ne, xset_2, xset_set, upd_same, upd_ne, nbI_some, ne_eq, reduceCtorEq, reduceIte, Nat.reduceAdd, Nat.reduceMul, Nat.reduceSub, Nat.add_zero, Nat.zero_add, Nat.mul_zero, Nat.zero_mul, h83, eM]
  obtain ⟨b, eb, hb1, hb2⟩ := key
  refine ⟨b.2, ?_, hb2⟩
  unfold F_X8_weightOfSleep
  rw [eb]
  show some (b.1, b.2) = _
  rw [hb1]
theorem belowF {n : Nat} (l2 : Int32) (l3 : Int64) (hn : n ≤ 8) (h83 : s.1 8 3 = nI n) : xlp (F_X8_sleeps_L33 l2 l3 s) 100000 (1, 0) = some (lI (2 ^ (4 * n))) := by
  have e : 2 ^ (4 * n) = 16 ^ n := Nat.pow_mul 2 4 n
  rw [e, xlp_at (f := F_X8_sleeps_L33 l2 l3 s) (a := (1, 0)) (fun i => (lI (16 ^ i), nI i)) (b := lI (16 ^ n)) n (by omega)]
  · rfl
  · intro i hi
    unfold F_X8_sleeps_L33
    simp (disch := omega) only [↓Lm1, L0, L1, L2, L3, L4, L5, L6, L7, L8, L9, L10, L11, L12, L13, L14, L15, L16, L17, L18, L19, L20, L27, L30, L31, L35, L36, L37, L38, L39, L40, L41, L46, L48, L51, L57, L59, L60, L82, L98, L99, L100, L102, L104, L107, L110, L119, L144, L240, L255, L256, L360, L999, L1000000, nI_val, n_lt_t, n_lt_f, n_le_t, n_le_f, n_eq_t, n_eq_f, k_le_f, m_lt_t, m_lt_f, m_le_t, m_le_f, m_eq_f, m_eq_f', nI_add, nI_mulE, nI_subE, if_true, if_false, ite_true, ite_false, or_false, false_or, or_true, true_or, or_self, and_true, true_and, and_false, false_and, not_true_eq_false, not_false_eq_true, Option.bind_some, Sum.elim_inl, Sum.elim_inr, xu_set, xset_same, xset_ne, xset_2, xset_set, upd_same, upd_ne, nbI_some, ne_eq, reduceCtorEq, reduceIte, Nat.reduceAdd, Nat.reduceMul, Nat.reduceSub, Nat.add_zero, Nat.zero_add, Nat.mul_zero, Nat.zero_mul, h83, LL16, lI_mul, Nat.pow_succ]
  · unfold F_X8_sleeps_L33
    simp (disch := omega) only [↓Lm1, L0, L1, L2, L3, L4, L5, L6, L7, L8, L9, L10, L11, L12, L13, L14, L15, L16, L17, L18, L19, L20, L27, L30, L31, L35, L36, L37, L38, L39, L40, L41, L46, L48, L51, L57, L59, L60, L82, L98, L99, L100, L102, L104, L107, L110, L119, L144, L240, L255, L256, L360, L999, L1000000, nI_val, n_lt_t, n_lt_f, n_le_t, n_le_f, n_eq_t, n_eq_f, k_le_f, m_lt_t, m_lt_f, m_le_t, m_le_f, m_eq_f, m_eq_f', nI_add, nI_mulE, nI_subE, if_true, if_false, ite_true, ite_false, or_false, false_or, or_true, true_or, or_self, and_true, true_and, and_false, false_and, not_true_eq_false, not_false_eq_true, Option.bind_some, Sum.elim_inl, Sum.elim_inr, xu_set, xset_same, xset_ne, xset_2, xset_set, upd_same, upd_ne, nbI_some, ne_eq, reduceCtorEq, reduceIte, Nat.reduceAdd, Nat.reduceMul, Nat.reduceSub, Nat.add_zero, Nat.zero_add, Nat.mul_zero, Nat.zero_mul, h83]
noncomputable def slv (u0 : Nat → Nat) (n0 : Nat) (u1 : Nat → Nat) (n1 : Nat) (l : LD) (c w : Nat) : Int64 := lI ((if w = 0 then slS u0 n0 u1 n1 l c else 2 ^ (4 * (ddat u1 n1).1)) / Nat.gcd (slS u0 n0 u1 n1 l c) (2 ^ (4 * (ddat u1 n1).1)))
theorem q_sleeps {c w : Nat} (hI : IF u0 n0 u1 n1 l e s) (hc : c ≤ 16) (hw : w < 2) : ∃ s', F_X8_sleeps (nI c) (nI w) s = some (slv u0 n0 u1 n1 l c w, s') ∧ Kp 27 40 s s' := by
  have h8 := (dd_ok (u := u1) hI.1.1.2.1).1
  obtain ⟨s', e', k'⟩ := slpF hI hc
  have h83 : s'.1 8 3 = nI (ddat u1 n1).1 := (hI.keep k').1.2.2.1.1.1
  have hS := slS_le (u0 := u0) (n0 := n0) (u1 := u1) (n1 := n1) (l := l) hc h8
  have eb : xlp (F_X8_sleeps_L33 (nI w) (lI (slS u0 n0 u1 n1 l c)) s') 100000 (1, nI 0) = some (lI (2 ^ (4 * (ddat u1 n1).1))) := belowF (s := s') (nI w) (lI (slS u0 n0 u1 n1 l c)) h8 h83
  have eh : xlp (F_X8_sleeps_L62 (nI w) s') 100000 (lI (slS u0 n0 u1 n1 l c), lI (2 ^ (4 * (ddat u1 n1).1)), nI 0) = some (lI (slS u0 n0 u1 n1 l c / Nat.gcd (slS u0 n0 u1 n1 l c) (2 ^ (4 * (ddat u1 n1).1))), lI (2 ^ (4 * (ddat u1 n1).1) / Nat.gcd (slS u0 n0 u1 n1 l c) (2 ^ (4 * (ddat u1 n1).1)))) := halfF (S := slS u0 n0 u1 n1 l c) (m := 4 * (ddat u1 n1).1) (nI w) s' (by omega) (by omega)
  refine ⟨s', ?_, k'⟩
  have o1 : F_X8_isOutside (nI c) (nI 17) s = some (nI 0) := out_in (by omega) (by omega)
  have o2 : F_X8_isOutside (nI w) (nI 2) s = some (nI 0) := out_in hw (by omega)
  unfold F_X8_sleeps slv
  rcases two_cases hw with rfl | rfl
  · simp (disch := omega) only [↓Lm1, L0, L1, L2, L3, L4, L5, L6, L7, L8, L9, L10, L11, L12, L13, L14, L15, L16, L17, L18, L19, L20, L27, L30, L31, L35, L36, L37, L38, L39, L40, L41, L46, L48, L51, L57, L59, L60, L82, L98, L99, L100, L102, L104, L107, L110, L119, L144, L240, L255, L256, L360, L999, L1000000, nI_val, n_lt_t, n_lt_f, n_le_t, n_le_f, n_eq_t, n_eq_f, k_le_f, m_lt_t, m_lt_f, m_le_t, m_le_f, m_eq_f, m_eq_f', nI_add, nI_mulE, nI_subE, if_true, if_false, ite_true, ite_false, or_false, false_or, or_true, true_or, or_self, and_true, true_and, and_false, false_and, not_true_eq_false, not_false_eq_true, Option.bind_some, Sum.elim_inl, Sum.elim_inr, xu_set, xset_same, xset_ne, xset_2, xset_set, upd_same, upd_ne, nbI_some, ne_eq, reduceCtorEq, reduceIte, Nat.reduceAdd, Nat.reduceMul, Nat.reduceSub, Nat.add_zero, Nat.zero_add, Nat.mul_zero, Nat.zero_mul, o1, o2, e', eb, eh]
    all_goals rfl
  · simp (disch := omega) only [↓Lm1, L0, L1, L2, L3, L4, L5, L6, L7, L8, L9, L10, L11, L12, L13, L14, L15, L16, L17, L18, L19, L20, L27, L30, L31, L35, L36, L37, L38, L39, L40, L41, L46, L48, L51, L57, L59, L60, L82, L98, L99, L100, L102, L104, L107, L110, L119, L144, L240, L255, L256, L360, L999, L1000000, nI_val, n_lt_t, n_lt_f, n_le_t, n_le_f, n_eq_t, n_eq_f, k_le_f, m_lt_t, m_lt_f, m_le_t, m_le_f, m_eq_f, m_eq_f', nI_add, nI_mulE, nI_subE, if_true, if_false, ite_true, ite_false, or_false, false_or, or_true, true_or, or_self, and_true, true_and, and_false, false_and, not_true_eq_false, not_false_eq_true, Option.bind_some, Sum.elim_inl, Sum.elim_inr, xu_set, xset_same, xset_ne, xset_2, xset_set, upd_same, upd_ne, nbI_some, ne_eq, reduceCtorEq, reduceIte, Nat.reduceAdd, Nat.reduceMul, Nat.reduceSub, Nat.add_zero, Nat.zero_add, Nat.mul_zero, Nat.zero_mul, o1, o2, e', eb, eh]
    all_goals rfl
theorem shl4 : ∀ n, n < 9 → xlshl (1 : Int64) (nI 4 * nI n) = lI (2 ^ (4 * n)) := by decide +kernel
theorem weightM {k c n : Nat} (l2 : Int32) (l3 : Int64) (hk : k < 256) (hc : c ≤ 16) (hn : n ≤ 8) (h05 : s.1 0 5 = nI n) : xlp (F_X9_sleepsBy_L30 (nI c) l2 l3 (nI k) s) 100000 (1, 0) = some (lI (wgt c (fun i => !k.testBit i) n)) := by
  refine xlp_at (f := F_X9_sleepsBy_L30 (nI c) l2 l3 (nI k) s) (a := (1, 0)) (fun i => (lI (wgt c (fun i => !k.testBit i) i), nI i)) (b := lI (wgt c (fun i => !k.testBit i) n)) n (by omega) rfl ?_ ?_
  · intro i hi
    have pk : (xshr (nI k) (nI i) &&& nI 1 = nI 1) = (k.testBit i = true) := prK k hk i (by omega)
    unfold F_X9_sleepsBy_L30 F_X9_isIn
    cases q : k.testBit i with
    | true =>
      have w := wgt_f (c := c) (pr := fun i => !k.testBit i) (n := i) (by rw [q]; rfl)
      simp (disch := omega) only [↓Lm1, L0, L1, L2, L3, L4, L5, L6, L7, L8, L9, L10, L11, L12, L13, L14, L15, L16, L17, L18, L19, L20, L27, L30, L31, L35, L36, L37, L38, L39, L40, L41, L46, L48, L51, L57, L59, L60, L82, L98, L99, L100, L102, L104, L107, L110, L119, L144, L240, L255, L256, L360, L999, L1000000, nI_val, n_lt_t, n_lt_f, n_le_t, n_le_f, n_eq_t, n_eq_f, k_le_f, m_lt_t, m_lt_f, m_le_t, m_le_f, m_eq_f, m_eq_f', nI_add, nI_mulE, nI_subE, if_true, if_false, ite_true, ite_false, or_false, false_or, or_true, true_or, or_self, and_true, true_and, and_false, false_and, not_true_eq_false, not_false_eq_true, Option.bind_some, Sum.elim_inl, Sum.elim_inr, xu_set, xset_same, xset_ne, xset_2, xset_set, upd_same, upd_ne, nbI_some, ne_eq, reduceCtorEq, reduceIte, Nat.reduceAdd, Nat.reduceMul, Nat.reduceSub, Nat.add_zero, Nat.zero_add, Nat.mul_zero, Nat.zero_mul, h05, pk, q, lI_of, lI_mul, w]
    | false =>
      have w := wgt_t (c := c) (pr := fun i => !k.testBit i) (n := i) (by rw [q]; rfl)
      simp (disch := omega) only [↓Lm1, L0, L1, L2, L3, L4, L5, L6, L7, L8, L9, L10, L11, L12, L13, L14, L15, L16, L17, L18, L19, L20, L27, L30, L31, L35, L36, L37, L38, L39, L40, L41, L46, L48, L51, L57, L59, L60, L82, L98, L99, L100, L102, L104, L107, L110, L119, L144, L240, L255, L256, L360, L999, L1000000, nI_val, n_lt_t, n_lt_f, n_le_t, n_le_f, n_eq_t, n_eq_f, k_le_f, m_lt_t, m_lt_f, m_le_t, m_le_f, m_eq_f, m_eq_f', nI_add, nI_mulE, nI_subE, if_true, if_false, ite_true, ite_false, or_false, false_or, or_true, true_or, or_self, and_true, true_and, and_false, false_and, not_true_eq_false, not_false_eq_true, Option.bind_some, Sum.elim_inl, Sum.elim_inr, xu_set, xset_same, xset_ne, xset_2, xset_set, upd_same, upd_ne, nbI_some, ne_eq, reduceCtorEq, reduceIte, Nat.reduceAdd, Nat.reduceMul, Nat.reduceSub, Nat.add_zero, Nat.zero_add, Nat.mul_zero, Nat.zero_mul, h05, pk, q, lI_of, lI_mul, w, Bool.false_eq_true]
  · unfold F_X9_sleepsBy_L30
    simp (disch := omega) only [↓Lm1, L0, L1, L2, L3, L4, L5, L6, L7, L8, L9, L10, L11, L12, L13, L14, L15, L16, L17, L18, L19, L20, L27, L30, L31, L35, L36, L37, L38, L39, L40, L41, L46, L48, L51, L57, L59, L60, L82, L98, L99, L100, L102, L104, L107, L110, L119, L144, L240, L255, L256, L360, L999, L1000000, nI_val, n_lt_t, n_lt_f, n_le_t, n_le_f, n_eq_t, n_eq_f, k_le_f, m_lt_t, m_lt_f, m_le_t, m_le_f, m_eq_f, m_eq_f', nI_add, nI_mulE, nI_subE, if_true, if_false, ite_true, ite_false, or_false, false_or, or_true, true_or, or_self, and_true, true_and, and_false, false_and, not_true_eq_false, not_false_eq_true, Option.bind_some, Sum.elim_inl, Sum.elim_inr, xu_set, xset_same, xset_ne, xset_2, xset_set, upd_same, upd_ne, nbI_some, ne_eq, reduceCtorEq, reduceIte, Nat.reduceAdd, Nat.reduceMul, Nat.reduceSub, Nat.add_zero, Nat.zero_add, Nat.mul_zero, Nat.zero_mul, h05]
theorem m_sleeps {c w : Nat} (h : BM u0 n0 u1 n1 l s) (hc : c ≤ 16) (hw : w < 2) : ∃ s', F_X9_sleepsBy (nI c) (nI w) s = some (slv u0 n0 u1 n1 l c w, s') ∧ RT u0 n0 u1 n1 l s s' := by
  have hok := dd_ok (u := u1) h.2.1
  have h8 := hok.1
  have hl := h.2.2.2.2.2.2.1
  obtain ⟨s2, s4, e2, e4, lt⟩ := laysT h
  have hM := two_le h8
  have eM : xshl (nI 1) (nI (ddat u1 n1).1) = nI (2 ^ (ddat u1 n1).1) := shl_bit _ (by omega)
  have hS := slS_le (u0 := u0) (n0 := n0) (u1 := u1) (n1 := n1) (l := l) hc h8
  obtain ⟨T, hT⟩ : ∃ T : Nat → Nat, T = fun k => slT u0 n0 u1 n1 l c (fun i => !k.testBit i) := ⟨_, rfl⟩
  have eS : smN T (2 ^ (ddat u1 n1).1) = slS u0 n0 u1 n1 l c := by rw [hT]; exact slS_rev c
  have key : ∃ b, xlp (F_X9_sleepsBy_L13 (nI c) (nI w)) 100000 (0, 0, s4) = some b ∧ b.1 = lI (smN T (2 ^ (ddat u1 n1).1)) ∧ KR [10, 11, 12, 13, 14] [15, 20] s4 b.2 := by
    generalize 2 ^ (ddat u1 n1).1 = M at hM eM ⊢
    refine xlp_cnt (f := F_X9_sleepsBy_L13 (nI c) (nI w)) (fun i a => a.1 = lI (smN T i) ∧ a.2.1 = nI i ∧ KR [10, 11, 12, 13, 14] [15, 20] s4 a.2.2) (fun b => b.1 = lI (smN T M) ∧ KR [10, 11, 12, 13, 14] [15, 20] s4 b.2) M (by omega) ?_ ?_ (a := (0, 0, s4)) ⟨rfl, rfl, KR.refl _ _ _⟩
    · intro i a hi ⟨h1, h2, h4⟩
      obtain ⟨a1, a2, s'⟩ := a
      dsimp only at h1 h2 h4
      subst h1; subst h2
      have h05 : s'.1 0 5 = nI (ddat u1 n1).1 := by rw [h4.2 5 (by decide)]; exact lt.1.2.2.2.1
      have k5 : KR [10, 11, 12, 13, 14] [15, 20] s4 (xset s' 0 (upd (s'.1 0) 15 (nI i))) := h4.set0 _ (fun j hj => upd_ne _ _ (fun z => hj (by rw [z]; decide)))
      obtain ⟨s'', e'', k'', n''⟩ := sleepT (d := (ddat u1 n1)) (pr := fun j => !i.testBit j) (a := xset s' 0 (upd (s'.1 0) 15 (nI i))) lt (fun q hq => k5.1 q (by omega) (by simp only [List.mem_cons, List.not_mem_nil, or_false]; omega)) (fun q hq => k5.2 q (by simp only [List.mem_cons, List.not_mem_nil, or_false]; omega)) hok (DdM_K lt.1.2.2.2 k5 (by decide) (by decide) (by decide) (by decide)) (by rw [xset_same, upd_same]; exact prKM (by omega))
      have kk := k5.trans (k''.wide (fun x hx => hx) (by decide))
      have ew := weightM (k := i) (c := c) (s := s') (nI w) (lI (smN T i)) (by omega) hc h8 h05
      have h20 := n''.1
      have hTi : T i = slT u0 n0 u1 n1 l c (fun j => !i.testBit j) := by rw [hT]
      have es : smN T (i + 1) = smN T i + T i := rfl
      left
      refine ⟨(lI (smN T (i + 1)), nI (i + 1), s''), ?_, rfl, rfl, kk⟩
      unfold F_X9_sleepsBy_L13
      have ew' : xlp (F_X9_sleepsBy_L30 (nI c) (nI w) (lI (smN T i)) (nI i) s') 100000 (1, nI 0) = some (lI (wgt c (fun j => !i.testBit j) (ddat u1 n1).1)) := ew
      cases q : (ngt (twn u0 n0).1 (ls0 u0 n0) (ddat u1 n1) (fun j => !i.testBit j) l).1 with
      | none =>
        rw [q] at h20
        rw [slT_0 q] at hTi
        simp (disch := omega) only [↓Lm1, L0, L1, L2, L3, L4, L5, L6, L7, L8, L9, L10, L11, L12, L13, L14, L15, L16, L17, L18, L19, L20, L27, L30, L31, L35, L36, L37, L38, L39, L40, L41, L46, L48, L51, L57, L59, L60, L82, L98, L99, L100, L102, L104, L107, L110, L119, L144, L240, L255, L256, L360, L999, L1000000, nI_val, n_lt_t, n_lt_f, n_le_t, n_le_f, n_eq_t, n_eq_f, k_le_f, m_lt_t, m_lt_f, m_le_t, m_le_f, m_eq_f, m_eq_f', nI_add, nI_mulE, nI_subE, if_true, if_false, ite_true, ite_false, or_false, false_or, or_true, true_or, or_self, and_true, true_and, and_false, false_and, not_true_eq_false, not_false_eq_true, Option.bind_some, Sum.elim_inl, Sum.elim_inr, xu_set, xset_same, xset_ne, xset_2, xset_set, upd_same, upd_ne, nbI_some, ne_eq, reduceCtorEq, reduceIte, Nat.reduceAdd, Nat.reduceMul, Nat.reduceSub, Nat.add_zero, Nat.zero_add, Nat.mul_zero, Nat.zero_mul, h05, eM, ew', e'', h20, lI_add, es, hTi]
      | some x =>
        have := ngt_wk hl q
        rw [q] at h20
        rw [slT_1 q] at hTi
        simp (disch := omega) only [↓Lm1, L0, L1, L2, L3, L4, L5, L6, L7, L8, L9, L10, L11, L12, L13, L14, L15, L16, L17, L18, L19, L20, L27, L30, L31, L35, L36, L37, L38, L39, L40, L41, L46, L48, L51, L57, L59, L60, L82, L98, L99, L100, L102, L104, L107, L110, L119, L144, L240, L255, L256, L360, L999, L1000000, nI_val, n_lt_t, n_lt_f, n_le_t, n_le_f, n_eq_t, n_eq_f, k_le_f, m_lt_t, m_lt_f, m_le_t, m_le_f, m_eq_f, m_eq_f', nI_add, nI_mulE, nI_subE, if_true, if_false, ite_true, ite_false, or_false, false_or, or_true, true_or, or_self, and_true, true_and, and_false, false_and, not_true_eq_false, not_false_eq_true, Option.bind_some, Sum.elim_inl, Sum.elim_inr, xu_set, xset_same, xset_ne, xset_2, xset_set, upd_same, upd_ne, nbI_some, ne_eq, reduceCtorEq, reduceIte, Nat.reduceAdd, Nat.reduceMul, Nat.reduceSub, Nat.add_zero, Nat.zero_add, Nat.mul_zero, Nat.zero_mul, h05, eM, ew', e'', h20, LL0, lI_add, es, hTi]
    · intro a ⟨h1, h2, h4⟩
      obtain ⟨a1, a2, s'⟩ := a
      dsimp only at h1 h2 h4
      subst h1; subst h2
      have h05 : s'.1 0 5 = nI (ddat u1 n1).1 := by rw [h4.2 5 (by decide)]; exact lt.1.2.2.2.1
      refine ⟨(lI (smN T M), s'), ?_, rfl, h4⟩
      unfold F_X9_sleepsBy_L13
      simp (disch := omega) only [↓Lm1, L0, L1, L2, L3, L4, L5, L6, L7, L8, L9, L10, L11, L12, L13, L14, L15, L16, L17, L18, L19, L20, L27, L30, L31, L35, L36, L37, L38, L39, L40, L41, L46, L48, L51, L57, L59, L60, L82, L98, L99, L100, L102, L104, L107, L110, L119, L144, L240, L255, L256, L360, L999, L1000000, nI_val, n_lt_t, n_lt_f, n_le_t, n_le_f, n_eq_t, n_eq_f, k_le_f, m_lt_t, m_lt_f, m_le_t, m_le_f, m_eq_f, m_eq_f', nI_add, nI_mulE, nI_subE, if_true, if_false, ite_true, ite_false, or_false, false_or, or_true, true_or, or_self, and_true, true_and, and_false, false_and, not_true_eq_false, not_false_eq_true, Option.bind_some, Sum.elim_inl, Sum.elim_inr, xu_set, xset_same, xset_ne, xset_2, xset_set, upd_same, upd_ne, nbI_some, ne_eq, reduceCtorEq, reduceIte, Nat.reduceAdd, Nat.reduceMul, Nat.reduceSub, Nat.add_zero, Nat.zero_add, Nat.mul_zero, Nat.zero_mul, h05, eM]
  obtain ⟨b, eb, hb1, hb2⟩ := key
  have h05 : b.2.1 0 5 = nI (ddat u1 n1).1 := by rw [hb2.2 5 (by decide)]; exact lt.1.2.2.2.1
  rw [eS] at hb1
  have p4 : 2 ^ (4 * (ddat u1 n1).1) ≤ 2 ^ 32 := Nat.pow_le_pow_right (by omega) (by omega)
  have el := lowM (S := slS u0 n0 u1 n1 l c) (B := 2 ^ (4 * (ddat u1 n1).1)) (s := b.2) hw (by omega) (Nat.two_pow_pos _) p4
  have e4' := shl4 (ddat u1 n1).1 (by omega)
  refine ⟨b.2, ?_, lt.1.keep (hb2.wide (by decide) (by decide))⟩
  unfold F_X9_sleepsBy
  rw [e2]
  dsimp only [Option.bind_some]
  rw [e4]
  dsimp only [Option.bind_some]
  rw [eb]
  dsimp only [Option.bind_some]
  rw [h05, hb1]
  have e5 : F_X9_lowest (lI (slS u0 n0 u1 n1 l c)) (xlshl (1 : Int64) ((4 : Int32) * nI (ddat u1 n1).1)) (nI w) b.2 = some (slv u0 n0 u1 n1 l c w) := by
    show F_X9_lowest (lI (slS u0 n0 u1 n1 l c)) (xlshl (1 : Int64) (nI 4 * nI (ddat u1 n1).1)) (nI w) b.2 = some (slv u0 n0 u1 n1 l c w)
    rw [e4', el]
    rfl
  rw [e5]
  rfl
theorem no_bad {s : xS} : F_X9_no (-(nI 2)) s = some (-9223372036854775806) := by
  show some ((-9223372036854775808 : Int64) - (-2 : Int32).toInt64) = some (-9223372036854775806)
  decide
theorem c_sleeps : lh_sleeps Inv := by
  intro x y s1 s2 hI
  obtain ⟨u0, n0, u1, n1, l, e, hA⟩ := hI
  rcases arg_cases x 17 with ⟨c, hc, rfl⟩ | hno
  · rcases arg_cases y 2 with ⟨w, hw, rfl⟩ | hno
    · obtain ⟨s'', e'', rt'⟩ := m_sleeps (c := c) (w := w) hA.iM.1 (by omega) hw
      obtain ⟨t, et, kt⟩ := q_sleeps (c := c) (w := w) hA.iF (by omega) hw
      refine ⟨_, t, s'', et, ?_, hA.mk2 (hA.iF.keep kt) kt.kf rt'.1⟩
      unfold F_X9_sleeps
      simp (disch := omega) only [↓Lm1, L0, L1, L2, L3, L4, L5, L6, L7, L8, L9, L10, L11, L12, L13, L14, L15, L16, L17, L18, L19, L20, L27, L30, L31, L35, L36, L37, L38, L39, L40, L41, L46, L48, L51, L57, L59, L60, L82, L98, L99, L100, L102, L104, L107, L110, L119, L144, L240, L255, L256, L360, L999, L1000000, nI_val, n_lt_t, n_lt_f, n_le_t, n_le_f, n_eq_t, n_eq_f, k_le_f, m_lt_t, m_lt_f, m_le_t, m_le_f, m_eq_f, m_eq_f', nI_add, nI_mulE, nI_subE, if_true, if_false, ite_true, ite_false, or_false, false_or, or_true, true_or, or_self, and_true, true_and, and_false, false_and, not_true_eq_false, not_false_eq_true, Option.bind_some, Sum.elim_inl, Sum.elim_inr, xu_set, xset_same, xset_ne, xset_2, xset_set, upd_same, upd_ne, nbI_some, ne_eq, reduceCtorEq, reduceIte, Nat.reduceAdd, Nat.reduceMul, Nat.reduceSub, Nat.add_zero, Nat.zero_add, Nat.mul_zero, Nat.zero_mul, inM_t, e'']
    · refine ⟨-9223372036854775806, s1, s2, ?_, ?_, hA.mk2 hA.iF (KF.refl _) (KR.refl _ _ _)⟩
      · unfold F_X8_sleeps
        have o1 : F_X8_isOutside (nI c) (nI 17) s1 = some (nI 0) := out_in (by omega) (by omega)
        have o2 : F_X8_isOutside y (nI 2) s1 = some (nI 1) := out_no (by omega) hno
        simp (disch := omega) only [↓Lm1, L0, L1, L2, L3, L4, L5, L6, L7, L8, L9, L10, L11, L12, L13, L14, L15, L16, L17, L18, L19, L20, L27, L30, L31, L35, L36, L37, L38, L39, L40, L41, L46, L48, L51, L57, L59, L60, L82, L98, L99, L100, L102, L104, L107, L110, L119, L144, L240, L255, L256, L360, L999, L1000000, nI_val, n_lt_t, n_lt_f, n_le_t, n_le_f, n_eq_t, n_eq_f, k_le_f, m_lt_t, m_lt_f, m_le_t, m_le_f, m_eq_f, m_eq_f', nI_add, nI_mulE, nI_subE, if_true, if_false, ite_true, ite_false, or_false, false_or, or_true, true_or, or_self, and_true, true_and, and_false, false_and, not_true_eq_false, not_false_eq_true, Option.bind_some, Sum.elim_inl, Sum.elim_inr, xu_set, xset_same, xset_ne, xset_2, xset_set, upd_same, upd_ne, nbI_some, ne_eq, reduceCtorEq, reduceIte, Nat.reduceAdd, Nat.reduceMul, Nat.reduceSub, Nat.add_zero, Nat.zero_add, Nat.mul_zero, Nat.zero_mul, o1, o2]
      · unfold F_X9_sleeps
        have i1 : F_X9_in (nI c) (nI 0) (nI 16) s2 = some (nI 1) := inM_t (by omega) (by omega) (by omega)
        have i2 : F_X9_in y (nI 0) (nI 1) s2 = some (nI 0) := inM_no (by omega) hno
        simp (disch := omega) only [↓Lm1, L0, L1, L2, L3, L4, L5, L6, L7, L8, L9, L10, L11, L12, L13, L14, L15, L16, L17, L18, L19, L20, L27, L30, L31, L35, L36, L37, L38, L39, L40, L41, L46, L48, L51, L57, L59, L60, L82, L98, L99, L100, L102, L104, L107, L110, L119, L144, L240, L255, L256, L360, L999, L1000000, nI_val, n_lt_t, n_lt_f, n_le_t, n_le_f, n_eq_t, n_eq_f, k_le_f, m_lt_t, m_lt_f, m_le_t, m_le_f, m_eq_f, m_eq_f', nI_add, nI_mulE, nI_subE, if_true, if_false, ite_true, ite_false, or_false, false_or, or_true, true_or, or_self, and_true, true_and, and_false, false_and, not_true_eq_false, not_false_eq_true, Option.bind_some, Sum.elim_inl, Sum.elim_inr, xu_set, xset_same, xset_ne, xset_2, xset_set, upd_same, upd_ne, nbI_some, ne_eq, reduceCtorEq, reduceIte, Nat.reduceAdd, Nat.reduceMul, Nat.reduceSub, Nat.add_zero, Nat.zero_add, Nat.mul_zero, Nat.zero_mul, i1, i2, no_bad]
  · refine ⟨-9223372036854775806, s1, s2, ?_, ?_, hA.mk2 hA.iF (KF.refl _) (KR.refl _ _ _)⟩
    · unfold F_X8_sleeps
      have o1 : F_X8_isOutside x (nI 17) s1 = some (nI 1) := out_no (by omega) hno
      simp (disch := omega) only [↓Lm1, L0, L1, L2, L3, L4, L5, L6, L7, L8, L9, L10, L11, L12, L13, L14, L15, L16, L17, L18, L19, L20, L27, L30, L31, L35, L36, L37, L38, L39, L40, L41, L46, L48, L51, L57, L59, L60, L82, L98, L99, L100, L102, L104, L107, L110, L119, L144, L240, L255, L256, L360, L999, L1000000, nI_val, n_lt_t, n_lt_f, n_le_t, n_le_f, n_eq_t, n_eq_f, k_le_f, m_lt_t, m_lt_f, m_le_t, m_le_f, m_eq_f, m_eq_f', nI_add, nI_mulE, nI_subE, if_true, if_false, ite_true, ite_false, or_false, false_or, or_true, true_or, or_self, and_true, true_and, and_false, false_and, not_true_eq_false, not_false_eq_true, Option.bind_some, Sum.elim_inl, Sum.elim_inr, xu_set, xset_same, xset_ne, xset_2, xset_set, upd_same, upd_ne, nbI_some, ne_eq, reduceCtorEq, reduceIte, Nat.reduceAdd, Nat.reduceMul, Nat.reduceSub, Nat.add_zero, Nat.zero_add, Nat.mul_zero, Nat.zero_mul, o1]
    · unfold F_X9_sleeps
      have i1 : F_X9_in x (nI 0) (nI 16) s2 = some (nI 0) := inM_no (by omega) hno
      simp (disch := omega) only [↓Lm1, L0, L1, L2, L3, L4, L5, L6, L7, L8, L9, L10, L11, L12, L13, L14, L15, L16, L17, L18, L19, L20, L27, L30, L31, L35, L36, L37, L38, L39, L40, L41, L46, L48, L51, L57, L59, L60, L82, L98, L99, L100, L102, L104, L107, L110, L119, L144, L240, L255, L256, L360, L999, L1000000, nI_val, n_lt_t, n_lt_f, n_le_t, n_le_f, n_eq_t, n_eq_f, k_le_f, m_lt_t, m_lt_f, m_le_t, m_le_f, m_eq_f, m_eq_f', nI_add, nI_mulE, nI_subE, if_true, if_false, ite_true, ite_false, or_false, false_or, or_true, true_or, or_self, and_true, true_and, and_false, false_and, not_true_eq_false, not_false_eq_true, Option.bind_some, Sum.elim_inl, Sum.elim_inr, xu_set, xset_same, xset_ne, xset_2, xset_set, upd_same, upd_ne, nbI_some, ne_eq, reduceCtorEq, reduceIte, Nat.reduceAdd, Nat.reduceMul, Nat.reduceSub, Nat.add_zero, Nat.zero_add, Nat.mul_zero, Nat.zero_mul, i1, no_bad]
end SPEC
