/-! ===== the town's text, read by the other ===== -/
/-- of the other: all but the places L (none of them 0) and the slots R of place 0 is kept -/
def KR (L R : List Nat) (s s' : xS) : Prop := (∀ q, q ≠ 0 → q ∉ L → s'.1 q = s.1 q) ∧ ∀ k, k ∉ R → s'.1 0 k = s.1 0 k
theorem KR.refl (L R : List Nat) (s : xS) : KR L R s s := ⟨fun _ _ _ => rfl, fun _ _ => rfl⟩
theorem KR.trans {L R : List Nat} {s s' s'' : xS} (h : KR L R s s') (h' : KR L R s' s'') : KR L R s s'' := ⟨fun q a b => (h'.1 q a b).trans (h.1 q a b), fun k a => (h'.2 k a).trans (h.2 k a)⟩
theorem KR.wide {L R L' R' : List Nat} {s s' : xS} (h : KR L R s s') (h1 : ∀ x, x ∈ L → x ∈ L') (h2 : ∀ x, x ∈ R → x ∈ R') : KR L' R' s s' := ⟨fun q a b => h.1 q a fun z => b (h1 q z), fun k a => h.2 k fun z => a (h2 k z)⟩
theorem KR.set {L R : List Nat} {p : Nat} {s s' : xS} (h : KR L R s s') (g : Nat → Int32) (h0 : p ≠ 0) (h1 : p ∈ L) : KR L R s (xset s' p g) := ⟨fun q a b => by rw [xset_ne _ _ (fun z => b (by rw [z]; exact h1))]; exact h.1 q a b, fun k a => by rw [xset_ne _ _ (fun z => h0 z.symm)]; exact h.2 k a⟩
theorem KR.set0 {L R : List Nat} {s s' : xS} (h : KR L R s s') (g : Nat → Int32) (h1 : ∀ k, k ∉ R → g k = s'.1 0 k) : KR L R s (xset s' 0 g) := ⟨fun q a b => by rw [xset_ne _ _ a]; exact h.1 q a b, fun k a => by rw [xset_same, h1 k a]; exact h.2 k a⟩
def PM (st : PS) (s s' : xS) : Prop := KR [3] [2, 3] s s' ∧ s'.1 0 3 = nI 0 ∧ ∀ j, j < st.2.2.1 → s'.1 3 j = nI (st.2.2.2.2.2 j)
def TnM (t : Nat → Int32) (n : Nat) (s : xS) : Prop := TwM s (tdat (tres t n)).1 (tdat (tres t n)).2.1 (tdat (tres t n)).2.2.2
theorem TnM_flt {t : Nat → Int32} {n k : Nat} {s : xS} (h : tres t n = .inl k) (h3 : s.1 0 3 = nI 0) : TnM t n s := by
  unfold TnM
  rw [h]
  exact ⟨⟨Nat.zero_le 36, fun z => absurd z (Nat.lt_irrefl 0), 0, rfl⟩, h3, fun z => absurd z (Nat.lt_irrefl 0), Nat.zero_le 6, fun i hi => absurd hi (Nat.not_lt_zero i)⟩
theorem townM {t : Nat → Int32} {n : Nat} {s : xS} (hn : n ≤ 41) (h12 : s.1 1 0 = nI n) (hb : ∀ j, j < n → s.1 2 j = t j) :
    ∃ s', F_X9_readsTown s = some (nbI (tflt (tres t n)), s') ∧ KR [3] [2, 3] s s' ∧ TnM t n s' := by
  refine Exists.elim (xlp_cnt (f := F_X9_readsTown_L26) (fun i a => ∃ st, prun t i = .inl st ∧ a.1 = nI st.1 ∧ a.2.1 = nI st.2.1 ∧ a.2.2.1 = nI st.2.2.1 ∧ a.2.2.2.1 = nI (if st.1 = 0 then 6 else st.2.2.2.1) ∧ a.2.2.2.2.1 = nI (if st.2.2.2.2.1 = none then 0 else 1) ∧ a.2.2.2.2.2.1 = nI i ∧ PM st s a.2.2.2.2.2.2) (fun b => match b with
    | .inl q => prun t n = .inr q.1.toNatClampNeg ∧ q.1 = nI q.1.toNatClampNeg ∧ KR [3] [2, 3] s q.2 ∧ q.2.1 0 3 = nI 0
    | .inr (.inl q) => prun t n = .inr q.1.toNatClampNeg ∧ q.1 = nI q.1.toNatClampNeg ∧ KR [3] [2, 3] s q.2 ∧ q.2.1 0 3 = nI 0
    | .inr (.inr (.inl q)) => prun t n = .inr q.1.toNatClampNeg ∧ q.1 = nI q.1.toNatClampNeg ∧ KR [3] [2, 3] s q.2 ∧ q.2.1 0 3 = nI 0
    | .inr (.inr (.inr q)) => ∃ st, prun t n = .inl st ∧ q.1 = nI st.1 ∧ q.2.1 = nI st.2.1 ∧ q.2.2.1 = nI st.2.2.1 ∧ q.2.2.2.1 = nI (if st.1 = 0 then 6 else st.2.2.2.1) ∧ PM st s q.2.2.2.2) n (by omega) ?_ ?_ (a := (0, 0, 0, 6, 0, 0, xu (xu s 0 3 0) 0 2 1)) ⟨p0, rfl, rfl, rfl, rfl, rfl, rfl, rfl, ?_, ?_, ?_⟩) ?_
  · intro i a hi ⟨st, h1, ha1, ha2, ha3, ha4, ha5, ha6, hK, h3, h6⟩
    obtain ⟨a1, a2, a3, a4, a5, a6, s'⟩ := a
    dsimp only at ha1 ha2 ha3 ha4 ha5 ha6 hK h3 h6
    subst ha1; subst ha2; subst ha3; subst ha4; subst ha5; subst ha6
    have hI := prun_inv i st h1
    have hnx := prun_next h1
    have hm := hI.n_le
    have hI' := hI
    obtain ⟨r, c, m, w, bd, kd⟩ := st
    obtain ⟨i1, i2, i3, i4, i5, i6⟩ := hI
    dsimp only at h3 h6 i1 i2 i3 i4 i5 i6 hm
    have e12 : s'.1 1 0 = nI n := by rw [hK.1 1 (by decide) (by decide)]; exact h12
    have e2 : s'.1 2 i = t i := by rw [hK.1 2 (by decide) (by decide)]; exact hb i hi
    have hflt : pstep (t i) (r, c, m, w, bd, kd) = none → prun t n = .inr i := by
      intro q
      rw [q] at hnx
      exact prun_flt n (by omega) hnx
    have cb : c ≤ 6 ∧ w ≤ 6 ∨ r = 0 ∧ c ≤ 6 := by
      by_cases r0 : r = 0
      · exact Or.inr ⟨r0, (i2 r0).2⟩
      · have := i3 (by omega); omega
    unfold F_X9_readsTown_L26 F_X9_byteAt
    dsimp only
    simp (disch := omega) only [↓Lm1, L0, L1, L2, L3, L4, L5, L6, L7, L8, L9, L10, L11, L12, L13, L14, L15, L16, L17, L18, L19, L20, L27, L30, L31, L35, L36, L37, L38, L39, L40, L41, L46, L48, L51, L57, L59, L60, L82, L98, L99, L100, L102, L104, L107, L110, L119, L144, L240, L255, L256, L360, L999, L1000000, nI_val, n_lt_t, n_lt_f, n_le_t, n_le_f, n_eq_t, n_eq_f, k_le_f, m_lt_t, m_lt_f, m_le_t, m_le_f, m_eq_f, m_eq_f', nI_add, nI_mulE, nI_subE, if_true, if_false, ite_true, ite_false, or_false, false_or, or_true, true_or, or_self, and_true, true_and, and_false, false_and, not_true_eq_false, not_false_eq_true, Option.bind_some, Sum.elim_inl, Sum.elim_inr, xu_set, xset_same, xset_ne, xset_2, xset_set, upd_same, upd_ne, nbI_some, ne_eq, reduceCtorEq, reduceIte, Nat.reduceAdd, Nat.reduceMul, Nat.reduceSub, Nat.add_zero, Nat.zero_add, Nat.mul_zero, Nat.zero_mul, e12, e2]
    have vi : (nI i).toNatClampNeg = i := nI_val (by omega)
    by_cases r6 : r = 6
    · right
      refine ⟨.inl (nI i, s'), ?_, ?_⟩
      · simp (disch := omega) only [↓Lm1, L0, L1, L2, L3, L4, L5, L6, L7, L8, L9, L10, L11, L12, L13, L14, L15, L16, L17, L18, L19, L20, L27, L30, L31, L35, L36, L37, L38, L39, L40, L41, L46, L48, L51, L57, L59, L60, L82, L98, L99, L100, L102, L104, L107, L110, L119, L144, L240, L255, L256, L360, L999, L1000000, nI_val, n_lt_t, n_lt_f, n_le_t, n_le_f, n_eq_t, n_eq_f, k_le_f, m_lt_t, m_lt_f, m_le_t, m_le_f, m_eq_f, m_eq_f', nI_add, nI_mulE, nI_subE, if_true, if_false, ite_true, ite_false, or_false, false_or, or_true, true_or, or_self, and_true, true_and, and_false, false_and, not_true_eq_false, not_false_eq_true, Option.bind_some, Sum.elim_inl, Sum.elim_inr, xu_set, xset_same, xset_ne, xset_2, xset_set, upd_same, upd_ne, nbI_some, ne_eq, reduceCtorEq, reduceIte, Nat.reduceAdd, Nat.reduceMul, Nat.reduceSub, Nat.add_zero, Nat.zero_add, Nat.mul_zero, Nat.zero_mul, r6]
      · dsimp only
        rw [vi]
        exact ⟨hflt (by unfold pstep; exact if_pos r6), rfl, hK, h3⟩
    · by_cases hb59 : t i = nI 59
      · have hp5 : pstep (t i) (r, c, m, w, bd, kd) = if c = 0 ∨ (0 < r ∧ c < w) then none else some (r + 1, 0, m, if r = 0 then c else w, bd, kd) := by
          unfold pstep
          dsimp only
          rw [if_neg r6]
          exact if_pos hb59
        by_cases bad : c = 0 ∨ (0 < r ∧ c < w)
        · right
          rw [if_pos bad] at hp5
          refine ⟨.inr (.inl (nI i, s')), ?_, ?_⟩
          · by_cases c0 : c = 0
            · simp (disch := omega) only [↓Lm1, L0, L1, L2, L3, L4, L5, L6, L7, L8, L9, L10, L11, L12, L13, L14, L15, L16, L17, L18, L19, L20, L27, L30, L31, L35, L36, L37, L38, L39, L40, L41, L46, L48, L51, L57, L59, L60, L82, L98, L99, L100, L102, L104, L107, L110, L119, L144, L240, L255, L256, L360, L999, L1000000, nI_val, n_lt_t, n_lt_f, n_le_t, n_le_f, n_eq_t, n_eq_f, k_le_f, m_lt_t, m_lt_f, m_le_t, m_le_f, m_eq_f, m_eq_f', nI_add, nI_mulE, nI_subE, if_true, if_false, ite_true, ite_false, or_false, false_or, or_true, true_or, or_self, and_true, true_and, and_false, false_and, not_true_eq_false, not_false_eq_true, Option.bind_some, Sum.elim_inl, Sum.elim_inr, xu_set, xset_same, xset_ne, xset_2, xset_set, upd_same, upd_ne, nbI_some, ne_eq, reduceCtorEq, reduceIte, Nat.reduceAdd, Nat.reduceMul, Nat.reduceSub, Nat.add_zero, Nat.zero_add, Nat.mul_zero, Nat.zero_mul, r6, hb59, c0]
            · have r0 : ¬ r = 0 := by omega
              simp (disch := omega) only [↓Lm1, L0, L1, L2, L3, L4, L5, L6, L7, L8, L9, L10, L11, L12, L13, L14, L15, L16, L17, L18, L19, L20, L27, L30, L31, L35, L36, L37, L38, L39, L40, L41, L46, L48, L51, L57, L59, L60, L82, L98, L99, L100, L102, L104, L107, L110, L119, L144, L240, L255, L256, L360, L999, L1000000, nI_val, n_lt_t, n_lt_f, n_le_t, n_le_f, n_eq_t, n_eq_f, k_le_f, m_lt_t, m_lt_f, m_le_t, m_le_f, m_eq_f, m_eq_f', nI_add, nI_mulE, nI_subE, if_true, if_false, ite_true, ite_false, or_false, false_or, or_true, true_or, or_self, and_true, true_and, and_false, false_and, not_true_eq_false, not_false_eq_true, Option.bind_some, Sum.elim_inl, Sum.elim_inr, xu_set, xset_same, xset_ne, xset_2, xset_set, upd_same, upd_ne, nbI_some, ne_eq, reduceCtorEq, reduceIte, Nat.reduceAdd, Nat.reduceMul, Nat.reduceSub, Nat.add_zero, Nat.zero_add, Nat.mul_zero, Nat.zero_mul, r6, hb59, c0, r0]
          · dsimp only
            rw [vi]
            exact ⟨hflt hp5, rfl, hK, h3⟩
        · left
          rw [if_neg bad] at hp5
          rw [hp5] at hnx
          refine ⟨(nI (r + 1), 0, nI m, nI (if r = 0 then c else w), nI (if bd = none then 0 else 1), nI (i + 1), s'), ?_, _, hnx, rfl, rfl, rfl, ?_, rfl, rfl, hK, h3, h6⟩
          · by_cases r0 : r = 0
            · simp (disch := omega) only [↓Lm1, L0, L1, L2, L3, L4, L5, L6, L7, L8, L9, L10, L11, L12, L13, L14, L15, L16, L17, L18, L19, L20, L27, L30, L31, L35, L36, L37, L38, L39, L40, L41, L46, L48, L51, L57, L59, L60, L82, L98, L99, L100, L102, L104, L107, L110, L119, L144, L240, L255, L256, L360, L999, L1000000, nI_val, n_lt_t, n_lt_f, n_le_t, n_le_f, n_eq_t, n_eq_f, k_le_f, m_lt_t, m_lt_f, m_le_t, m_le_f, m_eq_f, m_eq_f', nI_add, nI_mulE, nI_subE, if_true, if_false, ite_true, ite_false, or_false, false_or, or_true, true_or, or_self, and_true, true_and, and_false, false_and, not_true_eq_false, not_false_eq_true, Option.bind_some, Sum.elim_inl, Sum.elim_inr, xu_set, xset_same, xset_ne, xset_2, xset_set, upd_same, upd_ne, nbI_some, ne_eq, reduceCtorEq, reduceIte, Nat.reduceAdd, Nat.reduceMul, Nat.reduceSub, Nat.add_zero, Nat.zero_add, Nat.mul_zero, Nat.zero_mul, r6, hb59, r0]
            · have := i3 (by omega)
              simp (disch := omega) only [↓Lm1, L0, L1, L2, L3, L4, L5, L6, L7, L8, L9, L10, L11, L12, L13, L14, L15, L16, L17, L18, L19, L20, L27, L30, L31, L35, L36, L37, L38, L39, L40, L41, L46, L48, L51, L57, L59, L60, L82, L98, L99, L100, L102, L104, L107, L110, L119, L144, L240, L255, L256, L360, L999, L1000000, nI_val, n_lt_t, n_lt_f, n_le_t, n_le_f, n_eq_t, n_eq_f, k_le_f, m_lt_t, m_lt_f, m_le_t, m_le_f, m_eq_f, m_eq_f', nI_add, nI_mulE, nI_subE, if_true, if_false, ite_true, ite_false, or_false, false_or, or_true, true_or, or_self, and_true, true_and, and_false, false_and, not_true_eq_false, not_false_eq_true, Option.bind_some, Sum.elim_inl, Sum.elim_inr, xu_set, xset_same, xset_ne, xset_2, xset_set, upd_same, upd_ne, nbI_some, ne_eq, reduceCtorEq, reduceIte, Nat.reduceAdd, Nat.reduceMul, Nat.reduceSub, Nat.add_zero, Nat.zero_add, Nat.mul_zero, Nat.zero_mul, r6, hb59, r0]
          · dsimp only
            simp
      · have hb' : ¬ t i = 59 := hb59
        simp (disch := omega) only [↓Lm1, L0, L1, L2, L3, L4, L5, L6, L7, L8, L9, L10, L11, L12, L13, L14, L15, L16, L17, L18, L19, L20, L27, L30, L31, L35, L36, L37, L38, L39, L40, L41, L46, L48, L51, L57, L59, L60, L82, L98, L99, L100, L102, L104, L107, L110, L119, L144, L240, L255, L256, L360, L999, L1000000, nI_val, n_lt_t, n_lt_f, n_le_t, n_le_f, n_eq_t, n_eq_f, k_le_f, m_lt_t, m_lt_f, m_le_t, m_le_f, m_eq_f, m_eq_f', nI_add, nI_mulE, nI_subE, if_true, if_false, ite_true, ite_false, or_false, false_or, or_true, true_or, or_self, and_true, true_and, and_false, false_and, not_true_eq_false, not_false_eq_true, Option.bind_some, Sum.elim_inl, Sum.elim_inr, xu_set, xset_same, xset_ne, xset_2, xset_set, upd_same, upd_ne, nbI_some, ne_eq, reduceCtorEq, reduceIte, Nat.reduceAdd, Nat.reduceMul, Nat.reduceSub, Nat.add_zero, Nat.zero_add, Nat.mul_zero, Nat.zero_mul, r6, hb59, kindOf_eq]
        have hpn : pstep (t i) (r, c, m, w, bd, kd) = match kdOf (t i) with
          | none => none
          | some k => if c = (if r = 0 then 6 else w) then none else if k = 3 ∧ bd ≠ none then none
            else some (r, c + 1, m + 1, w, if k = 3 then some m else bd, fun j => if j = m then k else kd j) := by
          unfold pstep
          dsimp only
          rw [if_neg r6, if_neg hb']
          rfl
        have hmw : (if r = 0 then 6 else w) ≤ 6 := by split <;> omega
        unfold F_X9_readsTown_L26_J119
        cases hk : kdOf (t i) with
        | none =>
          rw [hk] at hpn
          right
          refine ⟨.inr (.inr (.inl (nI i, s'))), ?_, ?_⟩
          · simp (disch := omega) only [↓Lm1, L0, L1, L2, L3, L4, L5, L6, L7, L8, L9, L10, L11, L12, L13, L14, L15, L16, L17, L18, L19, L20, L27, L30, L31, L35, L36, L37, L38, L39, L40, L41, L46, L48, L51, L57, L59, L60, L82, L98, L99, L100, L102, L104, L107, L110, L119, L144, L240, L255, L256, L360, L999, L1000000, nI_val, n_lt_t, n_lt_f, n_le_t, n_le_f, n_eq_t, n_eq_f, k_le_f, m_lt_t, m_lt_f, m_le_t, m_le_f, m_eq_f, m_eq_f', nI_add, nI_mulE, nI_subE, if_true, if_false, ite_true, ite_false, or_false, false_or, or_true, true_or, or_self, and_true, true_and, and_false, false_and, not_true_eq_false, not_false_eq_true, Option.bind_some, Sum.elim_inl, Sum.elim_inr, xu_set, xset_same, xset_ne, xset_2, xset_set, upd_same, upd_ne, nbI_some, ne_eq, reduceCtorEq, reduceIte, Nat.reduceAdd, Nat.reduceMul, Nat.reduceSub, Nat.add_zero, Nat.zero_add, Nat.mul_zero, Nat.zero_mul]
          · dsimp only
            rw [vi]
            exact ⟨hflt hpn, rfl, hK, h3⟩
        | some k =>
          rw [hk] at hpn
          dsimp only at hpn
          have hk3 := kdOf_le hk
          generalize hmo : (if r = 0 then 6 else w) = mo at *
          by_cases hcm : c = mo
          · rw [if_pos hcm] at hpn
            right
            refine ⟨.inr (.inr (.inl (nI i, s'))), ?_, ?_⟩
            · simp (disch := omega) only [↓Lm1, L0, L1, L2, L3, L4, L5, L6, L7, L8, L9, L10, L11, L12, L13, L14, L15, L16, L17, L18, L19, L20, L27, L30, L31, L35, L36, L37, L38, L39, L40, L41, L46, L48, L51, L57, L59, L60, L82, L98, L99, L100, L102, L104, L107, L110, L119, L144, L240, L255, L256, L360, L999, L1000000, nI_val, n_lt_t, n_lt_f, n_le_t, n_le_f, n_eq_t, n_eq_f, k_le_f, m_lt_t, m_lt_f, m_le_t, m_le_f, m_eq_f, m_eq_f', nI_add, nI_mulE, nI_subE, if_true, if_false, ite_true, ite_false, or_false, false_or, or_true, true_or, or_self, and_true, true_and, and_false, false_and, not_true_eq_false, not_false_eq_true, Option.bind_some, Sum.elim_inl, Sum.elim_inr, xu_set, xset_same, xset_ne, xset_2, xset_set, upd_same, upd_ne, nbI_some, ne_eq, reduceCtorEq, reduceIte, Nat.reduceAdd, Nat.reduceMul, Nat.reduceSub, Nat.add_zero, Nat.zero_add, Nat.mul_zero, Nat.zero_mul, hcm, ite_self]
            · dsimp only
              rw [vi]
              exact ⟨hflt hpn, rfl, hK, h3⟩
          · rw [if_neg hcm] at hpn
            by_cases hbd : k = 3 ∧ bd ≠ none
            · rw [if_pos hbd] at hpn
              right
              refine ⟨.inr (.inr (.inl (nI i, s'))), ?_, ?_⟩
              · simp (disch := omega) only [↓Lm1, L0, L1, L2, L3, L4, L5, L6, L7, L8, L9, L10, L11, L12, L13, L14, L15, L16, L17, L18, L19, L20, L27, L30, L31, L35, L36, L37, L38, L39, L40, L41, L46, L48, L51, L57, L59, L60, L82, L98, L99, L100, L102, L104, L107, L110, L119, L144, L240, L255, L256, L360, L999, L1000000, nI_val, n_lt_t, n_lt_f, n_le_t, n_le_f, n_eq_t, n_eq_f, k_le_f, m_lt_t, m_lt_f, m_le_t, m_le_f, m_eq_f, m_eq_f', nI_add, nI_mulE, nI_subE, if_true, if_false, ite_true, ite_false, or_false, false_or, or_true, true_or, or_self, and_true, true_and, and_false, false_and, not_true_eq_false, not_false_eq_true, Option.bind_some, Sum.elim_inl, Sum.elim_inr, xu_set, xset_same, xset_ne, xset_2, xset_set, upd_same, upd_ne, nbI_some, ne_eq, reduceCtorEq, reduceIte, Nat.reduceAdd, Nat.reduceMul, Nat.reduceSub, Nat.add_zero, Nat.zero_add, Nat.mul_zero, Nat.zero_mul, hbd.1, hbd.2]
              · dsimp only
                rw [vi]
                exact ⟨hflt hpn, rfl, hK, h3⟩
            · rw [if_neg hbd] at hpn
              have hI2 := (hI'.step hpn).n_le
              rw [hpn] at hnx
              left
              dsimp only at hI2
              refine ⟨(nI r, nI (c + 1), nI (m + 1), nI mo, nI (if (if k = 3 then some m else bd) = none then 0 else 1), nI (i + 1), xset s' 3 (upd (s'.1 3) m (nI k))), ?_, _, hnx, rfl, rfl, rfl, ?_, rfl, rfl, ?_, ?_, ?_⟩
              · by_cases k3 : k = 3
                · have b0 : bd = none := Classical.byContradiction fun q => hbd ⟨k3, q⟩
                  simp (disch := omega) only [↓Lm1, L0, L1, L2, L3, L4, L5, L6, L7, L8, L9, L10, L11, L12, L13, L14, L15, L16, L17, L18, L19, L20, L27, L30, L31, L35, L36, L37, L38, L39, L40, L41, L46, L48, L51, L57, L59, L60, L82, L98, L99, L100, L102, L104, L107, L110, L119, L144, L240, L255, L256, L360, L999, L1000000, nI_val, n_lt_t, n_lt_f, n_le_t, n_le_f, n_eq_t, n_eq_f, k_le_f, m_lt_t, m_lt_f, m_le_t, m_le_f, m_eq_f, m_eq_f', nI_add, nI_mulE, nI_subE, if_true, if_false, ite_true, ite_false, or_false, false_or, or_true, true_or, or_self, and_true, true_and, and_false, false_and, not_true_eq_false, not_false_eq_true, Option.bind_some, Sum.elim_inl, Sum.elim_inr, xu_set, xset_same, xset_ne, xset_2, xset_set, upd_same, upd_ne, nbI_some, ne_eq, reduceCtorEq, reduceIte, Nat.reduceAdd, Nat.reduceMul, Nat.reduceSub, Nat.add_zero, Nat.zero_add, Nat.mul_zero, Nat.zero_mul, k3, b0]
                · by_cases b0 : bd = none
                  · simp (disch := omega) only [↓Lm1, L0, L1, L2, L3, L4, L5, L6, L7, L8, L9, L10, L11, L12, L13, L14, L15, L16, L17, L18, L19, L20, L27, L30, L31, L35, L36, L37, L38, L39, L40, L41, L46, L48, L51, L57, L59, L60, L82, L98, L99, L100, L102, L104, L107, L110, L119, L144, L240, L255, L256, L360, L999, L1000000, nI_val, n_lt_t, n_lt_f, n_le_t, n_le_f, n_eq_t, n_eq_f, k_le_f, m_lt_t, m_lt_f, m_le_t, m_le_f, m_eq_f, m_eq_f', nI_add, nI_mulE, nI_subE, if_true, if_false, ite_true, ite_false, or_false, false_or, or_true, true_or, or_self, and_true, true_and, and_false, false_and, not_true_eq_false, not_false_eq_true, Option.bind_some, Sum.elim_inl, Sum.elim_inr, xu_set, xset_same, xset_ne, xset_2, xset_set, upd_same, upd_ne, nbI_some, ne_eq, reduceCtorEq, reduceIte, Nat.reduceAdd, Nat.reduceMul, Nat.reduceSub, Nat.add_zero, Nat.zero_add, Nat.mul_zero, Nat.zero_mul, k3, b0]
                  · simp (disch := omega) only [↓Lm1, L0, L1, L2, L3, L4, L5, L6, L7, L8, L9, L10, L11, L12, L13, L14, L15, L16, L17, L18, L19, L20, L27, L30, L31, L35, L36, L37, L38, L39, L40, L41, L46, L48, L51, L57, L59, L60, L82, L98, L99, L100, L102, L104, L107, L110, L119, L144, L240, L255, L256, L360, L999, L1000000, nI_val, n_lt_t, n_lt_f, n_le_t, n_le_f, n_eq_t, n_eq_f, k_le_f, m_lt_t, m_lt_f, m_le_t, m_le_f, m_eq_f, m_eq_f', nI_add, nI_mulE, nI_subE, if_true, if_false, ite_true, ite_false, or_false, false_or, or_true, true_or, or_self, and_true, true_and, and_false, false_and, not_true_eq_false, not_false_eq_true, Option.bind_some, Sum.elim_inl, Sum.elim_inr, xu_set, xset_same, xset_ne, xset_2, xset_set, upd_same, upd_ne, nbI_some, ne_eq, reduceCtorEq, reduceIte, Nat.reduceAdd, Nat.reduceMul, Nat.reduceSub, Nat.add_zero, Nat.zero_add, Nat.mul_zero, Nat.zero_mul, k3, b0]
              · dsimp only
                rw [hmo]
              · exact hK.set _ (by decide) (by decide)
              · simp (disch := omega) only [↓Lm1, L0, L1, L2, L3, L4, L5, L6, L7, L8, L9, L10, L11, L12, L13, L14, L15, L16, L17, L18, L19, L20, L27, L30, L31, L35, L36, L37, L38, L39, L40, L41, L46, L48, L51, L57, L59, L60, L82, L98, L99, L100, L102, L104, L107, L110, L119, L144, L240, L255, L256, L360, L999, L1000000, nI_val, n_lt_t, n_lt_f, n_le_t, n_le_f, n_eq_t, n_eq_f, k_le_f, m_lt_t, m_lt_f, m_le_t, m_le_f, m_eq_f, m_eq_f', nI_add, nI_mulE, nI_subE, if_true, if_false, ite_true, ite_false, or_false, false_or, or_true, true_or, or_self, and_true, true_and, and_false, false_and, not_true_eq_false, not_false_eq_true, Option.bind_some, Sum.elim_inl, Sum.elim_inr, xu_set, xset_same, xset_ne, xset_2, xset_set, upd_same, upd_ne, nbI_some, ne_eq, reduceCtorEq, reduceIte, Nat.reduceAdd, Nat.reduceMul, Nat.reduceSub, Nat.add_zero, Nat.zero_add, Nat.mul_zero, Nat.zero_mul, h3]
              · intro j hj
                have hj : j < m + 1 := hj
                show (xset s' 3 (upd (s'.1 3) m (nI k))).1 3 j = nI (if j = m then k else kd j)
                by_cases jm : j = m
                · simp (disch := omega) only [↓Lm1, L0, L1, L2, L3, L4, L5, L6, L7, L8, L9, L10, L11, L12, L13, L14, L15, L16, L17, L18, L19, L20, L27, L30, L31, L35, L36, L37, L38, L39, L40, L41, L46, L48, L51, L57, L59, L60, L82, L98, L99, L100, L102, L104, L107, L110, L119, L144, L240, L255, L256, L360, L999, L1000000, nI_val, n_lt_t, n_lt_f, n_le_t, n_le_f, n_eq_t, n_eq_f, k_le_f, m_lt_t, m_lt_f, m_le_t, m_le_f, m_eq_f, m_eq_f', nI_add, nI_mulE, nI_subE, if_true, if_false, ite_true, ite_false, or_false, false_or, or_true, true_or, or_self, and_true, true_and, and_false, false_and, not_true_eq_false, not_false_eq_true, Option.bind_some, Sum.elim_inl, Sum.elim_inr, xu_set, xset_same, xset_ne, xset_2, xset_set, upd_same, upd_ne, nbI_some, ne_eq, reduceCtorEq, reduceIte, Nat.reduceAdd, Nat.reduceMul, Nat.reduceSub, Nat.add_zero, Nat.zero_add, Nat.mul_zero, Nat.zero_mul, jm]
                · simp (disch := omega) only [↓Lm1, L0, L1, L2, L3, L4, L5, L6, L7, L8, L9, L10, L11, L12, L13, L14, L15, L16, L17, L18, L19, L20, L27, L30, L31, L35, L36, L37, L38, L39, L40, L41, L46, L48, L51, L57, L59, L60, L82, L98, L99, L100, L102, L104, L107, L110, L119, L144, L240, L255, L256, L360, L999, L1000000, nI_val, n_lt_t, n_lt_f, n_le_t, n_le_f, n_eq_t, n_eq_f, k_le_f, m_lt_t, m_lt_f, m_le_t, m_le_f, m_eq_f, m_eq_f', nI_add, nI_mulE, nI_subE, if_true, if_false, ite_true, ite_false, or_false, false_or, or_true, true_or, or_self, and_true, true_and, and_false, false_and, not_true_eq_false, not_false_eq_true, Option.bind_some, Sum.elim_inl, Sum.elim_inr, xu_set, xset_same, xset_ne, xset_2, xset_set, upd_same, upd_ne, nbI_some, ne_eq, reduceCtorEq, reduceIte, Nat.reduceAdd, Nat.reduceMul, Nat.reduceSub, Nat.add_zero, Nat.zero_add, Nat.mul_zero, Nat.zero_mul, jm]
                  exact h6 j (by omega)
  · intro a ⟨st, h1, ha1, ha2, ha3, ha4, ha5, ha6, hK⟩
    obtain ⟨a1, a2, a3, a4, a5, a6, s'⟩ := a
    dsimp only at ha1 ha2 ha3 ha4 ha5 ha6 hK
    subst ha1; subst ha2; subst ha3; subst ha4; subst ha5; subst ha6
    have e12 : s'.1 1 0 = nI n := by rw [hK.1.1 1 (by decide) (by decide)]; exact h12
    refine ⟨.inr (.inr (.inr (nI st.1, nI st.2.1, nI st.2.2.1, nI (if st.1 = 0 then 6 else st.2.2.2.1), s'))), ?_, st, h1, rfl, rfl, rfl, rfl, hK⟩
    unfold F_X9_readsTown_L26
    dsimp only
    simp (disch := omega) only [↓Lm1, L0, L1, L2, L3, L4, L5, L6, L7, L8, L9, L10, L11, L12, L13, L14, L15, L16, L17, L18, L19, L20, L27, L30, L31, L35, L36, L37, L38, L39, L40, L41, L46, L48, L51, L57, L59, L60, L82, L98, L99, L100, L102, L104, L107, L110, L119, L144, L240, L255, L256, L360, L999, L1000000, nI_val, n_lt_t, n_lt_f, n_le_t, n_le_f, n_eq_t, n_eq_f, k_le_f, m_lt_t, m_lt_f, m_le_t, m_le_f, m_eq_f, m_eq_f', nI_add, nI_mulE, nI_subE, if_true, if_false, ite_true, ite_false, or_false, false_or, or_true, true_or, or_self, and_true, true_and, and_false, false_and, not_true_eq_false, not_false_eq_true, Option.bind_some, Sum.elim_inl, Sum.elim_inr, xu_set, xset_same, xset_ne, xset_2, xset_set, upd_same, upd_ne, nbI_some, ne_eq, reduceCtorEq, reduceIte, Nat.reduceAdd, Nat.reduceMul, Nat.reduceSub, Nat.add_zero, Nat.zero_add, Nat.mul_zero, Nat.zero_mul, e12]
  · simp (disch := omega) only [↓Lm1, L0, L1, L2, L3, L4, L5, L6, L7, L8, L9, L10, L11, L12, L13, L14, L15, L16, L17, L18, L19, L20, L27, L30, L31, L35, L36, L37, L38, L39, L40, L41, L46, L48, L51, L57, L59, L60, L82, L98, L99, L100, L102, L104, L107, L110, L119, L144, L240, L255, L256, L360, L999, L1000000, nI_val, n_lt_t, n_lt_f, n_le_t, n_le_f, n_eq_t, n_eq_f, k_le_f, m_lt_t, m_lt_f, m_le_t, m_le_f, m_eq_f, m_eq_f', nI_add, nI_mulE, nI_subE, if_true, if_false, ite_true, ite_false, or_false, false_or, or_true, true_or, or_self, and_true, true_and, and_false, false_and, not_true_eq_false, not_false_eq_true, Option.bind_some, Sum.elim_inl, Sum.elim_inr, xu_set, xset_same, xset_ne, xset_2, xset_set, upd_same, upd_ne, nbI_some, ne_eq, reduceCtorEq, reduceIte, Nat.reduceAdd, Nat.reduceMul, Nat.reduceSub, Nat.add_zero, Nat.zero_add, Nat.mul_zero, Nat.zero_mul]
    exact (KR.refl _ _ _).set0 _ (fun k hk => by
      simp only [List.mem_cons, List.not_mem_nil, or_false, not_or] at hk
      rw [upd_ne _ _ hk.1, upd_ne _ _ hk.2])
  · simp (disch := omega) only [↓Lm1, L0, L1, L2, L3, L4, L5, L6, L7, L8, L9, L10, L11, L12, L13, L14, L15, L16, L17, L18, L19, L20, L27, L30, L31, L35, L36, L37, L38, L39, L40, L41, L46, L48, L51, L57, L59, L60, L82, L98, L99, L100, L102, L104, L107, L110, L119, L144, L240, L255, L256, L360, L999, L1000000, nI_val, n_lt_t, n_lt_f, n_le_t, n_le_f, n_eq_t, n_eq_f, k_le_f, m_lt_t, m_lt_f, m_le_t, m_le_f, m_eq_f, m_eq_f', nI_add, nI_mulE, nI_subE, if_true, if_false, ite_true, ite_false, or_false, false_or, or_true, true_or, or_self, and_true, true_and, and_false, false_and, not_true_eq_false, not_false_eq_true, Option.bind_some, Sum.elim_inl, Sum.elim_inr, xu_set, xset_same, xset_ne, xset_2, xset_set, upd_same, upd_ne, nbI_some, ne_eq, reduceCtorEq, reduceIte, Nat.reduceAdd, Nat.reduceMul, Nat.reduceSub, Nat.add_zero, Nat.zero_add, Nat.mul_zero, Nat.zero_mul]
  · intro j hj
    exact absurd hj (Nat.not_lt_zero j)
  · rintro b ⟨hx, hq⟩
    unfold F_X9_readsTown
    rw [hx]
    have fin : ∀ q : Int32 × xS, (prun t n = .inr q.1.toNatClampNeg ∧ q.1 = nI q.1.toNatClampNeg ∧ KR [3] [2, 3] s q.2 ∧ q.2.1 0 3 = nI 0) → ∃ s', some (q.1, q.2) = some (nbI (tflt (tres t n)), s') ∧ KR [3] [2, 3] s s' ∧ TnM t n s' := by
      intro q ⟨g1, g2, g3, g4⟩
      have e : tres t n = .inl q.1.toNatClampNeg := by unfold tres; rw [g1]
      refine ⟨q.2, ?_, g3, TnM_flt e g4⟩
      rw [e]
      show some (q.1, q.2) = some (nI q.1.toNatClampNeg, q.2)
      rw [← g2]
    rcases b with q | q | q | q
    · exact fin q hq
    · exact fin q hq
    · exact fin q hq
    · obtain ⟨st, h1, g1, g2, g3, g4, hK, h3, h6⟩ := hq
      have hI := prun_inv n st h1
      have hm := hI.n_le
      obtain ⟨q1, q2, q3, q4, s'⟩ := q
      dsimp only at g1 g2 g3 g4 hK h3 h6
      subst g1; subst g2; subst g3; subst g4
      have e12 : s'.1 1 0 = nI n := by rw [hK.1 1 (by decide) (by decide)]; exact h12
      obtain ⟨r, c, m, w, bd, kd⟩ := st
      obtain ⟨i1, i2, i3, i4, i5, i6⟩ := hI
      dsimp only at h6 i1 i2 i3 i4 i5 i6 hm
      have e : tres t n = if 0 < n ∧ (c = 0 ∨ (0 < r ∧ c < w)) then .inl n else .inr (m, (if r = 0 then c else w), bd, kd) := by unfold tres; rw [h1]
      have cb : c ≤ 6 ∧ w ≤ 6 ∨ r = 0 ∧ c ≤ 6 := by
        by_cases r0 : r = 0
        · exact Or.inr ⟨r0, (i2 r0).2⟩
        · have := i3 (by omega); omega
      by_cases bad : 0 < n ∧ (c = 0 ∨ (0 < r ∧ c < w))
      · rw [if_pos bad] at e
        refine ⟨s', ?_, hK, TnM_flt e h3⟩
        rw [e]
        by_cases c0 : c = 0
        · simp (disch := omega) only [↓Lm1, L0, L1, L2, L3, L4, L5, L6, L7, L8, L9, L10, L11, L12, L13, L14, L15, L16, L17, L18, L19, L20, L27, L30, L31, L35, L36, L37, L38, L39, L40, L41, L46, L48, L51, L57, L59, L60, L82, L98, L99, L100, L102, L104, L107, L110, L119, L144, L240, L255, L256, L360, L999, L1000000, nI_val, n_lt_t, n_lt_f, n_le_t, n_le_f, n_eq_t, n_eq_f, k_le_f, m_lt_t, m_lt_f, m_le_t, m_le_f, m_eq_f, m_eq_f', nI_add, nI_mulE, nI_subE, if_true, if_false, ite_true, ite_false, or_false, false_or, or_true, true_or, or_self, and_true, true_and, and_false, false_and, not_true_eq_false, not_false_eq_true, Option.bind_some, Sum.elim_inl, Sum.elim_inr, xu_set, xset_same, xset_ne, xset_2, xset_set, upd_same, upd_ne, nbI_some, ne_eq, reduceCtorEq, reduceIte, Nat.reduceAdd, Nat.reduceMul, Nat.reduceSub, Nat.add_zero, Nat.zero_add, Nat.mul_zero, Nat.zero_mul, e12, c0, tflt]
        · have r0 : ¬ r = 0 := by omega
          simp (disch := omega) only [↓Lm1, L0, L1, L2, L3, L4, L5, L6, L7, L8, L9, L10, L11, L12, L13, L14, L15, L16, L17, L18, L19, L20, L27, L30, L31, L35, L36, L37, L38, L39, L40, L41, L46, L48, L51, L57, L59, L60, L82, L98, L99, L100, L102, L104, L107, L110, L119, L144, L240, L255, L256, L360, L999, L1000000, nI_val, n_lt_t, n_lt_f, n_le_t, n_le_f, n_eq_t, n_eq_f, k_le_f, m_lt_t, m_lt_f, m_le_t, m_le_f, m_eq_f, m_eq_f', nI_add, nI_mulE, nI_subE, if_true, if_false, ite_true, ite_false, or_false, false_or, or_true, true_or, or_self, and_true, true_and, and_false, false_and, not_true_eq_false, not_false_eq_true, Option.bind_some, Sum.elim_inl, Sum.elim_inr, xu_set, xset_same, xset_ne, xset_2, xset_set, upd_same, upd_ne, nbI_some, ne_eq, reduceCtorEq, reduceIte, Nat.reduceAdd, Nat.reduceMul, Nat.reduceSub, Nat.add_zero, Nat.zero_add, Nat.mul_zero, Nat.zero_mul, e12, r0, tflt]
      · rw [if_neg bad] at e
        have hmn : n = 0 → m = 0 := by
          intro n0
          subst n0
          cases h1
          rfl
        have hok := tres_ok e
        refine ⟨xset s' 0 (upd (upd (s'.1 0) 2 (nI (if n = 0 then 1 else if r = 0 then c else w))) 3 (nI m)), ?_, ?_, ?_⟩
        · rw [e]
          unfold F_X9_readsTown_J193
          by_cases n0 : n = 0
          · simp (disch := omega) only [↓Lm1, L0, L1, L2, L3, L4, L5, L6, L7, L8, L9, L10, L11, L12, L13, L14, L15, L16, L17, L18, L19, L20, L27, L30, L31, L35, L36, L37, L38, L39, L40, L41, L46, L48, L51, L57, L59, L60, L82, L98, L99, L100, L102, L104, L107, L110, L119, L144, L240, L255, L256, L360, L999, L1000000, nI_val, n_lt_t, n_lt_f, n_le_t, n_le_f, n_eq_t, n_eq_f, k_le_f, m_lt_t, m_lt_f, m_le_t, m_le_f, m_eq_f, m_eq_f', nI_add, nI_mulE, nI_subE, if_true, if_false, ite_true, ite_false, or_false, false_or, or_true, true_or, or_self, and_true, true_and, and_false, false_and, not_true_eq_false, not_false_eq_true, Option.bind_some, Sum.elim_inl, Sum.elim_inr, xu_set, xset_same, xset_ne, xset_2, xset_set, upd_same, upd_ne, nbI_some, ne_eq, reduceCtorEq, reduceIte, Nat.reduceAdd, Nat.reduceMul, Nat.reduceSub, Nat.add_zero, Nat.zero_add, Nat.mul_zero, Nat.zero_mul, e12, n0, tflt]
          · by_cases r0 : r = 0
            · have c0 : ¬ c = 0 := by omega
              simp (disch := omega) only [↓Lm1, L0, L1, L2, L3, L4, L5, L6, L7, L8, L9, L10, L11, L12, L13, L14, L15, L16, L17, L18, L19, L20, L27, L30, L31, L35, L36, L37, L38, L39, L40, L41, L46, L48, L51, L57, L59, L60, L82, L98, L99, L100, L102, L104, L107, L110, L119, L144, L240, L255, L256, L360, L999, L1000000, nI_val, n_lt_t, n_lt_f, n_le_t, n_le_f, n_eq_t, n_eq_f, k_le_f, m_lt_t, m_lt_f, m_le_t, m_le_f, m_eq_f, m_eq_f', nI_add, nI_mulE, nI_subE, if_true, if_false, ite_true, ite_false, or_false, false_or, or_true, true_or, or_self, and_true, true_and, and_false, false_and, not_true_eq_false, not_false_eq_true, Option.bind_some, Sum.elim_inl, Sum.elim_inr, xu_set, xset_same, xset_ne, xset_2, xset_set, upd_same, upd_ne, nbI_some, ne_eq, reduceCtorEq, reduceIte, Nat.reduceAdd, Nat.reduceMul, Nat.reduceSub, Nat.add_zero, Nat.zero_add, Nat.mul_zero, Nat.zero_mul, e12, n0, r0, tflt]
            · have c0 : ¬ c = 0 := by omega
              simp (disch := omega) only [↓Lm1, L0, L1, L2, L3, L4, L5, L6, L7, L8, L9, L10, L11, L12, L13, L14, L15, L16, L17, L18, L19, L20, L27, L30, L31, L35, L36, L37, L38, L39, L40, L41, L46, L48, L51, L57, L59, L60, L82, L98, L99, L100, L102, L104, L107, L110, L119, L144, L240, L255, L256, L360, L999, L1000000, nI_val, n_lt_t, n_lt_f, n_le_t, n_le_f, n_eq_t, n_eq_f, k_le_f, m_lt_t, m_lt_f, m_le_t, m_le_f, m_eq_f, m_eq_f', nI_add, nI_mulE, nI_subE, if_true, if_false, ite_true, ite_false, or_false, false_or, or_true, true_or, or_self, and_true, true_and, and_false, false_and, not_true_eq_false, not_false_eq_true, Option.bind_some, Sum.elim_inl, Sum.elim_inr, xu_set, xset_same, xset_ne, xset_2, xset_set, upd_same, upd_ne, nbI_some, ne_eq, reduceCtorEq, reduceIte, Nat.reduceAdd, Nat.reduceMul, Nat.reduceSub, Nat.add_zero, Nat.zero_add, Nat.mul_zero, Nat.zero_mul, e12, n0, r0, tflt]
        · exact hK.set0 _ (fun k hk => by
            simp only [List.mem_cons, List.not_mem_nil, or_false, not_or] at hk
            rw [upd_ne _ _ hk.2, upd_ne _ _ hk.1])
        · unfold TnM
          rw [e]
          refine ⟨hok.1, ?_, ?_, hok.2.1, ?_⟩
          · show (xset s' 0 _).1 0 3 = nI m
            simp (disch := omega) only [↓Lm1, L0, L1, L2, L3, L4, L5, L6, L7, L8, L9, L10, L11, L12, L13, L14, L15, L16, L17, L18, L19, L20, L27, L30, L31, L35, L36, L37, L38, L39, L40, L41, L46, L48, L51, L57, L59, L60, L82, L98, L99, L100, L102, L104, L107, L110, L119, L144, L240, L255, L256, L360, L999, L1000000, nI_val, n_lt_t, n_lt_f, n_le_t, n_le_f, n_eq_t, n_eq_f, k_le_f, m_lt_t, m_lt_f, m_le_t, m_le_f, m_eq_f, m_eq_f', nI_add, nI_mulE, nI_subE, if_true, if_false, ite_true, ite_false, or_false, false_or, or_true, true_or, or_self, and_true, true_and, and_false, false_and, not_true_eq_false, not_false_eq_true, Option.bind_some, Sum.elim_inl, Sum.elim_inr, xu_set, xset_same, xset_ne, xset_2, xset_set, upd_same, upd_ne, nbI_some, ne_eq, reduceCtorEq, reduceIte, Nat.reduceAdd, Nat.reduceMul, Nat.reduceSub, Nat.add_zero, Nat.zero_add, Nat.mul_zero, Nat.zero_mul]
          · intro hm0
            have hm0 : 0 < m := hm0
            have n0 : ¬ n = 0 := fun q => by have := hmn q; omega
            show (xset s' 0 _).1 0 2 = nI (if r = 0 then c else w)
            simp (disch := omega) only [↓Lm1, L0, L1, L2, L3, L4, L5, L6, L7, L8, L9, L10, L11, L12, L13, L14, L15, L16, L17, L18, L19, L20, L27, L30, L31, L35, L36, L37, L38, L39, L40, L41, L46, L48, L51, L57, L59, L60, L82, L98, L99, L100, L102, L104, L107, L110, L119, L144, L240, L255, L256, L360, L999, L1000000, nI_val, n_lt_t, n_lt_f, n_le_t, n_le_f, n_eq_t, n_eq_f, k_le_f, m_lt_t, m_lt_f, m_le_t, m_le_f, m_eq_f, m_eq_f', nI_add, nI_mulE, nI_subE, if_true, if_false, ite_true, ite_false, or_false, false_or, or_true, true_or, or_self, and_true, true_and, and_false, false_and, not_true_eq_false, not_false_eq_true, Option.bind_some, Sum.elim_inl, Sum.elim_inr, xu_set, xset_same, xset_ne, xset_2, xset_set, upd_same, upd_ne, nbI_some, ne_eq, reduceCtorEq, reduceIte, Nat.reduceAdd, Nat.reduceMul, Nat.reduceSub, Nat.add_zero, Nat.zero_add, Nat.mul_zero, Nat.zero_mul, n0]
          · intro i hi
            refine ⟨(hok.2.2.1 i hi).1, ?_⟩
            show (xset s' 0 _).1 3 i = nI (kd i)
            simp (disch := omega) only [↓Lm1, L0, L1, L2, L3, L4, L5, L6, L7, L8, L9, L10, L11, L12, L13, L14, L15, L16, L17, L18, L19, L20, L27, L30, L31, L35, L36, L37, L38, L39, L40, L41, L46, L48, L51, L57, L59, L60, L82, L98, L99, L100, L102, L104, L107, L110, L119, L144, L240, L255, L256, L360, L999, L1000000, nI_val, n_lt_t, n_lt_f, n_le_t, n_le_f, n_eq_t, n_eq_f, k_le_f, m_lt_t, m_lt_f, m_le_t, m_le_f, m_eq_f, m_eq_f', nI_add, nI_mulE, nI_subE, if_true, if_false, ite_true, ite_false, or_false, false_or, or_true, true_or, or_self, and_true, true_and, and_false, false_and, not_true_eq_false, not_false_eq_true, Option.bind_some, Sum.elim_inl, Sum.elim_inr, xu_set, xset_same, xset_ne, xset_2, xset_set, upd_same, upd_ne, nbI_some, ne_eq, reduceCtorEq, reduceIte, Nat.reduceAdd, Nat.reduceMul, Nat.reduceSub, Nat.add_zero, Nat.zero_add, Nat.mul_zero, Nat.zero_mul]
            exact h6 i hi
