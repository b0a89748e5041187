/-! ===== the other's night ===== -/
theorem nar0 : vp_nar .boolean (nI 0) = nI 0 := by decide
theorem nar1 : vp_nar .boolean (nI 1) = nI 1 := by decide
theorem n_sub_le {a b : Nat} (h : a ≤ b) (hb : b < 2 ^ 31) : (nI a - nI b ≤ nI 0) = True := by
  rw [i_le, i_sub (by rw [nI_toInt hb, nI_toInt (by omega)]; omega) (by rw [nI_toInt hb, nI_toInt (by omega)]; omega), nI_toInt hb, nI_toInt (by omega), nI_toInt (by omega)]
  exact eq_true (by omega)
theorem nst_no {d : DD} {sh : Nat → Nat} {pr : Nat → Bool} {ch dp : Nat} {th : Nat → Nat} : ∀ k j, k ≤ j → (nst d sh pr ch dp th k).2.2.2.1 j = none ∧ (nst d sh pr ch dp th k).2.2.2.2.1 j = none
  | 0, j, _ => ⟨rfl, rfl⟩
  | k + 1, j, hj => by
    have ih := nst_no (d := d) (sh := sh) (pr := pr) (ch := ch) (dp := dp) (th := th) k j (by omega)
    show (nstep d sh pr ch th k (nst d sh pr ch dp th k)).2.2.2.1 j = none ∧ (nstep d sh pr ch th k (nst d sh pr ch dp th k)).2.2.2.2.1 j = none
    generalize nst d sh pr ch dp th k = s at ih
    unfold nstep
    by_cases c : s.1 = none
    · rw [if_pos c]
      have e : ¬ j = k := by omega
      simp only [e, if_false]
      exact ih
    · rw [if_neg c]
      exact ih
def LsM (N : Nat) (ls : Nat → Nat) (s : xS) : Prop := ∀ j, j < N → s.1 9 j = nI (min 999 (ls j))
def LwM (l : LD) (s : xS) : Prop := s.1 0 9 = nI l.1 ∧ s.1 0 10 = nI l.2.1 ∧ s.1 0 11 = nI l.2.2.1 ∧ ∀ k, k < l.2.2.1 → s.1 7 k = nI (l.2.2.2.1 k) ∧ s.1 8 k = nI (l.2.2.2.2 k)
def PrM (pr : Nat → Bool) (x : Int32) : Prop := ∀ i, i < 8 → ((xshr x (nI i) &&& nI 1 = nI 1) = (pr i = false))
theorem loudM {k : Nat} {s : xS} (h : k ≤ 3) : F_X9_loudOf (nI k) s = some (nI (ldk k)) := by
  match k, h with
  | 0, _ => rfl
  | 1, _ => rfl
  | 2, _ => rfl
  | 3, _ => rfl
theorem hearsM {d : DD} {N : Nat} {ls : Nat → Nat} {s : xS} (hd : DdOk d) (hD : DdM d s) (hN : N ≤ 36) (h3 : s.1 0 3 = nI N) (hls : LsM N ls s) : ∃ s', F_X9_hears s = some s' ∧ KR [10] [] s s' ∧ ∀ i, i < d.1 → s'.1 10 i = nI (shr d N ls i) := by
  have hn := hd.1
  refine Exists.elim (xlp_cnt (f := F_X9_hears_L2) (fun k a => a.1 = nI k ∧ KR [10] [] s a.2 ∧ ∀ i, i < k → a.2.1 10 i = nI (shr d N ls i)) (fun b => KR [10] [] s b ∧ ∀ i, i < d.1 → b.1 10 i = nI (shr d N ls i)) d.1 (by omega) ?_ ?_ (a := (0, s)) ⟨rfl, KR.refl _ _ _, fun i hi => absurd hi (Nat.not_lt_zero i)⟩) ?_
  · intro i a hi ⟨ha1, hK, hr⟩
    obtain ⟨z, s'⟩ := a
    dsimp only at ha1 hK hr
    subst ha1
    obtain ⟨r1, r2, r3⟩ := hD.2 i hi
    obtain ⟨o1, o2, o3⟩ := hd.2 i hi
    have e5 : s'.1 0 5 = nI d.1 := by rw [hK.2 5 (by decide)]; exact hD.1
    have e3 : s'.1 0 3 = nI N := by rw [hK.2 3 (by decide)]; exact h3
    have ep : s'.1 4 i = nI (d.2.1 i) := by rw [hK.1 4 (by decide) (by decide)]; exact r1
    have ek : s'.1 5 i = nI (d.2.2.1 i) := by rw [hK.1 5 (by decide) (by decide)]; exact r2
    have e9 : s'.1 9 = s.1 9 := hK.1 9 (by decide) (by decide)
    have hl := ldk_le (d.2.2.1 i)
    left
    refine ⟨(nI (i + 1), xset s' 10 (upd (s'.1 10) i (nI (shr d N ls i)))), ?_, rfl, hK.set _ (by decide) (by decide), ?_⟩
    · unfold F_X9_hears_L2
      by_cases c : d.2.1 i < N
      · have et := hls (d.2.1 i) c
        have es : shr d N ls i = ldk (d.2.2.1 i) - ls (d.2.1 i) := if_pos c
        by_cases c2 : ldk (d.2.2.1 i) ≤ ls (d.2.1 i)
        · simp (disch := omega) only [↓Lm1, L0, L1, L2, L3, L4, L5, L6, L7, L8, L9, L10, L11, L12, L13, L14, L15, L16, L17, L18, L19, L20, L27, L30, L31, L35, L36, L37, L38, L39, L40, L41, L46, L48, L51, L57, L59, L60, L82, L98, L99, L100, L102, L104, L107, L110, L119, L144, L240, L255, L256, L360, L999, L1000000, nI_val, n_lt_t, n_lt_f, n_le_t, n_le_f, n_eq_t, n_eq_f, k_le_f, m_lt_t, m_lt_f, m_le_t, m_le_f, m_eq_f, m_eq_f', nI_add, nI_mulE, nI_subE, if_true, if_false, ite_true, ite_false, or_false, false_or, or_true, true_or, or_self, and_true, true_and, and_false, false_and, not_true_eq_false, not_false_eq_true, Option.bind_some, Sum.elim_inl, Sum.elim_inr, xu_set, xset_same, xset_ne, xset_2, xset_set, upd_same, upd_ne, nbI_some, ne_eq, reduceCtorEq, reduceIte, Nat.reduceAdd, Nat.reduceMul, Nat.reduceSub, Nat.add_zero, Nat.zero_add, Nat.mul_zero, Nat.zero_mul, e5, e3, ep, ek, loudM o2, e9, et, es, n_sub_le]
          rw [show ldk (d.2.2.1 i) - ls (d.2.1 i) = 0 by omega]
        · have hm : min 999 (ls (d.2.1 i)) = ls (d.2.1 i) := by omega
          rw [hm] at et
          simp (disch := omega) only [↓Lm1, L0, L1, L2, L3, L4, L5, L6, L7, L8, L9, L10, L11, L12, L13, L14, L15, L16, L17, L18, L19, L20, L27, L30, L31, L35, L36, L37, L38, L39, L40, L41, L46, L48, L51, L57, L59, L60, L82, L98, L99, L100, L102, L104, L107, L110, L119, L144, L240, L255, L256, L360, L999, L1000000, nI_val, n_lt_t, n_lt_f, n_le_t, n_le_f, n_eq_t, n_eq_f, k_le_f, m_lt_t, m_lt_f, m_le_t, m_le_f, m_eq_f, m_eq_f', nI_add, nI_mulE, nI_subE, if_true, if_false, ite_true, ite_false, or_false, false_or, or_true, true_or, or_self, and_true, true_and, and_false, false_and, not_true_eq_false, not_false_eq_true, Option.bind_some, Sum.elim_inl, Sum.elim_inr, xu_set, xset_same, xset_ne, xset_2, xset_set, upd_same, upd_ne, nbI_some, ne_eq, reduceCtorEq, reduceIte, Nat.reduceAdd, Nat.reduceMul, Nat.reduceSub, Nat.add_zero, Nat.zero_add, Nat.mul_zero, Nat.zero_mul, e5, e3, ep, ek, loudM o2, e9, et, es]
      · have es : shr d N ls i = 0 := if_neg c
        simp (disch := omega) only [↓Lm1, L0, L1, L2, L3, L4, L5, L6, L7, L8, L9, L10, L11, L12, L13, L14, L15, L16, L17, L18, L19, L20, L27, L30, L31, L35, L36, L37, L38, L39, L40, L41, L46, L48, L51, L57, L59, L60, L82, L98, L99, L100, L102, L104, L107, L110, L119, L144, L240, L255, L256, L360, L999, L1000000, nI_val, n_lt_t, n_lt_f, n_le_t, n_le_f, n_eq_t, n_eq_f, k_le_f, m_lt_t, m_lt_f, m_le_t, m_le_f, m_eq_f, m_eq_f', nI_add, nI_mulE, nI_subE, if_true, if_false, ite_true, ite_false, or_false, false_or, or_true, true_or, or_self, and_true, true_and, and_false, false_and, not_true_eq_false, not_false_eq_true, Option.bind_some, Sum.elim_inl, Sum.elim_inr, xu_set, xset_same, xset_ne, xset_2, xset_set, upd_same, upd_ne, nbI_some, ne_eq, reduceCtorEq, reduceIte, Nat.reduceAdd, Nat.reduceMul, Nat.reduceSub, Nat.add_zero, Nat.zero_add, Nat.mul_zero, Nat.zero_mul, e5, e3, ep, es]
    · intro j hj
      by_cases e : j = i
      · simp (disch := omega) only [↓Lm1, L0, L1, L2, L3, L4, L5, L6, L7, L8, L9, L10, L11, L12, L13, L14, L15, L16, L17, L18, L19, L20, L27, L30, L31, L35, L36, L37, L38, L39, L40, L41, L46, L48, L51, L57, L59, L60, L82, L98, L99, L100, L102, L104, L107, L110, L119, L144, L240, L255, L256, L360, L999, L1000000, nI_val, n_lt_t, n_lt_f, n_le_t, n_le_f, n_eq_t, n_eq_f, k_le_f, m_lt_t, m_lt_f, m_le_t, m_le_f, m_eq_f, m_eq_f', nI_add, nI_mulE, nI_subE, if_true, if_false, ite_true, ite_false, or_false, false_or, or_true, true_or, or_self, and_true, true_and, and_false, false_and, not_true_eq_false, not_false_eq_true, Option.bind_some, Sum.elim_inl, Sum.elim_inr, xu_set, xset_same, xset_ne, xset_2, xset_set, upd_same, upd_ne, nbI_some, ne_eq, reduceCtorEq, reduceIte, Nat.reduceAdd, Nat.reduceMul, Nat.reduceSub, Nat.add_zero, Nat.zero_add, Nat.mul_zero, Nat.zero_mul, e]
      · simp (disch := omega) only [↓Lm1, L0, L1, L2, L3, L4, L5, L6, L7, L8, L9, L10, L11, L12, L13, L14, L15, L16, L17, L18, L19, L20, L27, L30, L31, L35, L36, L37, L38, L39, L40, L41, L46, L48, L51, L57, L59, L60, L82, L98, L99, L100, L102, L104, L107, L110, L119, L144, L240, L255, L256, L360, L999, L1000000, nI_val, n_lt_t, n_lt_f, n_le_t, n_le_f, n_eq_t, n_eq_f, k_le_f, m_lt_t, m_lt_f, m_le_t, m_le_f, m_eq_f, m_eq_f', nI_add, nI_mulE, nI_subE, if_true, if_false, ite_true, ite_false, or_false, false_or, or_true, true_or, or_self, and_true, true_and, and_false, false_and, not_true_eq_false, not_false_eq_true, Option.bind_some, Sum.elim_inl, Sum.elim_inr, xu_set, xset_same, xset_ne, xset_2, xset_set, upd_same, upd_ne, nbI_some, ne_eq, reduceCtorEq, reduceIte, Nat.reduceAdd, Nat.reduceMul, Nat.reduceSub, Nat.add_zero, Nat.zero_add, Nat.mul_zero, Nat.zero_mul, e]
        exact hr j (by omega)
  · intro a ⟨ha1, hK, hr⟩
    obtain ⟨z, s'⟩ := a
    dsimp only at ha1 hK hr
    subst ha1
    have e5 : s'.1 0 5 = nI d.1 := by rw [hK.2 5 (by decide)]; exact hD.1
    refine ⟨s', ?_, hK, hr⟩
    unfold F_X9_hears_L2
    simp (disch := omega) only [↓Lm1, L0, L1, L2, L3, L4, L5, L6, L7, L8, L9, L10, L11, L12, L13, L14, L15, L16, L17, L18, L19, L20, L27, L30, L31, L35, L36, L37, L38, L39, L40, L41, L46, L48, L51, L57, L59, L60, L82, L98, L99, L100, L102, L104, L107, L110, L119, L144, L240, L255, L256, L360, L999, L1000000, nI_val, n_lt_t, n_lt_f, n_le_t, n_le_f, n_eq_t, n_eq_f, k_le_f, m_lt_t, m_lt_f, m_le_t, m_le_f, m_eq_f, m_eq_f', nI_add, nI_mulE, nI_subE, if_true, if_false, ite_true, ite_false, or_false, false_or, or_true, true_or, or_self, and_true, true_and, and_false, false_and, not_true_eq_false, not_false_eq_true, Option.bind_some, Sum.elim_inl, Sum.elim_inr, xu_set, xset_same, xset_ne, xset_2, xset_set, upd_same, upd_ne, nbI_some, ne_eq, reduceCtorEq, reduceIte, Nat.reduceAdd, Nat.reduceMul, Nat.reduceSub, Nat.add_zero, Nat.zero_add, Nat.mul_zero, Nat.zero_mul, e5]
  · rintro b ⟨hx, h1, h2⟩
    refine ⟨b, ?_, h1, h2⟩
    unfold F_X9_hears
    rw [hx]
    rfl
theorem noiseM {d : DD} {sh : Nat → Nat} {pr ex : Nat → Bool} {ft : Nat → Nat} {l : LD} {h : Nat} {s : xS} (hd : DdOk d) (hD : DdM d s) (hl : LwOk l) (hL : LwM l s) (hpr : PrM pr (s.1 0 15)) (hh : h < 10) (hex : ∀ p, p < 40 → s.1 14 p = nI (if ex p = true then 1 else 0)) (hs : ∀ i, i < d.1 → s.1 10 i = nI (sh i)) (hf : ∀ i, i < d.1 → s.1 11 i = nI (ft i)) :
    ∃ s', F_X9_noiseIn (nI h) s = some (nI (nloud d sh pr (tsm l) ex h), s') ∧ KR [11] [] s s' ∧ ∀ i, i < d.1 → s'.1 11 i = nI (nft d pr ex h ft d.1 i) := by
  have hn := hd.1
  refine Exists.elim (xlp_cnt (f := F_X9_noiseIn_L4 (nI h)) (fun k a => a.1 = nI (smN (fun i => if (dnn d pr h i && !ex (d.2.1 i)) = true then sh i else 0) k) ∧ a.2.1 = nI k ∧ KR [11] [] s a.2.2 ∧ ∀ i, i < d.1 → a.2.2.1 11 i = nI (nft d pr ex h ft k i)) (fun b => b.1 = nI (smN (fun i => if (dnn d pr h i && !ex (d.2.1 i)) = true then sh i else 0) d.1) ∧ KR [11] [] s b.2 ∧ ∀ i, i < d.1 → b.2.1 11 i = nI (nft d pr ex h ft d.1 i)) d.1 (by omega) ?_ ?_ (a := (0, 0, s)) ⟨rfl, rfl, KR.refl _ _ _, ?_⟩) ?_
  · intro i a hi ⟨ha1, ha2, hK, hr⟩
    obtain ⟨a1, a2, s'⟩ := a
    dsimp only at ha1 ha2 hK hr
    subst ha1; subst ha2
    obtain ⟨r1, r2, r3⟩ := hD.2 i hi
    obtain ⟨o1, o2, o3⟩ := hd.2 i hi
    have e3 : s'.1 0 5 = nI d.1 := by rw [hK.2 5 (by decide)]; exact hD.1
    have eh : s'.1 6 i = nI (d.2.2.2 i) := by rw [hK.1 6 (by decide) (by decide)]; exact r3
    have ep : s'.1 4 i = nI (d.2.1 i) := by rw [hK.1 4 (by decide) (by decide)]; exact r1
    have es : s'.1 10 i = nI (sh i) := by rw [hK.1 10 (by decide) (by decide)]; exact hs i hi
    have ex' : s'.1 14 (d.2.1 i) = nI (if ex (d.2.1 i) = true then 1 else 0) := by rw [hK.1 14 (by decide) (by decide)]; exact hex _ o1
    have e15 : s'.1 0 15 = s.1 0 15 := hK.2 15 (by decide)
    have hnr : ∀ v : Nat, (∀ j, j < d.1 → nft d pr ex h ft (i + 1) j = if j = i then v else nft d pr ex h ft i j) → ∀ j, j < d.1 → (xset s' 11 (upd (s'.1 11) i (nI v))).1 11 j = nI (nft d pr ex h ft (i + 1) j) := by
      intro v hv j hj
      rw [hv j hj]
      by_cases e : j = i
      · simp (disch := omega) only [↓Lm1, L0, L1, L2, L3, L4, L5, L6, L7, L8, L9, L10, L11, L12, L13, L14, L15, L16, L17, L18, L19, L20, L27, L30, L31, L35, L36, L37, L38, L39, L40, L41, L46, L48, L51, L57, L59, L60, L82, L98, L99, L100, L102, L104, L107, L110, L119, L144, L240, L255, L256, L360, L999, L1000000, nI_val, n_lt_t, n_lt_f, n_le_t, n_le_f, n_eq_t, n_eq_f, k_le_f, m_lt_t, m_lt_f, m_le_t, m_le_f, m_eq_f, m_eq_f', nI_add, nI_mulE, nI_subE, if_true, if_false, ite_true, ite_false, or_false, false_or, or_true, true_or, or_self, and_true, true_and, and_false, false_and, not_true_eq_false, not_false_eq_true, Option.bind_some, Sum.elim_inl, Sum.elim_inr, xu_set, xset_same, xset_ne, xset_2, xset_set, upd_same, upd_ne, nbI_some, ne_eq, reduceCtorEq, reduceIte, Nat.reduceAdd, Nat.reduceMul, Nat.reduceSub, Nat.add_zero, Nat.zero_add, Nat.mul_zero, Nat.zero_mul, e]
      · simp (disch := omega) only [↓Lm1, L0, L1, L2, L3, L4, L5, L6, L7, L8, L9, L10, L11, L12, L13, L14, L15, L16, L17, L18, L19, L20, L27, L30, L31, L35, L36, L37, L38, L39, L40, L41, L46, L48, L51, L57, L59, L60, L82, L98, L99, L100, L102, L104, L107, L110, L119, L144, L240, L255, L256, L360, L999, L1000000, nI_val, n_lt_t, n_lt_f, n_le_t, n_le_f, n_eq_t, n_eq_f, k_le_f, m_lt_t, m_lt_f, m_le_t, m_le_f, m_eq_f, m_eq_f', nI_add, nI_mulE, nI_subE, if_true, if_false, ite_true, ite_false, or_false, false_or, or_true, true_or, or_self, and_true, true_and, and_false, false_and, not_true_eq_false, not_false_eq_true, Option.bind_some, Sum.elim_inl, Sum.elim_inr, xu_set, xset_same, xset_ne, xset_2, xset_set, upd_same, upd_ne, nbI_some, ne_eq, reduceCtorEq, reduceIte, Nat.reduceAdd, Nat.reduceMul, Nat.reduceSub, Nat.add_zero, Nat.zero_add, Nat.mul_zero, Nat.zero_mul, e]
        exact hr j hj
    left
    unfold F_X9_noiseIn_L4 F_X9_isIn F_X9_noiseIn_L4_J57
    by_cases c1 : d.2.2.2 i = h
    · by_cases c2 : pr i = true
      · have hdn : dnn d pr h i = true := by simp [dnn, c1, c2]
        have hp0 := hpr i (by omega)
        rw [c2] at hp0
        by_cases c3 : ex (d.2.1 i) = true
        · refine ⟨(nI (smN (fun i => if (dnn d pr h i && !ex (d.2.1 i)) = true then sh i else 0) (i + 1)), nI (i + 1), xset s' 11 (upd (s'.1 11) i (nI 1))), ?_, rfl, rfl, hK.set _ (by decide) (by decide), hnr 1 ?_⟩
          · rw [if_pos c3] at ex'
            simp (disch := omega) only [↓Lm1, L0, L1, L2, L3, L4, L5, L6, L7, L8, L9, L10, L11, L12, L13, L14, L15, L16, L17, L18, L19, L20, L27, L30, L31, L35, L36, L37, L38, L39, L40, L41, L46, L48, L51, L57, L59, L60, L82, L98, L99, L100, L102, L104, L107, L110, L119, L144, L240, L255, L256, L360, L999, L1000000, nI_val, n_lt_t, n_lt_f, n_le_t, n_le_f, n_eq_t, n_eq_f, k_le_f, m_lt_t, m_lt_f, m_le_t, m_le_f, m_eq_f, m_eq_f', nI_add, nI_mulE, nI_subE, if_true, if_false, ite_true, ite_false, or_false, false_or, or_true, true_or, or_self, and_true, true_and, and_false, false_and, not_true_eq_false, not_false_eq_true, Option.bind_some, Sum.elim_inl, Sum.elim_inr, xu_set, xset_same, xset_ne, xset_2, xset_set, upd_same, upd_ne, nbI_some, ne_eq, reduceCtorEq, reduceIte, Nat.reduceAdd, Nat.reduceMul, Nat.reduceSub, Nat.add_zero, Nat.zero_add, Nat.mul_zero, Nat.zero_mul, e3, eh, ep, es, ex', e15, c1, c3, hp0, Bool.true_eq_false, smN, hdn, Bool.not_true, Bool.and_false, Bool.false_eq_true]
          · intro j hj
            unfold nft
            by_cases e : j = i
            · simp [e, hdn, c3]
            · simp [e, show (j < i + 1) = (j < i) from propext ⟨fun _ => by omega, fun _ => by omega⟩]
        · refine ⟨(nI (smN (fun i => if (dnn d pr h i && !ex (d.2.1 i)) = true then sh i else 0) (i + 1)), nI (i + 1), xset s' 11 (upd (s'.1 11) i (nI 0))), ?_, rfl, rfl, hK.set _ (by decide) (by decide), hnr 0 ?_⟩
          · have c3' : ex (d.2.1 i) = false := by simpa using c3
            rw [if_neg c3] at ex'
            simp (disch := omega) only [↓Lm1, L0, L1, L2, L3, L4, L5, L6, L7, L8, L9, L10, L11, L12, L13, L14, L15, L16, L17, L18, L19, L20, L27, L30, L31, L35, L36, L37, L38, L39, L40, L41, L46, L48, L51, L57, L59, L60, L82, L98, L99, L100, L102, L104, L107, L110, L119, L144, L240, L255, L256, L360, L999, L1000000, nI_val, n_lt_t, n_lt_f, n_le_t, n_le_f, n_eq_t, n_eq_f, k_le_f, m_lt_t, m_lt_f, m_le_t, m_le_f, m_eq_f, m_eq_f', nI_add, nI_mulE, nI_subE, if_true, if_false, ite_true, ite_false, or_false, false_or, or_true, true_or, or_self, and_true, true_and, and_false, false_and, not_true_eq_false, not_false_eq_true, Option.bind_some, Sum.elim_inl, Sum.elim_inr, xu_set, xset_same, xset_ne, xset_2, xset_set, upd_same, upd_ne, nbI_some, ne_eq, reduceCtorEq, reduceIte, Nat.reduceAdd, Nat.reduceMul, Nat.reduceSub, Nat.add_zero, Nat.zero_add, Nat.mul_zero, Nat.zero_mul, e3, eh, ep, es, ex', e15, c1, c3', hp0, Bool.true_eq_false, smN, hdn, Bool.not_false, Bool.and_true, Bool.false_eq_true]
          · intro j hj
            unfold nft
            by_cases e : j = i
            · simp [e, hdn, c3]
            · simp [e, show (j < i + 1) = (j < i) from propext ⟨fun _ => by omega, fun _ => by omega⟩]
      · have hdn : dnn d pr h i = false := by simp [dnn, c2]
        have hsame : ∀ j, j < d.1 → nft d pr ex h ft (i + 1) j = nft d pr ex h ft i j := by
          intro j hj
          unfold nft
          by_cases e : j = i
          · simp [e, hdn]
          · simp [show (j < i + 1) = (j < i) from propext ⟨fun _ => by omega, fun _ => by omega⟩]
        have c2' : pr i = false := by simpa using c2
        have hp0 := hpr i (by omega)
        rw [c2'] at hp0
        refine ⟨(nI (smN (fun i => if (dnn d pr h i && !ex (d.2.1 i)) = true then sh i else 0) (i + 1)), nI (i + 1), s'), ?_, rfl, rfl, hK, fun j hj => by rw [hsame j hj]; exact hr j hj⟩
        simp (disch := omega) only [↓Lm1, L0, L1, L2, L3, L4, L5, L6, L7, L8, L9, L10, L11, L12, L13, L14, L15, L16, L17, L18, L19, L20, L27, L30, L31, L35, L36, L37, L38, L39, L40, L41, L46, L48, L51, L57, L59, L60, L82, L98, L99, L100, L102, L104, L107, L110, L119, L144, L240, L255, L256, L360, L999, L1000000, nI_val, n_lt_t, n_lt_f, n_le_t, n_le_f, n_eq_t, n_eq_f, k_le_f, m_lt_t, m_lt_f, m_le_t, m_le_f, m_eq_f, m_eq_f', nI_add, nI_mulE, nI_subE, if_true, if_false, ite_true, ite_false, or_false, false_or, or_true, true_or, or_self, and_true, true_and, and_false, false_and, not_true_eq_false, not_false_eq_true, Option.bind_some, Sum.elim_inl, Sum.elim_inr, xu_set, xset_same, xset_ne, xset_2, xset_set, upd_same, upd_ne, nbI_some, ne_eq, reduceCtorEq, reduceIte, Nat.reduceAdd, Nat.reduceMul, Nat.reduceSub, Nat.add_zero, Nat.zero_add, Nat.mul_zero, Nat.zero_mul, e3, eh, ep, es, e15, c1, hp0, smN, hdn, Bool.false_and, Bool.false_eq_true]
    · have hdn : dnn d pr h i = false := by simp [dnn, c1]
      have hsame : ∀ j, j < d.1 → nft d pr ex h ft (i + 1) j = nft d pr ex h ft i j := by
        intro j hj
        unfold nft
        by_cases e : j = i
        · simp [e, hdn]
        · simp [show (j < i + 1) = (j < i) from propext ⟨fun _ => by omega, fun _ => by omega⟩]
      refine ⟨(nI (smN (fun i => if (dnn d pr h i && !ex (d.2.1 i)) = true then sh i else 0) (i + 1)), nI (i + 1), s'), ?_, rfl, rfl, hK, fun j hj => by rw [hsame j hj]; exact hr j hj⟩
      simp (disch := omega) only [↓Lm1, L0, L1, L2, L3, L4, L5, L6, L7, L8, L9, L10, L11, L12, L13, L14, L15, L16, L17, L18, L19, L20, L27, L30, L31, L35, L36, L37, L38, L39, L40, L41, L46, L48, L51, L57, L59, L60, L82, L98, L99, L100, L102, L104, L107, L110, L119, L144, L240, L255, L256, L360, L999, L1000000, nI_val, n_lt_t, n_lt_f, n_le_t, n_le_f, n_eq_t, n_eq_f, k_le_f, m_lt_t, m_lt_f, m_le_t, m_le_f, m_eq_f, m_eq_f', nI_add, nI_mulE, nI_subE, if_true, if_false, ite_true, ite_false, or_false, false_or, or_true, true_or, or_self, and_true, true_and, and_false, false_and, not_true_eq_false, not_false_eq_true, Option.bind_some, Sum.elim_inl, Sum.elim_inr, xu_set, xset_same, xset_ne, xset_2, xset_set, upd_same, upd_ne, nbI_some, ne_eq, reduceCtorEq, reduceIte, Nat.reduceAdd, Nat.reduceMul, Nat.reduceSub, Nat.add_zero, Nat.zero_add, Nat.mul_zero, Nat.zero_mul, e3, eh, c1, smN, hdn, Bool.false_and, Bool.false_eq_true]
  · intro a ⟨ha1, ha2, hK, hr⟩
    obtain ⟨a1, a2, s'⟩ := a
    dsimp only at ha1 ha2 hK hr
    subst ha1; subst ha2
    have e3 : s'.1 0 5 = nI d.1 := by rw [hK.2 5 (by decide)]; exact hD.1
    refine ⟨(nI (smN (fun i => if (dnn d pr h i && !ex (d.2.1 i)) = true then sh i else 0) d.1), s'), ?_, rfl, hK, hr⟩
    unfold F_X9_noiseIn_L4
    simp (disch := omega) only [↓Lm1, L0, L1, L2, L3, L4, L5, L6, L7, L8, L9, L10, L11, L12, L13, L14, L15, L16, L17, L18, L19, L20, L27, L30, L31, L35, L36, L37, L38, L39, L40, L41, L46, L48, L51, L57, L59, L60, L82, L98, L99, L100, L102, L104, L107, L110, L119, L144, L240, L255, L256, L360, L999, L1000000, nI_val, n_lt_t, n_lt_f, n_le_t, n_le_f, n_eq_t, n_eq_f, k_le_f, m_lt_t, m_lt_f, m_le_t, m_le_f, m_eq_f, m_eq_f', nI_add, nI_mulE, nI_subE, if_true, if_false, ite_true, ite_false, or_false, false_or, or_true, true_or, or_self, and_true, true_and, and_false, false_and, not_true_eq_false, not_false_eq_true, Option.bind_some, Sum.elim_inl, Sum.elim_inr, xu_set, xset_same, xset_ne, xset_2, xset_set, upd_same, upd_ne, nbI_some, ne_eq, reduceCtorEq, reduceIte, Nat.reduceAdd, Nat.reduceMul, Nat.reduceSub, Nat.add_zero, Nat.zero_add, Nat.mul_zero, Nat.zero_mul, e3]
  · intro i hi
    unfold nft
    rw [if_neg (fun q => absurd q.1 (Nat.not_lt_zero i))]
    exact hf i hi
  · rintro b ⟨hx, h1, hK, h4⟩
    obtain ⟨b1, s'⟩ := b
    dsimp only at h1 hK h4
    subst h1
    refine ⟨s', ?_, hK, h4⟩
    unfold F_X9_noiseIn
    rw [hx]
    dsimp only [Option.bind_some]
    have el : s'.1 0 11 = nI l.2.2.1 := by rw [hK.2 11 (by decide)]; exact hL.2.2.1
    have hl6 := hl.2.2.1
    rw [xlp_at (f := F_X9_noiseIn_L88 (nI h) s') (a := (nI (smN (fun i => if (dnn d pr h i && !ex (d.2.1 i)) = true then sh i else 0) d.1), 0)) (fun i => (nI (smN (fun i => if (dnn d pr h i && !ex (d.2.1 i)) = true then sh i else 0) d.1 + smN (fun k => if l.2.2.2.1 k = h then l.2.2.2.2 k else 0) i), nI i)) (b := nI (nloud d sh pr (tsm l) ex h)) l.2.2.1 (by omega) rfl]
    · rfl
    · intro i hi
      obtain ⟨a, b, c⟩ := hl.2.2.2 i hi
      have e1 : s'.1 7 i = nI (l.2.2.2.1 i) := by rw [hK.1 7 (by decide) (by decide)]; exact (hL.2.2.2 i hi).1
      have e2 : s'.1 8 i = nI (l.2.2.2.2 i) := by rw [hK.1 8 (by decide) (by decide)]; exact (hL.2.2.2 i hi).2
      unfold F_X9_noiseIn_L88
      by_cases q : l.2.2.2.1 i = h
      · simp (disch := omega) only [↓Lm1, L0, L1, L2, L3, L4, L5, L6, L7, L8, L9, L10, L11, L12, L13, L14, L15, L16, L17, L18, L19, L20, L27, L30, L31, L35, L36, L37, L38, L39, L40, L41, L46, L48, L51, L57, L59, L60, L82, L98, L99, L100, L102, L104, L107, L110, L119, L144, L240, L255, L256, L360, L999, L1000000, nI_val, n_lt_t, n_lt_f, n_le_t, n_le_f, n_eq_t, n_eq_f, k_le_f, m_lt_t, m_lt_f, m_le_t, m_le_f, m_eq_f, m_eq_f', nI_add, nI_mulE, nI_subE, if_true, if_false, ite_true, ite_false, or_false, false_or, or_true, true_or, or_self, and_true, true_and, and_false, false_and, not_true_eq_false, not_false_eq_true, Option.bind_some, Sum.elim_inl, Sum.elim_inr, xu_set, xset_same, xset_ne, xset_2, xset_set, upd_same, upd_ne, nbI_some, ne_eq, reduceCtorEq, reduceIte, Nat.reduceAdd, Nat.reduceMul, Nat.reduceSub, Nat.add_zero, Nat.zero_add, Nat.mul_zero, Nat.zero_mul, el, e1, e2, q, smN, Nat.add_assoc]
      · simp (disch := omega) only [↓Lm1, L0, L1, L2, L3, L4, L5, L6, L7, L8, L9, L10, L11, L12, L13, L14, L15, L16, L17, L18, L19, L20, L27, L30, L31, L35, L36, L37, L38, L39, L40, L41, L46, L48, L51, L57, L59, L60, L82, L98, L99, L100, L102, L104, L107, L110, L119, L144, L240, L255, L256, L360, L999, L1000000, nI_val, n_lt_t, n_lt_f, n_le_t, n_le_f, n_eq_t, n_eq_f, k_le_f, m_lt_t, m_lt_f, m_le_t, m_le_f, m_eq_f, m_eq_f', nI_add, nI_mulE, nI_subE, if_true, if_false, ite_true, ite_false, or_false, false_or, or_true, true_or, or_self, and_true, true_and, and_false, false_and, not_true_eq_false, not_false_eq_true, Option.bind_some, Sum.elim_inl, Sum.elim_inr, xu_set, xset_same, xset_ne, xset_2, xset_set, upd_same, upd_ne, nbI_some, ne_eq, reduceCtorEq, reduceIte, Nat.reduceAdd, Nat.reduceMul, Nat.reduceSub, Nat.add_zero, Nat.zero_add, Nat.mul_zero, Nat.zero_mul, el, e1, e2, q, smN]
    · unfold F_X9_noiseIn_L88
      simp (disch := omega) only [↓Lm1, L0, L1, L2, L3, L4, L5, L6, L7, L8, L9, L10, L11, L12, L13, L14, L15, L16, L17, L18, L19, L20, L27, L30, L31, L35, L36, L37, L38, L39, L40, L41, L46, L48, L51, L57, L59, L60, L82, L98, L99, L100, L102, L104, L107, L110, L119, L144, L240, L255, L256, L360, L999, L1000000, nI_val, n_lt_t, n_lt_f, n_le_t, n_le_f, n_eq_t, n_eq_f, k_le_f, m_lt_t, m_lt_f, m_le_t, m_le_f, m_eq_f, m_eq_f', nI_add, nI_mulE, nI_subE, if_true, if_false, ite_true, ite_false, or_false, false_or, or_true, true_or, or_self, and_true, true_and, and_false, false_and, not_true_eq_false, not_false_eq_true, Option.bind_some, Sum.elim_inl, Sum.elim_inr, xu_set, xset_same, xset_ne, xset_2, xset_set, upd_same, upd_ne, nbI_some, ne_eq, reduceCtorEq, reduceIte, Nat.reduceAdd, Nat.reduceMul, Nat.reduceSub, Nat.add_zero, Nat.zero_add, Nat.mul_zero, Nat.zero_mul, el]
      rfl
theorem exM {d : DD} {sh : Nat → Nat} {pr ex : Nat → Bool} {ft : Nat → Nat} {h ch : Nat} {s : xS} (hd : DdOk d) (hD : DdM d s) (hpr : PrM pr (s.1 0 15)) (hh : h < 10) (hex : ∀ p, p < 40 → s.1 14 p = nI (if ex p = true then 1 else 0)) (hs : ∀ i, i < d.1 → sh i ≤ 14 ∧ s.1 10 i = nI (sh i)) (hf : ∀ i, i < d.1 → s.1 11 i = nI (nft d pr ex h ft d.1 i)) (hft : ∀ i, i < d.1 → ft i ≤ 2) (hch : ch ≤ 20) (h10 : s.1 0 10 = nI ch) (h20 : s.1 0 20 = nbI none) (l1 : Int32) :
    ∃ s', xlp (F_X9_sleepsOn_L164 l1 (nI h)) 100000 (nI 0, s) = some s' ∧ KR [14] [] s s' ∧ ∀ p, p < 40 → s'.1 14 p = nI (if nexA d sh pr ch ex h d.1 p = true then 1 else 0) := by
  have hn := hd.1
  refine Exists.elim (xlp_cnt (f := F_X9_sleepsOn_L164 l1 (nI h)) (fun k a => a.1 = nI k ∧ KR [14] [] s a.2 ∧ ∀ p, p < 40 → a.2.1 14 p = nI (if nexA d sh pr ch ex h k p = true then 1 else 0)) (fun b => KR [14] [] s b ∧ ∀ p, p < 40 → b.1 14 p = nI (if nexA d sh pr ch ex h d.1 p = true then 1 else 0)) d.1 (by omega) ?_ ?_ (a := (nI 0, s)) ⟨rfl, KR.refl _ _ _, hex⟩) ?_
  · intro i a hi ⟨ha1, hK, hx⟩
    obtain ⟨a1, s'⟩ := a
    dsimp only at ha1 hK hx
    subst ha1
    obtain ⟨r1, r2, r3⟩ := hD.2 i hi
    obtain ⟨o1, o2, o3⟩ := hd.2 i hi
    obtain ⟨s14, es⟩ := hs i hi
    have ef := hf i hi
    have hfl := hft i hi
    have e3 : s'.1 0 5 = nI d.1 := by rw [hK.2 5 (by decide)]; exact hD.1
    have eh : s'.1 6 i = nI (d.2.2.2 i) := by rw [hK.1 6 (by decide) (by decide)]; exact r3
    have ep : s'.1 4 i = nI (d.2.1 i) := by rw [hK.1 4 (by decide) (by decide)]; exact r1
    have es : s'.1 10 i = nI (sh i) := by rw [hK.1 10 (by decide) (by decide)]; exact es
    have ef : s'.1 11 i = nI (nft d pr ex h ft d.1 i) := by rw [hK.1 11 (by decide) (by decide)]; exact ef
    have e15 : s'.1 0 15 = s.1 0 15 := hK.2 15 (by decide)
    have e20 : s'.1 0 20 = nbI none := by rw [hK.2 20 (by decide)]; exact h20
    have e10 : s'.1 0 10 = nI ch := by rw [hK.2 10 (by decide)]; exact h10
    have exi := hx (d.2.1 i) o1
    left
    -- one write of the bool
    have hJ : ∀ is : Bool, is = (dnn d pr h i && !ex (d.2.1 i) && decide (ch < sh i)) → ∃ s2, F_X9_sleepsOn_L164_J228 l1 (nI h) (nI i) (nI (if is = true then 1 else 0)) s' = some (.inl (nI (i + 1), s2)) ∧ KR [14] [] s s2 ∧ ∀ p, p < 40 → s2.1 14 p = nI (if nexA d sh pr ch ex h (i + 1) p = true then 1 else 0) := by
      intro is his
      refine ⟨xset s' 14 (upd (s'.1 14) (d.2.1 i) (nI (if (nexA d sh pr ch ex h i (d.2.1 i) || is) = true then 1 else 0))), ?_, hK.set _ (by decide) (by decide), ?_⟩
      · unfold F_X9_sleepsOn_L164_J228
        cases q : nexA d sh pr ch ex h i (d.2.1 i) with
        | true =>
          rw [q] at exi
          simp (disch := omega) only [↓Lm1, L0, L1, L2, L3, L4, L5, L6, L7, L8, L9, L10, L11, L12, L13, L14, L15, L16, L17, L18, L19, L20, L27, L30, L31, L35, L36, L37, L38, L39, L40, L41, L46, L48, L51, L57, L59, L60, L82, L98, L99, L100, L102, L104, L107, L110, L119, L144, L240, L255, L256, L360, L999, L1000000, nI_val, n_lt_t, n_lt_f, n_le_t, n_le_f, n_eq_t, n_eq_f, k_le_f, m_lt_t, m_lt_f, m_le_t, m_le_f, m_eq_f, m_eq_f', nI_add, nI_mulE, nI_subE, if_true, if_false, ite_true, ite_false, or_false, false_or, or_true, true_or, or_self, and_true, true_and, and_false, false_and, not_true_eq_false, not_false_eq_true, Option.bind_some, Sum.elim_inl, Sum.elim_inr, xu_set, xset_same, xset_ne, xset_2, xset_set, upd_same, upd_ne, nbI_some, ne_eq, reduceCtorEq, reduceIte, Nat.reduceAdd, Nat.reduceMul, Nat.reduceSub, Nat.add_zero, Nat.zero_add, Nat.mul_zero, Nat.zero_mul, ep, exi, nar0, nar1, Bool.true_or]
        | false =>
          rw [q] at exi
          cases is with
          | true => simp (disch := omega) only [↓Lm1, L0, L1, L2, L3, L4, L5, L6, L7, L8, L9, L10, L11, L12, L13, L14, L15, L16, L17, L18, L19, L20, L27, L30, L31, L35, L36, L37, L38, L39, L40, L41, L46, L48, L51, L57, L59, L60, L82, L98, L99, L100, L102, L104, L107, L110, L119, L144, L240, L255, L256, L360, L999, L1000000, nI_val, n_lt_t, n_lt_f, n_le_t, n_le_f, n_eq_t, n_eq_f, k_le_f, m_lt_t, m_lt_f, m_le_t, m_le_f, m_eq_f, m_eq_f', nI_add, nI_mulE, nI_subE, if_true, if_false, ite_true, ite_false, or_false, false_or, or_true, true_or, or_self, and_true, true_and, and_false, false_and, not_true_eq_false, not_false_eq_true, Option.bind_some, Sum.elim_inl, Sum.elim_inr, xu_set, xset_same, xset_ne, xset_2, xset_set, upd_same, upd_ne, nbI_some, ne_eq, reduceCtorEq, reduceIte, Nat.reduceAdd, Nat.reduceMul, Nat.reduceSub, Nat.add_zero, Nat.zero_add, Nat.mul_zero, Nat.zero_mul, ep, exi, nar0, nar1, Bool.or_true, Bool.false_eq_true]
          | false => simp (disch := omega) only [↓Lm1, L0, L1, L2, L3, L4, L5, L6, L7, L8, L9, L10, L11, L12, L13, L14, L15, L16, L17, L18, L19, L20, L27, L30, L31, L35, L36, L37, L38, L39, L40, L41, L46, L48, L51, L57, L59, L60, L82, L98, L99, L100, L102, L104, L107, L110, L119, L144, L240, L255, L256, L360, L999, L1000000, nI_val, n_lt_t, n_lt_f, n_le_t, n_le_f, n_eq_t, n_eq_f, k_le_f, m_lt_t, m_lt_f, m_le_t, m_le_f, m_eq_f, m_eq_f', nI_add, nI_mulE, nI_subE, if_true, if_false, ite_true, ite_false, or_false, false_or, or_true, true_or, or_self, and_true, true_and, and_false, false_and, not_true_eq_false, not_false_eq_true, Option.bind_some, Sum.elim_inl, Sum.elim_inr, xu_set, xset_same, xset_ne, xset_2, xset_set, upd_same, upd_ne, nbI_some, ne_eq, reduceCtorEq, reduceIte, Nat.reduceAdd, Nat.reduceMul, Nat.reduceSub, Nat.add_zero, Nat.zero_add, Nat.mul_zero, Nat.zero_mul, ep, exi, nar0, nar1, Bool.or_false, Bool.false_eq_true]
      · intro p hp
        rw [nexA_s, ← his]
        by_cases e : d.2.1 i = p
        · subst e
          simp (disch := omega) only [↓Lm1, L0, L1, L2, L3, L4, L5, L6, L7, L8, L9, L10, L11, L12, L13, L14, L15, L16, L17, L18, L19, L20, L27, L30, L31, L35, L36, L37, L38, L39, L40, L41, L46, L48, L51, L57, L59, L60, L82, L98, L99, L100, L102, L104, L107, L110, L119, L144, L240, L255, L256, L360, L999, L1000000, nI_val, n_lt_t, n_lt_f, n_le_t, n_le_f, n_eq_t, n_eq_f, k_le_f, m_lt_t, m_lt_f, m_le_t, m_le_f, m_eq_f, m_eq_f', nI_add, nI_mulE, nI_subE, if_true, if_false, ite_true, ite_false, or_false, false_or, or_true, true_or, or_self, and_true, true_and, and_false, false_and, not_true_eq_false, not_false_eq_true, Option.bind_some, Sum.elim_inl, Sum.elim_inr, xu_set, xset_same, xset_ne, xset_2, xset_set, upd_same, upd_ne, nbI_some, ne_eq, reduceCtorEq, reduceIte, Nat.reduceAdd, Nat.reduceMul, Nat.reduceSub, Nat.add_zero, Nat.zero_add, Nat.mul_zero, Nat.zero_mul, decide_true, Bool.and_true]
        · have e' : ¬ p = d.2.1 i := fun z => e z.symm
          simp (disch := omega) only [↓Lm1, L0, L1, L2, L3, L4, L5, L6, L7, L8, L9, L10, L11, L12, L13, L14, L15, L16, L17, L18, L19, L20, L27, L30, L31, L35, L36, L37, L38, L39, L40, L41, L46, L48, L51, L57, L59, L60, L82, L98, L99, L100, L102, L104, L107, L110, L119, L144, L240, L255, L256, L360, L999, L1000000, nI_val, n_lt_t, n_lt_f, n_le_t, n_le_f, n_eq_t, n_eq_f, k_le_f, m_lt_t, m_lt_f, m_le_t, m_le_f, m_eq_f, m_eq_f', nI_add, nI_mulE, nI_subE, if_true, if_false, ite_true, ite_false, or_false, false_or, or_true, true_or, or_self, and_true, true_and, and_false, false_and, not_true_eq_false, not_false_eq_true, Option.bind_some, Sum.elim_inl, Sum.elim_inr, xu_set, xset_same, xset_ne, xset_2, xset_set, upd_same, upd_ne, nbI_some, ne_eq, reduceCtorEq, reduceIte, Nat.reduceAdd, Nat.reduceMul, Nat.reduceSub, Nat.add_zero, Nat.zero_add, Nat.mul_zero, Nat.zero_mul, e, decide_false, Bool.and_false, Bool.or_false]
          exact hx p hp
    have hft2 : nft d pr ex h ft d.1 i = if dnn d pr h i = true then (if ex (d.2.1 i) = true then 1 else 0) else ft i := by
      unfold nft
      simp [hi]
    rw [hft2] at ef
    have hp0 := hpr i (by omega)
    have fin : ∀ is : Bool, is = (dnn d pr h i && !ex (d.2.1 i) && decide (ch < sh i)) → F_X9_sleepsOn_L164 l1 (nI h) (nI i, s') = F_X9_sleepsOn_L164_J228 l1 (nI h) (nI i) (nI (if is = true then 1 else 0)) s' → ∃ a', F_X9_sleepsOn_L164 l1 (nI h) (nI i, s') = some (.inl a') ∧ a'.1 = nI (i + 1) ∧ KR [14] [] s a'.2 ∧ ∀ p, p < 40 → a'.2.1 14 p = nI (if nexA d sh pr ch ex h (i + 1) p = true then 1 else 0) := by
      intro is his e
      obtain ⟨s2, h1, h2, h3⟩ := hJ is his
      exact ⟨(nI (i + 1), s2), e.trans h1, rfl, h2, h3⟩
    by_cases c1 : d.2.2.2 i = h
    · by_cases c2 : pr i = true
      · have hdn : dnn d pr h i = true := by simp [dnn, c1, c2]
        rw [if_pos hdn] at ef
        rw [c2] at hp0
        by_cases c3 : ex (d.2.1 i) = true
        · rw [if_pos c3] at ef
          refine fin false (by simp [c3]) ?_
          unfold F_X9_sleepsOn_L164 F_X9_isIn F_X9_sleepsOn_L164_J227
          simp (disch := omega) only [↓Lm1, L0, L1, L2, L3, L4, L5, L6, L7, L8, L9, L10, L11, L12, L13, L14, L15, L16, L17, L18, L19, L20, L27, L30, L31, L35, L36, L37, L38, L39, L40, L41, L46, L48, L51, L57, L59, L60, L82, L98, L99, L100, L102, L104, L107, L110, L119, L144, L240, L255, L256, L360, L999, L1000000, nI_val, n_lt_t, n_lt_f, n_le_t, n_le_f, n_eq_t, n_eq_f, k_le_f, m_lt_t, m_lt_f, m_le_t, m_le_f, m_eq_f, m_eq_f', nI_add, nI_mulE, nI_subE, if_true, if_false, ite_true, ite_false, or_false, false_or, or_true, true_or, or_self, and_true, true_and, and_false, false_and, not_true_eq_false, not_false_eq_true, Option.bind_some, Sum.elim_inl, Sum.elim_inr, xu_set, xset_same, xset_ne, xset_2, xset_set, upd_same, upd_ne, nbI_some, ne_eq, reduceCtorEq, reduceIte, Nat.reduceAdd, Nat.reduceMul, Nat.reduceSub, Nat.add_zero, Nat.zero_add, Nat.mul_zero, Nat.zero_mul, e3, e20, eh, e15, c1, hp0, ef, Bool.true_eq_false, Bool.false_eq_true]
        · rw [if_neg c3] at ef
          have c3' : ex (d.2.1 i) = false := by simpa using c3
          by_cases c4 : ch < sh i
          · refine fin true (by simp [hdn, c3', c4]) ?_
            unfold F_X9_sleepsOn_L164 F_X9_isIn F_X9_sleepsOn_L164_J227
            simp (disch := omega) only [↓Lm1, L0, L1, L2, L3, L4, L5, L6, L7, L8, L9, L10, L11, L12, L13, L14, L15, L16, L17, L18, L19, L20, L27, L30, L31, L35, L36, L37, L38, L39, L40, L41, L46, L48, L51, L57, L59, L60, L82, L98, L99, L100, L102, L104, L107, L110, L119, L144, L240, L255, L256, L360, L999, L1000000, nI_val, n_lt_t, n_lt_f, n_le_t, n_le_f, n_eq_t, n_eq_f, k_le_f, m_lt_t, m_lt_f, m_le_t, m_le_f, m_eq_f, m_eq_f', nI_add, nI_mulE, nI_subE, if_true, if_false, ite_true, ite_false, or_false, false_or, or_true, true_or, or_self, and_true, true_and, and_false, false_and, not_true_eq_false, not_false_eq_true, Option.bind_some, Sum.elim_inl, Sum.elim_inr, xu_set, xset_same, xset_ne, xset_2, xset_set, upd_same, upd_ne, nbI_some, ne_eq, reduceCtorEq, reduceIte, Nat.reduceAdd, Nat.reduceMul, Nat.reduceSub, Nat.add_zero, Nat.zero_add, Nat.mul_zero, Nat.zero_mul, e3, e20, eh, e15, c1, hp0, ef, es, e10, Bool.true_eq_false, Bool.false_eq_true]
          · refine fin false (by simp [c4]) ?_
            unfold F_X9_sleepsOn_L164 F_X9_isIn F_X9_sleepsOn_L164_J227
            simp (disch := omega) only [↓Lm1, L0, L1, L2, L3, L4, L5, L6, L7, L8, L9, L10, L11, L12, L13, L14, L15, L16, L17, L18, L19, L20, L27, L30, L31, L35, L36, L37, L38, L39, L40, L41, L46, L48, L51, L57, L59, L60, L82, L98, L99, L100, L102, L104, L107, L110, L119, L144, L240, L255, L256, L360, L999, L1000000, nI_val, n_lt_t, n_lt_f, n_le_t, n_le_f, n_eq_t, n_eq_f, k_le_f, m_lt_t, m_lt_f, m_le_t, m_le_f, m_eq_f, m_eq_f', nI_add, nI_mulE, nI_subE, if_true, if_false, ite_true, ite_false, or_false, false_or, or_true, true_or, or_self, and_true, true_and, and_false, false_and, not_true_eq_false, not_false_eq_true, Option.bind_some, Sum.elim_inl, Sum.elim_inr, xu_set, xset_same, xset_ne, xset_2, xset_set, upd_same, upd_ne, nbI_some, ne_eq, reduceCtorEq, reduceIte, Nat.reduceAdd, Nat.reduceMul, Nat.reduceSub, Nat.add_zero, Nat.zero_add, Nat.mul_zero, Nat.zero_mul, e3, e20, eh, e15, c1, hp0, ef, es, e10, Bool.true_eq_false, Bool.false_eq_true]
      · have hdn : dnn d pr h i = false := by simp [dnn, c2]
        have c2' : pr i = false := by simpa using c2
        rw [c2'] at hp0
        refine fin false (by simp [hdn]) ?_
        unfold F_X9_sleepsOn_L164 F_X9_isIn F_X9_sleepsOn_L164_J227
        simp (disch := omega) only [↓Lm1, L0, L1, L2, L3, L4, L5, L6, L7, L8, L9, L10, L11, L12, L13, L14, L15, L16, L17, L18, L19, L20, L27, L30, L31, L35, L36, L37, L38, L39, L40, L41, L46, L48, L51, L57, L59, L60, L82, L98, L99, L100, L102, L104, L107, L110, L119, L144, L240, L255, L256, L360, L999, L1000000, nI_val, n_lt_t, n_lt_f, n_le_t, n_le_f, n_eq_t, n_eq_f, k_le_f, m_lt_t, m_lt_f, m_le_t, m_le_f, m_eq_f, m_eq_f', nI_add, nI_mulE, nI_subE, if_true, if_false, ite_true, ite_false, or_false, false_or, or_true, true_or, or_self, and_true, true_and, and_false, false_and, not_true_eq_false, not_false_eq_true, Option.bind_some, Sum.elim_inl, Sum.elim_inr, xu_set, xset_same, xset_ne, xset_2, xset_set, upd_same, upd_ne, nbI_some, ne_eq, reduceCtorEq, reduceIte, Nat.reduceAdd, Nat.reduceMul, Nat.reduceSub, Nat.add_zero, Nat.zero_add, Nat.mul_zero, Nat.zero_mul, e3, e20, eh, e15, c1, hp0, Bool.true_eq_false, Bool.false_eq_true]
    · have hdn : dnn d pr h i = false := by simp [dnn, c1]
      refine fin false (by simp [hdn]) ?_
      unfold F_X9_sleepsOn_L164 F_X9_isIn F_X9_sleepsOn_L164_J227
      simp (disch := omega) only [↓Lm1, L0, L1, L2, L3, L4, L5, L6, L7, L8, L9, L10, L11, L12, L13, L14, L15, L16, L17, L18, L19, L20, L27, L30, L31, L35, L36, L37, L38, L39, L40, L41, L46, L48, L51, L57, L59, L60, L82, L98, L99, L100, L102, L104, L107, L110, L119, L144, L240, L255, L256, L360, L999, L1000000, nI_val, n_lt_t, n_lt_f, n_le_t, n_le_f, n_eq_t, n_eq_f, k_le_f, m_lt_t, m_lt_f, m_le_t, m_le_f, m_eq_f, m_eq_f', nI_add, nI_mulE, nI_subE, if_true, if_false, ite_true, ite_false, or_false, false_or, or_true, true_or, or_self, and_true, true_and, and_false, false_and, not_true_eq_false, not_false_eq_true, Option.bind_some, Sum.elim_inl, Sum.elim_inr, xu_set, xset_same, xset_ne, xset_2, xset_set, upd_same, upd_ne, nbI_some, ne_eq, reduceCtorEq, reduceIte, Nat.reduceAdd, Nat.reduceMul, Nat.reduceSub, Nat.add_zero, Nat.zero_add, Nat.mul_zero, Nat.zero_mul, e3, e20, eh, e15, c1, Bool.true_eq_false, Bool.false_eq_true]
  · intro a ⟨ha1, hK, hx⟩
    obtain ⟨a1, s'⟩ := a
    dsimp only at ha1 hK hx
    subst ha1
    have e3 : s'.1 0 5 = nI d.1 := by rw [hK.2 5 (by decide)]; exact hD.1
    refine ⟨s', ?_, hK, hx⟩
    unfold F_X9_sleepsOn_L164
    simp (disch := omega) only [↓Lm1, L0, L1, L2, L3, L4, L5, L6, L7, L8, L9, L10, L11, L12, L13, L14, L15, L16, L17, L18, L19, L20, L27, L30, L31, L35, L36, L37, L38, L39, L40, L41, L46, L48, L51, L57, L59, L60, L82, L98, L99, L100, L102, L104, L107, L110, L119, L144, L240, L255, L256, L360, L999, L1000000, nI_val, n_lt_t, n_lt_f, n_le_t, n_le_f, n_eq_t, n_eq_f, k_le_f, m_lt_t, m_lt_f, m_le_t, m_le_f, m_eq_f, m_eq_f', nI_add, nI_mulE, nI_subE, if_true, if_false, ite_true, ite_false, or_false, false_or, or_true, true_or, or_self, and_true, true_and, and_false, false_and, not_true_eq_false, not_false_eq_true, Option.bind_some, Sum.elim_inl, Sum.elim_inr, xu_set, xset_same, xset_ne, xset_2, xset_set, upd_same, upd_ne, nbI_some, ne_eq, reduceCtorEq, reduceIte, Nat.reduceAdd, Nat.reduceMul, Nat.reduceSub, Nat.add_zero, Nat.zero_add, Nat.mul_zero, Nat.zero_mul, e3]
  · rintro b ⟨hx, h1, h2⟩
    exact ⟨b, hx, h1, h2⟩
