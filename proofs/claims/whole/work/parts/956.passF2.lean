/-! ===== Night.pass, all of it ===== -/
def NtF (p0 : Nat) (d : DD) (sh : Nat → Nat) (R : NT) (s : xS) : Prop := s.1 p0 5 = nbI R.1 ∧ (∀ h, h < 10 → s.1 (p0 + 1) h = nbI (R.2.2.2.1 h) ∧ s.1 (p0 + 2) h = nbI (R.2.2.2.2.1 h)) ∧ (∀ i, i < d.1 → s.1 (p0 + 3) i = nI (sh i) ∧ s.1 (p0 + 4) i = nI (R.2.2.2.2.2 i)) ∧ ExB R.2.2.1 (s.2 p0 6)
/-- what is lost to the bed, as FounderSleeps keeps it -/
def LsF (p3 : Nat) (N : Nat) (ls : Nat → Nat) (s : xS) : Prop := ∀ j, j < 36 → s.1 (p3 + 2) j = nI (if j < N then ls j else 1000000) ∧ (j < N → ls j ≤ 1000000)
theorem leftF {p3 N x pl : Nat} {ls : Nat → Nat} {s : xS} (hN : N ≤ 36) (h : LsF p3 N ls s) (hx : x ≤ 100) (hp : pl < 40) : F_X4_left p3 (nI x) (nI pl) s = some (nI (if pl < N then x - ls pl else 0)) := by
  unfold F_X4_left
  by_cases c : pl < N
  · obtain ⟨e, hl⟩ := h pl (by omega)
    have hl := hl c
    rw [if_pos c] at e
    by_cases c2 : x ≤ ls pl
    · simp (disch := omega) only [↓Lm1, L0, L1, L2, L3, L4, L5, L6, L7, L8, L9, L10, L11, L12, L13, L14, L15, L16, L17, L18, L19, L20, L27, L30, L31, L35, L36, L37, L38, L39, L40, L41, L46, L48, L51, L57, L59, L60, L82, L98, L99, L100, L102, L104, L107, L110, L119, L144, L240, L255, L256, L360, L999, L1000000, nI_val, n_lt_t, n_lt_f, n_le_t, n_le_f, n_eq_t, n_eq_f, k_le_f, m_lt_t, m_lt_f, m_le_t, m_le_f, m_eq_f, m_eq_f', nI_add, nI_mulE, nI_subE, if_true, if_false, ite_true, ite_false, or_false, false_or, or_true, true_or, or_self, and_true, true_and, and_false, false_and, not_true_eq_false, not_false_eq_true, Option.bind_some, Sum.elim_inl, Sum.elim_inr, xu_set, xset_same, xset_ne, xset_2, xset_set, upd_same, upd_ne, nbI_some, ne_eq, reduceCtorEq, reduceIte, Nat.reduceAdd, Nat.reduceMul, Nat.reduceSub, Nat.add_zero, Nat.zero_add, Nat.mul_zero, Nat.zero_mul, e, c]
      rw [show x - ls pl = 0 by omega]
    · simp (disch := omega) only [↓Lm1, L0, L1, L2, L3, L4, L5, L6, L7, L8, L9, L10, L11, L12, L13, L14, L15, L16, L17, L18, L19, L20, L27, L30, L31, L35, L36, L37, L38, L39, L40, L41, L46, L48, L51, L57, L59, L60, L82, L98, L99, L100, L102, L104, L107, L110, L119, L144, L240, L255, L256, L360, L999, L1000000, nI_val, n_lt_t, n_lt_f, n_le_t, n_le_f, n_eq_t, n_eq_f, k_le_f, m_lt_t, m_lt_f, m_le_t, m_le_f, m_eq_f, m_eq_f', nI_add, nI_mulE, nI_subE, if_true, if_false, ite_true, ite_false, or_false, false_or, or_true, true_or, or_self, and_true, true_and, and_false, false_and, not_true_eq_false, not_false_eq_true, Option.bind_some, Sum.elim_inl, Sum.elim_inr, xu_set, xset_same, xset_ne, xset_2, xset_set, upd_same, upd_ne, nbI_some, ne_eq, reduceCtorEq, reduceIte, Nat.reduceAdd, Nat.reduceMul, Nat.reduceSub, Nat.add_zero, Nat.zero_add, Nat.mul_zero, Nat.zero_mul, e, c]
  · by_cases c3 : pl < 36
    · obtain ⟨e, hl⟩ := h pl c3
      rw [if_neg c] at e
      simp (disch := omega) only [↓Lm1, L0, L1, L2, L3, L4, L5, L6, L7, L8, L9, L10, L11, L12, L13, L14, L15, L16, L17, L18, L19, L20, L27, L30, L31, L35, L36, L37, L38, L39, L40, L41, L46, L48, L51, L57, L59, L60, L82, L98, L99, L100, L102, L104, L107, L110, L119, L144, L240, L255, L256, L360, L999, L1000000, nI_val, n_lt_t, n_lt_f, n_le_t, n_le_f, n_eq_t, n_eq_f, k_le_f, m_lt_t, m_lt_f, m_le_t, m_le_f, m_eq_f, m_eq_f', nI_add, nI_mulE, nI_subE, if_true, if_false, ite_true, ite_false, or_false, false_or, or_true, true_or, or_self, and_true, true_and, and_false, false_and, not_true_eq_false, not_false_eq_true, Option.bind_some, Sum.elim_inl, Sum.elim_inr, xu_set, xset_same, xset_ne, xset_2, xset_set, upd_same, upd_ne, nbI_some, ne_eq, reduceCtorEq, reduceIte, Nat.reduceAdd, Nat.reduceMul, Nat.reduceSub, Nat.add_zero, Nat.zero_add, Nat.mul_zero, Nat.zero_mul, e, c]
    · simp (disch := omega) only [↓Lm1, L0, L1, L2, L3, L4, L5, L6, L7, L8, L9, L10, L11, L12, L13, L14, L15, L16, L17, L18, L19, L20, L27, L30, L31, L35, L36, L37, L38, L39, L40, L41, L46, L48, L51, L57, L59, L60, L82, L98, L99, L100, L102, L104, L107, L110, L119, L144, L240, L255, L256, L360, L999, L1000000, nI_val, n_lt_t, n_lt_f, n_le_t, n_le_f, n_eq_t, n_eq_f, k_le_f, m_lt_t, m_lt_f, m_le_t, m_le_f, m_eq_f, m_eq_f', nI_add, nI_mulE, nI_subE, if_true, if_false, ite_true, ite_false, or_false, false_or, or_true, true_or, or_self, and_true, true_and, and_false, false_and, not_true_eq_false, not_false_eq_true, Option.bind_some, Sum.elim_inl, Sum.elim_inr, xu_set, xset_same, xset_ne, xset_2, xset_set, upd_same, upd_ne, nbI_some, ne_eq, reduceCtorEq, reduceIte, Nat.reduceAdd, Nat.reduceMul, Nat.reduceSub, Nat.add_zero, Nat.zero_add, Nat.mul_zero, Nat.zero_mul, c]
theorem nst_ft {d : DD} {sh : Nat → Nat} {pr : Nat → Bool} {ch dp : Nat} {th : Nat → Nat} : ∀ k i, (nst d sh pr ch dp th k).2.2.2.2.2 i ≤ 2
  | 0, i => Nat.le_refl 2
  | k + 1, i => by
    have ih := nst_ft (d := d) (sh := sh) (pr := pr) (ch := ch) (dp := dp) (th := th) k i
    show (nstep d sh pr ch th k (nst d sh pr ch dp th k)).2.2.2.2.2 i ≤ 2
    generalize nst d sh pr ch dp th k = s at ih
    unfold nstep
    by_cases c : s.1 = none
    · rw [if_pos c]
      show nft d pr s.2.2.1 k s.2.2.2.2.2 d.1 i ≤ 2
      unfold nft
      split
      · split <;> omega
      · exact ih
    · rw [if_neg c]
      exact ih
theorem xal_n {p0 p1 : Nat} (hp : plc p0 p1) : xal (p0 + 1) = 10 ∧ xal (p0 + 2) = 10 ∧ xal (p0 + 4) = 8 := by
  rcases hp with ⟨rfl, _⟩ | ⟨rfl, _⟩ | ⟨rfl, _⟩ <;> exact ⟨rfl, rfl, rfl⟩
theorem ldk_xra {k : Nat} (h : k ≤ 3) : xra 1001 k = nI (ldk k) := by
  match k, h with
  | 0, _ => rfl
  | 1, _ => rfl
  | 2, _ => rfl
  | 3, _ => rfl
theorem hoursF {p0 p1 p3 : Nat} {d : DD} {sh : Nat → Nat} {pr : Nat → Bool} {l : LD} {l2 : Int32} {s : xS} (hp : plc p0 p1) (hd : DdOk d) (hD : DdF p1 d s) (hl : LwOk l) (hL : LwF l s) (hpr : PrB pr l2) (hsh : ∀ i, i < d.1 → sh i ≤ 14) (h0 : NtF p0 d sh (nst d sh pr l.2.1 l.1 (tsm l) 0) s) :
    ∃ s', xlp (F_X3_pass_L93 p0 p1 p3 l2) 100000 (nI l.1, nI 0, s) = some s' ∧ Kp p0 (p0 + 4) s s' ∧ NtF p0 d sh (nst d sh pr l.2.1 l.1 (tsm l) 10) s' := by
  have hp' := hp
  unfold plc at hp
  have hn := hd.1
  refine Exists.elim (xlp_cnt (f := F_X3_pass_L93 p0 p1 p3 l2) (fun k a => ((nst d sh pr l.2.1 l.1 (tsm l) k).1 = none → a.1 = nI (nst d sh pr l.2.1 l.1 (tsm l) k).2.1) ∧ a.2.1 = nI k ∧ Kp p0 (p0 + 4) s a.2.2 ∧ NtF p0 d sh (nst d sh pr l.2.1 l.1 (tsm l) k) a.2.2) (fun b => Kp p0 (p0 + 4) s b ∧ NtF p0 d sh (nst d sh pr l.2.1 l.1 (tsm l) 10) b) 10 (by omega) ?_ ?_ (a := (nI l.1, nI 0, s)) ⟨fun _ => rfl, rfl, Kp.refl _ _ _, h0⟩) ?_
  · intro k a hk ⟨ha1, ha2, hK, hN⟩
    obtain ⟨a1, a2, s'⟩ := a
    dsimp only at ha1 ha2 hK hN
    subst ha2
    have hok := nst_ok (d := d) (sh := sh) (pr := pr) (ch := l.2.1) (th := tsm l) hl.1 k
    have hfk := nst_ft (d := d) (sh := sh) (pr := pr) (ch := l.2.1) (dp := l.1) (th := tsm l) k
    have haw := nst_awake (d := d) (sh := sh) (pr := pr) (ch := l.2.1) (dp := l.1) (th := tsm l) (k := k)
    have hnx : nst d sh pr l.2.1 l.1 (tsm l) (k + 1) = nstep d sh pr l.2.1 (tsm l) k (nst d sh pr l.2.1 l.1 (tsm l) k) := rfl
    generalize hR : nst d sh pr l.2.1 l.1 (tsm l) k = R at ha1 hN hok hfk haw hnx
    obtain ⟨w, dp, ex, no, de, ft⟩ := R
    obtain ⟨n1, n2, n3, n4⟩ := hN
    dsimp only at ha1 n1 n2 n3 n4 hok hfk haw
    unfold F_X3_pass_L93
    cases w with
    | some w =>
      have hw := hok.2 w rfl
      right
      refine ⟨s', ?_, hK, ?_⟩
      · simp (disch := omega) only [↓Lm1, L0, L1, L2, L3, L4, L5, L6, L7, L8, L9, L10, L11, L12, L13, L14, L15, L16, L17, L18, L19, L20, L27, L30, L31, L35, L36, L37, L38, L39, L40, L41, L46, L48, L51, L57, L59, L60, L82, L98, L99, L100, L102, L104, L107, L110, L119, L144, L240, L255, L256, L360, L999, L1000000, nI_val, n_lt_t, n_lt_f, n_le_t, n_le_f, n_eq_t, n_eq_f, k_le_f, m_lt_t, m_lt_f, m_le_t, m_le_f, m_eq_f, m_eq_f', nI_add, nI_mulE, nI_subE, if_true, if_false, ite_true, ite_false, or_false, false_or, or_true, true_or, or_self, and_true, true_and, and_false, false_and, not_true_eq_false, not_false_eq_true, Option.bind_some, Sum.elim_inl, Sum.elim_inr, xu_set, xset_same, xset_ne, xset_2, xset_set, upd_same, upd_ne, nbI_some, ne_eq, reduceCtorEq, reduceIte, Nat.reduceAdd, Nat.reduceMul, Nat.reduceSub, Nat.add_zero, Nat.zero_add, Nat.mul_zero, Nat.zero_mul, n1]
      · rw [haw (by simp) 10 (by omega)]
        exact ⟨n1, n2, n3, n4⟩
    | none =>
      left
      have ha1 := ha1 rfl
      subst ha1
      have hD' : DdF p1 d s' := by
        refine ⟨by rw [(hK p1 (by omega)).1]; exact hD.1, fun i hi => ?_⟩
        rw [(hK (p1 + 1) (by omega)).1, (hK (p1 + 2) (by omega)).1, (hK (p1 + 3) (by omega)).1]
        exact hD.2 i hi
      obtain ⟨s2, e2, k2, l2', f2⟩ := doF hp' hd hD' hpr hk n4 (fun i hi => (n3 i hi).1) (fun i hi => (n3 i hi).2)
      have hL2 : LwF l s2 := by
        have q : ∀ j, 12 ≤ j → j ≤ 15 → s2.1 j = s.1 j := fun j h1 h2 => ((k2 j (by omega)).1).trans (hK j (by omega)).1
        refine ⟨by rw [q 12 (by omega) (by omega)]; exact hL.1, by rw [q 12 (by omega) (by omega)]; exact hL.2.1, by rw [q 13 (by omega) (by omega)]; exact hL.2.2.1, fun j hj => ?_⟩
        rw [q 14 (by omega) (by omega), q 15 (by omega) (by omega)]
        exact hL.2.2.2 j hj
      have esum := sumF hl hL2 hk
      have hlb := nloud_le (d := d) (sh := sh) (pr := pr) (th := tsm l) (ex := ex) (h := k) hd.1 hsh (tsm_le hl)
      have hLd : smN (fun i => if (dnn d pr k i && !ex (d.2.1 i)) = true then sh i else 0) d.1 + tsm l k = nloud d sh pr (tsm l) ex k := rfl
      generalize hLn : nloud d sh pr (tsm l) ex k = L at hlb hLd
      have m5 : s2.1 p0 5 = nbI none := by rw [(k2 p0 (by omega)).1]; exact n1
      have m1 : ∀ j, j < 10 → s2.1 (p0 + 1) j = nbI (no j) := fun j hj => by rw [(k2 (p0 + 1) (by omega)).1]; exact (n2 j hj).1
      have m2 : ∀ j, j < 10 → s2.1 (p0 + 2) j = nbI (de j) := fun j hj => by rw [(k2 (p0 + 2) (by omega)).1]; exact (n2 j hj).2
      have m3 : ∀ j, j < d.1 → s2.1 (p0 + 3) j = nI (sh j) := fun j hj => by rw [(k2 (p0 + 3) (by omega)).1]; exact (n3 j hj).1
      have kk : Kp p0 (p0 + 4) s s2 := hK.trans (k2.wide (by omega) (by omega))
      simp (disch := omega) only [↓Lm1, L0, L1, L2, L3, L4, L5, L6, L7, L8, L9, L10, L11, L12, L13, L14, L15, L16, L17, L18, L19, L20, L27, L30, L31, L35, L36, L37, L38, L39, L40, L41, L46, L48, L51, L57, L59, L60, L82, L98, L99, L100, L102, L104, L107, L110, L119, L144, L240, L255, L256, L360, L999, L1000000, nI_val, n_lt_t, n_lt_f, n_le_t, n_le_f, n_eq_t, n_eq_f, k_le_f, m_lt_t, m_lt_f, m_le_t, m_le_f, m_eq_f, m_eq_f', nI_add, nI_mulE, nI_subE, if_true, if_false, ite_true, ite_false, or_false, false_or, or_true, true_or, or_self, and_true, true_and, and_false, false_and, not_true_eq_false, not_false_eq_true, Option.bind_some, Sum.elim_inl, Sum.elim_inr, xu_set, xset_same, xset_ne, xset_2, xset_set, upd_same, upd_ne, nbI_some, ne_eq, reduceCtorEq, reduceIte, Nat.reduceAdd, Nat.reduceMul, Nat.reduceSub, Nat.add_zero, Nat.zero_add, Nat.mul_zero, Nat.zero_mul, n1, e2, esum]
      rw [hLd]
      generalize hs3 : xset (xset s2 (p0 + 2) (upd (s2.1 (p0 + 2)) k (nI dp))) (p0 + 1) (upd (s2.1 (p0 + 1)) k (nI L)) = s3
      have k3 : Kp p0 (p0 + 4) s s3 := by
        rw [← hs3]
        exact (kk.set _ (by omega) (by omega)).set _ (by omega) (by omega)
      have t1 : ∀ j, j < 10 → s3.1 (p0 + 1) j = nbI (if j = k then some L else no j) := by
        intro j hj
        rw [← hs3]
        by_cases e : j = k
        · simp (disch := omega) only [↓Lm1, L0, L1, L2, L3, L4, L5, L6, L7, L8, L9, L10, L11, L12, L13, L14, L15, L16, L17, L18, L19, L20, L27, L30, L31, L35, L36, L37, L38, L39, L40, L41, L46, L48, L51, L57, L59, L60, L82, L98, L99, L100, L102, L104, L107, L110, L119, L144, L240, L255, L256, L360, L999, L1000000, nI_val, n_lt_t, n_lt_f, n_le_t, n_le_f, n_eq_t, n_eq_f, k_le_f, m_lt_t, m_lt_f, m_le_t, m_le_f, m_eq_f, m_eq_f', nI_add, nI_mulE, nI_subE, if_true, if_false, ite_true, ite_false, or_false, false_or, or_true, true_or, or_self, and_true, true_and, and_false, false_and, not_true_eq_false, not_false_eq_true, Option.bind_some, Sum.elim_inl, Sum.elim_inr, xu_set, xset_same, xset_ne, xset_2, xset_set, upd_same, upd_ne, nbI_some, ne_eq, reduceCtorEq, reduceIte, Nat.reduceAdd, Nat.reduceMul, Nat.reduceSub, Nat.add_zero, Nat.zero_add, Nat.mul_zero, Nat.zero_mul, e]
        · simp (disch := omega) only [↓Lm1, L0, L1, L2, L3, L4, L5, L6, L7, L8, L9, L10, L11, L12, L13, L14, L15, L16, L17, L18, L19, L20, L27, L30, L31, L35, L36, L37, L38, L39, L40, L41, L46, L48, L51, L57, L59, L60, L82, L98, L99, L100, L102, L104, L107, L110, L119, L144, L240, L255, L256, L360, L999, L1000000, nI_val, n_lt_t, n_lt_f, n_le_t, n_le_f, n_eq_t, n_eq_f, k_le_f, m_lt_t, m_lt_f, m_le_t, m_le_f, m_eq_f, m_eq_f', nI_add, nI_mulE, nI_subE, if_true, if_false, ite_true, ite_false, or_false, false_or, or_true, true_or, or_self, and_true, true_and, and_false, false_and, not_true_eq_false, not_false_eq_true, Option.bind_some, Sum.elim_inl, Sum.elim_inr, xu_set, xset_same, xset_ne, xset_2, xset_set, upd_same, upd_ne, nbI_some, ne_eq, reduceCtorEq, reduceIte, Nat.reduceAdd, Nat.reduceMul, Nat.reduceSub, Nat.add_zero, Nat.zero_add, Nat.mul_zero, Nat.zero_mul, e]
          exact m1 j hj
      have t2 : ∀ j, j < 10 → s3.1 (p0 + 2) j = nbI (if j = k then some dp else de j) := by
        intro j hj
        rw [← hs3]
        by_cases e : j = k
        · simp (disch := omega) only [↓Lm1, L0, L1, L2, L3, L4, L5, L6, L7, L8, L9, L10, L11, L12, L13, L14, L15, L16, L17, L18, L19, L20, L27, L30, L31, L35, L36, L37, L38, L39, L40, L41, L46, L48, L51, L57, L59, L60, L82, L98, L99, L100, L102, L104, L107, L110, L119, L144, L240, L255, L256, L360, L999, L1000000, nI_val, n_lt_t, n_lt_f, n_le_t, n_le_f, n_eq_t, n_eq_f, k_le_f, m_lt_t, m_lt_f, m_le_t, m_le_f, m_eq_f, m_eq_f', nI_add, nI_mulE, nI_subE, if_true, if_false, ite_true, ite_false, or_false, false_or, or_true, true_or, or_self, and_true, true_and, and_false, false_and, not_true_eq_false, not_false_eq_true, Option.bind_some, Sum.elim_inl, Sum.elim_inr, xu_set, xset_same, xset_ne, xset_2, xset_set, upd_same, upd_ne, nbI_some, ne_eq, reduceCtorEq, reduceIte, Nat.reduceAdd, Nat.reduceMul, Nat.reduceSub, Nat.add_zero, Nat.zero_add, Nat.mul_zero, Nat.zero_mul, e]
        · simp (disch := omega) only [↓Lm1, L0, L1, L2, L3, L4, L5, L6, L7, L8, L9, L10, L11, L12, L13, L14, L15, L16, L17, L18, L19, L20, L27, L30, L31, L35, L36, L37, L38, L39, L40, L41, L46, L48, L51, L57, L59, L60, L82, L98, L99, L100, L102, L104, L107, L110, L119, L144, L240, L255, L256, L360, L999, L1000000, nI_val, n_lt_t, n_lt_f, n_le_t, n_le_f, n_eq_t, n_eq_f, k_le_f, m_lt_t, m_lt_f, m_le_t, m_le_f, m_eq_f, m_eq_f', nI_add, nI_mulE, nI_subE, if_true, if_false, ite_true, ite_false, or_false, false_or, or_true, true_or, or_self, and_true, true_and, and_false, false_and, not_true_eq_false, not_false_eq_true, Option.bind_some, Sum.elim_inl, Sum.elim_inr, xu_set, xset_same, xset_ne, xset_2, xset_set, upd_same, upd_ne, nbI_some, ne_eq, reduceCtorEq, reduceIte, Nat.reduceAdd, Nat.reduceMul, Nat.reduceSub, Nat.add_zero, Nat.zero_add, Nat.mul_zero, Nat.zero_mul, e]
          exact m2 j hj
      have t3 : ∀ j, j < d.1 → s3.1 (p0 + 3) j = nI (sh j) ∧ s3.1 (p0 + 4) j = nI (nft d pr ex k ft d.1 j) := by
        intro j hj
        rw [← hs3]
        simp (disch := omega) only [↓Lm1, L0, L1, L2, L3, L4, L5, L6, L7, L8, L9, L10, L11, L12, L13, L14, L15, L16, L17, L18, L19, L20, L27, L30, L31, L35, L36, L37, L38, L39, L40, L41, L46, L48, L51, L57, L59, L60, L82, L98, L99, L100, L102, L104, L107, L110, L119, L144, L240, L255, L256, L360, L999, L1000000, nI_val, n_lt_t, n_lt_f, n_le_t, n_le_f, n_eq_t, n_eq_f, k_le_f, m_lt_t, m_lt_f, m_le_t, m_le_f, m_eq_f, m_eq_f', nI_add, nI_mulE, nI_subE, if_true, if_false, ite_true, ite_false, or_false, false_or, or_true, true_or, or_self, and_true, true_and, and_false, false_and, not_true_eq_false, not_false_eq_true, Option.bind_some, Sum.elim_inl, Sum.elim_inr, xu_set, xset_same, xset_ne, xset_2, xset_set, upd_same, upd_ne, nbI_some, ne_eq, reduceCtorEq, reduceIte, Nat.reduceAdd, Nat.reduceMul, Nat.reduceSub, Nat.add_zero, Nat.zero_add, Nat.mul_zero, Nat.zero_mul, m3 j hj, f2 j hj]
      have t5 : s3.1 p0 5 = nbI none := by rw [← hs3]; simp (disch := omega) only [↓Lm1, L0, L1, L2, L3, L4, L5, L6, L7, L8, L9, L10, L11, L12, L13, L14, L15, L16, L17, L18, L19, L20, L27, L30, L31, L35, L36, L37, L38, L39, L40, L41, L46, L48, L51, L57, L59, L60, L82, L98, L99, L100, L102, L104, L107, L110, L119, L144, L240, L255, L256, L360, L999, L1000000, nI_val, n_lt_t, n_lt_f, n_le_t, n_le_f, n_eq_t, n_eq_f, k_le_f, m_lt_t, m_lt_f, m_le_t, m_le_f, m_eq_f, m_eq_f', nI_add, nI_mulE, nI_subE, if_true, if_false, ite_true, ite_false, or_false, false_or, or_true, true_or, or_self, and_true, true_and, and_false, false_and, not_true_eq_false, not_false_eq_true, Option.bind_some, Sum.elim_inl, Sum.elim_inr, xu_set, xset_same, xset_ne, xset_2, xset_set, upd_same, upd_ne, nbI_some, ne_eq, reduceCtorEq, reduceIte, Nat.reduceAdd, Nat.reduceMul, Nat.reduceSub, Nat.add_zero, Nat.zero_add, Nat.mul_zero, Nat.zero_mul, m5]
      have t0 : s3.1 p0 = s2.1 p0 := by rw [← hs3]; simp (disch := omega) only [↓Lm1, L0, L1, L2, L3, L4, L5, L6, L7, L8, L9, L10, L11, L12, L13, L14, L15, L16, L17, L18, L19, L20, L27, L30, L31, L35, L36, L37, L38, L39, L40, L41, L46, L48, L51, L57, L59, L60, L82, L98, L99, L100, L102, L104, L107, L110, L119, L144, L240, L255, L256, L360, L999, L1000000, nI_val, n_lt_t, n_lt_f, n_le_t, n_le_f, n_eq_t, n_eq_f, k_le_f, m_lt_t, m_lt_f, m_le_t, m_le_f, m_eq_f, m_eq_f', nI_add, nI_mulE, nI_subE, if_true, if_false, ite_true, ite_false, or_false, false_or, or_true, true_or, or_self, and_true, true_and, and_false, false_and, not_true_eq_false, not_false_eq_true, Option.bind_some, Sum.elim_inl, Sum.elim_inr, xu_set, xset_same, xset_ne, xset_2, xset_set, upd_same, upd_ne, nbI_some, ne_eq, reduceCtorEq, reduceIte, Nat.reduceAdd, Nat.reduceMul, Nat.reduceSub, Nat.add_zero, Nat.zero_add, Nat.mul_zero, Nat.zero_mul]
      have tx : s3.2 = s'.2 := by rw [← hs3]; exact l2'
      by_cases c : dp < L
      · have e : (nst d sh pr l.2.1 l.1 (tsm l) (k + 1)) = (some k, (if L = 0 then (if dp ≤ 27 then dp + 3 else 30) else dp - L / 2), ex, (fun j => if j = k then some L else no j), (fun j => if j = k then some dp else de j), nft d pr ex k ft d.1) := by
          rw [hnx]
          unfold nstep
          dsimp only
          rw [if_pos rfl, hLn, if_pos c, if_pos c]
        refine ⟨(nI dp, nI (k + 1), xset s3 p0 (upd (s3.1 p0) 5 (nI k))), ?_, ?_, rfl, k3.set _ (by omega) (by omega), ?_⟩
        · simp (disch := omega) only [↓Lm1, L0, L1, L2, L3, L4, L5, L6, L7, L8, L9, L10, L11, L12, L13, L14, L15, L16, L17, L18, L19, L20, L27, L30, L31, L35, L36, L37, L38, L39, L40, L41, L46, L48, L51, L57, L59, L60, L82, L98, L99, L100, L102, L104, L107, L110, L119, L144, L240, L255, L256, L360, L999, L1000000, nI_val, n_lt_t, n_lt_f, n_le_t, n_le_f, n_eq_t, n_eq_f, k_le_f, m_lt_t, m_lt_f, m_le_t, m_le_f, m_eq_f, m_eq_f', nI_add, nI_mulE, nI_subE, if_true, if_false, ite_true, ite_false, or_false, false_or, or_true, true_or, or_self, and_true, true_and, and_false, false_and, not_true_eq_false, not_false_eq_true, Option.bind_some, Sum.elim_inl, Sum.elim_inr, xu_set, xset_same, xset_ne, xset_2, xset_set, upd_same, upd_ne, nbI_some, ne_eq, reduceCtorEq, reduceIte, Nat.reduceAdd, Nat.reduceMul, Nat.reduceSub, Nat.add_zero, Nat.zero_add, Nat.mul_zero, Nat.zero_mul, t0]
        · rw [e]
          intro q; cases q
        · rw [e]
          refine ⟨?_, fun j hj => ⟨?_, ?_⟩, fun j hj => ?_, ?_⟩
          · simp (disch := omega) only [↓Lm1, L0, L1, L2, L3, L4, L5, L6, L7, L8, L9, L10, L11, L12, L13, L14, L15, L16, L17, L18, L19, L20, L27, L30, L31, L35, L36, L37, L38, L39, L40, L41, L46, L48, L51, L57, L59, L60, L82, L98, L99, L100, L102, L104, L107, L110, L119, L144, L240, L255, L256, L360, L999, L1000000, nI_val, n_lt_t, n_lt_f, n_le_t, n_le_f, n_eq_t, n_eq_f, k_le_f, m_lt_t, m_lt_f, m_le_t, m_le_f, m_eq_f, m_eq_f', nI_add, nI_mulE, nI_subE, if_true, if_false, ite_true, ite_false, or_false, false_or, or_true, true_or, or_self, and_true, true_and, and_false, false_and, not_true_eq_false, not_false_eq_true, Option.bind_some, Sum.elim_inl, Sum.elim_inr, xu_set, xset_same, xset_ne, xset_2, xset_set, upd_same, upd_ne, nbI_some, ne_eq, reduceCtorEq, reduceIte, Nat.reduceAdd, Nat.reduceMul, Nat.reduceSub, Nat.add_zero, Nat.zero_add, Nat.mul_zero, Nat.zero_mul]
          · simp (disch := omega) only [↓Lm1, L0, L1, L2, L3, L4, L5, L6, L7, L8, L9, L10, L11, L12, L13, L14, L15, L16, L17, L18, L19, L20, L27, L30, L31, L35, L36, L37, L38, L39, L40, L41, L46, L48, L51, L57, L59, L60, L82, L98, L99, L100, L102, L104, L107, L110, L119, L144, L240, L255, L256, L360, L999, L1000000, nI_val, n_lt_t, n_lt_f, n_le_t, n_le_f, n_eq_t, n_eq_f, k_le_f, m_lt_t, m_lt_f, m_le_t, m_le_f, m_eq_f, m_eq_f', nI_add, nI_mulE, nI_subE, if_true, if_false, ite_true, ite_false, or_false, false_or, or_true, true_or, or_self, and_true, true_and, and_false, false_and, not_true_eq_false, not_false_eq_true, Option.bind_some, Sum.elim_inl, Sum.elim_inr, xu_set, xset_same, xset_ne, xset_2, xset_set, upd_same, upd_ne, nbI_some, ne_eq, reduceCtorEq, reduceIte, Nat.reduceAdd, Nat.reduceMul, Nat.reduceSub, Nat.add_zero, Nat.zero_add, Nat.mul_zero, Nat.zero_mul]
            exact t1 j hj
          · simp (disch := omega) only [↓Lm1, L0, L1, L2, L3, L4, L5, L6, L7, L8, L9, L10, L11, L12, L13, L14, L15, L16, L17, L18, L19, L20, L27, L30, L31, L35, L36, L37, L38, L39, L40, L41, L46, L48, L51, L57, L59, L60, L82, L98, L99, L100, L102, L104, L107, L110, L119, L144, L240, L255, L256, L360, L999, L1000000, nI_val, n_lt_t, n_lt_f, n_le_t, n_le_f, n_eq_t, n_eq_f, k_le_f, m_lt_t, m_lt_f, m_le_t, m_le_f, m_eq_f, m_eq_f', nI_add, nI_mulE, nI_subE, if_true, if_false, ite_true, ite_false, or_false, false_or, or_true, true_or, or_self, and_true, true_and, and_false, false_and, not_true_eq_false, not_false_eq_true, Option.bind_some, Sum.elim_inl, Sum.elim_inr, xu_set, xset_same, xset_ne, xset_2, xset_set, upd_same, upd_ne, nbI_some, ne_eq, reduceCtorEq, reduceIte, Nat.reduceAdd, Nat.reduceMul, Nat.reduceSub, Nat.add_zero, Nat.zero_add, Nat.mul_zero, Nat.zero_mul]
            exact t2 j hj
          · simp (disch := omega) only [↓Lm1, L0, L1, L2, L3, L4, L5, L6, L7, L8, L9, L10, L11, L12, L13, L14, L15, L16, L17, L18, L19, L20, L27, L30, L31, L35, L36, L37, L38, L39, L40, L41, L46, L48, L51, L57, L59, L60, L82, L98, L99, L100, L102, L104, L107, L110, L119, L144, L240, L255, L256, L360, L999, L1000000, nI_val, n_lt_t, n_lt_f, n_le_t, n_le_f, n_eq_t, n_eq_f, k_le_f, m_lt_t, m_lt_f, m_le_t, m_le_f, m_eq_f, m_eq_f', nI_add, nI_mulE, nI_subE, if_true, if_false, ite_true, ite_false, or_false, false_or, or_true, true_or, or_self, and_true, true_and, and_false, false_and, not_true_eq_false, not_false_eq_true, Option.bind_some, Sum.elim_inl, Sum.elim_inr, xu_set, xset_same, xset_ne, xset_2, xset_set, upd_same, upd_ne, nbI_some, ne_eq, reduceCtorEq, reduceIte, Nat.reduceAdd, Nat.reduceMul, Nat.reduceSub, Nat.add_zero, Nat.zero_add, Nat.mul_zero, Nat.zero_mul]
            exact t3 j hj
          · show ExB ex (s3.2 p0 6)
            rw [tx]
            exact n4
      · have hD3 : DdF p1 d s3 := by
          refine ⟨by rw [(k3 p1 (by omega)).1]; exact hD.1, fun i hi => ?_⟩
          rw [(k3 (p1 + 1) (by omega)).1, (k3 (p1 + 2) (by omega)).1, (k3 (p1 + 3) (by omega)).1]
          exact hD.2 i hi
        obtain ⟨s4, e4, k4, r4, x4⟩ := exF (ch := l.2.1) (h := k) hp' hd hD3 hpr hk (ex := ex) (by rw [tx]; exact n4) (fun i hi => ⟨hsh i hi, (t3 i hi).1⟩) (fun i hi => (t3 i hi).2) (fun i hi => hfk i) hl.2.1 (by rw [(k3 12 (by omega)).1]; exact hL.2.1)
        have e : (nst d sh pr l.2.1 l.1 (tsm l) (k + 1)) = (none, (if L = 0 then (if dp ≤ 27 then dp + 3 else 30) else dp - L / 2), nexA d sh pr l.2.1 ex k d.1, (fun j => if j = k then some L else no j), (fun j => if j = k then some dp else de j), nft d pr ex k ft d.1) := by
          rw [hnx]
          unfold nstep
          dsimp only
          rw [if_pos rfl, hLn, if_neg c, if_neg c]
        refine ⟨(nI (if L = 0 then (if dp ≤ 27 then dp + 3 else 30) else dp - L / 2), nI (k + 1), s4), ?_, ?_, rfl, k3.trans (k4.wide (by omega) (by omega)), ?_⟩
        · by_cases L0 : L = 0
          · by_cases d27 : dp ≤ 27
            · by_cases d26 : dp = 27
              · simp (disch := omega) only [↓Lm1, L0, L1, L2, L3, L4, L5, L6, L7, L8, L9, L10, L11, L12, L13, L14, L15, L16, L17, L18, L19, L20, L27, L30, L31, L35, L36, L37, L38, L39, L40, L41, L46, L48, L51, L57, L59, L60, L82, L98, L99, L100, L102, L104, L107, L110, L119, L144, L240, L255, L256, L360, L999, L1000000, nI_val, n_lt_t, n_lt_f, n_le_t, n_le_f, n_eq_t, n_eq_f, k_le_f, m_lt_t, m_lt_f, m_le_t, m_le_f, m_eq_f, m_eq_f', nI_add, nI_mulE, nI_subE, if_true, if_false, ite_true, ite_false, or_false, false_or, or_true, true_or, or_self, and_true, true_and, and_false, false_and, not_true_eq_false, not_false_eq_true, Option.bind_some, Sum.elim_inl, Sum.elim_inr, xu_set, xset_same, xset_ne, xset_2, xset_set, upd_same, upd_ne, nbI_some, ne_eq, reduceCtorEq, reduceIte, Nat.reduceAdd, Nat.reduceMul, Nat.reduceSub, Nat.add_zero, Nat.zero_add, Nat.mul_zero, Nat.zero_mul, e4, L0, d26]
                rfl
              · simp (disch := omega) only [↓Lm1, L0, L1, L2, L3, L4, L5, L6, L7, L8, L9, L10, L11, L12, L13, L14, L15, L16, L17, L18, L19, L20, L27, L30, L31, L35, L36, L37, L38, L39, L40, L41, L46, L48, L51, L57, L59, L60, L82, L98, L99, L100, L102, L104, L107, L110, L119, L144, L240, L255, L256, L360, L999, L1000000, nI_val, n_lt_t, n_lt_f, n_le_t, n_le_f, n_eq_t, n_eq_f, k_le_f, m_lt_t, m_lt_f, m_le_t, m_le_f, m_eq_f, m_eq_f', nI_add, nI_mulE, nI_subE, if_true, if_false, ite_true, ite_false, or_false, false_or, or_true, true_or, or_self, and_true, true_and, and_false, false_and, not_true_eq_false, not_false_eq_true, Option.bind_some, Sum.elim_inl, Sum.elim_inr, xu_set, xset_same, xset_ne, xset_2, xset_set, upd_same, upd_ne, nbI_some, ne_eq, reduceCtorEq, reduceIte, Nat.reduceAdd, Nat.reduceMul, Nat.reduceSub, Nat.add_zero, Nat.zero_add, Nat.mul_zero, Nat.zero_mul, e4, L0, d27]
            · simp (disch := omega) only [↓Lm1, L0, L1, L2, L3, L4, L5, L6, L7, L8, L9, L10, L11, L12, L13, L14, L15, L16, L17, L18, L19, L20, L27, L30, L31, L35, L36, L37, L38, L39, L40, L41, L46, L48, L51, L57, L59, L60, L82, L98, L99, L100, L102, L104, L107, L110, L119, L144, L240, L255, L256, L360, L999, L1000000, nI_val, n_lt_t, n_lt_f, n_le_t, n_le_f, n_eq_t, n_eq_f, k_le_f, m_lt_t, m_lt_f, m_le_t, m_le_f, m_eq_f, m_eq_f', nI_add, nI_mulE, nI_subE, if_true, if_false, ite_true, ite_false, or_false, false_or, or_true, true_or, or_self, and_true, true_and, and_false, false_and, not_true_eq_false, not_false_eq_true, Option.bind_some, Sum.elim_inl, Sum.elim_inr, xu_set, xset_same, xset_ne, xset_2, xset_set, upd_same, upd_ne, nbI_some, ne_eq, reduceCtorEq, reduceIte, Nat.reduceAdd, Nat.reduceMul, Nat.reduceSub, Nat.add_zero, Nat.zero_add, Nat.mul_zero, Nat.zero_mul, e4, L0, d27]
          · simp (disch := omega) only [↓Lm1, L0, L1, L2, L3, L4, L5, L6, L7, L8, L9, L10, L11, L12, L13, L14, L15, L16, L17, L18, L19, L20, L27, L30, L31, L35, L36, L37, L38, L39, L40, L41, L46, L48, L51, L57, L59, L60, L82, L98, L99, L100, L102, L104, L107, L110, L119, L144, L240, L255, L256, L360, L999, L1000000, nI_val, n_lt_t, n_lt_f, n_le_t, n_le_f, n_eq_t, n_eq_f, k_le_f, m_lt_t, m_lt_f, m_le_t, m_le_f, m_eq_f, m_eq_f', nI_add, nI_mulE, nI_subE, if_true, if_false, ite_true, ite_false, or_false, false_or, or_true, true_or, or_self, and_true, true_and, and_false, false_and, not_true_eq_false, not_false_eq_true, Option.bind_some, Sum.elim_inl, Sum.elim_inr, xu_set, xset_same, xset_ne, xset_2, xset_set, upd_same, upd_ne, nbI_some, ne_eq, reduceCtorEq, reduceIte, Nat.reduceAdd, Nat.reduceMul, Nat.reduceSub, Nat.add_zero, Nat.zero_add, Nat.mul_zero, Nat.zero_mul, e4, L0, n_div]
        · rw [e]
          exact fun _ => rfl
        · rw [e]
          refine ⟨?_, fun j hj => ⟨?_, ?_⟩, fun j hj => ?_, x4⟩
          · rw [r4]; exact t5
          · rw [r4]; exact t1 j hj
          · rw [r4]; exact t2 j hj
          · rw [r4]; exact t3 j hj
  · intro a ⟨ha1, ha2, hK, hN⟩
    obtain ⟨a1, a2, s'⟩ := a
    dsimp only at ha2 hK hN
    subst ha2
    refine ⟨s', ?_, hK, hN⟩
    unfold F_X3_pass_L93
    simp (disch := omega) only [↓Lm1, L0, L1, L2, L3, L4, L5, L6, L7, L8, L9, L10, L11, L12, L13, L14, L15, L16, L17, L18, L19, L20, L27, L30, L31, L35, L36, L37, L38, L39, L40, L41, L46, L48, L51, L57, L59, L60, L82, L98, L99, L100, L102, L104, L107, L110, L119, L144, L240, L255, L256, L360, L999, L1000000, nI_val, n_lt_t, n_lt_f, n_le_t, n_le_f, n_eq_t, n_eq_f, k_le_f, m_lt_t, m_lt_f, m_le_t, m_le_f, m_eq_f, m_eq_f', nI_add, nI_mulE, nI_subE, if_true, if_false, ite_true, ite_false, or_false, false_or, or_true, true_or, or_self, and_true, true_and, and_false, false_and, not_true_eq_false, not_false_eq_true, Option.bind_some, Sum.elim_inl, Sum.elim_inr, xu_set, xset_same, xset_ne, xset_2, xset_set, upd_same, upd_ne, nbI_some, ne_eq, reduceCtorEq, reduceIte, Nat.reduceAdd, Nat.reduceMul, Nat.reduceSub, Nat.add_zero, Nat.zero_add, Nat.mul_zero, Nat.zero_mul]
  · rintro b ⟨hx, h1, h2⟩
    exact ⟨b, hx, h1, h2⟩
theorem passF {p0 p1 p3 : Nat} {d : DD} {N : Nat} {ls : Nat → Nat} {pr : Nat → Bool} {l : LD} {l2 : Int32} {s : xS} (hp : plc p0 p1) (hp3 : p3 = 19 ∨ p3 = 31) (hd : DdOk d) (hD : DdF p1 d s) (hl : LwOk l) (hL : LwF l s) (hpr : PrB pr l2) (hN : N ≤ 36) (hls : LsF p3 N ls s) :
    ∃ s', F_X3_pass p0 p1 p3 l2 s = some s' ∧ Kp p0 (p0 + 4) s s' ∧ NtF p0 d (shr d N ls) (nst d (shr d N ls) pr l.2.1 l.1 (tsm l) 10) s' := by
  obtain ⟨x1, x2, x4⟩ := xal_n hp
  have hp' := hp
  unfold plc at hp
  have hn := hd.1
  have hsh : ∀ i, i < d.1 → shr d N ls i ≤ 14 := by
    intro i hi
    have := (ldk_le (d.2.2.1 i)).1
    unfold shr
    split <;> omega
  generalize hshe : shr d N ls = sh at hsh
  have g1 : ∀ q : xS, F_J7_fill_53178 (p0 + 1) (-1) q = some (xset q (p0 + 1) (fun j => if j < 10 then -1 else q.1 (p0 + 1) j)) := fun q => by rw [fill_eq (by omega), x1]
  have g2 : ∀ q : xS, F_J7_fill_53178 (p0 + 2) (-1) q = some (xset q (p0 + 2) (fun j => if j < 10 then -1 else q.1 (p0 + 2) j)) := fun q => by rw [fill_eq (by omega), x2]
  have g4 : ∀ q : xS, F_J7_fill_53178 (p0 + 4) 2 q = some (xset q (p0 + 4) (fun j => if j < 8 then 2 else q.1 (p0 + 4) j)) := fun q => by rw [fill_eq (by omega), x4]
  unfold F_X3_pass
  rw [g1]
  dsimp only [Option.bind_some]
  rw [g2]
  dsimp only [Option.bind_some]
  rw [g4]
  dsimp only [Option.bind_some]
  generalize hs1 : xset (xset (xset s (p0 + 1) fun j => if j < 10 then -1 else s.1 (p0 + 1) j) (p0 + 2) fun j => if j < 10 then -1 else (xset s (p0 + 1) fun j => if j < 10 then -1 else s.1 (p0 + 1) j).1 (p0 + 2) j) (p0 + 4) (fun j => if j < 8 then 2 else (xset (xset s (p0 + 1) fun j => if j < 10 then -1 else s.1 (p0 + 1) j) (p0 + 2) fun j => if j < 10 then -1 else (xset s (p0 + 1) fun j => if j < 10 then -1 else s.1 (p0 + 1) j).1 (p0 + 2) j).1 (p0 + 4) j) = s1
  have k1 : Kp p0 (p0 + 4) s s1 := by
    rw [← hs1]
    exact (((Kp.refl _ _ _).set _ (by omega) (by omega)).set _ (by omega) (by omega)).set _ (by omega) (by omega)
  have a1 : ∀ j, j < 10 → s1.1 (p0 + 1) j = nbI none ∧ s1.1 (p0 + 2) j = nbI none := by
    intro j hj
    rw [← hs1]
    simp (disch := omega) only [↓Lm1, L0, L1, L2, L3, L4, L5, L6, L7, L8, L9, L10, L11, L12, L13, L14, L15, L16, L17, L18, L19, L20, L27, L30, L31, L35, L36, L37, L38, L39, L40, L41, L46, L48, L51, L57, L59, L60, L82, L98, L99, L100, L102, L104, L107, L110, L119, L144, L240, L255, L256, L360, L999, L1000000, nI_val, n_lt_t, n_lt_f, n_le_t, n_le_f, n_eq_t, n_eq_f, k_le_f, m_lt_t, m_lt_f, m_le_t, m_le_f, m_eq_f, m_eq_f', nI_add, nI_mulE, nI_subE, if_true, if_false, ite_true, ite_false, or_false, false_or, or_true, true_or, or_self, and_true, true_and, and_false, false_and, not_true_eq_false, not_false_eq_true, Option.bind_some, Sum.elim_inl, Sum.elim_inr, xu_set, xset_same, xset_ne, xset_2, xset_set, upd_same, upd_ne, nbI_some, ne_eq, reduceCtorEq, reduceIte, Nat.reduceAdd, Nat.reduceMul, Nat.reduceSub, Nat.add_zero, Nat.zero_add, Nat.mul_zero, Nat.zero_mul, hj]
  have a4 : ∀ j, j < 8 → s1.1 (p0 + 4) j = nI 2 := by
    intro j hj
    rw [← hs1]
    simp (disch := omega) only [↓Lm1, L0, L1, L2, L3, L4, L5, L6, L7, L8, L9, L10, L11, L12, L13, L14, L15, L16, L17, L18, L19, L20, L27, L30, L31, L35, L36, L37, L38, L39, L40, L41, L46, L48, L51, L57, L59, L60, L82, L98, L99, L100, L102, L104, L107, L110, L119, L144, L240, L255, L256, L360, L999, L1000000, nI_val, n_lt_t, n_lt_f, n_le_t, n_le_f, n_eq_t, n_eq_f, k_le_f, m_lt_t, m_lt_f, m_le_t, m_le_f, m_eq_f, m_eq_f', nI_add, nI_mulE, nI_subE, if_true, if_false, ite_true, ite_false, or_false, false_or, or_true, true_or, or_self, and_true, true_and, and_false, false_and, not_true_eq_false, not_false_eq_true, Option.bind_some, Sum.elim_inl, Sum.elim_inr, xu_set, xset_same, xset_ne, xset_2, xset_set, upd_same, upd_ne, nbI_some, ne_eq, reduceCtorEq, reduceIte, Nat.reduceAdd, Nat.reduceMul, Nat.reduceSub, Nat.add_zero, Nat.zero_add, Nat.mul_zero, Nat.zero_mul, hj]
  refine Exists.elim (xlp_cnt (f := F_X3_pass_L27 p0 p1 p3 l2) (fun k a => a.1 = nI k ∧ Kp (p0 + 3) (p0 + 3) s1 a.2 ∧ ∀ i, i < k → a.2.1 (p0 + 3) i = nI (sh i)) (fun b => Kp (p0 + 3) (p0 + 3) s1 b ∧ ∀ i, i < d.1 → b.1 (p0 + 3) i = nI (sh i)) d.1 (by omega) ?_ ?_ (a := (0, s1)) ⟨rfl, Kp.refl _ _ _, fun i hi => absurd hi (Nat.not_lt_zero i)⟩) ?_
  · intro i a hi ⟨ha1, hK, hr⟩
    obtain ⟨z, s'⟩ := a
    dsimp only at ha1 hK hr
    subst ha1
    have kk : Kp p0 (p0 + 4) s s' := k1.trans (hK.wide (by omega) (by omega))
    obtain ⟨r1, r2, r3⟩ := hD.2 i hi
    obtain ⟨o1, o2, o3⟩ := hd.2 i hi
    have e3 : s'.1 p1 3 = nI d.1 := by rw [(kk p1 (by omega)).1]; exact hD.1
    have ek : s'.1 (p1 + 2) i = nI (d.2.2.1 i) := by rw [(kk (p1 + 2) (by omega)).1]; exact r2
    have ep : s'.1 (p1 + 1) i = nI (d.2.1 i) := by rw [(kk (p1 + 1) (by omega)).1]; exact r1
    have hls' : LsF p3 N ls s' := fun j hj => by rw [(kk (p3 + 2) (by omega)).1]; exact hls j hj
    have el := leftF (x := ldk (d.2.2.1 i)) (pl := d.2.1 i) hN hls' (by have := (ldk_le (d.2.2.1 i)).1; omega) o1
    left
    refine ⟨(nI (i + 1), xset s' (p0 + 3) (upd (s'.1 (p0 + 3)) i (nI (sh i)))), ?_, rfl, hK.set _ (by omega) (by omega), ?_⟩
    · unfold F_X3_pass_L27
      have es : sh i = if d.2.1 i < N then ldk (d.2.2.1 i) - ls (d.2.1 i) else 0 := by rw [← hshe]; rfl
      simp (disch := omega) only [↓Lm1, L0, L1, L2, L3, L4, L5, L6, L7, L8, L9, L10, L11, L12, L13, L14, L15, L16, L17, L18, L19, L20, L27, L30, L31, L35, L36, L37, L38, L39, L40, L41, L46, L48, L51, L57, L59, L60, L82, L98, L99, L100, L102, L104, L107, L110, L119, L144, L240, L255, L256, L360, L999, L1000000, nI_val, n_lt_t, n_lt_f, n_le_t, n_le_f, n_eq_t, n_eq_f, k_le_f, m_lt_t, m_lt_f, m_le_t, m_le_f, m_eq_f, m_eq_f', nI_add, nI_mulE, nI_subE, if_true, if_false, ite_true, ite_false, or_false, false_or, or_true, true_or, or_self, and_true, true_and, and_false, false_and, not_true_eq_false, not_false_eq_true, Option.bind_some, Sum.elim_inl, Sum.elim_inr, xu_set, xset_same, xset_ne, xset_2, xset_set, upd_same, upd_ne, nbI_some, ne_eq, reduceCtorEq, reduceIte, Nat.reduceAdd, Nat.reduceMul, Nat.reduceSub, Nat.add_zero, Nat.zero_add, Nat.mul_zero, Nat.zero_mul, e3, ek, ep, ldk_xra o2, el, es]
    · intro j hj
      by_cases e : j = i
      · simp (disch := omega) only [↓Lm1, L0, L1, L2, L3, L4, L5, L6, L7, L8, L9, L10, L11, L12, L13, L14, L15, L16, L17, L18, L19, L20, L27, L30, L31, L35, L36, L37, L38, L39, L40, L41, L46, L48, L51, L57, L59, L60, L82, L98, L99, L100, L102, L104, L107, L110, L119, L144, L240, L255, L256, L360, L999, L1000000, nI_val, n_lt_t, n_lt_f, n_le_t, n_le_f, n_eq_t, n_eq_f, k_le_f, m_lt_t, m_lt_f, m_le_t, m_le_f, m_eq_f, m_eq_f', nI_add, nI_mulE, nI_subE, if_true, if_false, ite_true, ite_false, or_false, false_or, or_true, true_or, or_self, and_true, true_and, and_false, false_and, not_true_eq_false, not_false_eq_true, Option.bind_some, Sum.elim_inl, Sum.elim_inr, xu_set, xset_same, xset_ne, xset_2, xset_set, upd_same, upd_ne, nbI_some, ne_eq, reduceCtorEq, reduceIte, Nat.reduceAdd, Nat.reduceMul, Nat.reduceSub, Nat.add_zero, Nat.zero_add, Nat.mul_zero, Nat.zero_mul, e]
      · simp (disch := omega) only [↓Lm1, L0, L1, L2, L3, L4, L5, L6, L7, L8, L9, L10, L11, L12, L13, L14, L15, L16, L17, L18, L19, L20, L27, L30, L31, L35, L36, L37, L38, L39, L40, L41, L46, L48, L51, L57, L59, L60, L82, L98, L99, L100, L102, L104, L107, L110, L119, L144, L240, L255, L256, L360, L999, L1000000, nI_val, n_lt_t, n_lt_f, n_le_t, n_le_f, n_eq_t, n_eq_f, k_le_f, m_lt_t, m_lt_f, m_le_t, m_le_f, m_eq_f, m_eq_f', nI_add, nI_mulE, nI_subE, if_true, if_false, ite_true, ite_false, or_false, false_or, or_true, true_or, or_self, and_true, true_and, and_false, false_and, not_true_eq_false, not_false_eq_true, Option.bind_some, Sum.elim_inl, Sum.elim_inr, xu_set, xset_same, xset_ne, xset_2, xset_set, upd_same, upd_ne, nbI_some, ne_eq, reduceCtorEq, reduceIte, Nat.reduceAdd, Nat.reduceMul, Nat.reduceSub, Nat.add_zero, Nat.zero_add, Nat.mul_zero, Nat.zero_mul, e]
        exact hr j (by omega)
  · intro a ⟨ha1, hK, hr⟩
    obtain ⟨z, s'⟩ := a
    dsimp only at ha1 hK hr
    subst ha1
    have e3 : s'.1 p1 3 = nI d.1 := by rw [(hK p1 (by omega)).1, (k1 p1 (by omega)).1]; exact hD.1
    refine ⟨s', ?_, hK, hr⟩
    unfold F_X3_pass_L27
    simp (disch := omega) only [↓Lm1, L0, L1, L2, L3, L4, L5, L6, L7, L8, L9, L10, L11, L12, L13, L14, L15, L16, L17, L18, L19, L20, L27, L30, L31, L35, L36, L37, L38, L39, L40, L41, L46, L48, L51, L57, L59, L60, L82, L98, L99, L100, L102, L104, L107, L110, L119, L144, L240, L255, L256, L360, L999, L1000000, nI_val, n_lt_t, n_lt_f, n_le_t, n_le_f, n_eq_t, n_eq_f, k_le_f, m_lt_t, m_lt_f, m_le_t, m_le_f, m_eq_f, m_eq_f', nI_add, nI_mulE, nI_subE, if_true, if_false, ite_true, ite_false, or_false, false_or, or_true, true_or, or_self, and_true, true_and, and_false, false_and, not_true_eq_false, not_false_eq_true, Option.bind_some, Sum.elim_inl, Sum.elim_inr, xu_set, xset_same, xset_ne, xset_2, xset_set, upd_same, upd_ne, nbI_some, ne_eq, reduceCtorEq, reduceIte, Nat.reduceAdd, Nat.reduceMul, Nat.reduceSub, Nat.add_zero, Nat.zero_add, Nat.mul_zero, Nat.zero_mul, e3]
  · rintro b ⟨hx, hK, hr⟩
    rw [hx]
    dsimp only [Option.bind_some]
    have kb : Kp p0 (p0 + 4) s b := k1.trans (hK.wide (by omega) (by omega))
    generalize hc : xul (xu b p0 5 (-1)) p0 6 0 = c
    have kc : Kp p0 (p0 + 4) s c := by
      rw [← hc, xu_set]
      exact Kp_long (kb.set _ (by omega) (by omega)) (by omega) (by omega)
    have c1 : ∀ q, q ≠ p0 → c.1 q = b.1 q := fun q hq => by
      rw [← hc]
      exact va_up_ne _ _ hq
    have c5 : c.1 p0 5 = nbI none := by
      rw [← hc]
      show (xu b p0 5 (-1)).1 p0 5 = _
      simp (disch := omega) only [↓Lm1, L0, L1, L2, L3, L4, L5, L6, L7, L8, L9, L10, L11, L12, L13, L14, L15, L16, L17, L18, L19, L20, L27, L30, L31, L35, L36, L37, L38, L39, L40, L41, L46, L48, L51, L57, L59, L60, L82, L98, L99, L100, L102, L104, L107, L110, L119, L144, L240, L255, L256, L360, L999, L1000000, nI_val, n_lt_t, n_lt_f, n_le_t, n_le_f, n_eq_t, n_eq_f, k_le_f, m_lt_t, m_lt_f, m_le_t, m_le_f, m_eq_f, m_eq_f', nI_add, nI_mulE, nI_subE, if_true, if_false, ite_true, ite_false, or_false, false_or, or_true, true_or, or_self, and_true, true_and, and_false, false_and, not_true_eq_false, not_false_eq_true, Option.bind_some, Sum.elim_inl, Sum.elim_inr, xu_set, xset_same, xset_ne, xset_2, xset_set, upd_same, upd_ne, nbI_some, ne_eq, reduceCtorEq, reduceIte, Nat.reduceAdd, Nat.reduceMul, Nat.reduceSub, Nat.add_zero, Nat.zero_add, Nat.mul_zero, Nat.zero_mul]
    have cx : c.2 p0 6 = 0 := by
      rw [← hc]
      show va_up (xu b p0 5 (-1)).2 p0 (vp_updL ((xu b p0 5 (-1)).2 p0) 6 0) p0 6 = 0
      rw [va_up_self]
      simp [vp_updL]
    have hDc : DdF p1 d c := by
      refine ⟨by rw [(kc p1 (by omega)).1]; exact hD.1, fun i hi => ?_⟩
      rw [(kc (p1 + 1) (by omega)).1, (kc (p1 + 2) (by omega)).1, (kc (p1 + 3) (by omega)).1]
      exact hD.2 i hi
    have hLc : LwF l c := by
      refine ⟨by rw [(kc 12 (by omega)).1]; exact hL.1, by rw [(kc 12 (by omega)).1]; exact hL.2.1, by rw [(kc 13 (by omega)).1]; exact hL.2.2.1, fun j hj => ?_⟩
      rw [(kc 14 (by omega)).1, (kc 15 (by omega)).1]
      exact hL.2.2.2 j hj
    have hb : b.1 12 1 = nI l.1 := by rw [(kb 12 (by omega)).1]; exact hL.1
    obtain ⟨s', e', k', n'⟩ := hoursF (p3 := p3) (sh := sh) hp' hd hDc hl hLc hpr hsh (by
      refine ⟨c5, fun h hh => ?_, fun i hi => ?_, ?_⟩
      · rw [c1 _ (by omega), c1 _ (by omega), (hK (p0 + 1) (by omega)).1, (hK (p0 + 2) (by omega)).1]
        exact a1 h hh
      · rw [c1 _ (by omega), c1 _ (by omega), (hK (p0 + 4) (by omega)).1]
        exact ⟨hr i hi, a4 i (by omega)⟩
      · rw [cx]
        exact ExB.zero)
    refine ⟨s', ?_, kc.trans k', n'⟩
    rw [hb]
    have e'' : xlp (F_X3_pass_L93 p0 p1 p3 l2) 100000 (nI l.1, 0, c) = some s' := e'
    rw [e'']
    rfl
