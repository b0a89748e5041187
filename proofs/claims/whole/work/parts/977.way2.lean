/-! ===== way, by both ===== -/
section SPEC
variable {u0 : Nat → Nat} {n0 : Nat} {u1 : Nat → Nat} {n1 : Nat} {l : LD} {e : ED} {s s4 a : xS}
noncomputable def wyw (u0 : Nat → Nat) (n0 : Nat) : Nat → Nat := fun j => if (twn u0 n0).2.2.2 j = 0 then 9 - (ls0 u0 n0) j else 1000000
noncomputable def wyv (u0 : Nat → Nat) (n0 : Nat) (a b : Nat) : Option Nat := if (twn u0 n0).2.2.2 a = 0 ∧ (twn u0 n0).2.2.2 b = 0 then (if lo (twn u0 n0).1 (twn u0 n0).2.1 (wyw u0 n0) (some b) a < 1000000 then some (lo (twn u0 n0).1 (twn u0 n0).2.1 (wyw u0 n0) (some b) a + (9 - (ls0 u0 n0) a)) else none) else none
theorem openF_t {c : Nat} (hT : TwF s (twn u0 n0).1 (twn u0 n0).2.1 (twn u0 n0).2.2.2) (hc : c < (twn u0 n0).1) (o : (twn u0 n0).2.2.2 c = 0) : F_X7_isOpen (nI c) s = some (nI 1) := by
  rw [openF hT hc]
  unfold opB
  rw [decide_eq_true o]
  rfl
theorem openF_f {c : Nat} (hT : TwF s (twn u0 n0).1 (twn u0 n0).2.1 (twn u0 n0).2.2.2) (hc : c < (twn u0 n0).1) (o : ¬ (twn u0 n0).2.2.2 c = 0) : F_X7_isOpen (nI c) s = some (nI 0) := by
  rw [openF hT hc]
  unfold opB
  rw [decide_eq_false o]
  rfl
theorem q_way {x y : Nat} (hI : IF u0 n0 u1 n1 l e s) (hx : x < (twn u0 n0).1) (hy : y < (twn u0 n0).1) : ∃ s', F_X8_way (nI x) (nI y) s = some (nbI (wyv u0 n0 x y), s') ∧ Kp 27 40 s s' := by
  have hT := hI.1.2.1.1
  have hN := hT.1.1
  unfold F_X8_way wyv
  by_cases ox : (twn u0 n0).2.2.2 x = 0
  · by_cases oy : (twn u0 n0).2.2.2 y = 0
    · have key : ∃ b, xlp (F_X8_way_L51 (nI x) (nI y)) 100000 (nI 0, s) = some b ∧ Kp 32 32 s b ∧ ∀ j, j < (twn u0 n0).1 → b.1 32 j = nI (wyw u0 n0 j) := by
        refine xlp_cnt (f := F_X8_way_L51 (nI x) (nI y)) (fun i a => a.1 = nI i ∧ Kp 32 32 s a.2 ∧ ∀ j, j < i → a.2.1 32 j = nI (wyw u0 n0 j)) (fun b => Kp 32 32 s b ∧ ∀ j, j < (twn u0 n0).1 → b.1 32 j = nI (wyw u0 n0 j)) (twn u0 n0).1 (by omega) ?_ ?_ (a := (nI 0, s)) ⟨rfl, Kp.refl _ _ _, fun j hj => absurd hj (Nat.not_lt_zero j)⟩
        · intro i a hi ⟨h1, h2, h3⟩
          obtain ⟨a1, s'⟩ := a
          dsimp only at h1 h2 h3
          subst h1
          have hI' := hI.keep (h2.wide (show 27 ≤ 32 by omega) (show 32 ≤ 40 by omega))
          have hT' := hI'.1.2.1.1
          have h52 := hT'.2.1
          have nr : ∀ v : Nat, v = wyw u0 n0 i → ∀ j, j < i + 1 → (xset s' 32 (upd (s'.1 32) i (nI v))).1 32 j = nI (wyw u0 n0 j) := by
            intro v hv j hj
            rw [xset_same]
            by_cases c : j = i
            · rw [c, upd_same, hv]
            · rw [upd_ne _ _ c]
              exact h3 j (by omega)
          left
          unfold F_X8_way_L51
          by_cases o : (twn u0 n0).2.2.2 i = 0
          · have ef := leftF (x := 9) (pl := i) hN hI'.2.1.1 (by omega) (by omega)
            rw [if_pos hi] at ef
            have x9 : xra 1001 2 = nI 9 := rfl
            have hv : 9 - (ls0 u0 n0) i = wyw u0 n0 i := by unfold wyw; rw [if_pos o]
            refine ⟨(nI (i + 1), xset s' 32 (upd (s'.1 32) i (nI (9 - (ls0 u0 n0) i)))), ?_, rfl, h2.set _ (by omega) (by omega), nr _ hv⟩
            simp (disch := omega) only [↓Lm1, L0, L1, L2, L3, L4, L5, L6, L7, L8, L9, L10, L11, L12, L13, L14, L15, L16, L17, L18, L19, L20, L27, L30, L31, L35, L36, L37, L38, L39, L40, L41, L46, L48, L51, L57, L59, L60, L82, L98, L99, L100, L102, L104, L107, L110, L119, L144, L240, L255, L256, L360, L999, L1000000, nI_val, n_lt_t, n_lt_f, n_le_t, n_le_f, n_eq_t, n_eq_f, k_le_f, m_lt_t, m_lt_f, m_le_t, m_le_f, m_eq_f, m_eq_f', nI_add, nI_mulE, nI_subE, if_true, if_false, ite_true, ite_false, or_false, false_or, or_true, true_or, or_self, and_true, true_and, and_false, false_and, not_true_eq_false, not_false_eq_true, Option.bind_some, Sum.elim_inl, Sum.elim_inr, xu_set, xset_same, xset_ne, xset_2, xset_set, upd_same, upd_ne, nbI_some, ne_eq, reduceCtorEq, reduceIte, Nat.reduceAdd, Nat.reduceMul, Nat.reduceSub, Nat.add_zero, Nat.zero_add, Nat.mul_zero, Nat.zero_mul, h52, openF_t hT' hi o, x9, ef]
          · have hv : 1000000 = wyw u0 n0 i := by unfold wyw; rw [if_neg o]
            refine ⟨(nI (i + 1), xset s' 32 (upd (s'.1 32) i (nI 1000000))), ?_, rfl, h2.set _ (by omega) (by omega), nr _ hv⟩
            simp (disch := omega) only [↓Lm1, L0, L1, L2, L3, L4, L5, L6, L7, L8, L9, L10, L11, L12, L13, L14, L15, L16, L17, L18, L19, L20, L27, L30, L31, L35, L36, L37, L38, L39, L40, L41, L46, L48, L51, L57, L59, L60, L82, L98, L99, L100, L102, L104, L107, L110, L119, L144, L240, L255, L256, L360, L999, L1000000, nI_val, n_lt_t, n_lt_f, n_le_t, n_le_f, n_eq_t, n_eq_f, k_le_f, m_lt_t, m_lt_f, m_le_t, m_le_f, m_eq_f, m_eq_f', nI_add, nI_mulE, nI_subE, if_true, if_false, ite_true, ite_false, or_false, false_or, or_true, true_or, or_self, and_true, true_and, and_false, false_and, not_true_eq_false, not_false_eq_true, Option.bind_some, Sum.elim_inl, Sum.elim_inr, xu_set, xset_same, xset_ne, xset_2, xset_set, upd_same, upd_ne, nbI_some, ne_eq, reduceCtorEq, reduceIte, Nat.reduceAdd, Nat.reduceMul, Nat.reduceSub, Nat.add_zero, Nat.zero_add, Nat.mul_zero, Nat.zero_mul, h52, openF_f hT' hi o]
        · intro a ⟨h1, h2, h3⟩
          obtain ⟨a1, s'⟩ := a
          dsimp only at h1 h2 h3
          subst h1
          have h52 := (hI.keep (h2.wide (show 27 ≤ 32 by omega) (show 32 ≤ 40 by omega))).1.2.1.1.2.1
          refine ⟨s', ?_, h2, h3⟩
          unfold F_X8_way_L51
          simp (disch := omega) only [↓Lm1, L0, L1, L2, L3, L4, L5, L6, L7, L8, L9, L10, L11, L12, L13, L14, L15, L16, L17, L18, L19, L20, L27, L30, L31, L35, L36, L37, L38, L39, L40, L41, L46, L48, L51, L57, L59, L60, L82, L98, L99, L100, L102, L104, L107, L110, L119, L144, L240, L255, L256, L360, L999, L1000000, nI_val, n_lt_t, n_lt_f, n_le_t, n_le_f, n_eq_t, n_eq_f, k_le_f, m_lt_t, m_lt_f, m_le_t, m_le_f, m_eq_f, m_eq_f', nI_add, nI_mulE, nI_subE, if_true, if_false, ite_true, ite_false, or_false, false_or, or_true, true_or, or_self, and_true, true_and, and_false, false_and, not_true_eq_false, not_false_eq_true, Option.bind_some, Sum.elim_inl, Sum.elim_inr, xu_set, xset_same, xset_ne, xset_2, xset_set, upd_same, upd_ne, nbI_some, ne_eq, reduceCtorEq, reduceIte, Nat.reduceAdd, Nat.reduceMul, Nat.reduceSub, Nat.add_zero, Nat.zero_add, Nat.mul_zero, Nat.zero_mul, h52]
      obtain ⟨b, eb, kb, rb⟩ := key
      have kb' := kb.wide (show 27 ≤ 32 by omega) (show 32 ≤ 40 by omega)
      have hTb := (hI.keep kb').1.2.1.1
      have wle : ∀ j, wyw u0 n0 j ≤ 1000000 := fun j => by unfold wyw; split <;> omega
      obtain ⟨s', e', k', ls⟩ := reachW (w := wyw u0 n0) (bd := some y) hTb (fun j hj => ⟨wle j, rb j hj⟩) (fun j q => by cases q; exact hy)
      rw [nbI_some] at e'
      have e33 : s'.1 33 x = nI (lo (twn u0 n0).1 (twn u0 n0).2.1 (wyw u0 n0) (some y) x) := by
        have := (ls x (by omega)).1
        rw [if_pos hx] at this
        exact this
      have lle := lo_le (N := (twn u0 n0).1) (W := (twn u0 n0).2.1) (w := wyw u0 n0) (t := some y) hx
      have e32 : s'.1 32 x = nI (9 - (ls0 u0 n0) x) := by
        rw [(k' 32 (by omega)).1, rb x hx]
        unfold wyw
        rw [if_pos ox]
      refine ⟨s', ?_, kb'.trans (k'.wide (by omega) (by omega))⟩
      have oxy : ((twn u0 n0).2.2.2 x = 0 ∧ (twn u0 n0).2.2.2 y = 0) = True := eq_true ⟨ox, oy⟩
      simp only [oxy, if_true]
      by_cases c : lo (twn u0 n0).1 (twn u0 n0).2.1 (wyw u0 n0) (some y) x < 1000000
      · simp (disch := omega) only [↓Lm1, L0, L1, L2, L3, L4, L5, L6, L7, L8, L9, L10, L11, L12, L13, L14, L15, L16, L17, L18, L19, L20, L27, L30, L31, L35, L36, L37, L38, L39, L40, L41, L46, L48, L51, L57, L59, L60, L82, L98, L99, L100, L102, L104, L107, L110, L119, L144, L240, L255, L256, L360, L999, L1000000, nI_val, n_lt_t, n_lt_f, n_le_t, n_le_f, n_eq_t, n_eq_f, k_le_f, m_lt_t, m_lt_f, m_le_t, m_le_f, m_eq_f, m_eq_f', nI_add, nI_mulE, nI_subE, if_true, if_false, ite_true, ite_false, or_false, false_or, or_true, true_or, or_self, and_true, true_and, and_false, false_and, not_true_eq_false, not_false_eq_true, Option.bind_some, Sum.elim_inl, Sum.elim_inr, xu_set, xset_same, xset_ne, xset_2, xset_set, upd_same, upd_ne, nbI_some, ne_eq, reduceCtorEq, reduceIte, Nat.reduceAdd, Nat.reduceMul, Nat.reduceSub, Nat.add_zero, Nat.zero_add, Nat.mul_zero, Nat.zero_mul, hasF_t hT.2.1 hN hx, hasF_t hT.2.1 hN hy, openF_t hT hx ox, openF_t hT hy oy, eb, e', e33, e32, c]
      · simp (disch := omega) only [↓Lm1, L0, L1, L2, L3, L4, L5, L6, L7, L8, L9, L10, L11, L12, L13, L14, L15, L16, L17, L18, L19, L20, L27, L30, L31, L35, L36, L37, L38, L39, L40, L41, L46, L48, L51, L57, L59, L60, L82, L98, L99, L100, L102, L104, L107, L110, L119, L144, L240, L255, L256, L360, L999, L1000000, nI_val, n_lt_t, n_lt_f, n_le_t, n_le_f, n_eq_t, n_eq_f, k_le_f, m_lt_t, m_lt_f, m_le_t, m_le_f, m_eq_f, m_eq_f', nI_add, nI_mulE, nI_subE, if_true, if_false, ite_true, ite_false, or_false, false_or, or_true, true_or, or_self, and_true, true_and, and_false, false_and, not_true_eq_false, not_false_eq_true, Option.bind_some, Sum.elim_inl, Sum.elim_inr, xu_set, xset_same, xset_ne, xset_2, xset_set, upd_same, upd_ne, nbI_some, ne_eq, reduceCtorEq, reduceIte, Nat.reduceAdd, Nat.reduceMul, Nat.reduceSub, Nat.add_zero, Nat.zero_add, Nat.mul_zero, Nat.zero_mul, hasF_t hT.2.1 hN hx, hasF_t hT.2.1 hN hy, openF_t hT hx ox, openF_t hT hy oy, eb, e', e33, e32, c]
    · refine ⟨s, ?_, Kp.refl _ _ _⟩
      have oxy : ((twn u0 n0).2.2.2 x = 0 ∧ (twn u0 n0).2.2.2 y = 0) = False := eq_false (fun q => oy q.2)
      simp only [oxy, if_false]
      simp (disch := omega) only [↓Lm1, L0, L1, L2, L3, L4, L5, L6, L7, L8, L9, L10, L11, L12, L13, L14, L15, L16, L17, L18, L19, L20, L27, L30, L31, L35, L36, L37, L38, L39, L40, L41, L46, L48, L51, L57, L59, L60, L82, L98, L99, L100, L102, L104, L107, L110, L119, L144, L240, L255, L256, L360, L999, L1000000, nI_val, n_lt_t, n_lt_f, n_le_t, n_le_f, n_eq_t, n_eq_f, k_le_f, m_lt_t, m_lt_f, m_le_t, m_le_f, m_eq_f, m_eq_f', nI_add, nI_mulE, nI_subE, if_true, if_false, ite_true, ite_false, or_false, false_or, or_true, true_or, or_self, and_true, true_and, and_false, false_and, not_true_eq_false, not_false_eq_true, Option.bind_some, Sum.elim_inl, Sum.elim_inr, xu_set, xset_same, xset_ne, xset_2, xset_set, upd_same, upd_ne, nbI_some, ne_eq, reduceCtorEq, reduceIte, Nat.reduceAdd, Nat.reduceMul, Nat.reduceSub, Nat.add_zero, Nat.zero_add, Nat.mul_zero, Nat.zero_mul, hasF_t hT.2.1 hN hx, hasF_t hT.2.1 hN hy, openF_t hT hx ox, openF_f hT hy oy]
  · refine ⟨s, ?_, Kp.refl _ _ _⟩
    have oxy : ((twn u0 n0).2.2.2 x = 0 ∧ (twn u0 n0).2.2.2 y = 0) = False := eq_false (fun q => ox q.1)
    simp only [oxy, if_false]
    simp (disch := omega) only [↓Lm1, L0, L1, L2, L3, L4, L5, L6, L7, L8, L9, L10, L11, L12, L13, L14, L15, L16, L17, L18, L19, L20, L27, L30, L31, L35, L36, L37, L38, L39, L40, L41, L46, L48, L51, L57, L59, L60, L82, L98, L99, L100, L102, L104, L107, L110, L119, L144, L240, L255, L256, L360, L999, L1000000, nI_val, n_lt_t, n_lt_f, n_le_t, n_le_f, n_eq_t, n_eq_f, k_le_f, m_lt_t, m_lt_f, m_le_t, m_le_f, m_eq_f, m_eq_f', nI_add, nI_mulE, nI_subE, if_true, if_false, ite_true, ite_false, or_false, false_or, or_true, true_or, or_self, and_true, true_and, and_false, false_and, not_true_eq_false, not_false_eq_true, Option.bind_some, Sum.elim_inl, Sum.elim_inr, xu_set, xset_same, xset_ne, xset_2, xset_set, upd_same, upd_ne, nbI_some, ne_eq, reduceCtorEq, reduceIte, Nat.reduceAdd, Nat.reduceMul, Nat.reduceSub, Nat.add_zero, Nat.zero_add, Nat.mul_zero, Nat.zero_mul, hasF_t hT.2.1 hN hx, hasF_t hT.2.1 hN hy, openF_f hT hx ox]
theorem m_way {x y : Nat} (h : BM u0 n0 u1 n1 l s) (hx : x < (twn u0 n0).1) (hy : y < (twn u0 n0).1) : ∃ s', F_X9_wayOf (nI x) (nI y) s = some (nbI (wyv u0 n0 x y), s') ∧ RT u0 n0 u1 n1 l s s' := by
  have hok := twn_ok u0 n0
  have hN := hok.1.1
  obtain ⟨s2, e2, rt2, _⟩ := readsT h
  obtain ⟨s4, e4, k4, ls⟩ := laysM rt2.2.2.1 (fun j hj => (hok.2.2.1 j hj).2) hok.2.2.2
  have rt := rt2.keep (k4.wide (by decide) (by decide))
  have hT := rt.2.2.1
  have h03 := hT.2.1
  obtain ⟨k3x, e3x⟩ := hT.2.2.2.2 x hx
  obtain ⟨k3y, e3y⟩ := hT.2.2.2.2 y hy
  have ls' : ∀ j, j < (twn u0 n0).1 → s4.1 9 j = nI (min 999 ((ls0 u0 n0) j)) := ls
  unfold F_X9_wayOf wyv
  by_cases ox : (twn u0 n0).2.2.2 x = 0
  · by_cases oy : (twn u0 n0).2.2.2 y = 0
    · have key : ∃ b, xlp (F_X9_wayOf_L30 (nI x) (nI y)) 100000 (nI 0, s4) = some b ∧ KR [16, 17] [] s4 b ∧ ∀ j, j < (twn u0 n0).1 → b.1 16 j = nI (9 - (ls0 u0 n0) j) ∧ b.1 17 j = nI 999 := by
        refine xlp_cnt (f := F_X9_wayOf_L30 (nI x) (nI y)) (fun i a => a.1 = nI i ∧ KR [16, 17] [] s4 a.2 ∧ ∀ j, j < i → a.2.1 16 j = nI (9 - (ls0 u0 n0) j) ∧ a.2.1 17 j = nI 999) (fun b => KR [16, 17] [] s4 b ∧ ∀ j, j < (twn u0 n0).1 → b.1 16 j = nI (9 - (ls0 u0 n0) j) ∧ b.1 17 j = nI 999) (twn u0 n0).1 (by omega) ?_ ?_ (a := (nI 0, s4)) ⟨rfl, KR.refl _ _ _, fun j hj => absurd hj (Nat.not_lt_zero j)⟩
        · intro i a hi ⟨h1, h2, h3⟩
          obtain ⟨a1, s'⟩ := a
          dsimp only at h1 h2 h3
          subst h1
          have h03' : s'.1 0 3 = nI (twn u0 n0).1 := by rw [h2.2 3 (by decide)]; exact h03
          have e9 : s'.1 9 i = nI (min 999 ((ls0 u0 n0) i)) := by rw [h2.1 9 (by decide) (by decide)]; exact ls' i hi
          have bnd : min 999 ((ls0 u0 n0) i) ≤ 999 := Nat.min_le_left _ _
          left
          refine ⟨(nI (i + 1), xset (xset s' 16 (upd (s'.1 16) i (nI (9 - (ls0 u0 n0) i)))) 17 (upd (s'.1 17) i (nI 999))), ?_, rfl, (h2.set _ (by decide) (by decide)).set _ (by decide) (by decide), fun j hj => ?_⟩
          · unfold F_X9_wayOf_L30
            by_cases c : 9 ≤ min 999 ((ls0 u0 n0) i)
            · have z : 9 - (ls0 u0 n0) i = 0 := by omega
              simp (disch := omega) only [↓Lm1, L0, L1, L2, L3, L4, L5, L6, L7, L8, L9, L10, L11, L12, L13, L14, L15, L16, L17, L18, L19, L20, L27, L30, L31, L35, L36, L37, L38, L39, L40, L41, L46, L48, L51, L57, L59, L60, L82, L98, L99, L100, L102, L104, L107, L110, L119, L144, L240, L255, L256, L360, L999, L1000000, nI_val, n_lt_t, n_lt_f, n_le_t, n_le_f, n_eq_t, n_eq_f, k_le_f, m_lt_t, m_lt_f, m_le_t, m_le_f, m_eq_f, m_eq_f', nI_add, nI_mulE, nI_subE, if_true, if_false, ite_true, ite_false, or_false, false_or, or_true, true_or, or_self, and_true, true_and, and_false, false_and, not_true_eq_false, not_false_eq_true, Option.bind_some, Sum.elim_inl, Sum.elim_inr, xu_set, xset_same, xset_ne, xset_2, xset_set, upd_same, upd_ne, nbI_some, ne_eq, reduceCtorEq, reduceIte, Nat.reduceAdd, Nat.reduceMul, Nat.reduceSub, Nat.add_zero, Nat.zero_add, Nat.mul_zero, Nat.zero_mul, h03', e9, z]
            · have z : 9 - (ls0 u0 n0) i = 9 - min 999 ((ls0 u0 n0) i) := by omega
              simp (disch := omega) only [↓Lm1, L0, L1, L2, L3, L4, L5, L6, L7, L8, L9, L10, L11, L12, L13, L14, L15, L16, L17, L18, L19, L20, L27, L30, L31, L35, L36, L37, L38, L39, L40, L41, L46, L48, L51, L57, L59, L60, L82, L98, L99, L100, L102, L104, L107, L110, L119, L144, L240, L255, L256, L360, L999, L1000000, nI_val, n_lt_t, n_lt_f, n_le_t, n_le_f, n_eq_t, n_eq_f, k_le_f, m_lt_t, m_lt_f, m_le_t, m_le_f, m_eq_f, m_eq_f', nI_add, nI_mulE, nI_subE, if_true, if_false, ite_true, ite_false, or_false, false_or, or_true, true_or, or_self, and_true, true_and, and_false, false_and, not_true_eq_false, not_false_eq_true, Option.bind_some, Sum.elim_inl, Sum.elim_inr, xu_set, xset_same, xset_ne, xset_2, xset_set, upd_same, upd_ne, nbI_some, ne_eq, reduceCtorEq, reduceIte, Nat.reduceAdd, Nat.reduceMul, Nat.reduceSub, Nat.add_zero, Nat.zero_add, Nat.mul_zero, Nat.zero_mul, h03', e9, z]
          · by_cases c : j = i
            · rw [c]
              refine ⟨?_, ?_⟩
              · simp (disch := omega) only [↓Lm1, L0, L1, L2, L3, L4, L5, L6, L7, L8, L9, L10, L11, L12, L13, L14, L15, L16, L17, L18, L19, L20, L27, L30, L31, L35, L36, L37, L38, L39, L40, L41, L46, L48, L51, L57, L59, L60, L82, L98, L99, L100, L102, L104, L107, L110, L119, L144, L240, L255, L256, L360, L999, L1000000, nI_val, n_lt_t, n_lt_f, n_le_t, n_le_f, n_eq_t, n_eq_f, k_le_f, m_lt_t, m_lt_f, m_le_t, m_le_f, m_eq_f, m_eq_f', nI_add, nI_mulE, nI_subE, if_true, if_false, ite_true, ite_false, or_false, false_or, or_true, true_or, or_self, and_true, true_and, and_false, false_and, not_true_eq_false, not_false_eq_true, Option.bind_some, Sum.elim_inl, Sum.elim_inr, xu_set, xset_same, xset_ne, xset_2, xset_set, upd_same, upd_ne, nbI_some, ne_eq, reduceCtorEq, reduceIte, Nat.reduceAdd, Nat.reduceMul, Nat.reduceSub, Nat.add_zero, Nat.zero_add, Nat.mul_zero, Nat.zero_mul]
              · simp (disch := omega) only [↓Lm1, L0, L1, L2, L3, L4, L5, L6, L7, L8, L9, L10, L11, L12, L13, L14, L15, L16, L17, L18, L19, L20, L27, L30, L31, L35, L36, L37, L38, L39, L40, L41, L46, L48, L51, L57, L59, L60, L82, L98, L99, L100, L102, L104, L107, L110, L119, L144, L240, L255, L256, L360, L999, L1000000, nI_val, n_lt_t, n_lt_f, n_le_t, n_le_f, n_eq_t, n_eq_f, k_le_f, m_lt_t, m_lt_f, m_le_t, m_le_f, m_eq_f, m_eq_f', nI_add, nI_mulE, nI_subE, if_true, if_false, ite_true, ite_false, or_false, false_or, or_true, true_or, or_self, and_true, true_and, and_false, false_and, not_true_eq_false, not_false_eq_true, Option.bind_some, Sum.elim_inl, Sum.elim_inr, xu_set, xset_same, xset_ne, xset_2, xset_set, upd_same, upd_ne, nbI_some, ne_eq, reduceCtorEq, reduceIte, Nat.reduceAdd, Nat.reduceMul, Nat.reduceSub, Nat.add_zero, Nat.zero_add, Nat.mul_zero, Nat.zero_mul]
            · obtain ⟨z1, z2⟩ := h3 j (by omega)
              refine ⟨?_, ?_⟩
              · simp (disch := omega) only [↓Lm1, L0, L1, L2, L3, L4, L5, L6, L7, L8, L9, L10, L11, L12, L13, L14, L15, L16, L17, L18, L19, L20, L27, L30, L31, L35, L36, L37, L38, L39, L40, L41, L46, L48, L51, L57, L59, L60, L82, L98, L99, L100, L102, L104, L107, L110, L119, L144, L240, L255, L256, L360, L999, L1000000, nI_val, n_lt_t, n_lt_f, n_le_t, n_le_f, n_eq_t, n_eq_f, k_le_f, m_lt_t, m_lt_f, m_le_t, m_le_f, m_eq_f, m_eq_f', nI_add, nI_mulE, nI_subE, if_true, if_false, ite_true, ite_false, or_false, false_or, or_true, true_or, or_self, and_true, true_and, and_false, false_and, not_true_eq_false, not_false_eq_true, Option.bind_some, Sum.elim_inl, Sum.elim_inr, xu_set, xset_same, xset_ne, xset_2, xset_set, upd_same, upd_ne, nbI_some, ne_eq, reduceCtorEq, reduceIte, Nat.reduceAdd, Nat.reduceMul, Nat.reduceSub, Nat.add_zero, Nat.zero_add, Nat.mul_zero, Nat.zero_mul, z1]
              · simp (disch := omega) only [↓Lm1, L0, L1, L2, L3, L4, L5, L6, L7, L8, L9, L10, L11, L12, L13, L14, L15, L16, L17, L18, L19, L20, L27, L30, L31, L35, L36, L37, L38, L39, L40, L41, L46, L48, L51, L57, L59, L60, L82, L98, L99, L100, L102, L104, L107, L110, L119, L144, L240, L255, L256, L360, L999, L1000000, nI_val, n_lt_t, n_lt_f, n_le_t, n_le_f, n_eq_t, n_eq_f, k_le_f, m_lt_t, m_lt_f, m_le_t, m_le_f, m_eq_f, m_eq_f', nI_add, nI_mulE, nI_subE, if_true, if_false, ite_true, ite_false, or_false, false_or, or_true, true_or, or_self, and_true, true_and, and_false, false_and, not_true_eq_false, not_false_eq_true, Option.bind_some, Sum.elim_inl, Sum.elim_inr, xu_set, xset_same, xset_ne, xset_2, xset_set, upd_same, upd_ne, nbI_some, ne_eq, reduceCtorEq, reduceIte, Nat.reduceAdd, Nat.reduceMul, Nat.reduceSub, Nat.add_zero, Nat.zero_add, Nat.mul_zero, Nat.zero_mul, z2]
        · intro a ⟨h1, h2, h3⟩
          obtain ⟨a1, s'⟩ := a
          dsimp only at h1 h2 h3
          subst h1
          have h03' : s'.1 0 3 = nI (twn u0 n0).1 := by rw [h2.2 3 (by decide)]; exact h03
          refine ⟨s', ?_, h2, h3⟩
          unfold F_X9_wayOf_L30
          simp (disch := omega) only [↓Lm1, L0, L1, L2, L3, L4, L5, L6, L7, L8, L9, L10, L11, L12, L13, L14, L15, L16, L17, L18, L19, L20, L27, L30, L31, L35, L36, L37, L38, L39, L40, L41, L46, L48, L51, L57, L59, L60, L82, L98, L99, L100, L102, L104, L107, L110, L119, L144, L240, L255, L256, L360, L999, L1000000, nI_val, n_lt_t, n_lt_f, n_le_t, n_le_f, n_eq_t, n_eq_f, k_le_f, m_lt_t, m_lt_f, m_le_t, m_le_f, m_eq_f, m_eq_f', nI_add, nI_mulE, nI_subE, if_true, if_false, ite_true, ite_false, or_false, false_or, or_true, true_or, or_self, and_true, true_and, and_false, false_and, not_true_eq_false, not_false_eq_true, Option.bind_some, Sum.elim_inl, Sum.elim_inr, xu_set, xset_same, xset_ne, xset_2, xset_set, upd_same, upd_ne, nbI_some, ne_eq, reduceCtorEq, reduceIte, Nat.reduceAdd, Nat.reduceMul, Nat.reduceSub, Nat.add_zero, Nat.zero_add, Nat.mul_zero, Nat.zero_mul, h03']
      obtain ⟨b, eb, kb, rb⟩ := key
      have hTb : TwM b (twn u0 n0).1 (twn u0 n0).2.1 (twn u0 n0).2.2.2 := by
        unfold TwM at hT ⊢
        rw [kb.1 3 (by decide) (by decide), kb.2 3 (by decide), kb.2 2 (by decide)]
        exact hT
      have e16x := (rb x hx).1
      have st : xset b 17 (upd (b.1 17) x (nI (9 - (ls0 u0 n0) x))) = wyS b (twn u0 n0).1 (fun j => if j = x then 9 - (ls0 u0 n0) x else 999) := by
        unfold wyS
        congr 1
        funext j
        unfold rowN
        by_cases c : j = x
        · rw [c, upd_same, if_pos hx]
          dsimp only
          rw [if_pos rfl]
        · rw [upd_ne _ _ c]
          by_cases q : j < (twn u0 n0).1
          · rw [if_pos q]
            dsimp only
            rw [if_neg c]
            exact (rb j q).2
          · rw [if_neg q]
      obtain ⟨g, eg, mg, g999⟩ := shorts_eq (nI y) (ct := fun j => 9 - (ls0 u0 n0) j) (t := x) (f := fun j => if j = x then 9 - (ls0 u0 n0) x else 999) hTb (fun j hj => ⟨by omega, (rb j hj).1⟩) ⟨if_pos rfl, fun c hc => by
        dsimp only
        by_cases q : c = x
        · rw [if_pos q]
          exact ⟨by omega, Or.inr ⟨0, 0, ⟨q, rfl⟩, by rw [q]; omega⟩⟩
        · rw [if_neg q]
          exact ⟨Nat.le_refl _, Or.inl rfl⟩⟩
      have ag := way_agree (w := wyw u0 n0) (ct := fun j => 9 - (ls0 u0 n0) j) (b := y) hok.1 (fun j => rfl) (fun j => by omega) hx hy ox (lo_mn (twn u0 n0).1 (twn u0 n0).2.1 (wyw u0 n0) y) mg
      have e17 := wyS_at (s := b) g hy
      have gy := g999 y hy
      refine ⟨wyS b (twn u0 n0).1 g, ?_, rt.keep (((kb.wide (by decide) (by decide) : KR ST SQ s4 b)).set _ (by decide) (by decide))⟩
      have oxy : ((twn u0 n0).2.2.2 x = 0 ∧ (twn u0 n0).2.2.2 y = 0) = True := eq_true ⟨ox, oy⟩
      simp only [oxy, if_true]
      rw [ox] at e3x
      rw [oy] at e3y
      by_cases c : lo (twn u0 n0).1 (twn u0 n0).2.1 (wyw u0 n0) (some y) x < 1000000
      · obtain ⟨z1, z2⟩ := ag.1 c
        have z1 : g y = lo (twn u0 n0).1 (twn u0 n0).2.1 (wyw u0 n0) (some y) x + (9 - (ls0 u0 n0) x) := z1
        rw [z1] at e17 z2
        simp (disch := omega) only [↓Lm1, L0, L1, L2, L3, L4, L5, L6, L7, L8, L9, L10, L11, L12, L13, L14, L15, L16, L17, L18, L19, L20, L27, L30, L31, L35, L36, L37, L38, L39, L40, L41, L46, L48, L51, L57, L59, L60, L82, L98, L99, L100, L102, L104, L107, L110, L119, L144, L240, L255, L256, L360, L999, L1000000, nI_val, n_lt_t, n_lt_f, n_le_t, n_le_f, n_eq_t, n_eq_f, k_le_f, m_lt_t, m_lt_f, m_le_t, m_le_f, m_eq_f, m_eq_f', nI_add, nI_mulE, nI_subE, if_true, if_false, ite_true, ite_false, or_false, false_or, or_true, true_or, or_self, and_true, true_and, and_false, false_and, not_true_eq_false, not_false_eq_true, Option.bind_some, Sum.elim_inl, Sum.elim_inr, xu_set, xset_same, xset_ne, xset_2, xset_set, upd_same, upd_ne, nbI_some, ne_eq, reduceCtorEq, reduceIte, Nat.reduceAdd, Nat.reduceMul, Nat.reduceSub, Nat.add_zero, Nat.zero_add, Nat.mul_zero, Nat.zero_mul, e2, e4, e3x, e3y, eb, e16x, st, eg, e17, c]
      · have z1 := ag.2 c
        rw [z1] at e17
        simp (disch := omega) only [↓Lm1, L0, L1, L2, L3, L4, L5, L6, L7, L8, L9, L10, L11, L12, L13, L14, L15, L16, L17, L18, L19, L20, L27, L30, L31, L35, L36, L37, L38, L39, L40, L41, L46, L48, L51, L57, L59, L60, L82, L98, L99, L100, L102, L104, L107, L110, L119, L144, L240, L255, L256, L360, L999, L1000000, nI_val, n_lt_t, n_lt_f, n_le_t, n_le_f, n_eq_t, n_eq_f, k_le_f, m_lt_t, m_lt_f, m_le_t, m_le_f, m_eq_f, m_eq_f', nI_add, nI_mulE, nI_subE, if_true, if_false, ite_true, ite_false, or_false, false_or, or_true, true_or, or_self, and_true, true_and, and_false, false_and, not_true_eq_false, not_false_eq_true, Option.bind_some, Sum.elim_inl, Sum.elim_inr, xu_set, xset_same, xset_ne, xset_2, xset_set, upd_same, upd_ne, nbI_some, ne_eq, reduceCtorEq, reduceIte, Nat.reduceAdd, Nat.reduceMul, Nat.reduceSub, Nat.add_zero, Nat.zero_add, Nat.mul_zero, Nat.zero_mul, e2, e4, e3x, e3y, eb, e16x, st, eg, e17, c]
    · refine ⟨s4, ?_, rt⟩
      have oxy : ((twn u0 n0).2.2.2 x = 0 ∧ (twn u0 n0).2.2.2 y = 0) = False := eq_false (fun q => oy q.2)
      simp only [oxy, if_false]
      rw [ox] at e3x
      simp (disch := omega) only [↓Lm1, L0, L1, L2, L3, L4, L5, L6, L7, L8, L9, L10, L11, L12, L13, L14, L15, L16, L17, L18, L19, L20, L27, L30, L31, L35, L36, L37, L38, L39, L40, L41, L46, L48, L51, L57, L59, L60, L82, L98, L99, L100, L102, L104, L107, L110, L119, L144, L240, L255, L256, L360, L999, L1000000, nI_val, n_lt_t, n_lt_f, n_le_t, n_le_f, n_eq_t, n_eq_f, k_le_f, m_lt_t, m_lt_f, m_le_t, m_le_f, m_eq_f, m_eq_f', nI_add, nI_mulE, nI_subE, if_true, if_false, ite_true, ite_false, or_false, false_or, or_true, true_or, or_self, and_true, true_and, and_false, false_and, not_true_eq_false, not_false_eq_true, Option.bind_some, Sum.elim_inl, Sum.elim_inr, xu_set, xset_same, xset_ne, xset_2, xset_set, upd_same, upd_ne, nbI_some, ne_eq, reduceCtorEq, reduceIte, Nat.reduceAdd, Nat.reduceMul, Nat.reduceSub, Nat.add_zero, Nat.zero_add, Nat.mul_zero, Nat.zero_mul, e2, e4, e3x, e3y, oy]
  · refine ⟨s4, ?_, rt⟩
    have oxy : ((twn u0 n0).2.2.2 x = 0 ∧ (twn u0 n0).2.2.2 y = 0) = False := eq_false (fun q => ox q.1)
    simp only [oxy, if_false]
    simp (disch := omega) only [↓Lm1, L0, L1, L2, L3, L4, L5, L6, L7, L8, L9, L10, L11, L12, L13, L14, L15, L16, L17, L18, L19, L20, L27, L30, L31, L35, L36, L37, L38, L39, L40, L41, L46, L48, L51, L57, L59, L60, L82, L98, L99, L100, L102, L104, L107, L110, L119, L144, L240, L255, L256, L360, L999, L1000000, nI_val, n_lt_t, n_lt_f, n_le_t, n_le_f, n_eq_t, n_eq_f, k_le_f, m_lt_t, m_lt_f, m_le_t, m_le_f, m_eq_f, m_eq_f', nI_add, nI_mulE, nI_subE, if_true, if_false, ite_true, ite_false, or_false, false_or, or_true, true_or, or_self, and_true, true_and, and_false, false_and, not_true_eq_false, not_false_eq_true, Option.bind_some, Sum.elim_inl, Sum.elim_inr, xu_set, xset_same, xset_ne, xset_2, xset_set, upd_same, upd_ne, nbI_some, ne_eq, reduceCtorEq, reduceIte, Nat.reduceAdd, Nat.reduceMul, Nat.reduceSub, Nat.add_zero, Nat.zero_add, Nat.mul_zero, Nat.zero_mul, e2, e4, e3x, ox]
theorem c_way : lh_way Inv := by
  intro x y s1 s2 hI
  obtain ⟨u0, n0, u1, n1, l, e, hA⟩ := hI
  have hN := (twn_ok u0 n0).1.1
  have hT := hA.1.2.1.1
  rcases arg_cases x (twn u0 n0).1 with ⟨a, ha, rfl⟩ | hno
  · obtain ⟨s', e', rt⟩ := isCellM_t hA.iM.1 ha
    rcases arg_cases y (twn u0 n0).1 with ⟨b, hb, rfl⟩ | hno
    · obtain ⟨s'', e'', rt'⟩ := isCellM_t rt.2.1 hb
      obtain ⟨t, et, kt⟩ := q_way hA.iF ha hb
      obtain ⟨t', et', kt'⟩ := m_way rt'.2.1 ha hb
      refine ⟨_, t, t', et, ?_, hA.mk2 (hA.iF.keep kt) kt.kf ((rt.tr rt').tr kt').1⟩
      unfold F_X9_way
      simp (disch := omega) only [↓Lm1, L0, L1, L2, L3, L4, L5, L6, L7, L8, L9, L10, L11, L12, L13, L14, L15, L16, L17, L18, L19, L20, L27, L30, L31, L35, L36, L37, L38, L39, L40, L41, L46, L48, L51, L57, L59, L60, L82, L98, L99, L100, L102, L104, L107, L110, L119, L144, L240, L255, L256, L360, L999, L1000000, nI_val, n_lt_t, n_lt_f, n_le_t, n_le_f, n_eq_t, n_eq_f, k_le_f, m_lt_t, m_lt_f, m_le_t, m_le_f, m_eq_f, m_eq_f', nI_add, nI_mulE, nI_subE, if_true, if_false, ite_true, ite_false, or_false, false_or, or_true, true_or, or_self, and_true, true_and, and_false, false_and, not_true_eq_false, not_false_eq_true, Option.bind_some, Sum.elim_inl, Sum.elim_inr, xu_set, xset_same, xset_ne, xset_2, xset_set, upd_same, upd_ne, nbI_some, ne_eq, reduceCtorEq, reduceIte, Nat.reduceAdd, Nat.reduceMul, Nat.reduceSub, Nat.add_zero, Nat.zero_add, Nat.mul_zero, Nat.zero_mul, e', e'', et']
    · obtain ⟨s'', e'', rt'⟩ := isCellM_f rt.2.1 hno
      refine ⟨-2, s1, s'', ?_, ?_, hA.mk2 hA.iF (KF.refl _) (rt.tr rt').1⟩
      · unfold F_X8_way
        simp (disch := omega) only [↓Lm1, L0, L1, L2, L3, L4, L5, L6, L7, L8, L9, L10, L11, L12, L13, L14, L15, L16, L17, L18, L19, L20, L27, L30, L31, L35, L36, L37, L38, L39, L40, L41, L46, L48, L51, L57, L59, L60, L82, L98, L99, L100, L102, L104, L107, L110, L119, L144, L240, L255, L256, L360, L999, L1000000, nI_val, n_lt_t, n_lt_f, n_le_t, n_le_f, n_eq_t, n_eq_f, k_le_f, m_lt_t, m_lt_f, m_le_t, m_le_f, m_eq_f, m_eq_f', nI_add, nI_mulE, nI_subE, if_true, if_false, ite_true, ite_false, or_false, false_or, or_true, true_or, or_self, and_true, true_and, and_false, false_and, not_true_eq_false, not_false_eq_true, Option.bind_some, Sum.elim_inl, Sum.elim_inr, xu_set, xset_same, xset_ne, xset_2, xset_set, upd_same, upd_ne, nbI_some, ne_eq, reduceCtorEq, reduceIte, Nat.reduceAdd, Nat.reduceMul, Nat.reduceSub, Nat.add_zero, Nat.zero_add, Nat.mul_zero, Nat.zero_mul, hasF_t hT.2.1 hN ha, hasF_f hT.2.1 hN hno]
      · unfold F_X9_way
        simp (disch := omega) only [↓Lm1, L0, L1, L2, L3, L4, L5, L6, L7, L8, L9, L10, L11, L12, L13, L14, L15, L16, L17, L18, L19, L20, L27, L30, L31, L35, L36, L37, L38, L39, L40, L41, L46, L48, L51, L57, L59, L60, L82, L98, L99, L100, L102, L104, L107, L110, L119, L144, L240, L255, L256, L360, L999, L1000000, nI_val, n_lt_t, n_lt_f, n_le_t, n_le_f, n_eq_t, n_eq_f, k_le_f, m_lt_t, m_lt_f, m_le_t, m_le_f, m_eq_f, m_eq_f', nI_add, nI_mulE, nI_subE, if_true, if_false, ite_true, ite_false, or_false, false_or, or_true, true_or, or_self, and_true, true_and, and_false, false_and, not_true_eq_false, not_false_eq_true, Option.bind_some, Sum.elim_inl, Sum.elim_inr, xu_set, xset_same, xset_ne, xset_2, xset_set, upd_same, upd_ne, nbI_some, ne_eq, reduceCtorEq, reduceIte, Nat.reduceAdd, Nat.reduceMul, Nat.reduceSub, Nat.add_zero, Nat.zero_add, Nat.mul_zero, Nat.zero_mul, e', e'']
  · obtain ⟨s', e', rt⟩ := isCellM_f hA.iM.1 hno
    refine ⟨-2, s1, s', ?_, ?_, hA.mk2 hA.iF (KF.refl _) rt.1⟩
    · unfold F_X8_way
      simp (disch := omega) only [↓Lm1, L0, L1, L2, L3, L4, L5, L6, L7, L8, L9, L10, L11, L12, L13, L14, L15, L16, L17, L18, L19, L20, L27, L30, L31, L35, L36, L37, L38, L39, L40, L41, L46, L48, L51, L57, L59, L60, L82, L98, L99, L100, L102, L104, L107, L110, L119, L144, L240, L255, L256, L360, L999, L1000000, nI_val, n_lt_t, n_lt_f, n_le_t, n_le_f, n_eq_t, n_eq_f, k_le_f, m_lt_t, m_lt_f, m_le_t, m_le_f, m_eq_f, m_eq_f', nI_add, nI_mulE, nI_subE, if_true, if_false, ite_true, ite_false, or_false, false_or, or_true, true_or, or_self, and_true, true_and, and_false, false_and, not_true_eq_false, not_false_eq_true, Option.bind_some, Sum.elim_inl, Sum.elim_inr, xu_set, xset_same, xset_ne, xset_2, xset_set, upd_same, upd_ne, nbI_some, ne_eq, reduceCtorEq, reduceIte, Nat.reduceAdd, Nat.reduceMul, Nat.reduceSub, Nat.add_zero, Nat.zero_add, Nat.mul_zero, Nat.zero_mul, hasF_f hT.2.1 hN hno]
    · unfold F_X9_way
      simp (disch := omega) only [↓Lm1, L0, L1, L2, L3, L4, L5, L6, L7, L8, L9, L10, L11, L12, L13, L14, L15, L16, L17, L18, L19, L20, L27, L30, L31, L35, L36, L37, L38, L39, L40, L41, L46, L48, L51, L57, L59, L60, L82, L98, L99, L100, L102, L104, L107, L110, L119, L144, L240, L255, L256, L360, L999, L1000000, nI_val, n_lt_t, n_lt_f, n_le_t, n_le_f, n_eq_t, n_eq_f, k_le_f, m_lt_t, m_lt_f, m_le_t, m_le_f, m_eq_f, m_eq_f', nI_add, nI_mulE, nI_subE, if_true, if_false, ite_true, ite_false, or_false, false_or, or_true, true_or, or_self, and_true, true_and, and_false, false_and, not_true_eq_false, not_false_eq_true, Option.bind_some, Sum.elim_inl, Sum.elim_inr, xu_set, xset_same, xset_ne, xset_2, xset_set, upd_same, upd_ne, nbI_some, ne_eq, reduceCtorEq, reduceIte, Nat.reduceAdd, Nat.reduceMul, Nat.reduceSub, Nat.add_zero, Nat.zero_add, Nat.mul_zero, Nat.zero_mul, e']
end SPEC
