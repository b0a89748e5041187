/-! ===== the deeds' text, read by the other ===== -/
theorem n_sub_neg {a b : Nat} (h : a < b) (hb : b < 2 ^ 31) : (nI a - nI b < nI 0) = True := by
  rw [i_lt, i_sub (by rw [nI_toInt hb, nI_toInt (by omega)]; omega) (by rw [nI_toInt hb, nI_toInt (by omega)]; omega), nI_toInt hb, nI_toInt (by omega), nI_toInt (by omega)]
  exact eq_true (by omega)
theorem inM_t {a l h : Nat} {s : xS} (h1 : l ≤ a) (h2 : a ≤ h) (hh : h < 2 ^ 31) : F_X9_in (nI a) (nI l) (nI h) s = some (nI 1) := in_yes (nI_nlt h1 (by omega)) (nI_nlt h2 hh)
theorem inM_lo {x : Int32} {l h : Nat} {s : xS} (h1 : x < nI l) : F_X9_in x (nI l) (nI h) s = some (nI 0) := in_lo h1
theorem inM_hi {a l h : Nat} {s : xS} (h1 : l ≤ a) (h2 : h < a) (ha : a < 2 ^ 31) : F_X9_in (nI a) (nI l) (nI h) s = some (nI 0) := in_hi (nI_nlt h1 ha) (nI_lt h2 ha)
/-- the reference's text of deeds -/
def DtM (u : Nat → Nat) (n : Nat) (s : xS) : Prop := s.1 1 1 = nI n ∧ ∀ j, j < n → u j < 256 ∧ s.1 2 (41 + j) = nI (u j)
theorem byteM {u : Nat → Nat} {n k : Nat} {s : xS} (hn : n ≤ 39) (h : DtM u n s) (hk : k < 50) : F_X9_byteAt (nI 1) (nI k) s = some (if k < n then nI (u k) else nbI none) := by
  unfold F_X9_byteAt
  by_cases c : k < n
  · simp (disch := omega) only [↓Lm1, L0, L1, L2, L3, L4, L5, L6, L7, L8, L9, L10, L11, L12, L13, L14, L15, L16, L17, L18, L19, L20, L27, L30, L31, L35, L36, L37, L38, L39, L40, L41, L46, L48, L51, L57, L59, L60, L82, L98, L99, L100, L102, L104, L107, L110, L119, L144, L240, L255, L256, L360, L999, L1000000, nI_val, n_lt_t, n_lt_f, n_le_t, n_le_f, n_eq_t, n_eq_f, k_le_f, m_lt_t, m_lt_f, m_le_t, m_le_f, m_eq_f, m_eq_f', nI_add, nI_mulE, nI_subE, if_true, if_false, ite_true, ite_false, or_false, false_or, or_true, true_or, or_self, and_true, true_and, and_false, false_and, not_true_eq_false, not_false_eq_true, Option.bind_some, Sum.elim_inl, Sum.elim_inr, xu_set, xset_same, xset_ne, xset_2, xset_set, upd_same, upd_ne, nbI_some, ne_eq, reduceCtorEq, reduceIte, Nat.reduceAdd, Nat.reduceMul, Nat.reduceSub, Nat.add_zero, Nat.zero_add, Nat.mul_zero, Nat.zero_mul, h.1, c, (h.2 k c).2]
  · simp (disch := omega) only [↓Lm1, L0, L1, L2, L3, L4, L5, L6, L7, L8, L9, L10, L11, L12, L13, L14, L15, L16, L17, L18, L19, L20, L27, L30, L31, L35, L36, L37, L38, L39, L40, L41, L46, L48, L51, L57, L59, L60, L82, L98, L99, L100, L102, L104, L107, L110, L119, L144, L240, L255, L256, L360, L999, L1000000, nI_val, n_lt_t, n_lt_f, n_le_t, n_le_f, n_eq_t, n_eq_f, k_le_f, m_lt_t, m_lt_f, m_le_t, m_le_f, m_eq_f, m_eq_f', nI_add, nI_mulE, nI_subE, if_true, if_false, ite_true, ite_false, or_false, false_or, or_true, true_or, or_self, and_true, true_and, and_false, false_and, not_true_eq_false, not_false_eq_true, Option.bind_some, Sum.elim_inl, Sum.elim_inr, xu_set, xset_same, xset_ne, xset_2, xset_set, upd_same, upd_ne, nbI_some, ne_eq, reduceCtorEq, reduceIte, Nat.reduceAdd, Nat.reduceMul, Nat.reduceSub, Nat.add_zero, Nat.zero_add, Nat.mul_zero, Nat.zero_mul, h.1, c]
def fig (u : Nat → Nat) (n k h : Nat) : Option Nat := if k < n ∧ 48 ≤ u k ∧ u k ≤ 48 + h then some (u k - 48) else none
theorem figM {u : Nat → Nat} {n k h : Nat} {s : xS} (hn : n ≤ 39) (hD : DtM u n s) (hk : k < 50) (hh : h < 10) : F_X9_figureAt (nI k) (nI h) s = some (nbI (fig u n k h)) := by
  unfold F_X9_figureAt fig
  simp (disch := omega) only [↓Lm1, L0, L1, L2, L3, L4, L5, L6, L7, L8, L9, L10, L11, L12, L13, L14, L15, L16, L17, L18, L19, L20, L27, L30, L31, L35, L36, L37, L38, L39, L40, L41, L46, L48, L51, L57, L59, L60, L82, L98, L99, L100, L102, L104, L107, L110, L119, L144, L240, L255, L256, L360, L999, L1000000, nI_val, n_lt_t, n_lt_f, n_le_t, n_le_f, n_eq_t, n_eq_f, k_le_f, m_lt_t, m_lt_f, m_le_t, m_le_f, m_eq_f, m_eq_f', nI_add, nI_mulE, nI_subE, if_true, if_false, ite_true, ite_false, or_false, false_or, or_true, true_or, or_self, and_true, true_and, and_false, false_and, not_true_eq_false, not_false_eq_true, Option.bind_some, Sum.elim_inl, Sum.elim_inr, xu_set, xset_same, xset_ne, xset_2, xset_set, upd_same, upd_ne, nbI_some, ne_eq, reduceCtorEq, reduceIte, Nat.reduceAdd, Nat.reduceMul, Nat.reduceSub, Nat.add_zero, Nat.zero_add, Nat.mul_zero, Nat.zero_mul, byteM hn hD hk]
  by_cases c : k < n
  · have hu := (hD.2 k c).1
    by_cases c1 : u k < 48
    · have q := inM_lo (h := h) (s := s) (of_eq_true (n_sub_neg c1 (by omega)))
      simp (disch := omega) only [↓Lm1, L0, L1, L2, L3, L4, L5, L6, L7, L8, L9, L10, L11, L12, L13, L14, L15, L16, L17, L18, L19, L20, L27, L30, L31, L35, L36, L37, L38, L39, L40, L41, L46, L48, L51, L57, L59, L60, L82, L98, L99, L100, L102, L104, L107, L110, L119, L144, L240, L255, L256, L360, L999, L1000000, nI_val, n_lt_t, n_lt_f, n_le_t, n_le_f, n_eq_t, n_eq_f, k_le_f, m_lt_t, m_lt_f, m_le_t, m_le_f, m_eq_f, m_eq_f', nI_add, nI_mulE, nI_subE, if_true, if_false, ite_true, ite_false, or_false, false_or, or_true, true_or, or_self, and_true, true_and, and_false, false_and, not_true_eq_false, not_false_eq_true, Option.bind_some, Sum.elim_inl, Sum.elim_inr, xu_set, xset_same, xset_ne, xset_2, xset_set, upd_same, upd_ne, nbI_some, ne_eq, reduceCtorEq, reduceIte, Nat.reduceAdd, Nat.reduceMul, Nat.reduceSub, Nat.add_zero, Nat.zero_add, Nat.mul_zero, Nat.zero_mul, c, q, show ¬ 48 ≤ u k by omega]
    · by_cases c2 : u k ≤ 48 + h
      · have q : F_X9_in (nI (u k - 48)) (nI 0) (nI h) s = some (nI 1) := inM_t (by omega) (by omega) (by omega)
        simp (disch := omega) only [↓Lm1, L0, L1, L2, L3, L4, L5, L6, L7, L8, L9, L10, L11, L12, L13, L14, L15, L16, L17, L18, L19, L20, L27, L30, L31, L35, L36, L37, L38, L39, L40, L41, L46, L48, L51, L57, L59, L60, L82, L98, L99, L100, L102, L104, L107, L110, L119, L144, L240, L255, L256, L360, L999, L1000000, nI_val, n_lt_t, n_lt_f, n_le_t, n_le_f, n_eq_t, n_eq_f, k_le_f, m_lt_t, m_lt_f, m_le_t, m_le_f, m_eq_f, m_eq_f', nI_add, nI_mulE, nI_subE, if_true, if_false, ite_true, ite_false, or_false, false_or, or_true, true_or, or_self, and_true, true_and, and_false, false_and, not_true_eq_false, not_false_eq_true, Option.bind_some, Sum.elim_inl, Sum.elim_inr, xu_set, xset_same, xset_ne, xset_2, xset_set, upd_same, upd_ne, nbI_some, ne_eq, reduceCtorEq, reduceIte, Nat.reduceAdd, Nat.reduceMul, Nat.reduceSub, Nat.add_zero, Nat.zero_add, Nat.mul_zero, Nat.zero_mul, c, show 48 ≤ u k by omega, c2, q]
      · have q : F_X9_in (nI (u k - 48)) (nI 0) (nI h) s = some (nI 0) := inM_hi (by omega) (by omega) (by omega)
        simp (disch := omega) only [↓Lm1, L0, L1, L2, L3, L4, L5, L6, L7, L8, L9, L10, L11, L12, L13, L14, L15, L16, L17, L18, L19, L20, L27, L30, L31, L35, L36, L37, L38, L39, L40, L41, L46, L48, L51, L57, L59, L60, L82, L98, L99, L100, L102, L104, L107, L110, L119, L144, L240, L255, L256, L360, L999, L1000000, nI_val, n_lt_t, n_lt_f, n_le_t, n_le_f, n_eq_t, n_eq_f, k_le_f, m_lt_t, m_lt_f, m_le_t, m_le_f, m_eq_f, m_eq_f', nI_add, nI_mulE, nI_subE, if_true, if_false, ite_true, ite_false, or_false, false_or, or_true, true_or, or_self, and_true, true_and, and_false, false_and, not_true_eq_false, not_false_eq_true, Option.bind_some, Sum.elim_inl, Sum.elim_inr, xu_set, xset_same, xset_ne, xset_2, xset_set, upd_same, upd_ne, nbI_some, ne_eq, reduceCtorEq, reduceIte, Nat.reduceAdd, Nat.reduceMul, Nat.reduceSub, Nat.add_zero, Nat.zero_add, Nat.mul_zero, Nat.zero_mul, c, show 48 ≤ u k by omega, c2, q]
  · have q : F_X9_in (nbI none - nI 48) (nI 0) (nI h) s = some (nI 0) := inM_lo (by show (-1 : Int32) - nI 48 < nI 0; decide)
    simp (disch := omega) only [↓Lm1, L0, L1, L2, L3, L4, L5, L6, L7, L8, L9, L10, L11, L12, L13, L14, L15, L16, L17, L18, L19, L20, L27, L30, L31, L35, L36, L37, L38, L39, L40, L41, L46, L48, L51, L57, L59, L60, L82, L98, L99, L100, L102, L104, L107, L110, L119, L144, L240, L255, L256, L360, L999, L1000000, nI_val, n_lt_t, n_lt_f, n_le_t, n_le_f, n_eq_t, n_eq_f, k_le_f, m_lt_t, m_lt_f, m_le_t, m_le_f, m_eq_f, m_eq_f', nI_add, nI_mulE, nI_subE, if_true, if_false, ite_true, ite_false, or_false, false_or, or_true, true_or, or_self, and_true, true_and, and_false, false_and, not_true_eq_false, not_false_eq_true, Option.bind_some, Sum.elim_inl, Sum.elim_inr, xu_set, xset_same, xset_ne, xset_2, xset_set, upd_same, upd_ne, nbI_some, ne_eq, reduceCtorEq, reduceIte, Nat.reduceAdd, Nat.reduceMul, Nat.reduceSub, Nat.add_zero, Nat.zero_add, Nat.mul_zero, Nat.zero_mul, c, q]
theorem dflt_bad {u : Nat → Nat} {n p : Nat} (h : ∀ j, j < p → dok (u j) (j % 5) = true) (hp : p ≤ n) (h1 : p < n → ¬ dok (u p) (p % 5) = true) (h2 : p = n → n ≠ 0 ∧ n % 5 ≠ 4) : dflt u n = some p := by
  unfold dflt
  by_cases e : p = n
  · subst e
    rw [dft_of h]
    have := h2 rfl
    exact if_neg (by omega)
  · rw [dft_some (dft_of h) (h1 (by omega)) n (by omega)]
theorem dok_n0 {u : Nat} (h : ¬ (48 ≤ u ∧ u ≤ 51)) : ¬ dok u 0 = true := fun q => h (dok_0 q)
theorem dok_n1 {u : Nat} (h : ¬ (48 ≤ u ∧ u ≤ 57)) : ¬ dok u 1 = true := fun q => h (dok_1 q)
theorem dok_n3 {u : Nat} (h : ¬ (48 ≤ u ∧ u ≤ 57)) : ¬ dok u 3 = true := fun q => h (dok_3 q)
theorem dok_n4 {u : Nat} (h : ¬ u = 59) : ¬ dok u 4 = true := fun q => h (dok_4 q)
theorem dok_n2 {u : Nat} (h : acN u = none) : ¬ dok u 2 = true := fun q => by obtain ⟨k, _, e⟩ := dok_2 q; rw [h] at e; cases e
theorem dok_y0 {u : Nat} (h : 48 ≤ u ∧ u ≤ 51) : dok u 0 = true := by simp [dok, h]
theorem dok_y1 {u : Nat} (h : 48 ≤ u ∧ u ≤ 57) : dok u 1 = true := by simp [dok, h]
theorem dok_y3 {u : Nat} (h : 48 ≤ u ∧ u ≤ 57) : dok u 3 = true := by simp [dok, h]
theorem dok_y4 {u : Nat} (h : u = 59) : dok u 4 = true := by simp [dok, h]
theorem dok_y2 {u k : Nat} (h : acN u = some k) : dok u 2 = true := by simp [dok, h]
theorem ext1 {P : Nat → Prop} {a : Nat} (h : ∀ j, j < a → P j) (h1 : P a) : ∀ j, j < a + 1 → P j := fun j hj => by
  by_cases e : j = a
  · rw [e]; exact h1
  · exact h j (by omega)
/-- readsDeed: how many of the four signs stand -/
theorem readsM {u : Nat → Nat} {n i : Nat} {s : xS} (hn : n ≤ 39) (hD : DtM u n s) (hi : i < 8) (hin : i * 5 ≤ n) (h0 : 0 < n) (hg : ∀ j, j < i * 5 → dok (u j) (j % 5) = true) :
    (∃ g, g < 4 ∧ F_X9_readsDeed (nI i) (nI (i * 5)) s = some (nI g, s) ∧ dflt u n = some (i * 5 + g)) ∨ (i * 5 + 4 ≤ n ∧ (∀ j, j < i * 5 + 4 → dok (u j) (j % 5) = true) ∧ F_X9_readsDeed (nI i) (nI (i * 5)) s = some (nI 4, xset (xset (xset s 4 (upd (s.1 4) i (nI ((u (i * 5) - 48) * 10 + (u (i * 5 + 1) - 48))))) 5 (upd (s.1 5) i (nI ((acN (u (i * 5 + 2))).getD 0)))) 6 (upd (s.1 6) i (nI (u (i * 5 + 3) - 48))))) := by
  have f0 := figM (k := i * 5) (h := 3) hn hD (by omega) (by omega)
  have f1 := figM (k := i * 5 + 1) (h := 9) hn hD (by omega) (by omega)
  have f2 := byteM (k := i * 5 + 2) hn hD (by omega)
  have f3 := figM (k := i * 5 + 3) (h := 9) hn hD (by omega) (by omega)
  have hsp : F_X9_readsDeed (nI i) (nI (i * 5)) s = F_X9_readsDeed_J73 (nI i) (nI (i * 5)) (nbI (fig u n (i * 5) 3)) (nbI (fig u n (i * 5 + 1) 9)) (nbI (if i * 5 + 2 < n then acN (u (i * 5 + 2)) else none)) s := by
    unfold F_X9_readsDeed
    simp (disch := omega) only [↓Lm1, L0, L1, L2, L3, L4, L5, L6, L7, L8, L9, L10, L11, L12, L13, L14, L15, L16, L17, L18, L19, L20, L27, L30, L31, L35, L36, L37, L38, L39, L40, L41, L46, L48, L51, L57, L59, L60, L82, L98, L99, L100, L102, L104, L107, L110, L119, L144, L240, L255, L256, L360, L999, L1000000, nI_val, n_lt_t, n_lt_f, n_le_t, n_le_f, n_eq_t, n_eq_f, k_le_f, m_lt_t, m_lt_f, m_le_t, m_le_f, m_eq_f, m_eq_f', nI_add, nI_mulE, nI_subE, if_true, if_false, ite_true, ite_false, or_false, false_or, or_true, true_or, or_self, and_true, true_and, and_false, false_and, not_true_eq_false, not_false_eq_true, Option.bind_some, Sum.elim_inl, Sum.elim_inr, xu_set, xset_same, xset_ne, xset_2, xset_set, upd_same, upd_ne, nbI_some, ne_eq, reduceCtorEq, reduceIte, Nat.reduceAdd, Nat.reduceMul, Nat.reduceSub, Nat.add_zero, Nat.zero_add, Nat.mul_zero, Nat.zero_mul, f0, f1, f2]
    by_cases c : i * 5 + 2 < n
    · simp only [c, if_true]
      have hu := (hD.2 _ c).1
      unfold acN
      by_cases h1 : u (i * 5 + 2) = 119
      · simp (disch := omega) only [↓Lm1, L0, L1, L2, L3, L4, L5, L6, L7, L8, L9, L10, L11, L12, L13, L14, L15, L16, L17, L18, L19, L20, L27, L30, L31, L35, L36, L37, L38, L39, L40, L41, L46, L48, L51, L57, L59, L60, L82, L98, L99, L100, L102, L104, L107, L110, L119, L144, L240, L255, L256, L360, L999, L1000000, nI_val, n_lt_t, n_lt_f, n_le_t, n_le_f, n_eq_t, n_eq_f, k_le_f, m_lt_t, m_lt_f, m_le_t, m_le_f, m_eq_f, m_eq_f', nI_add, nI_mulE, nI_subE, if_true, if_false, ite_true, ite_false, or_false, false_or, or_true, true_or, or_self, and_true, true_and, and_false, false_and, not_true_eq_false, not_false_eq_true, Option.bind_some, Sum.elim_inl, Sum.elim_inr, xu_set, xset_same, xset_ne, xset_2, xset_set, upd_same, upd_ne, nbI_some, ne_eq, reduceCtorEq, reduceIte, Nat.reduceAdd, Nat.reduceMul, Nat.reduceSub, Nat.add_zero, Nat.zero_add, Nat.mul_zero, Nat.zero_mul, h1]
      · by_cases h2 : u (i * 5 + 2) = 99
        · simp only [h2]
          rfl
        · by_cases h3 : u (i * 5 + 2) = 107
          · simp only [h3]
            rfl
          · by_cases h4 : u (i * 5 + 2) = 110
            · simp only [h4]
              rfl
            · simp (disch := omega) only [↓Lm1, L0, L1, L2, L3, L4, L5, L6, L7, L8, L9, L10, L11, L12, L13, L14, L15, L16, L17, L18, L19, L20, L27, L30, L31, L35, L36, L37, L38, L39, L40, L41, L46, L48, L51, L57, L59, L60, L82, L98, L99, L100, L102, L104, L107, L110, L119, L144, L240, L255, L256, L360, L999, L1000000, nI_val, n_lt_t, n_lt_f, n_le_t, n_le_f, n_eq_t, n_eq_f, k_le_f, m_lt_t, m_lt_f, m_le_t, m_le_f, m_eq_f, m_eq_f', nI_add, nI_mulE, nI_subE, if_true, if_false, ite_true, ite_false, or_false, false_or, or_true, true_or, or_self, and_true, true_and, and_false, false_and, not_true_eq_false, not_false_eq_true, Option.bind_some, Sum.elim_inl, Sum.elim_inr, xu_set, xset_same, xset_ne, xset_2, xset_set, upd_same, upd_ne, nbI_some, ne_eq, reduceCtorEq, reduceIte, Nat.reduceAdd, Nat.reduceMul, Nat.reduceSub, Nat.add_zero, Nat.zero_add, Nat.mul_zero, Nat.zero_mul, h1, h2, h3, h4]
    · simp (disch := omega) only [↓Lm1, L0, L1, L2, L3, L4, L5, L6, L7, L8, L9, L10, L11, L12, L13, L14, L15, L16, L17, L18, L19, L20, L27, L30, L31, L35, L36, L37, L38, L39, L40, L41, L46, L48, L51, L57, L59, L60, L82, L98, L99, L100, L102, L104, L107, L110, L119, L144, L240, L255, L256, L360, L999, L1000000, nI_val, n_lt_t, n_lt_f, n_le_t, n_le_f, n_eq_t, n_eq_f, k_le_f, m_lt_t, m_lt_f, m_le_t, m_le_f, m_eq_f, m_eq_f', nI_add, nI_mulE, nI_subE, if_true, if_false, ite_true, ite_false, or_false, false_or, or_true, true_or, or_self, and_true, true_and, and_false, false_and, not_true_eq_false, not_false_eq_true, Option.bind_some, Sum.elim_inl, Sum.elim_inr, xu_set, xset_same, xset_ne, xset_2, xset_set, upd_same, upd_ne, nbI_some, ne_eq, reduceCtorEq, reduceIte, Nat.reduceAdd, Nat.reduceMul, Nat.reduceSub, Nat.add_zero, Nat.zero_add, Nat.mul_zero, Nat.zero_mul, c]
  rw [hsp]
  unfold F_X9_readsDeed_J73
  simp (disch := omega) only [↓Lm1, L0, L1, L2, L3, L4, L5, L6, L7, L8, L9, L10, L11, L12, L13, L14, L15, L16, L17, L18, L19, L20, L27, L30, L31, L35, L36, L37, L38, L39, L40, L41, L46, L48, L51, L57, L59, L60, L82, L98, L99, L100, L102, L104, L107, L110, L119, L144, L240, L255, L256, L360, L999, L1000000, nI_val, n_lt_t, n_lt_f, n_le_t, n_le_f, n_eq_t, n_eq_f, k_le_f, m_lt_t, m_lt_f, m_le_t, m_le_f, m_eq_f, m_eq_f', nI_add, nI_mulE, nI_subE, if_true, if_false, ite_true, ite_false, or_false, false_or, or_true, true_or, or_self, and_true, true_and, and_false, false_and, not_true_eq_false, not_false_eq_true, Option.bind_some, Sum.elim_inl, Sum.elim_inr, xu_set, xset_same, xset_ne, xset_2, xset_set, upd_same, upd_ne, nbI_some, ne_eq, reduceCtorEq, reduceIte, Nat.reduceAdd, Nat.reduceMul, Nat.reduceSub, Nat.add_zero, Nat.zero_add, Nat.mul_zero, Nat.zero_mul, f3]
  by_cases c0 : i * 5 < n ∧ 48 ≤ u (i * 5) ∧ u (i * 5) ≤ 48 + 3
  · have e0 : fig u n (i * 5) 3 = some (u (i * 5) - 48) := if_pos c0
    have w0 := (hD.2 _ c0.1).1
    have g0 := ext1 hg (show dok (u (i * 5)) (i * 5 % 5) = true by rw [show i * 5 % 5 = 0 by omega]; exact dok_y0 (by omega))
    by_cases c1 : i * 5 + 1 < n ∧ 48 ≤ u (i * 5 + 1) ∧ u (i * 5 + 1) ≤ 48 + 9
    · have e1 : fig u n (i * 5 + 1) 9 = some (u (i * 5 + 1) - 48) := if_pos c1
      have w1 := (hD.2 _ c1.1).1
      have g1 := ext1 g0 (show dok (u (i * 5 + 1)) ((i * 5 + 1) % 5) = true by rw [show (i * 5 + 1) % 5 = 1 by omega]; exact dok_y1 (by omega))
      by_cases c2 : i * 5 + 2 < n ∧ acN (u (i * 5 + 2)) ≠ none
      · obtain ⟨k, hk⟩ := Option.ne_none_iff_exists'.mp c2.2
        have hk3 := acN_le hk
        have g2 := ext1 g1 (show dok (u (i * 5 + 2)) ((i * 5 + 2) % 5) = true by rw [show (i * 5 + 2) % 5 = 2 by omega]; exact dok_y2 hk)
        by_cases c3 : i * 5 + 3 < n ∧ 48 ≤ u (i * 5 + 3) ∧ u (i * 5 + 3) ≤ 48 + 9
        · have e3 : fig u n (i * 5 + 3) 9 = some (u (i * 5 + 3) - 48) := if_pos c3
          have w3 := (hD.2 _ c3.1).1
          have g3 := ext1 g2 (show dok (u (i * 5 + 3)) ((i * 5 + 3) % 5) = true by rw [show (i * 5 + 3) % 5 = 3 by omega]; exact dok_y3 (by omega))
          right
          refine ⟨by omega, g3, ?_⟩
          simp (disch := omega) only [↓Lm1, L0, L1, L2, L3, L4, L5, L6, L7, L8, L9, L10, L11, L12, L13, L14, L15, L16, L17, L18, L19, L20, L27, L30, L31, L35, L36, L37, L38, L39, L40, L41, L46, L48, L51, L57, L59, L60, L82, L98, L99, L100, L102, L104, L107, L110, L119, L144, L240, L255, L256, L360, L999, L1000000, nI_val, n_lt_t, n_lt_f, n_le_t, n_le_f, n_eq_t, n_eq_f, k_le_f, m_lt_t, m_lt_f, m_le_t, m_le_f, m_eq_f, m_eq_f', nI_add, nI_mulE, nI_subE, if_true, if_false, ite_true, ite_false, or_false, false_or, or_true, true_or, or_self, and_true, true_and, and_false, false_and, not_true_eq_false, not_false_eq_true, Option.bind_some, Sum.elim_inl, Sum.elim_inr, xu_set, xset_same, xset_ne, xset_2, xset_set, upd_same, upd_ne, nbI_some, ne_eq, reduceCtorEq, reduceIte, Nat.reduceAdd, Nat.reduceMul, Nat.reduceSub, Nat.add_zero, Nat.zero_add, Nat.mul_zero, Nat.zero_mul, e0, e1, e3, c2.1, hk, Option.getD_some]
          rw [show 10 * (u (i * 5) - 48) = (u (i * 5) - 48) * 10 by omega]
        · left
          have e3 : fig u n (i * 5 + 3) 9 = none := if_neg c3
          refine ⟨3, by omega, ?_, dflt_bad g2 (by omega) (fun q => ?_) (by omega)⟩
          · simp (disch := omega) only [↓Lm1, L0, L1, L2, L3, L4, L5, L6, L7, L8, L9, L10, L11, L12, L13, L14, L15, L16, L17, L18, L19, L20, L27, L30, L31, L35, L36, L37, L38, L39, L40, L41, L46, L48, L51, L57, L59, L60, L82, L98, L99, L100, L102, L104, L107, L110, L119, L144, L240, L255, L256, L360, L999, L1000000, nI_val, n_lt_t, n_lt_f, n_le_t, n_le_f, n_eq_t, n_eq_f, k_le_f, m_lt_t, m_lt_f, m_le_t, m_le_f, m_eq_f, m_eq_f', nI_add, nI_mulE, nI_subE, if_true, if_false, ite_true, ite_false, or_false, false_or, or_true, true_or, or_self, and_true, true_and, and_false, false_and, not_true_eq_false, not_false_eq_true, Option.bind_some, Sum.elim_inl, Sum.elim_inr, xu_set, xset_same, xset_ne, xset_2, xset_set, upd_same, upd_ne, nbI_some, ne_eq, reduceCtorEq, reduceIte, Nat.reduceAdd, Nat.reduceMul, Nat.reduceSub, Nat.add_zero, Nat.zero_add, Nat.mul_zero, Nat.zero_mul, e0, e1, e3, c2.1, hk]
          · rw [show (i * 5 + 3) % 5 = 3 by omega]; exact dok_n3 (fun z => c3 ⟨by omega, by omega, by omega⟩)
      · left
        have e2 : (if i * 5 + 2 < n then acN (u (i * 5 + 2)) else none) = none := by
          by_cases q : i * 5 + 2 < n
          · rw [if_pos q]
            exact Classical.byContradiction fun z => c2 ⟨q, z⟩
          · rw [if_neg q]
        refine ⟨2, by omega, ?_, dflt_bad g1 (by omega) (fun q => ?_) (by omega)⟩
        · simp (disch := omega) only [↓Lm1, L0, L1, L2, L3, L4, L5, L6, L7, L8, L9, L10, L11, L12, L13, L14, L15, L16, L17, L18, L19, L20, L27, L30, L31, L35, L36, L37, L38, L39, L40, L41, L46, L48, L51, L57, L59, L60, L82, L98, L99, L100, L102, L104, L107, L110, L119, L144, L240, L255, L256, L360, L999, L1000000, nI_val, n_lt_t, n_lt_f, n_le_t, n_le_f, n_eq_t, n_eq_f, k_le_f, m_lt_t, m_lt_f, m_le_t, m_le_f, m_eq_f, m_eq_f', nI_add, nI_mulE, nI_subE, if_true, if_false, ite_true, ite_false, or_false, false_or, or_true, true_or, or_self, and_true, true_and, and_false, false_and, not_true_eq_false, not_false_eq_true, Option.bind_some, Sum.elim_inl, Sum.elim_inr, xu_set, xset_same, xset_ne, xset_2, xset_set, upd_same, upd_ne, nbI_some, ne_eq, reduceCtorEq, reduceIte, Nat.reduceAdd, Nat.reduceMul, Nat.reduceSub, Nat.add_zero, Nat.zero_add, Nat.mul_zero, Nat.zero_mul, e0, e1, e2]
        · rw [show (i * 5 + 2) % 5 = 2 by omega]; exact dok_n2 (by rw [if_pos q] at e2; exact e2)
    · left
      have e1 : fig u n (i * 5 + 1) 9 = none := if_neg c1
      refine ⟨1, by omega, ?_, dflt_bad g0 (by omega) (fun q => ?_) (by omega)⟩
      · simp (disch := omega) only [↓Lm1, L0, L1, L2, L3, L4, L5, L6, L7, L8, L9, L10, L11, L12, L13, L14, L15, L16, L17, L18, L19, L20, L27, L30, L31, L35, L36, L37, L38, L39, L40, L41, L46, L48, L51, L57, L59, L60, L82, L98, L99, L100, L102, L104, L107, L110, L119, L144, L240, L255, L256, L360, L999, L1000000, nI_val, n_lt_t, n_lt_f, n_le_t, n_le_f, n_eq_t, n_eq_f, k_le_f, m_lt_t, m_lt_f, m_le_t, m_le_f, m_eq_f, m_eq_f', nI_add, nI_mulE, nI_subE, if_true, if_false, ite_true, ite_false, or_false, false_or, or_true, true_or, or_self, and_true, true_and, and_false, false_and, not_true_eq_false, not_false_eq_true, Option.bind_some, Sum.elim_inl, Sum.elim_inr, xu_set, xset_same, xset_ne, xset_2, xset_set, upd_same, upd_ne, nbI_some, ne_eq, reduceCtorEq, reduceIte, Nat.reduceAdd, Nat.reduceMul, Nat.reduceSub, Nat.add_zero, Nat.zero_add, Nat.mul_zero, Nat.zero_mul, e0, e1]
      · rw [show (i * 5 + 1) % 5 = 1 by omega]; exact dok_n1 (fun z => c1 ⟨by omega, by omega, by omega⟩)
  · left
    have e0 : fig u n (i * 5) 3 = none := if_neg c0
    refine ⟨0, by omega, ?_, dflt_bad hg hin (fun q => ?_) (by omega)⟩
    · simp (disch := omega) only [↓Lm1, L0, L1, L2, L3, L4, L5, L6, L7, L8, L9, L10, L11, L12, L13, L14, L15, L16, L17, L18, L19, L20, L27, L30, L31, L35, L36, L37, L38, L39, L40, L41, L46, L48, L51, L57, L59, L60, L82, L98, L99, L100, L102, L104, L107, L110, L119, L144, L240, L255, L256, L360, L999, L1000000, nI_val, n_lt_t, n_lt_f, n_le_t, n_le_f, n_eq_t, n_eq_f, k_le_f, m_lt_t, m_lt_f, m_le_t, m_le_f, m_eq_f, m_eq_f', nI_add, nI_mulE, nI_subE, if_true, if_false, ite_true, ite_false, or_false, false_or, or_true, true_or, or_self, and_true, true_and, and_false, false_and, not_true_eq_false, not_false_eq_true, Option.bind_some, Sum.elim_inl, Sum.elim_inr, xu_set, xset_same, xset_ne, xset_2, xset_set, upd_same, upd_ne, nbI_some, ne_eq, reduceCtorEq, reduceIte, Nat.reduceAdd, Nat.reduceMul, Nat.reduceSub, Nat.add_zero, Nat.zero_add, Nat.mul_zero, Nat.zero_mul, e0]
    · show ¬ dok (u (i * 5)) (i * 5 % 5) = true
      rw [show i * 5 % 5 = 0 by omega]; exact dok_n0 (fun z => c0 ⟨by omega, by omega, by omega⟩)
def DdM (d : DD) (s : xS) : Prop := s.1 0 5 = nI d.1 ∧ DdR d (s.1 4) (s.1 5) (s.1 6)
theorem deedsM {u : Nat → Nat} {n : Nat} {s : xS} (hn : n ≤ 39) (hD : DtM u n s) :
    ∃ s', F_X9_readsDeeds s = some (nbI (dflt u n), s') ∧ KR [4, 5, 6] [5] s s' ∧ DdM (ddat u n) s' := by
  have hDk : ∀ s', KR [4, 5, 6] [5] s s' → DtM u n s' := fun s' k => ⟨by rw [k.1 1 (by decide) (by decide)]; exact hD.1, fun j hj => by rw [k.1 2 (by decide) (by decide)]; exact hD.2 j hj⟩
  generalize hDd : ddat u n = D
  refine Exists.elim (xlp_cnt (f := F_X9_readsDeeds_L9) (fun i a => a.1 = nI i ∧ a.2.1 = nI (i * 5) ∧ i * 5 ≤ n ∧ (∀ j, j < i * 5 → dok (u j) (j % 5) = true) ∧ KR [4, 5, 6] [5] s a.2.2 ∧ a.2.2.1 0 5 = nI 0 ∧ ∀ j, j < i → a.2.2.1 4 j = nI (D.2.1 j) ∧ a.2.2.1 5 j = nI (D.2.2.1 j) ∧ a.2.2.1 6 j = nI (D.2.2.2 j)) (fun b => match b with
    | .inl q => ∃ p, q.1 + q.2.1 = nI p ∧ dflt u n = some p ∧ KR [4, 5, 6] [5] s q.2.2 ∧ q.2.2.1 0 5 = nI 0
    | .inr (.inl q) => dflt u n = none ∧ q.1 = nI ((n + 1) / 5) ∧ KR [4, 5, 6] [5] s q.2 ∧ ∀ j, j < (n + 1) / 5 → q.2.1 4 j = nI (D.2.1 j) ∧ q.2.1 5 j = nI (D.2.2.1 j) ∧ q.2.1 6 j = nI (D.2.2.2 j)
    | .inr (.inr (.inl q)) => ∃ p, q.1 = nI p ∧ dflt u n = some p ∧ KR [4, 5, 6] [5] s q.2 ∧ q.2.1 0 5 = nI 0
    | .inr (.inr (.inr q)) => n = 0 ∧ KR [4, 5, 6] [5] s q ∧ q.1 0 5 = nI 0) 8 (by omega) ?_ ?_ (a := (0, 0, xu s 0 5 0)) ⟨rfl, rfl, Nat.zero_le n, fun j hj => absurd hj (by omega), ?_, ?_, fun j hj => absurd hj (Nat.not_lt_zero j)⟩) ?_
  · intro i a hi ⟨ha1, ha2, hin, hg, hK, h5, hr⟩
    obtain ⟨a1, a2, s'⟩ := a
    dsimp only at ha1 ha2 hK h5 hr
    subst ha1; subst ha2
    have hDs := hDk s' hK
    by_cases n0 : n = 0
    · right
      refine ⟨.inr (.inr (.inr s')), ?_, n0, hK, h5⟩
      unfold F_X9_readsDeeds_L9
      simp (disch := omega) only [↓Lm1, L0, L1, L2, L3, L4, L5, L6, L7, L8, L9, L10, L11, L12, L13, L14, L15, L16, L17, L18, L19, L20, L27, L30, L31, L35, L36, L37, L38, L39, L40, L41, L46, L48, L51, L57, L59, L60, L82, L98, L99, L100, L102, L104, L107, L110, L119, L144, L240, L255, L256, L360, L999, L1000000, nI_val, n_lt_t, n_lt_f, n_le_t, n_le_f, n_eq_t, n_eq_f, k_le_f, m_lt_t, m_lt_f, m_le_t, m_le_f, m_eq_f, m_eq_f', nI_add, nI_mulE, nI_subE, if_true, if_false, ite_true, ite_false, or_false, false_or, or_true, true_or, or_self, and_true, true_and, and_false, false_and, not_true_eq_false, not_false_eq_true, Option.bind_some, Sum.elim_inl, Sum.elim_inr, xu_set, xset_same, xset_ne, xset_2, xset_set, upd_same, upd_ne, nbI_some, ne_eq, reduceCtorEq, reduceIte, Nat.reduceAdd, Nat.reduceMul, Nat.reduceSub, Nat.add_zero, Nat.zero_add, Nat.mul_zero, Nat.zero_mul, hDs.1, n0]
    · have hJ : F_X9_readsDeeds_L9 (nI i, nI (i * 5), s') = (F_X9_readsDeed (nI i) (nI (i * 5)) s').bind fun q8 => (F_X9_readsDeeds_L9_J39 (nI i) (nI (i * 5)) q8.1 q8.2) := by
        unfold F_X9_readsDeeds_L9 F_X9_readsDeeds_L9_J23
        by_cases c : i * 5 < n
        · simp (disch := omega) only [↓Lm1, L0, L1, L2, L3, L4, L5, L6, L7, L8, L9, L10, L11, L12, L13, L14, L15, L16, L17, L18, L19, L20, L27, L30, L31, L35, L36, L37, L38, L39, L40, L41, L46, L48, L51, L57, L59, L60, L82, L98, L99, L100, L102, L104, L107, L110, L119, L144, L240, L255, L256, L360, L999, L1000000, nI_val, n_lt_t, n_lt_f, n_le_t, n_le_f, n_eq_t, n_eq_f, k_le_f, m_lt_t, m_lt_f, m_le_t, m_le_f, m_eq_f, m_eq_f', nI_add, nI_mulE, nI_subE, if_true, if_false, ite_true, ite_false, or_false, false_or, or_true, true_or, or_self, and_true, true_and, and_false, false_and, not_true_eq_false, not_false_eq_true, Option.bind_some, Sum.elim_inl, Sum.elim_inr, xu_set, xset_same, xset_ne, xset_2, xset_set, upd_same, upd_ne, nbI_some, ne_eq, reduceCtorEq, reduceIte, Nat.reduceAdd, Nat.reduceMul, Nat.reduceSub, Nat.add_zero, Nat.zero_add, Nat.mul_zero, Nat.zero_mul, hDs.1]
        · simp (disch := omega) only [↓Lm1, L0, L1, L2, L3, L4, L5, L6, L7, L8, L9, L10, L11, L12, L13, L14, L15, L16, L17, L18, L19, L20, L27, L30, L31, L35, L36, L37, L38, L39, L40, L41, L46, L48, L51, L57, L59, L60, L82, L98, L99, L100, L102, L104, L107, L110, L119, L144, L240, L255, L256, L360, L999, L1000000, nI_val, n_lt_t, n_lt_f, n_le_t, n_le_f, n_eq_t, n_eq_f, k_le_f, m_lt_t, m_lt_f, m_le_t, m_le_f, m_eq_f, m_eq_f', nI_add, nI_mulE, nI_subE, if_true, if_false, ite_true, ite_false, or_false, false_or, or_true, true_or, or_self, and_true, true_and, and_false, false_and, not_true_eq_false, not_false_eq_true, Option.bind_some, Sum.elim_inl, Sum.elim_inr, xu_set, xset_same, xset_ne, xset_2, xset_set, upd_same, upd_ne, nbI_some, ne_eq, reduceCtorEq, reduceIte, Nat.reduceAdd, Nat.reduceMul, Nat.reduceSub, Nat.add_zero, Nat.zero_add, Nat.mul_zero, Nat.zero_mul, hDs.1]
      rw [hJ]
      rcases readsM hn hDs hi hin (by omega) hg with ⟨g, g4, e, hd⟩ | ⟨h4, hg4, e⟩
      · right
        rw [e]
        refine ⟨.inl (nI (i * 5), nI g, s'), ?_, i * 5 + g, nI_add _ _, hd, hK, h5⟩
        unfold F_X9_readsDeeds_L9_J39
        simp (disch := omega) only [↓Lm1, L0, L1, L2, L3, L4, L5, L6, L7, L8, L9, L10, L11, L12, L13, L14, L15, L16, L17, L18, L19, L20, L27, L30, L31, L35, L36, L37, L38, L39, L40, L41, L46, L48, L51, L57, L59, L60, L82, L98, L99, L100, L102, L104, L107, L110, L119, L144, L240, L255, L256, L360, L999, L1000000, nI_val, n_lt_t, n_lt_f, n_le_t, n_le_f, n_eq_t, n_eq_f, k_le_f, m_lt_t, m_lt_f, m_le_t, m_le_f, m_eq_f, m_eq_f', nI_add, nI_mulE, nI_subE, if_true, if_false, ite_true, ite_false, or_false, false_or, or_true, true_or, or_self, and_true, true_and, and_false, false_and, not_true_eq_false, not_false_eq_true, Option.bind_some, Sum.elim_inl, Sum.elim_inr, xu_set, xset_same, xset_ne, xset_2, xset_set, upd_same, upd_ne, nbI_some, ne_eq, reduceCtorEq, reduceIte, Nat.reduceAdd, Nat.reduceMul, Nat.reduceSub, Nat.add_zero, Nat.zero_add, Nat.mul_zero, Nat.zero_mul]
      · rw [e]
        generalize hs2 : xset (xset (xset s' 4 (upd (s'.1 4) i (nI ((u (i * 5) - 48) * 10 + (u (i * 5 + 1) - 48))))) 5 (upd (s'.1 5) i (nI ((acN (u (i * 5 + 2))).getD 0)))) 6 (upd (s'.1 6) i (nI (u (i * 5 + 3) - 48))) = s2
        have k2 : KR [4, 5, 6] [5] s s2 := by
          rw [← hs2]
          exact ((hK.set _ (by decide) (by decide)).set _ (by decide) (by decide)).set _ (by decide) (by decide)
        have r2 : ∀ j, j < i + 1 → s2.1 4 j = nI (D.2.1 j) ∧ s2.1 5 j = nI (D.2.2.1 j) ∧ s2.1 6 j = nI (D.2.2.2 j) := by
          intro j hj
          rw [← hs2]
          by_cases ji : j = i
          · subst ji
            simp (disch := omega) only [↓Lm1, L0, L1, L2, L3, L4, L5, L6, L7, L8, L9, L10, L11, L12, L13, L14, L15, L16, L17, L18, L19, L20, L27, L30, L31, L35, L36, L37, L38, L39, L40, L41, L46, L48, L51, L57, L59, L60, L82, L98, L99, L100, L102, L104, L107, L110, L119, L144, L240, L255, L256, L360, L999, L1000000, nI_val, n_lt_t, n_lt_f, n_le_t, n_le_f, n_eq_t, n_eq_f, k_le_f, m_lt_t, m_lt_f, m_le_t, m_le_f, m_eq_f, m_eq_f', nI_add, nI_mulE, nI_subE, if_true, if_false, ite_true, ite_false, or_false, false_or, or_true, true_or, or_self, and_true, true_and, and_false, false_and, not_true_eq_false, not_false_eq_true, Option.bind_some, Sum.elim_inl, Sum.elim_inr, xu_set, xset_same, xset_ne, xset_2, xset_set, upd_same, upd_ne, nbI_some, ne_eq, reduceCtorEq, reduceIte, Nat.reduceAdd, Nat.reduceMul, Nat.reduceSub, Nat.add_zero, Nat.zero_add, Nat.mul_zero, Nat.zero_mul]
            rw [← hDd]
            exact ⟨rfl, rfl, rfl⟩
          · have := hr j (by omega)
            simp (disch := omega) only [↓Lm1, L0, L1, L2, L3, L4, L5, L6, L7, L8, L9, L10, L11, L12, L13, L14, L15, L16, L17, L18, L19, L20, L27, L30, L31, L35, L36, L37, L38, L39, L40, L41, L46, L48, L51, L57, L59, L60, L82, L98, L99, L100, L102, L104, L107, L110, L119, L144, L240, L255, L256, L360, L999, L1000000, nI_val, n_lt_t, n_lt_f, n_le_t, n_le_f, n_eq_t, n_eq_f, k_le_f, m_lt_t, m_lt_f, m_le_t, m_le_f, m_eq_f, m_eq_f', nI_add, nI_mulE, nI_subE, if_true, if_false, ite_true, ite_false, or_false, false_or, or_true, true_or, or_self, and_true, true_and, and_false, false_and, not_true_eq_false, not_false_eq_true, Option.bind_some, Sum.elim_inl, Sum.elim_inr, xu_set, xset_same, xset_ne, xset_2, xset_set, upd_same, upd_ne, nbI_some, ne_eq, reduceCtorEq, reduceIte, Nat.reduceAdd, Nat.reduceMul, Nat.reduceSub, Nat.add_zero, Nat.zero_add, Nat.mul_zero, Nat.zero_mul, ji]
            exact this
        have q5 : s2.1 0 5 = nI 0 := by rw [← hs2]; simp (disch := omega) only [↓Lm1, L0, L1, L2, L3, L4, L5, L6, L7, L8, L9, L10, L11, L12, L13, L14, L15, L16, L17, L18, L19, L20, L27, L30, L31, L35, L36, L37, L38, L39, L40, L41, L46, L48, L51, L57, L59, L60, L82, L98, L99, L100, L102, L104, L107, L110, L119, L144, L240, L255, L256, L360, L999, L1000000, nI_val, n_lt_t, n_lt_f, n_le_t, n_le_f, n_eq_t, n_eq_f, k_le_f, m_lt_t, m_lt_f, m_le_t, m_le_f, m_eq_f, m_eq_f', nI_add, nI_mulE, nI_subE, if_true, if_false, ite_true, ite_false, or_false, false_or, or_true, true_or, or_self, and_true, true_and, and_false, false_and, not_true_eq_false, not_false_eq_true, Option.bind_some, Sum.elim_inl, Sum.elim_inr, xu_set, xset_same, xset_ne, xset_2, xset_set, upd_same, upd_ne, nbI_some, ne_eq, reduceCtorEq, reduceIte, Nat.reduceAdd, Nat.reduceMul, Nat.reduceSub, Nat.add_zero, Nat.zero_add, Nat.mul_zero, Nat.zero_mul, h5]
        have hD2 := hDk s2 k2
        unfold F_X9_readsDeeds_L9_J39
        by_cases c4 : i * 5 + 4 = n
        · right
          have hc : (n + 1) / 5 = i + 1 := by omega
          refine ⟨.inr (.inl (nI (i + 1), s2)), ?_, ?_, by rw [hc], k2, by rw [hc]; exact r2⟩
          · simp (disch := omega) only [↓Lm1, L0, L1, L2, L3, L4, L5, L6, L7, L8, L9, L10, L11, L12, L13, L14, L15, L16, L17, L18, L19, L20, L27, L30, L31, L35, L36, L37, L38, L39, L40, L41, L46, L48, L51, L57, L59, L60, L82, L98, L99, L100, L102, L104, L107, L110, L119, L144, L240, L255, L256, L360, L999, L1000000, nI_val, n_lt_t, n_lt_f, n_le_t, n_le_f, n_eq_t, n_eq_f, k_le_f, m_lt_t, m_lt_f, m_le_t, m_le_f, m_eq_f, m_eq_f', nI_add, nI_mulE, nI_subE, if_true, if_false, ite_true, ite_false, or_false, false_or, or_true, true_or, or_self, and_true, true_and, and_false, false_and, not_true_eq_false, not_false_eq_true, Option.bind_some, Sum.elim_inl, Sum.elim_inr, xu_set, xset_same, xset_ne, xset_2, xset_set, upd_same, upd_ne, nbI_some, ne_eq, reduceCtorEq, reduceIte, Nat.reduceAdd, Nat.reduceMul, Nat.reduceSub, Nat.add_zero, Nat.zero_add, Nat.mul_zero, Nat.zero_mul, hD2.1, c4]
          · unfold dflt
            rw [dft_of (by rw [← c4]; exact hg4)]
            exact if_pos (by omega)
        · have b4 := byteM (k := i * 5 + 4) hn hD2 (by omega)
          rw [if_pos (by omega)] at b4
          have hu4 := (hD.2 (i * 5 + 4) (by omega)).1
          by_cases c5 : u (i * 5 + 4) = 59
          · left
            refine ⟨(nI (i + 1), nI ((i + 1) * 5), s2), ?_, rfl, rfl, by omega, ?_, k2, q5, r2⟩
            · simp (disch := omega) only [↓Lm1, L0, L1, L2, L3, L4, L5, L6, L7, L8, L9, L10, L11, L12, L13, L14, L15, L16, L17, L18, L19, L20, L27, L30, L31, L35, L36, L37, L38, L39, L40, L41, L46, L48, L51, L57, L59, L60, L82, L98, L99, L100, L102, L104, L107, L110, L119, L144, L240, L255, L256, L360, L999, L1000000, nI_val, n_lt_t, n_lt_f, n_le_t, n_le_f, n_eq_t, n_eq_f, k_le_f, m_lt_t, m_lt_f, m_le_t, m_le_f, m_eq_f, m_eq_f', nI_add, nI_mulE, nI_subE, if_true, if_false, ite_true, ite_false, or_false, false_or, or_true, true_or, or_self, and_true, true_and, and_false, false_and, not_true_eq_false, not_false_eq_true, Option.bind_some, Sum.elim_inl, Sum.elim_inr, xu_set, xset_same, xset_ne, xset_2, xset_set, upd_same, upd_ne, nbI_some, ne_eq, reduceCtorEq, reduceIte, Nat.reduceAdd, Nat.reduceMul, Nat.reduceSub, Nat.add_zero, Nat.zero_add, Nat.mul_zero, Nat.zero_mul, hD2.1, b4, c5, c4]
              rw [show i * 5 + 5 = (i + 1) * 5 by omega]
            · rw [show (i + 1) * 5 = i * 5 + 4 + 1 by omega]
              exact ext1 hg4 (by rw [show (i * 5 + 4) % 5 = 4 by omega]; exact dok_y4 c5)
          · right
            refine ⟨.inr (.inr (.inl (nI (i * 5 + 4), s2))), ?_, i * 5 + 4, rfl, dflt_bad hg4 (by omega) (fun _ => ?_) (by omega), k2, q5⟩
            · simp (disch := omega) only [↓Lm1, L0, L1, L2, L3, L4, L5, L6, L7, L8, L9, L10, L11, L12, L13, L14, L15, L16, L17, L18, L19, L20, L27, L30, L31, L35, L36, L37, L38, L39, L40, L41, L46, L48, L51, L57, L59, L60, L82, L98, L99, L100, L102, L104, L107, L110, L119, L144, L240, L255, L256, L360, L999, L1000000, nI_val, n_lt_t, n_lt_f, n_le_t, n_le_f, n_eq_t, n_eq_f, k_le_f, m_lt_t, m_lt_f, m_le_t, m_le_f, m_eq_f, m_eq_f', nI_add, nI_mulE, nI_subE, if_true, if_false, ite_true, ite_false, or_false, false_or, or_true, true_or, or_self, and_true, true_and, and_false, false_and, not_true_eq_false, not_false_eq_true, Option.bind_some, Sum.elim_inl, Sum.elim_inr, xu_set, xset_same, xset_ne, xset_2, xset_set, upd_same, upd_ne, nbI_some, ne_eq, reduceCtorEq, reduceIte, Nat.reduceAdd, Nat.reduceMul, Nat.reduceSub, Nat.add_zero, Nat.zero_add, Nat.mul_zero, Nat.zero_mul, hD2.1, b4, c5, c4]
            · rw [show (i * 5 + 4) % 5 = 4 by omega]; exact dok_n4 c5
  · intro a ⟨ha1, ha2, hin, _⟩
    exact absurd hin (by omega)
  · simp (disch := omega) only [↓Lm1, L0, L1, L2, L3, L4, L5, L6, L7, L8, L9, L10, L11, L12, L13, L14, L15, L16, L17, L18, L19, L20, L27, L30, L31, L35, L36, L37, L38, L39, L40, L41, L46, L48, L51, L57, L59, L60, L82, L98, L99, L100, L102, L104, L107, L110, L119, L144, L240, L255, L256, L360, L999, L1000000, nI_val, n_lt_t, n_lt_f, n_le_t, n_le_f, n_eq_t, n_eq_f, k_le_f, m_lt_t, m_lt_f, m_le_t, m_le_f, m_eq_f, m_eq_f', nI_add, nI_mulE, nI_subE, if_true, if_false, ite_true, ite_false, or_false, false_or, or_true, true_or, or_self, and_true, true_and, and_false, false_and, not_true_eq_false, not_false_eq_true, Option.bind_some, Sum.elim_inl, Sum.elim_inr, xu_set, xset_same, xset_ne, xset_2, xset_set, upd_same, upd_ne, nbI_some, ne_eq, reduceCtorEq, reduceIte, Nat.reduceAdd, Nat.reduceMul, Nat.reduceSub, Nat.add_zero, Nat.zero_add, Nat.mul_zero, Nat.zero_mul]
    exact (KR.refl _ _ _).set0 _ (fun k hk => by
      simp only [List.mem_cons, List.not_mem_nil, or_false] at hk
      rw [upd_ne _ _ hk])
  · simp (disch := omega) only [↓Lm1, L0, L1, L2, L3, L4, L5, L6, L7, L8, L9, L10, L11, L12, L13, L14, L15, L16, L17, L18, L19, L20, L27, L30, L31, L35, L36, L37, L38, L39, L40, L41, L46, L48, L51, L57, L59, L60, L82, L98, L99, L100, L102, L104, L107, L110, L119, L144, L240, L255, L256, L360, L999, L1000000, nI_val, n_lt_t, n_lt_f, n_le_t, n_le_f, n_eq_t, n_eq_f, k_le_f, m_lt_t, m_lt_f, m_le_t, m_le_f, m_eq_f, m_eq_f', nI_add, nI_mulE, nI_subE, if_true, if_false, ite_true, ite_false, or_false, false_or, or_true, true_or, or_self, and_true, true_and, and_false, false_and, not_true_eq_false, not_false_eq_true, Option.bind_some, Sum.elim_inl, Sum.elim_inr, xu_set, xset_same, xset_ne, xset_2, xset_set, upd_same, upd_ne, nbI_some, ne_eq, reduceCtorEq, reduceIte, Nat.reduceAdd, Nat.reduceMul, Nat.reduceSub, Nat.add_zero, Nat.zero_add, Nat.mul_zero, Nat.zero_mul]
  · rintro b ⟨hx, hq⟩
    unfold F_X9_readsDeeds
    rw [hx]
    rcases b with q | q | q | q
    · obtain ⟨p, e, hd, hK, h5⟩ := hq
      refine ⟨q.2.2, ?_, hK, ?_⟩
      · rw [hd]
        show some (q.1 + q.2.1, q.2.2) = some (nI p, q.2.2)
        rw [e]
      · rw [← hDd]
        unfold DdM ddat
        rw [hd]
        exact ⟨h5, fun i hi => absurd hi (Nat.not_lt_zero i)⟩
    · obtain ⟨hd, e, hK, hr⟩ := hq
      have hc : D.1 = (n + 1) / 5 := by rw [← hDd]; unfold ddat; exact if_pos hd
      refine ⟨xset q.2 0 (upd (q.2.1 0) 5 q.1), ?_, ?_, ?_, ?_⟩
      · rw [hd]; rfl
      · exact hK.set0 _ (fun k hk => by
          simp only [List.mem_cons, List.not_mem_nil, or_false] at hk
          rw [upd_ne _ _ hk])
      · rw [hc, e]
        simp (disch := omega) only [↓Lm1, L0, L1, L2, L3, L4, L5, L6, L7, L8, L9, L10, L11, L12, L13, L14, L15, L16, L17, L18, L19, L20, L27, L30, L31, L35, L36, L37, L38, L39, L40, L41, L46, L48, L51, L57, L59, L60, L82, L98, L99, L100, L102, L104, L107, L110, L119, L144, L240, L255, L256, L360, L999, L1000000, nI_val, n_lt_t, n_lt_f, n_le_t, n_le_f, n_eq_t, n_eq_f, k_le_f, m_lt_t, m_lt_f, m_le_t, m_le_f, m_eq_f, m_eq_f', nI_add, nI_mulE, nI_subE, if_true, if_false, ite_true, ite_false, or_false, false_or, or_true, true_or, or_self, and_true, true_and, and_false, false_and, not_true_eq_false, not_false_eq_true, Option.bind_some, Sum.elim_inl, Sum.elim_inr, xu_set, xset_same, xset_ne, xset_2, xset_set, upd_same, upd_ne, nbI_some, ne_eq, reduceCtorEq, reduceIte, Nat.reduceAdd, Nat.reduceMul, Nat.reduceSub, Nat.add_zero, Nat.zero_add, Nat.mul_zero, Nat.zero_mul]
      · intro i hi
        rw [hc] at hi
        simp (disch := omega) only [↓Lm1, L0, L1, L2, L3, L4, L5, L6, L7, L8, L9, L10, L11, L12, L13, L14, L15, L16, L17, L18, L19, L20, L27, L30, L31, L35, L36, L37, L38, L39, L40, L41, L46, L48, L51, L57, L59, L60, L82, L98, L99, L100, L102, L104, L107, L110, L119, L144, L240, L255, L256, L360, L999, L1000000, nI_val, n_lt_t, n_lt_f, n_le_t, n_le_f, n_eq_t, n_eq_f, k_le_f, m_lt_t, m_lt_f, m_le_t, m_le_f, m_eq_f, m_eq_f', nI_add, nI_mulE, nI_subE, if_true, if_false, ite_true, ite_false, or_false, false_or, or_true, true_or, or_self, and_true, true_and, and_false, false_and, not_true_eq_false, not_false_eq_true, Option.bind_some, Sum.elim_inl, Sum.elim_inr, xu_set, xset_same, xset_ne, xset_2, xset_set, upd_same, upd_ne, nbI_some, ne_eq, reduceCtorEq, reduceIte, Nat.reduceAdd, Nat.reduceMul, Nat.reduceSub, Nat.add_zero, Nat.zero_add, Nat.mul_zero, Nat.zero_mul]
        exact hr i hi
    · obtain ⟨p, e, hd, hK, h5⟩ := hq
      refine ⟨q.2, ?_, hK, ?_⟩
      · rw [hd]
        show some (q.1, q.2) = some (nI p, q.2)
        rw [e]
      · rw [← hDd]
        unfold DdM ddat
        rw [hd]
        exact ⟨h5, fun i hi => absurd hi (Nat.not_lt_zero i)⟩
    · obtain ⟨n0, hK, h5⟩ := hq
      subst n0
      refine ⟨q, rfl, hK, ?_⟩
      rw [← hDd]
      exact ⟨h5, fun i hi => absurd hi (Nat.not_lt_zero i)⟩
