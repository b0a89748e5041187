/-! ===== day ===== -/
def lt_ (x : Int32) : Nat → Int32
  | 0 => x
  | k + 1 => (1103515245 : Int32) * lt_ x k + (12345 : Int32)
def ush (x : Int32) : Nat := x.toBitVec.toNat / 2 ^ 16
theorem ush_lt (x : Int32) : ush x < 65536 := by
  unfold ush
  have := x.toBitVec.isLt
  omega
theorem ushE (x : Int32) : xushr x (nI 16) = nI (ush x) := by
  have c : ((nI 16).toUInt32 &&& Int32.toUInt32 31).toBitVec % 32#32 = BitVec.ofNat 32 16 := by decide
  apply Int32.toBitVec_inj.mp
  apply BitVec.eq_of_toNat_eq
  show (x.toUInt32 >>> ((nI 16).toUInt32 &&& Int32.toUInt32 31)).toBitVec.toNat = (BitVec.ofNat 32 (ush x)).toNat
  rw [UInt32.toBitVec_shiftRight]
  show (x.toUInt32.toBitVec >>> (((nI 16).toUInt32 &&& Int32.toUInt32 31).toBitVec % 32#32)).toNat = _
  rw [c]
  show (x.toBitVec >>> (BitVec.ofNat 32 16)).toNat = _
  have := ush_lt x
  rw [BitVec.ushiftRight_eq', BitVec.toNat_ushiftRight, BitVec.toNat_ofNat, BitVec.toNat_ofNat, Nat.mod_eq_of_lt (show 16 < 2 ^ 32 by omega), Nat.mod_eq_of_lt (show ush x < 2 ^ 32 by omega), Nat.shiftRight_eq_div_pow]
  rfl
theorem lotE (x : Int32) {m : Nat} (hm : m < 2 ^ 31) : xrem (xushr x (nI 16)) (nI m) = nI (ush x % m) := by
  have := ush_lt x
  rw [ushE, n_rem (by omega) hm]
/-- the deeds of a day -/
def dyD (N : Nat) (x : Int32) (n : Nat) : DD := (if N = 0 then 0 else n, (fun i => ush (lt_ x (3 * i + 1)) % N), (fun i => ush (lt_ x (3 * i + 2)) % 4), fun i => ush (lt_ x (3 * i + 3)) % 10)
theorem dyD_ok {N : Nat} {x : Int32} {n : Nat} (hN : N ≤ 36) (hn : n ≤ 8) : DdOk (dyD N x n) := by
  refine ⟨?_, fun i hi => ?_⟩
  · show (if N = 0 then 0 else n) ≤ 8
    split <;> omega
  · have hi : i < if N = 0 then 0 else n := hi
    have h0 : 0 < N := by
      by_cases c : N = 0
      · rw [if_pos c] at hi; omega
      · omega
    have h1 := Nat.mod_lt (ush (lt_ x (3 * i + 1))) h0
    have h2 := Nat.mod_lt (ush (lt_ x (3 * i + 2))) (show 0 < 4 by omega)
    have h3 := Nat.mod_lt (ush (lt_ x (3 * i + 3))) (show 0 < 10 by omega)
    exact ⟨by show _ % N < 40; omega, by show _ % 4 ≤ 3; omega, by show _ % 10 ≤ 9; omega⟩
section SPEC
variable {u0 : Nat → Nat} {n0 : Nat} {u1 : Nat → Nat} {n1 : Nat} {l : LD} {e : ED} {s s4 a : xS}
theorem addF {i p k h : Nat} (hi : i < 8) (hk : k ≤ 3) (h3 : s.1 27 3 = nI i) : F_X0_add 27 (nI p) (nI k) (nI h) s = some (xset (xset (xset (xset s 28 (upd (s.1 28) i (nI p))) 29 (upd (s.1 29) i (nI k))) 30 (upd (s.1 30) i (nI h))) 27 (upd (s.1 27) 3 (nI (i + 1)))) := by
  unfold F_X0_add
  simp (disch := omega) only [↓Lm1, L0, L1, L2, L3, L4, L5, L6, L7, L8, L9, L10, L11, L12, L13, L14, L15, L16, L17, L18, L19, L20, L27, L30, L31, L35, L36, L37, L38, L39, L40, L41, L46, L48, L51, L57, L59, L60, L82, L98, L99, L100, L102, L104, L107, L110, L119, L144, L240, L255, L256, L360, L999, L1000000, nI_val, n_lt_t, n_lt_f, n_le_t, n_le_f, n_eq_t, n_eq_f, k_le_f, m_lt_t, m_lt_f, m_le_t, m_le_f, m_eq_f, m_eq_f', nI_add, nI_mulE, nI_subE, if_true, if_false, ite_true, ite_false, or_false, false_or, or_true, true_or, or_self, and_true, true_and, and_false, false_and, not_true_eq_false, not_false_eq_true, Option.bind_some, Sum.elim_inl, Sum.elim_inr, xu_set, xset_same, xset_ne, xset_2, xset_set, upd_same, upd_ne, nbI_some, ne_eq, reduceCtorEq, reduceIte, Nat.reduceAdd, Nat.reduceMul, Nat.reduceSub, Nat.add_zero, Nat.zero_add, Nat.mul_zero, Nat.zero_mul, h3]
theorem drawF {N n : Nat} {x : Int32} (h52 : s.1 5 2 = nI N) (hN : N ≤ 36) (h1 : 1 ≤ n) (h8 : n ≤ 8) : ∃ s', F_X8_drawDeeds x (nI n) s = some s' ∧ Kp 27 30 s s' ∧ DdF 27 (dyD N x n) s' := by
  unfold F_X8_drawDeeds
  by_cases cN : N = 0
  · subst cN
    refine ⟨xset s 27 (upd (s.1 27) 3 (nI 0)), ?_, (Kp.refl _ _ _).set _ (by omega) (by omega), ?_, fun i hi => absurd hi (Nat.not_lt_zero i)⟩
    · have : xlp (F_X8_drawDeeds_L13 (nI n)) 100000 (x, 0, xset s 27 (upd (s.1 27) 3 (nI 0))) = some (xset s 27 (upd (s.1 27) 3 (nI 0))) := by
        refine xlp_at (fun _ => (x, 0, xset s 27 (upd (s.1 27) 3 (nI 0)))) 0 (by omega) rfl (fun i hi => absurd hi (Nat.not_lt_zero i)) ?_
        unfold F_X8_drawDeeds_L13
        simp (disch := omega) only [↓Lm1, L0, L1, L2, L3, L4, L5, L6, L7, L8, L9, L10, L11, L12, L13, L14, L15, L16, L17, L18, L19, L20, L27, L30, L31, L35, L36, L37, L38, L39, L40, L41, L46, L48, L51, L57, L59, L60, L82, L98, L99, L100, L102, L104, L107, L110, L119, L144, L240, L255, L256, L360, L999, L1000000, nI_val, n_lt_t, n_lt_f, n_le_t, n_le_f, n_eq_t, n_eq_f, k_le_f, m_lt_t, m_lt_f, m_le_t, m_le_f, m_eq_f, m_eq_f', nI_add, nI_mulE, nI_subE, if_true, if_false, ite_true, ite_false, or_false, false_or, or_true, true_or, or_self, and_true, true_and, and_false, false_and, not_true_eq_false, not_false_eq_true, Option.bind_some, Sum.elim_inl, Sum.elim_inr, xu_set, xset_same, xset_ne, xset_2, xset_set, upd_same, upd_ne, nbI_some, ne_eq, reduceCtorEq, reduceIte, Nat.reduceAdd, Nat.reduceMul, Nat.reduceSub, Nat.add_zero, Nat.zero_add, Nat.mul_zero, Nat.zero_mul, h52]
      show (xlp (F_X8_drawDeeds_L13 (nI n)) 100000 (x, 0, xset s 27 (upd (s.1 27) 3 (nI 0)))).bind _ = _
      rw [this]
      rfl
    · show (xset s 27 (upd (s.1 27) 3 (nI 0))).1 27 3 = nI 0
      simp (disch := omega) only [↓Lm1, L0, L1, L2, L3, L4, L5, L6, L7, L8, L9, L10, L11, L12, L13, L14, L15, L16, L17, L18, L19, L20, L27, L30, L31, L35, L36, L37, L38, L39, L40, L41, L46, L48, L51, L57, L59, L60, L82, L98, L99, L100, L102, L104, L107, L110, L119, L144, L240, L255, L256, L360, L999, L1000000, nI_val, n_lt_t, n_lt_f, n_le_t, n_le_f, n_eq_t, n_eq_f, k_le_f, m_lt_t, m_lt_f, m_le_t, m_le_f, m_eq_f, m_eq_f', nI_add, nI_mulE, nI_subE, if_true, if_false, ite_true, ite_false, or_false, false_or, or_true, true_or, or_self, and_true, true_and, and_false, false_and, not_true_eq_false, not_false_eq_true, Option.bind_some, Sum.elim_inl, Sum.elim_inr, xu_set, xset_same, xset_ne, xset_2, xset_set, upd_same, upd_ne, nbI_some, ne_eq, reduceCtorEq, reduceIte, Nat.reduceAdd, Nat.reduceMul, Nat.reduceSub, Nat.add_zero, Nat.zero_add, Nat.mul_zero, Nat.zero_mul]
  · have key : ∃ b, xlp (F_X8_drawDeeds_L13 (nI n)) 100000 (x, nI 0, xset s 27 (upd (s.1 27) 3 (nI 0))) = some b ∧ Kp 27 30 s b ∧ b.1 27 3 = nI n ∧ ∀ j, j < n → b.1 28 j = nI ((dyD N x n).2.1 j) ∧ b.1 29 j = nI ((dyD N x n).2.2.1 j) ∧ b.1 30 j = nI ((dyD N x n).2.2.2 j) := by
      refine xlp_cnt (f := F_X8_drawDeeds_L13 (nI n)) (fun i a => a.1 = lt_ x (3 * i) ∧ a.2.1 = nI i ∧ Kp 27 30 s a.2.2 ∧ a.2.2.1 27 3 = nI i ∧ ∀ j, j < i → a.2.2.1 28 j = nI ((dyD N x n).2.1 j) ∧ a.2.2.1 29 j = nI ((dyD N x n).2.2.1 j) ∧ a.2.2.1 30 j = nI ((dyD N x n).2.2.2 j)) _ n (by omega) ?_ ?_ (a := (x, nI 0, xset s 27 (upd (s.1 27) 3 (nI 0)))) ⟨rfl, rfl, (Kp.refl _ _ _).set _ (by omega) (by omega), ?_, fun j hj => absurd hj (Nat.not_lt_zero j)⟩
      · intro i a hi ⟨g1, g2, hK, g3, hr⟩
        obtain ⟨a1, a2, s'⟩ := a
        dsimp only at g1 g2 hK g3 hr
        subst g1; subst g2
        have h52' : s'.1 5 2 = nI N := by rw [(hK 5 (by omega)).1]; exact h52
        have f1 : (1103515245 : Int32) * lt_ x (3 * i) + (12345 : Int32) = lt_ x (3 * i + 1) := rfl
        have f2 : (1103515245 : Int32) * lt_ x (3 * i + 1) + (12345 : Int32) = lt_ x (3 * i + 2) := rfl
        have f3 : (1103515245 : Int32) * lt_ x (3 * i + 2) + (12345 : Int32) = lt_ x (3 * i + 3) := rfl
        have r1 : xrem (xushr (lt_ x (3 * i + 1)) (nI 16)) (nI N) = nI ((dyD N x n).2.1 i) := lotE _ (by omega)
        have r2 : xrem (xushr (lt_ x (3 * i + 2)) (nI 16)) (nI 4) = nI ((dyD N x n).2.2.1 i) := lotE _ (by omega)
        have r3 : xrem (xushr (lt_ x (3 * i + 3)) (nI 16)) (nI 10) = nI ((dyD N x n).2.2.2 i) := lotE _ (by omega)
        have kk : (dyD N x n).2.2.1 i ≤ 3 := by
          have := Nat.mod_lt (ush (lt_ x (3 * i + 2))) (show 0 < 4 by omega)
          show _ % 4 ≤ 3
          omega
        have ea := addF (s := s') (i := i) (p := (dyD N x n).2.1 i) (k := (dyD N x n).2.2.1 i) (h := (dyD N x n).2.2.2 i) (by omega) kk g3
        left
        refine ⟨(lt_ x (3 * (i + 1)), nI (i + 1), xset (xset (xset (xset s' 28 (upd (s'.1 28) i (nI ((dyD N x n).2.1 i)))) 29 (upd (s'.1 29) i (nI ((dyD N x n).2.2.1 i)))) 30 (upd (s'.1 30) i (nI ((dyD N x n).2.2.2 i)))) 27 (upd (s'.1 27) 3 (nI (i + 1)))), ?_, rfl, rfl, (((hK.set _ (by omega) (by omega)).set _ (by omega) (by omega)).set _ (by omega) (by omega)).set _ (by omega) (by omega), ?_, fun j hj => ?_⟩
        · unfold F_X8_drawDeeds_L13 F_X8_nextLot
          simp (disch := omega) only [↓Lm1, L0, L1, L2, L3, L4, L5, L6, L7, L8, L9, L10, L11, L12, L13, L14, L15, L16, L17, L18, L19, L20, L27, L30, L31, L35, L36, L37, L38, L39, L40, L41, L46, L48, L51, L57, L59, L60, L82, L98, L99, L100, L102, L104, L107, L110, L119, L144, L240, L255, L256, L360, L999, L1000000, nI_val, n_lt_t, n_lt_f, n_le_t, n_le_f, n_eq_t, n_eq_f, k_le_f, m_lt_t, m_lt_f, m_le_t, m_le_f, m_eq_f, m_eq_f', nI_add, nI_mulE, nI_subE, if_true, if_false, ite_true, ite_false, or_false, false_or, or_true, true_or, or_self, and_true, true_and, and_false, false_and, not_true_eq_false, not_false_eq_true, Option.bind_some, Sum.elim_inl, Sum.elim_inr, xu_set, xset_same, xset_ne, xset_2, xset_set, upd_same, upd_ne, nbI_some, ne_eq, reduceCtorEq, reduceIte, Nat.reduceAdd, Nat.reduceMul, Nat.reduceSub, Nat.add_zero, Nat.zero_add, Nat.mul_zero, Nat.zero_mul, h52', f1, f2, f3, r1, r2, r3, ea]
          all_goals rfl
        · simp (disch := omega) only [↓Lm1, L0, L1, L2, L3, L4, L5, L6, L7, L8, L9, L10, L11, L12, L13, L14, L15, L16, L17, L18, L19, L20, L27, L30, L31, L35, L36, L37, L38, L39, L40, L41, L46, L48, L51, L57, L59, L60, L82, L98, L99, L100, L102, L104, L107, L110, L119, L144, L240, L255, L256, L360, L999, L1000000, nI_val, n_lt_t, n_lt_f, n_le_t, n_le_f, n_eq_t, n_eq_f, k_le_f, m_lt_t, m_lt_f, m_le_t, m_le_f, m_eq_f, m_eq_f', nI_add, nI_mulE, nI_subE, if_true, if_false, ite_true, ite_false, or_false, false_or, or_true, true_or, or_self, and_true, true_and, and_false, false_and, not_true_eq_false, not_false_eq_true, Option.bind_some, Sum.elim_inl, Sum.elim_inr, xu_set, xset_same, xset_ne, xset_2, xset_set, upd_same, upd_ne, nbI_some, ne_eq, reduceCtorEq, reduceIte, Nat.reduceAdd, Nat.reduceMul, Nat.reduceSub, Nat.add_zero, Nat.zero_add, Nat.mul_zero, Nat.zero_mul]
        · by_cases c : j = i
          · simp (disch := omega) only [↓Lm1, L0, L1, L2, L3, L4, L5, L6, L7, L8, L9, L10, L11, L12, L13, L14, L15, L16, L17, L18, L19, L20, L27, L30, L31, L35, L36, L37, L38, L39, L40, L41, L46, L48, L51, L57, L59, L60, L82, L98, L99, L100, L102, L104, L107, L110, L119, L144, L240, L255, L256, L360, L999, L1000000, nI_val, n_lt_t, n_lt_f, n_le_t, n_le_f, n_eq_t, n_eq_f, k_le_f, m_lt_t, m_lt_f, m_le_t, m_le_f, m_eq_f, m_eq_f', nI_add, nI_mulE, nI_subE, if_true, if_false, ite_true, ite_false, or_false, false_or, or_true, true_or, or_self, and_true, true_and, and_false, false_and, not_true_eq_false, not_false_eq_true, Option.bind_some, Sum.elim_inl, Sum.elim_inr, xu_set, xset_same, xset_ne, xset_2, xset_set, upd_same, upd_ne, nbI_some, ne_eq, reduceCtorEq, reduceIte, Nat.reduceAdd, Nat.reduceMul, Nat.reduceSub, Nat.add_zero, Nat.zero_add, Nat.mul_zero, Nat.zero_mul, c]
          · have := hr j (by omega)
            simp (disch := omega) only [↓Lm1, L0, L1, L2, L3, L4, L5, L6, L7, L8, L9, L10, L11, L12, L13, L14, L15, L16, L17, L18, L19, L20, L27, L30, L31, L35, L36, L37, L38, L39, L40, L41, L46, L48, L51, L57, L59, L60, L82, L98, L99, L100, L102, L104, L107, L110, L119, L144, L240, L255, L256, L360, L999, L1000000, nI_val, n_lt_t, n_lt_f, n_le_t, n_le_f, n_eq_t, n_eq_f, k_le_f, m_lt_t, m_lt_f, m_le_t, m_le_f, m_eq_f, m_eq_f', nI_add, nI_mulE, nI_subE, if_true, if_false, ite_true, ite_false, or_false, false_or, or_true, true_or, or_self, and_true, true_and, and_false, false_and, not_true_eq_false, not_false_eq_true, Option.bind_some, Sum.elim_inl, Sum.elim_inr, xu_set, xset_same, xset_ne, xset_2, xset_set, upd_same, upd_ne, nbI_some, ne_eq, reduceCtorEq, reduceIte, Nat.reduceAdd, Nat.reduceMul, Nat.reduceSub, Nat.add_zero, Nat.zero_add, Nat.mul_zero, Nat.zero_mul, c, this]
      · intro a ⟨g1, g2, hK, g3, hr⟩
        obtain ⟨a1, a2, s'⟩ := a
        dsimp only at g1 g2 hK g3 hr
        subst g1; subst g2
        refine ⟨s', ?_, hK, g3, hr⟩
        unfold F_X8_drawDeeds_L13
        simp (disch := omega) only [↓Lm1, L0, L1, L2, L3, L4, L5, L6, L7, L8, L9, L10, L11, L12, L13, L14, L15, L16, L17, L18, L19, L20, L27, L30, L31, L35, L36, L37, L38, L39, L40, L41, L46, L48, L51, L57, L59, L60, L82, L98, L99, L100, L102, L104, L107, L110, L119, L144, L240, L255, L256, L360, L999, L1000000, nI_val, n_lt_t, n_lt_f, n_le_t, n_le_f, n_eq_t, n_eq_f, k_le_f, m_lt_t, m_lt_f, m_le_t, m_le_f, m_eq_f, m_eq_f', nI_add, nI_mulE, nI_subE, if_true, if_false, ite_true, ite_false, or_false, false_or, or_true, true_or, or_self, and_true, true_and, and_false, false_and, not_true_eq_false, not_false_eq_true, Option.bind_some, Sum.elim_inl, Sum.elim_inr, xu_set, xset_same, xset_ne, xset_2, xset_set, upd_same, upd_ne, nbI_some, ne_eq, reduceCtorEq, reduceIte, Nat.reduceAdd, Nat.reduceMul, Nat.reduceSub, Nat.add_zero, Nat.zero_add, Nat.mul_zero, Nat.zero_mul]
      · simp (disch := omega) only [↓Lm1, L0, L1, L2, L3, L4, L5, L6, L7, L8, L9, L10, L11, L12, L13, L14, L15, L16, L17, L18, L19, L20, L27, L30, L31, L35, L36, L37, L38, L39, L40, L41, L46, L48, L51, L57, L59, L60, L82, L98, L99, L100, L102, L104, L107, L110, L119, L144, L240, L255, L256, L360, L999, L1000000, nI_val, n_lt_t, n_lt_f, n_le_t, n_le_f, n_eq_t, n_eq_f, k_le_f, m_lt_t, m_lt_f, m_le_t, m_le_f, m_eq_f, m_eq_f', nI_add, nI_mulE, nI_subE, if_true, if_false, ite_true, ite_false, or_false, false_or, or_true, true_or, or_self, and_true, true_and, and_false, false_and, not_true_eq_false, not_false_eq_true, Option.bind_some, Sum.elim_inl, Sum.elim_inr, xu_set, xset_same, xset_ne, xset_2, xset_set, upd_same, upd_ne, nbI_some, ne_eq, reduceCtorEq, reduceIte, Nat.reduceAdd, Nat.reduceMul, Nat.reduceSub, Nat.add_zero, Nat.zero_add, Nat.mul_zero, Nat.zero_mul]
    obtain ⟨b, eb, hb1, hb2, hb3⟩ := key
    refine ⟨b, ?_, hb1, ?_, ?_⟩
    · show (xlp (F_X8_drawDeeds_L13 (nI n)) 100000 (x, nI 0, xset s 27 (upd (s.1 27) 3 (nI 0)))).bind _ = _
      rw [eb]
      rfl
    · show b.1 27 3 = nI (if N = 0 then 0 else n)
      rw [if_neg cN]
      exact hb2
    · intro j hj
      have hj : j < if N = 0 then 0 else n := hj
      rw [if_neg cN] at hj
      exact hb3 j hj
noncomputable def dyR (u0 : Nat → Nat) (n0 : Nat) (l : LD) (x : Int32) (n : Nat) : NT := ngt (twn u0 n0).1 (ls0 u0 n0) (dyD (twn u0 n0).1 x n) all_ l
noncomputable def dyv (u0 : Nat → Nat) (n0 : Nat) (l : LD) (x : Int32) (n w : Nat) : Int32 := if w = 0 then nbI (dyR u0 n0 l x n).1 else nI (smN (fun j => b01 ((dyR u0 n0 l x n).2.2.1 j)) (twn u0 n0).1)
theorem q_day {n w : Nat} (x : Int32) (hI : IF u0 n0 u1 n1 l e s) (h1 : 1 ≤ n) (h8 : n ≤ 8) (hw : w < 2) : ∃ s', F_X8_day x (nI n) (nI w) s = some (dyv u0 n0 l x n w, s') ∧ Kp 27 40 s s' := by
  have hN := (twn_ok u0 n0).1.1
  have hl := hI.1.2.2.2.1
  obtain ⟨s2, e2, k2, d2⟩ := drawF (x := x) (n := n) hI.1.2.1.1.2.1 hN h1 h8
  have kk := k2.wide (Nat.le_refl 27) (show 30 ≤ 40 by omega)
  have hI2 := hI.keep kk
  obtain ⟨s', e', k', n'⟩ := passF (p0 := 34) (p1 := 27) (p3 := 19) (N := (twn u0 n0).1) (ls := (ls0 u0 n0)) (Or.inr (Or.inl ⟨rfl, rfl⟩)) (Or.inl rfl) (dyD_ok hN h8) d2 hl hI2.1.2.2.2.2.1 pr255 hN hI2.2.1.1
  have h34 : s'.1 34 5 = nbI (dyR u0 n0 l x n).1 := n'.1
  have hb : F_J13_bitCount_95d88 (s'.2 34 6) s' = some (nI (smN (fun j => b01 ((dyR u0 n0 l x n).2.2.1 j)) (twn u0 n0).1)) := bitc (x := s'.2 34 6) (N := (twn u0 n0).1) n'.2.2.2 (fun p q => ngt_ex q) hN s'
  have o2 : F_X8_isOutside (nI w) (nI 2) s = some (nI 0) := out_in hw (by omega)
  refine ⟨s', ?_, kk.trans (k'.wide (by omega) (by omega))⟩
  unfold F_X8_day dyv
  rcases two_cases hw with rfl | rfl
  · simp (disch := omega) only [↓Lm1, L0, L1, L2, L3, L4, L5, L6, L7, L8, L9, L10, L11, L12, L13, L14, L15, L16, L17, L18, L19, L20, L27, L30, L31, L35, L36, L37, L38, L39, L40, L41, L46, L48, L51, L57, L59, L60, L82, L98, L99, L100, L102, L104, L107, L110, L119, L144, L240, L255, L256, L360, L999, L1000000, nI_val, n_lt_t, n_lt_f, n_le_t, n_le_f, n_eq_t, n_eq_f, k_le_f, m_lt_t, m_lt_f, m_le_t, m_le_f, m_eq_f, m_eq_f', nI_add, nI_mulE, nI_subE, if_true, if_false, ite_true, ite_false, or_false, false_or, or_true, true_or, or_self, and_true, true_and, and_false, false_and, not_true_eq_false, not_false_eq_true, Option.bind_some, Sum.elim_inl, Sum.elim_inr, xu_set, xset_same, xset_ne, xset_2, xset_set, upd_same, upd_ne, nbI_some, ne_eq, reduceCtorEq, reduceIte, Nat.reduceAdd, Nat.reduceMul, Nat.reduceSub, Nat.add_zero, Nat.zero_add, Nat.mul_zero, Nat.zero_mul, o2, e2, e', h34]
    all_goals rfl
  · simp (disch := omega) only [↓Lm1, L0, L1, L2, L3, L4, L5, L6, L7, L8, L9, L10, L11, L12, L13, L14, L15, L16, L17, L18, L19, L20, L27, L30, L31, L35, L36, L37, L38, L39, L40, L41, L46, L48, L51, L57, L59, L60, L82, L98, L99, L100, L102, L104, L107, L110, L119, L144, L240, L255, L256, L360, L999, L1000000, nI_val, n_lt_t, n_lt_f, n_le_t, n_le_f, n_eq_t, n_eq_f, k_le_f, m_lt_t, m_lt_f, m_le_t, m_le_f, m_eq_f, m_eq_f', nI_add, nI_mulE, nI_subE, if_true, if_false, ite_true, ite_false, or_false, false_or, or_true, true_or, or_self, and_true, true_and, and_false, false_and, not_true_eq_false, not_false_eq_true, Option.bind_some, Sum.elim_inl, Sum.elim_inr, xu_set, xset_same, xset_ne, xset_2, xset_set, upd_same, upd_ne, nbI_some, ne_eq, reduceCtorEq, reduceIte, Nat.reduceAdd, Nat.reduceMul, Nat.reduceSub, Nat.add_zero, Nat.zero_add, Nat.mul_zero, Nat.zero_mul, o2, e2, e', hb]
    all_goals rfl
theorem dayL {N n : Nat} {x l3 : Int32} (h03 : s.1 0 3 = nI N) (hN : N ≤ 36) (h8 : n ≤ 8) : ∃ s', xlp (F_X9_dayOf_L26 l3) 100000 (x, 0, xset s 0 (upd (s.1 0) 5 (nI (dyD N x n).1))) = some s' ∧ KR [4, 5, 6] [5] s s' ∧ DdM (dyD N x n) s' := by
  obtain ⟨D, hD⟩ : ∃ D, D = (dyD N x n).1 := ⟨_, rfl⟩
  have hD8 : D ≤ 8 ∧ (0 < D → N ≠ 0) := by
    rw [hD]
    show (if N = 0 then 0 else n) ≤ 8 ∧ (0 < (if N = 0 then 0 else n) → N ≠ 0)
    by_cases c : N = 0
    · rw [if_pos c]; exact ⟨by omega, fun z => absurd z (by omega)⟩
    · rw [if_neg c]; exact ⟨h8, fun _ => c⟩
  rw [← hD]
  have key : ∃ b, xlp (F_X9_dayOf_L26 l3) 100000 (x, nI 0, xset s 0 (upd (s.1 0) 5 (nI D))) = some b ∧ KR [4, 5, 6] [5] s b ∧ b.1 0 5 = nI D ∧ ∀ j, j < D → b.1 4 j = nI ((dyD N x n).2.1 j) ∧ b.1 5 j = nI ((dyD N x n).2.2.1 j) ∧ b.1 6 j = nI ((dyD N x n).2.2.2 j) := by
    refine xlp_cnt (f := F_X9_dayOf_L26 l3) (fun i a => a.1 = lt_ x (3 * i) ∧ a.2.1 = nI i ∧ KR [4, 5, 6] [5] s a.2.2 ∧ a.2.2.1 0 5 = nI D ∧ ∀ j, j < i → a.2.2.1 4 j = nI ((dyD N x n).2.1 j) ∧ a.2.2.1 5 j = nI ((dyD N x n).2.2.1 j) ∧ a.2.2.1 6 j = nI ((dyD N x n).2.2.2 j)) _ D (by omega) ?_ ?_ (a := (x, nI 0, xset s 0 (upd (s.1 0) 5 (nI D)))) ⟨rfl, rfl, (KR.refl _ _ _).set0 _ (fun j hj => upd_ne _ _ (fun z => hj (by rw [z]; decide))), ?_, fun j hj => absurd hj (Nat.not_lt_zero j)⟩
    · intro i a hi ⟨g1, g2, hK, g3, hr⟩
      obtain ⟨a1, a2, s'⟩ := a
      dsimp only at g1 g2 hK g3 hr
      subst g1; subst g2
      have hN0 := hD8.2 (by omega)
      have h03' : s'.1 0 3 = nI N := by rw [hK.2 3 (by decide)]; exact h03
      have f1 : (1103515245 : Int32) * lt_ x (3 * i) + (12345 : Int32) = lt_ x (3 * i + 1) := rfl
      have f2 : (1103515245 : Int32) * lt_ x (3 * i + 1) + (12345 : Int32) = lt_ x (3 * i + 2) := rfl
      have f3 : (1103515245 : Int32) * lt_ x (3 * i + 2) + (12345 : Int32) = lt_ x (3 * i + 3) := rfl
      have r1 : xrem (xushr (lt_ x (3 * i + 1)) (nI 16)) (nI N) = nI ((dyD N x n).2.1 i) := lotE _ (by omega)
      have r2 : xrem (xushr (lt_ x (3 * i + 2)) (nI 16)) (nI 4) = nI ((dyD N x n).2.2.1 i) := lotE _ (by omega)
      have r3 : xrem (xushr (lt_ x (3 * i + 3)) (nI 16)) (nI 10) = nI ((dyD N x n).2.2.2 i) := lotE _ (by omega)
      left
      refine ⟨(lt_ x (3 * (i + 1)), nI (i + 1), xset (xset (xset s' 4 (upd (s'.1 4) i (nI ((dyD N x n).2.1 i)))) 5 (upd (s'.1 5) i (nI ((dyD N x n).2.2.1 i)))) 6 (upd (s'.1 6) i (nI ((dyD N x n).2.2.2 i)))), ?_, rfl, rfl, ((hK.set _ (by omega) (by decide)).set _ (by omega) (by decide)).set _ (by omega) (by decide), ?_, fun j hj => ?_⟩
      · unfold F_X9_dayOf_L26
        simp (disch := omega) only [↓Lm1, L0, L1, L2, L3, L4, L5, L6, L7, L8, L9, L10, L11, L12, L13, L14, L15, L16, L17, L18, L19, L20, L27, L30, L31, L35, L36, L37, L38, L39, L40, L41, L46, L48, L51, L57, L59, L60, L82, L98, L99, L100, L102, L104, L107, L110, L119, L144, L240, L255, L256, L360, L999, L1000000, nI_val, n_lt_t, n_lt_f, n_le_t, n_le_f, n_eq_t, n_eq_f, k_le_f, m_lt_t, m_lt_f, m_le_t, m_le_f, m_eq_f, m_eq_f', nI_add, nI_mulE, nI_subE, if_true, if_false, ite_true, ite_false, or_false, false_or, or_true, true_or, or_self, and_true, true_and, and_false, false_and, not_true_eq_false, not_false_eq_true, Option.bind_some, Sum.elim_inl, Sum.elim_inr, xu_set, xset_same, xset_ne, xset_2, xset_set, upd_same, upd_ne, nbI_some, ne_eq, reduceCtorEq, reduceIte, Nat.reduceAdd, Nat.reduceMul, Nat.reduceSub, Nat.add_zero, Nat.zero_add, Nat.mul_zero, Nat.zero_mul, g3, h03', f1, f2, f3, r1, r2, r3]
        all_goals rfl
      · simp (disch := omega) only [↓Lm1, L0, L1, L2, L3, L4, L5, L6, L7, L8, L9, L10, L11, L12, L13, L14, L15, L16, L17, L18, L19, L20, L27, L30, L31, L35, L36, L37, L38, L39, L40, L41, L46, L48, L51, L57, L59, L60, L82, L98, L99, L100, L102, L104, L107, L110, L119, L144, L240, L255, L256, L360, L999, L1000000, nI_val, n_lt_t, n_lt_f, n_le_t, n_le_f, n_eq_t, n_eq_f, k_le_f, m_lt_t, m_lt_f, m_le_t, m_le_f, m_eq_f, m_eq_f', nI_add, nI_mulE, nI_subE, if_true, if_false, ite_true, ite_false, or_false, false_or, or_true, true_or, or_self, and_true, true_and, and_false, false_and, not_true_eq_false, not_false_eq_true, Option.bind_some, Sum.elim_inl, Sum.elim_inr, xu_set, xset_same, xset_ne, xset_2, xset_set, upd_same, upd_ne, nbI_some, ne_eq, reduceCtorEq, reduceIte, Nat.reduceAdd, Nat.reduceMul, Nat.reduceSub, Nat.add_zero, Nat.zero_add, Nat.mul_zero, Nat.zero_mul, g3]
      · by_cases c : j = i
        · simp (disch := omega) only [↓Lm1, L0, L1, L2, L3, L4, L5, L6, L7, L8, L9, L10, L11, L12, L13, L14, L15, L16, L17, L18, L19, L20, L27, L30, L31, L35, L36, L37, L38, L39, L40, L41, L46, L48, L51, L57, L59, L60, L82, L98, L99, L100, L102, L104, L107, L110, L119, L144, L240, L255, L256, L360, L999, L1000000, nI_val, n_lt_t, n_lt_f, n_le_t, n_le_f, n_eq_t, n_eq_f, k_le_f, m_lt_t, m_lt_f, m_le_t, m_le_f, m_eq_f, m_eq_f', nI_add, nI_mulE, nI_subE, if_true, if_false, ite_true, ite_false, or_false, false_or, or_true, true_or, or_self, and_true, true_and, and_false, false_and, not_true_eq_false, not_false_eq_true, Option.bind_some, Sum.elim_inl, Sum.elim_inr, xu_set, xset_same, xset_ne, xset_2, xset_set, upd_same, upd_ne, nbI_some, ne_eq, reduceCtorEq, reduceIte, Nat.reduceAdd, Nat.reduceMul, Nat.reduceSub, Nat.add_zero, Nat.zero_add, Nat.mul_zero, Nat.zero_mul, c]
        · have := hr j (by omega)
          simp (disch := omega) only [↓Lm1, L0, L1, L2, L3, L4, L5, L6, L7, L8, L9, L10, L11, L12, L13, L14, L15, L16, L17, L18, L19, L20, L27, L30, L31, L35, L36, L37, L38, L39, L40, L41, L46, L48, L51, L57, L59, L60, L82, L98, L99, L100, L102, L104, L107, L110, L119, L144, L240, L255, L256, L360, L999, L1000000, nI_val, n_lt_t, n_lt_f, n_le_t, n_le_f, n_eq_t, n_eq_f, k_le_f, m_lt_t, m_lt_f, m_le_t, m_le_f, m_eq_f, m_eq_f', nI_add, nI_mulE, nI_subE, if_true, if_false, ite_true, ite_false, or_false, false_or, or_true, true_or, or_self, and_true, true_and, and_false, false_and, not_true_eq_false, not_false_eq_true, Option.bind_some, Sum.elim_inl, Sum.elim_inr, xu_set, xset_same, xset_ne, xset_2, xset_set, upd_same, upd_ne, nbI_some, ne_eq, reduceCtorEq, reduceIte, Nat.reduceAdd, Nat.reduceMul, Nat.reduceSub, Nat.add_zero, Nat.zero_add, Nat.mul_zero, Nat.zero_mul, c, this]
    · intro a ⟨g1, g2, hK, g3, hr⟩
      obtain ⟨a1, a2, s'⟩ := a
      dsimp only at g1 g2 hK g3 hr
      subst g1; subst g2
      refine ⟨s', ?_, hK, g3, hr⟩
      unfold F_X9_dayOf_L26
      simp (disch := omega) only [↓Lm1, L0, L1, L2, L3, L4, L5, L6, L7, L8, L9, L10, L11, L12, L13, L14, L15, L16, L17, L18, L19, L20, L27, L30, L31, L35, L36, L37, L38, L39, L40, L41, L46, L48, L51, L57, L59, L60, L82, L98, L99, L100, L102, L104, L107, L110, L119, L144, L240, L255, L256, L360, L999, L1000000, nI_val, n_lt_t, n_lt_f, n_le_t, n_le_f, n_eq_t, n_eq_f, k_le_f, m_lt_t, m_lt_f, m_le_t, m_le_f, m_eq_f, m_eq_f', nI_add, nI_mulE, nI_subE, if_true, if_false, ite_true, ite_false, or_false, false_or, or_true, true_or, or_self, and_true, true_and, and_false, false_and, not_true_eq_false, not_false_eq_true, Option.bind_some, Sum.elim_inl, Sum.elim_inr, xu_set, xset_same, xset_ne, xset_2, xset_set, upd_same, upd_ne, nbI_some, ne_eq, reduceCtorEq, reduceIte, Nat.reduceAdd, Nat.reduceMul, Nat.reduceSub, Nat.add_zero, Nat.zero_add, Nat.mul_zero, Nat.zero_mul, g3]
    · simp (disch := omega) only [↓Lm1, L0, L1, L2, L3, L4, L5, L6, L7, L8, L9, L10, L11, L12, L13, L14, L15, L16, L17, L18, L19, L20, L27, L30, L31, L35, L36, L37, L38, L39, L40, L41, L46, L48, L51, L57, L59, L60, L82, L98, L99, L100, L102, L104, L107, L110, L119, L144, L240, L255, L256, L360, L999, L1000000, nI_val, n_lt_t, n_lt_f, n_le_t, n_le_f, n_eq_t, n_eq_f, k_le_f, m_lt_t, m_lt_f, m_le_t, m_le_f, m_eq_f, m_eq_f', nI_add, nI_mulE, nI_subE, if_true, if_false, ite_true, ite_false, or_false, false_or, or_true, true_or, or_self, and_true, true_and, and_false, false_and, not_true_eq_false, not_false_eq_true, Option.bind_some, Sum.elim_inl, Sum.elim_inr, xu_set, xset_same, xset_ne, xset_2, xset_set, upd_same, upd_ne, nbI_some, ne_eq, reduceCtorEq, reduceIte, Nat.reduceAdd, Nat.reduceMul, Nat.reduceSub, Nat.add_zero, Nat.zero_add, Nat.mul_zero, Nat.zero_mul]
  obtain ⟨b, eb, hb1, hb2, hb3⟩ := key
  refine ⟨b, eb, hb1, ?_, ?_⟩
  · rw [← hD]
    exact hb2
  · intro j hj
    rw [← hD] at hj
    exact hb3 j hj
theorem m_day {n w : Nat} (x : Int32) (h : BM u0 n0 u1 n1 l s) (h8 : n ≤ 8) (hw : w < 2) : ∃ s', F_X9_dayOf x (nI n) (nI w) s = some (dyv u0 n0 l x n w, s') ∧ KR SM SR s s' := by
  have hok := twn_ok u0 n0
  have hN := hok.1.1
  have hl := h.2.2.2.2.2.2.1
  obtain ⟨s2, e2, rt, h15⟩ := asToldM h
  have h03 : s2.1 0 3 = nI (twn u0 n0).1 := rt.2.2.1.2.1
  obtain ⟨s3, e3, k3, d3⟩ := dayL (x := x) (l3 := nI w) h03 hN h8
  have hT3 : TwM s3 (twn u0 n0).1 (twn u0 n0).2.1 (twn u0 n0).2.2.2 := by
    have q := rt.2.2.1
    unfold TwM at q ⊢
    rw [k3.1 3 (by decide) (by decide), k3.2 3 (by decide), k3.2 2 (by decide)]
    exact q
  obtain ⟨s', e', k', n'⟩ := runsM (pr := all_) hT3 (fun j hj => (hok.2.2.1 j hj).2) hok.2.2.2 (dyD_ok hN h8) d3 hl (LwM_K rt.2.1.2.2.2.2.2.2.2 k3 (by decide) (by decide) (by decide) (by decide) (by decide)) (by rw [k3.2 15 (by decide), h15]; exact pr0)
  have h03' : s'.1 0 3 = nI (twn u0 n0).1 := by rw [k'.2 3 (by decide)]; exact hT3.2.1
  have h20 : s'.1 0 20 = nbI (dyR u0 n0 l x n).1 := n'.1
  have hx : F_X9_exiledMany s' = some (nI (smN (fun j => b01 ((dyR u0 n0 l x n).2.2.1 j)) (twn u0 n0).1)) := exManyM (s := s') hN h03' n'.2.2.2
  refine ⟨s', ?_, (rt.1.trans (k3.wide (by decide) (by decide))).trans (k'.wide (by decide) (by decide))⟩
  unfold F_X9_dayOf dyv
  rw [e2]
  dsimp only [Option.bind_some]
  by_cases c : (twn u0 n0).1 = 0
  · have e3' : xlp (F_X9_dayOf_L26 (nI w)) 100000 (x, nI 0, xset s2 0 (upd (s2.1 0) 5 (nI 0))) = some s3 := by
      have q : (dyD (twn u0 n0).1 x n).1 = 0 := if_pos c
      rw [q] at e3
      exact e3
    rcases two_cases hw with rfl | rfl
    · simp (disch := omega) only [↓Lm1, L0, L1, L2, L3, L4, L5, L6, L7, L8, L9, L10, L11, L12, L13, L14, L15, L16, L17, L18, L19, L20, L27, L30, L31, L35, L36, L37, L38, L39, L40, L41, L46, L48, L51, L57, L59, L60, L82, L98, L99, L100, L102, L104, L107, L110, L119, L144, L240, L255, L256, L360, L999, L1000000, nI_val, n_lt_t, n_lt_f, n_le_t, n_le_f, n_eq_t, n_eq_f, k_le_f, m_lt_t, m_lt_f, m_le_t, m_le_f, m_eq_f, m_eq_f', nI_add, nI_mulE, nI_subE, if_true, if_false, ite_true, ite_false, or_false, false_or, or_true, true_or, or_self, and_true, true_and, and_false, false_and, not_true_eq_false, not_false_eq_true, Option.bind_some, Sum.elim_inl, Sum.elim_inr, xu_set, xset_same, xset_ne, xset_2, xset_set, upd_same, upd_ne, nbI_some, ne_eq, reduceCtorEq, reduceIte, Nat.reduceAdd, Nat.reduceMul, Nat.reduceSub, Nat.add_zero, Nat.zero_add, Nat.mul_zero, Nat.zero_mul, h03, e3', e', h20]
      all_goals rfl
    · simp (disch := omega) only [↓Lm1, L0, L1, L2, L3, L4, L5, L6, L7, L8, L9, L10, L11, L12, L13, L14, L15, L16, L17, L18, L19, L20, L27, L30, L31, L35, L36, L37, L38, L39, L40, L41, L46, L48, L51, L57, L59, L60, L82, L98, L99, L100, L102, L104, L107, L110, L119, L144, L240, L255, L256, L360, L999, L1000000, nI_val, n_lt_t, n_lt_f, n_le_t, n_le_f, n_eq_t, n_eq_f, k_le_f, m_lt_t, m_lt_f, m_le_t, m_le_f, m_eq_f, m_eq_f', nI_add, nI_mulE, nI_subE, if_true, if_false, ite_true, ite_false, or_false, false_or, or_true, true_or, or_self, and_true, true_and, and_false, false_and, not_true_eq_false, not_false_eq_true, Option.bind_some, Sum.elim_inl, Sum.elim_inr, xu_set, xset_same, xset_ne, xset_2, xset_set, upd_same, upd_ne, nbI_some, ne_eq, reduceCtorEq, reduceIte, Nat.reduceAdd, Nat.reduceMul, Nat.reduceSub, Nat.add_zero, Nat.zero_add, Nat.mul_zero, Nat.zero_mul, h03, e3', e', hx]
      all_goals rfl
  · have e3' : xlp (F_X9_dayOf_L26 (nI w)) 100000 (x, nI 0, xset s2 0 (upd (s2.1 0) 5 (nI n))) = some s3 := by
      have q : (dyD (twn u0 n0).1 x n).1 = n := if_neg c
      rw [q] at e3
      exact e3
    rcases two_cases hw with rfl | rfl
    · simp (disch := omega) only [↓Lm1, L0, L1, L2, L3, L4, L5, L6, L7, L8, L9, L10, L11, L12, L13, L14, L15, L16, L17, L18, L19, L20, L27, L30, L31, L35, L36, L37, L38, L39, L40, L41, L46, L48, L51, L57, L59, L60, L82, L98, L99, L100, L102, L104, L107, L110, L119, L144, L240, L255, L256, L360, L999, L1000000, nI_val, n_lt_t, n_lt_f, n_le_t, n_le_f, n_eq_t, n_eq_f, k_le_f, m_lt_t, m_lt_f, m_le_t, m_le_f, m_eq_f, m_eq_f', nI_add, nI_mulE, nI_subE, if_true, if_false, ite_true, ite_false, or_false, false_or, or_true, true_or, or_self, and_true, true_and, and_false, false_and, not_true_eq_false, not_false_eq_true, Option.bind_some, Sum.elim_inl, Sum.elim_inr, xu_set, xset_same, xset_ne, xset_2, xset_set, upd_same, upd_ne, nbI_some, ne_eq, reduceCtorEq, reduceIte, Nat.reduceAdd, Nat.reduceMul, Nat.reduceSub, Nat.add_zero, Nat.zero_add, Nat.mul_zero, Nat.zero_mul, h03, e3', e', h20]
      all_goals rfl
    · simp (disch := omega) only [↓Lm1, L0, L1, L2, L3, L4, L5, L6, L7, L8, L9, L10, L11, L12, L13, L14, L15, L16, L17, L18, L19, L20, L27, L30, L31, L35, L36, L37, L38, L39, L40, L41, L46, L48, L51, L57, L59, L60, L82, L98, L99, L100, L102, L104, L107, L110, L119, L144, L240, L255, L256, L360, L999, L1000000, nI_val, n_lt_t, n_lt_f, n_le_t, n_le_f, n_eq_t, n_eq_f, k_le_f, m_lt_t, m_lt_f, m_le_t, m_le_f, m_eq_f, m_eq_f', nI_add, nI_mulE, nI_subE, if_true, if_false, ite_true, ite_false, or_false, false_or, or_true, true_or, or_self, and_true, true_and, and_false, false_and, not_true_eq_false, not_false_eq_true, Option.bind_some, Sum.elim_inl, Sum.elim_inr, xu_set, xset_same, xset_ne, xset_2, xset_set, upd_same, upd_ne, nbI_some, ne_eq, reduceCtorEq, reduceIte, Nat.reduceAdd, Nat.reduceMul, Nat.reduceSub, Nat.add_zero, Nat.zero_add, Nat.mul_zero, Nat.zero_mul, h03, e3', e', hx]
      all_goals rfl
theorem day_no {y : Int32} (h : ∀ k, k < 8 → y ≠ nI (k + 1)) : y < nI 1 ∨ (¬ y < nI 1 ∧ nI 8 < y) := by
  by_cases c : y < nI 1
  · exact Or.inl c
  · refine Or.inr ⟨c, ?_⟩
    rw [i_lt, nI_toInt (by omega)] at c
    rw [i_lt, nI_toInt (by omega)]
    have e := i_of (x := y) (by omega)
    by_cases c2 : y.toInt ≤ 8
    · exact absurd (by rw [show y.toInt.toNat - 1 + 1 = y.toInt.toNat by omega]; exact e) (h (y.toInt.toNat - 1) (by omega))
    · omega
theorem c_day : lh_day Inv := by
  intro x y z s1 s2 hI
  obtain ⟨u0, n0, u1, n1, l, e, hA⟩ := hI
  by_cases hy : ∃ k, k < 8 ∧ y = nI (k + 1)
  · obtain ⟨k, hk, rfl⟩ := hy
    have i1 : F_X9_in (nI (k + 1)) (nI 1) (nI 8) s2 = some (nI 1) := inM_t (by omega) (by omega) (by omega)
    rcases arg_cases z 2 with ⟨w, hw, rfl⟩ | hno
    · obtain ⟨s'', e'', kr⟩ := m_day (n := k + 1) (w := w) x hA.iM.1 (by omega) hw
      obtain ⟨t, et, kt⟩ := q_day (n := k + 1) (w := w) x hA.iF (by omega) (by omega) hw
      refine ⟨_, t, s'', et, ?_, hA.mk2 (hA.iF.keep kt) kt.kf kr⟩
      have i2 : F_X9_in (nI w) (nI 0) (nI 1) s2 = some (nI 1) := inM_t (by omega) (by omega) (by omega)
      unfold F_X9_day
      simp (disch := omega) only [↓Lm1, L0, L1, L2, L3, L4, L5, L6, L7, L8, L9, L10, L11, L12, L13, L14, L15, L16, L17, L18, L19, L20, L27, L30, L31, L35, L36, L37, L38, L39, L40, L41, L46, L48, L51, L57, L59, L60, L82, L98, L99, L100, L102, L104, L107, L110, L119, L144, L240, L255, L256, L360, L999, L1000000, nI_val, n_lt_t, n_lt_f, n_le_t, n_le_f, n_eq_t, n_eq_f, k_le_f, m_lt_t, m_lt_f, m_le_t, m_le_f, m_eq_f, m_eq_f', nI_add, nI_mulE, nI_subE, if_true, if_false, ite_true, ite_false, or_false, false_or, or_true, true_or, or_self, and_true, true_and, and_false, false_and, not_true_eq_false, not_false_eq_true, Option.bind_some, Sum.elim_inl, Sum.elim_inr, xu_set, xset_same, xset_ne, xset_2, xset_set, upd_same, upd_ne, nbI_some, ne_eq, reduceCtorEq, reduceIte, Nat.reduceAdd, Nat.reduceMul, Nat.reduceSub, Nat.add_zero, Nat.zero_add, Nat.mul_zero, Nat.zero_mul, i1, i2, e'']
    · refine ⟨-2, s1, s2, ?_, ?_, hA.mk2 hA.iF (KF.refl _) (KR.refl _ _ _)⟩
      · unfold F_X8_day
        have o2 : F_X8_isOutside z (nI 2) s1 = some (nI 1) := out_no (by omega) hno
        simp (disch := omega) only [↓Lm1, L0, L1, L2, L3, L4, L5, L6, L7, L8, L9, L10, L11, L12, L13, L14, L15, L16, L17, L18, L19, L20, L27, L30, L31, L35, L36, L37, L38, L39, L40, L41, L46, L48, L51, L57, L59, L60, L82, L98, L99, L100, L102, L104, L107, L110, L119, L144, L240, L255, L256, L360, L999, L1000000, nI_val, n_lt_t, n_lt_f, n_le_t, n_le_f, n_eq_t, n_eq_f, k_le_f, m_lt_t, m_lt_f, m_le_t, m_le_f, m_eq_f, m_eq_f', nI_add, nI_mulE, nI_subE, if_true, if_false, ite_true, ite_false, or_false, false_or, or_true, true_or, or_self, and_true, true_and, and_false, false_and, not_true_eq_false, not_false_eq_true, Option.bind_some, Sum.elim_inl, Sum.elim_inr, xu_set, xset_same, xset_ne, xset_2, xset_set, upd_same, upd_ne, nbI_some, ne_eq, reduceCtorEq, reduceIte, Nat.reduceAdd, Nat.reduceMul, Nat.reduceSub, Nat.add_zero, Nat.zero_add, Nat.mul_zero, Nat.zero_mul, o2]
      · unfold F_X9_day
        have i2 : F_X9_in z (nI 0) (nI 1) s2 = some (nI 0) := inM_no (by omega) hno
        simp (disch := omega) only [↓Lm1, L0, L1, L2, L3, L4, L5, L6, L7, L8, L9, L10, L11, L12, L13, L14, L15, L16, L17, L18, L19, L20, L27, L30, L31, L35, L36, L37, L38, L39, L40, L41, L46, L48, L51, L57, L59, L60, L82, L98, L99, L100, L102, L104, L107, L110, L119, L144, L240, L255, L256, L360, L999, L1000000, nI_val, n_lt_t, n_lt_f, n_le_t, n_le_f, n_eq_t, n_eq_f, k_le_f, m_lt_t, m_lt_f, m_le_t, m_le_f, m_eq_f, m_eq_f', nI_add, nI_mulE, nI_subE, if_true, if_false, ite_true, ite_false, or_false, false_or, or_true, true_or, or_self, and_true, true_and, and_false, false_and, not_true_eq_false, not_false_eq_true, Option.bind_some, Sum.elim_inl, Sum.elim_inr, xu_set, xset_same, xset_ne, xset_2, xset_set, upd_same, upd_ne, nbI_some, ne_eq, reduceCtorEq, reduceIte, Nat.reduceAdd, Nat.reduceMul, Nat.reduceSub, Nat.add_zero, Nat.zero_add, Nat.mul_zero, Nat.zero_mul, i1, i2]
  · have hno : ∀ k, k < 8 → y ≠ nI (k + 1) := fun k hk q => hy ⟨k, hk, q⟩
    have i1 : F_X9_in y (nI 1) (nI 8) s2 = some (nI 0) := by
      rcases day_no hno with q | ⟨q1, q2⟩
      · exact in_lo q
      · exact in_hi q1 q2
    refine ⟨-2, s1, s2, ?_, ?_, hA.mk2 hA.iF (KF.refl _) (KR.refl _ _ _)⟩
    · unfold F_X8_day
      rcases day_no hno with q | ⟨q1, q2⟩
      · have q' : (y < nI 1) = True := eq_true q
        simp (disch := omega) only [↓Lm1, L0, L1, L2, L3, L4, L5, L6, L7, L8, L9, L10, L11, L12, L13, L14, L15, L16, L17, L18, L19, L20, L27, L30, L31, L35, L36, L37, L38, L39, L40, L41, L46, L48, L51, L57, L59, L60, L82, L98, L99, L100, L102, L104, L107, L110, L119, L144, L240, L255, L256, L360, L999, L1000000, nI_val, n_lt_t, n_lt_f, n_le_t, n_le_f, n_eq_t, n_eq_f, k_le_f, m_lt_t, m_lt_f, m_le_t, m_le_f, m_eq_f, m_eq_f', nI_add, nI_mulE, nI_subE, if_true, if_false, ite_true, ite_false, or_false, false_or, or_true, true_or, or_self, and_true, true_and, and_false, false_and, not_true_eq_false, not_false_eq_true, Option.bind_some, Sum.elim_inl, Sum.elim_inr, xu_set, xset_same, xset_ne, xset_2, xset_set, upd_same, upd_ne, nbI_some, ne_eq, reduceCtorEq, reduceIte, Nat.reduceAdd, Nat.reduceMul, Nat.reduceSub, Nat.add_zero, Nat.zero_add, Nat.mul_zero, Nat.zero_mul, q']
      · have q1' : (y < nI 1) = False := eq_false q1
        have q2' : (nI 8 < y) = True := eq_true q2
        simp (disch := omega) only [↓Lm1, L0, L1, L2, L3, L4, L5, L6, L7, L8, L9, L10, L11, L12, L13, L14, L15, L16, L17, L18, L19, L20, L27, L30, L31, L35, L36, L37, L38, L39, L40, L41, L46, L48, L51, L57, L59, L60, L82, L98, L99, L100, L102, L104, L107, L110, L119, L144, L240, L255, L256, L360, L999, L1000000, nI_val, n_lt_t, n_lt_f, n_le_t, n_le_f, n_eq_t, n_eq_f, k_le_f, m_lt_t, m_lt_f, m_le_t, m_le_f, m_eq_f, m_eq_f', nI_add, nI_mulE, nI_subE, if_true, if_false, ite_true, ite_false, or_false, false_or, or_true, true_or, or_self, and_true, true_and, and_false, false_and, not_true_eq_false, not_false_eq_true, Option.bind_some, Sum.elim_inl, Sum.elim_inr, xu_set, xset_same, xset_ne, xset_2, xset_set, upd_same, upd_ne, nbI_some, ne_eq, reduceCtorEq, reduceIte, Nat.reduceAdd, Nat.reduceMul, Nat.reduceSub, Nat.add_zero, Nat.zero_add, Nat.mul_zero, Nat.zero_mul, q1', q2']
    · unfold F_X9_day
      simp (disch := omega) only [↓Lm1, L0, L1, L2, L3, L4, L5, L6, L7, L8, L9, L10, L11, L12, L13, L14, L15, L16, L17, L18, L19, L20, L27, L30, L31, L35, L36, L37, L38, L39, L40, L41, L46, L48, L51, L57, L59, L60, L82, L98, L99, L100, L102, L104, L107, L110, L119, L144, L240, L255, L256, L360, L999, L1000000, nI_val, n_lt_t, n_lt_f, n_le_t, n_le_f, n_eq_t, n_eq_f, k_le_f, m_lt_t, m_lt_f, m_le_t, m_le_f, m_eq_f, m_eq_f', nI_add, nI_mulE, nI_subE, if_true, if_false, ite_true, ite_false, or_false, false_or, or_true, true_or, or_self, and_true, true_and, and_false, false_and, not_true_eq_false, not_false_eq_true, Option.bind_some, Sum.elim_inl, Sum.elim_inr, xu_set, xset_same, xset_ne, xset_2, xset_set, upd_same, upd_ne, nbI_some, ne_eq, reduceCtorEq, reduceIte, Nat.reduceAdd, Nat.reduceMul, Nat.reduceSub, Nat.add_zero, Nat.zero_add, Nat.mul_zero, Nat.zero_mul, i1]
end SPEC
