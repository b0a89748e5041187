/-! ===== bits: exiled, done; count ===== -/
/-- the number whose bits below n are f -/
def bsm (f : Nat → Bool) : Nat → Nat
  | 0 => 0
  | n + 1 => bsm f n + (if f n = true then 2 ^ n else 0)
theorem bsm_lt (f : Nat → Bool) : ∀ n, bsm f n < 2 ^ n
  | 0 => by simp [bsm]
  | n + 1 => by
    have := bsm_lt f n
    unfold bsm
    rw [Nat.pow_succ]
    split <;> omega
theorem bsm_t {f : Nat → Bool} {n : Nat} (h : f n = true) : bsm f (n + 1) = bsm f n + 2 ^ n := by
  show bsm f n + (if f n = true then 2 ^ n else 0) = _
  rw [if_pos h]
theorem bsm_f {f : Nat → Bool} {n : Nat} (h : ¬ f n = true) : bsm f (n + 1) = bsm f n := by
  show bsm f n + (if f n = true then 2 ^ n else 0) = _
  rw [if_neg h]
  rfl
theorem bsm_bit (f : Nat → Bool) : ∀ n i, (bsm f n).testBit i = (decide (i < n) && f i)
  | 0, i => by simp [bsm]
  | n + 1, i => by
    have h := bsm_bit f n i
    have hl := bsm_lt f n
    by_cases c : f n = true
    · rw [bsm_t c]
      have e : bsm f n + 2 ^ n = 2 ^ n * 1 ||| bsm f n := by rw [← Nat.two_pow_add_eq_or_of_lt hl 1]; omega
      rw [e, Nat.testBit_or, h, Nat.mul_one, Nat.testBit_two_pow]
      by_cases q : i = n
      · subst q; simp [c]
      · have : ¬ n = i := fun z => q z.symm
        by_cases q2 : i < n
        · simp [q2, this, show i < n + 1 by omega]
        · simp [q2, this, show ¬ i < n + 1 by omega]
    · rw [bsm_f c, h]
      have c' : f n = false := by simpa using c
      by_cases q : i = n
      · subst q; simp [c']
      · by_cases q2 : i < n
        · simp [q2, show i < n + 1 by omega]
        · simp [q2, show ¬ i < n + 1 by omega]
theorem bsm_ext {f g : Nat → Bool} : ∀ n, (∀ j, j < n → f j = g j) → bsm f n = bsm g n
  | 0, _ => rfl
  | n + 1, h => by
    unfold bsm
    rw [bsm_ext n (fun j hj => h j (by omega)), h n (by omega)]
theorem shl_bit : ∀ k, k < 31 → xshl (nI 1) (nI k) = nI (2 ^ k) := by decide +kernel
theorem or_bit {a k : Nat} (ha : a < 2 ^ k) (hk : k < 31) : nI a ||| xshl (nI 1) (nI k) = nI (a + 2 ^ k) := by
  rw [shl_bit k hk]
  have e : a + 2 ^ k = 2 ^ k * 1 ||| a := by rw [← Nat.two_pow_add_eq_or_of_lt ha 1]; omega
  rw [e, Nat.mul_one, Nat.or_comm]
  apply Int32.toBitVec_inj.mp
  show BitVec.ofNat 32 a ||| BitVec.ofNat 32 (2 ^ k) = BitVec.ofNat 32 (a ||| 2 ^ k)
  rw [BitVec.ofNat_or]
theorem or_0 (x : Int32) : x ||| nI 0 = x := Int32.or_zero
theorem exi_lo {ex : Nat → Bool} {x : Int64} (h : ExB ex x) : (x &&& (262143 : Int64)).toInt32 = nI (bsm ex 18) := by
  apply Int32.toBitVec_inj.mp
  show (x.toBitVec &&& 262143#64).signExtend 32 = BitVec.ofNat 32 (bsm ex 18)
  apply BitVec.eq_of_getLsbD_eq
  intro i hi
  rw [BitVec.getLsbD_signExtend, BitVec.getLsbD_ofNat, bsm_bit, if_pos (show i < 64 by omega), BitVec.getLsbD_and, h i (by omega)]
  have e : (262143#64).getLsbD i = decide (i < 18) := by
    rw [BitVec.getLsbD_ofNat]
    have := Nat.testBit_two_pow_sub_one 18 i
    have e2 : (262143 : Nat) = 2 ^ 18 - 1 := rfl
    rw [e2, this]
    simp [show i < 64 by omega]
  rw [e, Bool.and_comm (ex i)]
theorem xlshr_bv {x : Int64} {p : Nat} (hp : p < 64) : (xlshr x (nI p)).toBitVec = x.toBitVec.sshiftRight p := by
  unfold xlshr
  rw [Int64.toBitVec_shiftRight]
  show x.toBitVec.sshiftRight' (((nI p).toInt64 &&& 63).toBitVec.smod 64#64) = _
  rw [sh_amt p hp]
  show x.toBitVec.sshiftRight (BitVec.ofNat 64 p).toNat = _
  rw [BitVec.toNat_ofNat, Nat.mod_eq_of_lt (by omega)]
theorem exi_hi {ex : Nat → Bool} {x : Int64} (h : ExB ex x) : (xlshr x (nI 18) &&& (262143 : Int64)).toInt32 = nI (bsm (fun k => ex (18 + k)) 18) := by
  apply Int32.toBitVec_inj.mp
  show ((xlshr x (nI 18)).toBitVec &&& 262143#64).signExtend 32 = BitVec.ofNat 32 (bsm (fun k => ex (18 + k)) 18)
  rw [xlshr_bv (by omega)]
  apply BitVec.eq_of_getLsbD_eq
  intro i hi
  rw [BitVec.getLsbD_signExtend, BitVec.getLsbD_ofNat, bsm_bit, if_pos (show i < 64 by omega), BitVec.getLsbD_and]
  have e : (262143#64).getLsbD i = decide (i < 18) := by
    rw [BitVec.getLsbD_ofNat]
    have := Nat.testBit_two_pow_sub_one 18 i
    have e2 : (262143 : Nat) = 2 ^ 18 - 1 := rfl
    rw [e2, this]
    simp [show i < 64 by omega]
  rw [e]
  by_cases c : i < 18
  · have e3 : (x.toBitVec.sshiftRight 18).getLsbD i = ex (18 + i) := by
      rw [BitVec.getLsbD_sshiftRight, ← h (18 + i) (by omega)]
      simp [show ¬ 64 ≤ i by omega, show 18 + i < 64 by omega]
    rw [e3, Bool.and_comm (ex (18 + i))]
  · simp [c]
theorem nst_exN {d : DD} {sh : Nat → Nat} {pr : Nat → Bool} {ch dp : Nat} {th : Nat → Nat} {M : Nat} (hd : ∀ i, i < d.1 → ch < sh i → d.2.1 i < M) : ∀ k p, (nst d sh pr ch dp th k).2.2.1 p = true → p < M
  | 0, p, q => by cases q
  | k + 1, p, q => by
    have ih := nst_exN (pr := pr) (dp := dp) (th := th) hd k
    have q : (nstep d sh pr ch th k (nst d sh pr ch dp th k)).2.2.1 p = true := q
    generalize nst d sh pr ch dp th k = s at ih q
    unfold nstep at q
    by_cases c : s.1 = none
    · rw [if_pos c] at q
      dsimp only at q
      split at q
      · exact ih p q
      · have key : ∀ j, j ≤ d.1 → ∀ p, nexA d sh pr ch s.2.2.1 k j p = true → p < M := by
          intro j
          induction j with
          | zero => intro _ p q; exact ih p q
          | succ j ihj =>
            intro hj p q
            rw [nexA_s, Bool.or_eq_true] at q
            rcases q with q | q
            · exact ihj (by omega) p q
            · simp only [Bool.and_eq_true, decide_eq_true_eq] at q
              rw [← q.2]
              exact hd j (by omega) q.1.2
        exact key d.1 (Nat.le_refl _) p q
    · rw [if_neg c] at q
      exact ih p q
theorem shr_le (d : DD) (N : Nat) (ls : Nat → Nat) (i : Nat) : shr d N ls i ≤ 14 := by
  have := (ldk_le (d.2.2.1 i)).1
  unfold shr
  split <;> omega
theorem ngt_ex {N : Nat} {ls : Nat → Nat} {d : DD} {pr : Nat → Bool} {l : LD} {p : Nat} (h : (ngt N ls d pr l).2.2.1 p = true) : p < N := by
  refine nst_exN (M := N) (fun i _ hs => ?_) 10 p h
  apply Classical.byContradiction
  intro c
  unfold shr at hs
  rw [if_neg c] at hs
  omega
theorem ngt_wk {N : Nat} {ls : Nat → Nat} {d : DD} {pr : Nat → Bool} {l : LD} {h : Nat} (hl : LwOk l) (q : (ngt N ls d pr l).1 = some h) : h < 10 := (nst_ok hl.1 10).2 h q
/-! many -/
theorem smN_ext {f g : Nat → Nat} : ∀ n, (∀ j, j < n → f j = g j) → smN f n = smN g n
  | 0, _ => rfl
  | n + 1, h => by
    unfold smN
    rw [smN_ext n (fun j hj => h j (by omega)), h n (by omega)]
theorem smN_add (f : Nat → Nat) (a : Nat) : ∀ b, smN f (a + b) = smN f a + smN (fun j => f (a + j)) b
  | 0 => rfl
  | b + 1 => by
    show smN f (a + b) + f (a + b) = smN f a + (smN (fun j => f (a + j)) b + f (a + b))
    rw [smN_add f a b]
    omega
theorem smN_zero {f : Nat → Nat} : ∀ n, (∀ j, j < n → f j = 0) → smN f n = 0
  | 0, _ => rfl
  | n + 1, h => by
    unfold smN
    rw [smN_zero n (fun j hj => h j (by omega)), h n (by omega)]
theorem smN_one {f : Nat → Nat} (n : Nat) (h : ∀ j, j < n → f j ≤ 1) : smN f n ≤ n := by
  have := smN_le (F := 1) n h
  omega
def b01 (b : Bool) : Nat := if b = true then 1 else 0
theorem exManyM {s : xS} {N : Nat} {ex : Nat → Bool} (hN : N ≤ 36) (h3 : s.1 0 3 = nI N) (h14 : ∀ p, p < 40 → s.1 14 p = nI (if ex p = true then 1 else 0)) : F_X9_exiledMany s = some (nI (smN (fun j => b01 (ex j)) N)) := by
  unfold F_X9_exiledMany
  rw [xlp_at (f := F_X9_exiledMany_L4 s) (a := (0, 0)) (fun i => (nI (smN (fun j => b01 (ex j)) i), nI i)) (b := nI (smN (fun j => b01 (ex j)) N)) N (by omega) rfl]
  · rfl
  · intro i hi
    have e14 := h14 i (by omega)
    unfold F_X9_exiledMany_L4
    by_cases c : ex i = true
    · rw [if_pos c] at e14
      simp (disch := omega) only [↓Lm1, L0, L1, L2, L3, L4, L5, L6, L7, L8, L9, L10, L11, L12, L13, L14, L15, L16, L17, L18, L19, L20, L27, L30, L31, L35, L36, L37, L38, L39, L40, L41, L46, L48, L51, L57, L59, L60, L82, L98, L99, L100, L102, L104, L107, L110, L119, L144, L240, L255, L256, L360, L999, L1000000, nI_val, n_lt_t, n_lt_f, n_le_t, n_le_f, n_eq_t, n_eq_f, k_le_f, m_lt_t, m_lt_f, m_le_t, m_le_f, m_eq_f, m_eq_f', nI_add, nI_mulE, nI_subE, if_true, if_false, ite_true, ite_false, or_false, false_or, or_true, true_or, or_self, and_true, true_and, and_false, false_and, not_true_eq_false, not_false_eq_true, Option.bind_some, Sum.elim_inl, Sum.elim_inr, xu_set, xset_same, xset_ne, xset_2, xset_set, upd_same, upd_ne, nbI_some, ne_eq, reduceCtorEq, reduceIte, Nat.reduceAdd, Nat.reduceMul, Nat.reduceSub, Nat.add_zero, Nat.zero_add, Nat.mul_zero, Nat.zero_mul, h3, e14, smN, b01, c]
    · rw [if_neg c] at e14
      simp (disch := omega) only [↓Lm1, L0, L1, L2, L3, L4, L5, L6, L7, L8, L9, L10, L11, L12, L13, L14, L15, L16, L17, L18, L19, L20, L27, L30, L31, L35, L36, L37, L38, L39, L40, L41, L46, L48, L51, L57, L59, L60, L82, L98, L99, L100, L102, L104, L107, L110, L119, L144, L240, L255, L256, L360, L999, L1000000, nI_val, n_lt_t, n_lt_f, n_le_t, n_le_f, n_eq_t, n_eq_f, k_le_f, m_lt_t, m_lt_f, m_le_t, m_le_f, m_eq_f, m_eq_f', nI_add, nI_mulE, nI_subE, if_true, if_false, ite_true, ite_false, or_false, false_or, or_true, true_or, or_self, and_true, true_and, and_false, false_and, not_true_eq_false, not_false_eq_true, Option.bind_some, Sum.elim_inl, Sum.elim_inr, xu_set, xset_same, xset_ne, xset_2, xset_set, upd_same, upd_ne, nbI_some, ne_eq, reduceCtorEq, reduceIte, Nat.reduceAdd, Nat.reduceMul, Nat.reduceSub, Nat.add_zero, Nat.zero_add, Nat.mul_zero, Nat.zero_mul, h3, e14, smN, b01, c]
  · unfold F_X9_exiledMany_L4
    simp (disch := omega) only [↓Lm1, L0, L1, L2, L3, L4, L5, L6, L7, L8, L9, L10, L11, L12, L13, L14, L15, L16, L17, L18, L19, L20, L27, L30, L31, L35, L36, L37, L38, L39, L40, L41, L46, L48, L51, L57, L59, L60, L82, L98, L99, L100, L102, L104, L107, L110, L119, L144, L240, L255, L256, L360, L999, L1000000, nI_val, n_lt_t, n_lt_f, n_le_t, n_le_f, n_eq_t, n_eq_f, k_le_f, m_lt_t, m_lt_f, m_le_t, m_le_f, m_eq_f, m_eq_f', nI_add, nI_mulE, nI_subE, if_true, if_false, ite_true, ite_false, or_false, false_or, or_true, true_or, or_self, and_true, true_and, and_false, false_and, not_true_eq_false, not_false_eq_true, Option.bind_some, Sum.elim_inl, Sum.elim_inr, xu_set, xset_same, xset_ne, xset_2, xset_set, upd_same, upd_ne, nbI_some, ne_eq, reduceCtorEq, reduceIte, Nat.reduceAdd, Nat.reduceMul, Nat.reduceSub, Nat.add_zero, Nat.zero_add, Nat.mul_zero, Nat.zero_mul, h3]
theorem doneF {s : xS} {n : Nat} {ft : Nat → Nat} (hn : n ≤ 8) (h3 : s.1 8 3 = nI n) (hf : ∀ i, i < n → s.1 26 i = nI (ft i)) (h2 : ∀ i, ft i ≤ 2) : F_X3_doneOf s = some (nI (smN (fun j => if ft j = 0 then 1 else 0) n)) := by
  unfold F_X3_doneOf
  rw [xlp_at (f := F_X3_doneOf_L4 s) (a := (0, 0)) (fun i => (nI (smN (fun j => if ft j = 0 then 1 else 0) i), nI i)) (b := nI (smN (fun j => if ft j = 0 then 1 else 0) n)) n (by omega) rfl]
  · rfl
  · intro i hi
    have e := hf i hi
    have := h2 i
    unfold F_X3_doneOf_L4
    by_cases c : ft i = 0
    · simp (disch := omega) only [↓Lm1, L0, L1, L2, L3, L4, L5, L6, L7, L8, L9, L10, L11, L12, L13, L14, L15, L16, L17, L18, L19, L20, L27, L30, L31, L35, L36, L37, L38, L39, L40, L41, L46, L48, L51, L57, L59, L60, L82, L98, L99, L100, L102, L104, L107, L110, L119, L144, L240, L255, L256, L360, L999, L1000000, nI_val, n_lt_t, n_lt_f, n_le_t, n_le_f, n_eq_t, n_eq_f, k_le_f, m_lt_t, m_lt_f, m_le_t, m_le_f, m_eq_f, m_eq_f', nI_add, nI_mulE, nI_subE, if_true, if_false, ite_true, ite_false, or_false, false_or, or_true, true_or, or_self, and_true, true_and, and_false, false_and, not_true_eq_false, not_false_eq_true, Option.bind_some, Sum.elim_inl, Sum.elim_inr, xu_set, xset_same, xset_ne, xset_2, xset_set, upd_same, upd_ne, nbI_some, ne_eq, reduceCtorEq, reduceIte, Nat.reduceAdd, Nat.reduceMul, Nat.reduceSub, Nat.add_zero, Nat.zero_add, Nat.mul_zero, Nat.zero_mul, h3, e, smN, c]
    · simp (disch := omega) only [↓Lm1, L0, L1, L2, L3, L4, L5, L6, L7, L8, L9, L10, L11, L12, L13, L14, L15, L16, L17, L18, L19, L20, L27, L30, L31, L35, L36, L37, L38, L39, L40, L41, L46, L48, L51, L57, L59, L60, L82, L98, L99, L100, L102, L104, L107, L110, L119, L144, L240, L255, L256, L360, L999, L1000000, nI_val, n_lt_t, n_lt_f, n_le_t, n_le_f, n_eq_t, n_eq_f, k_le_f, m_lt_t, m_lt_f, m_le_t, m_le_f, m_eq_f, m_eq_f', nI_add, nI_mulE, nI_subE, if_true, if_false, ite_true, ite_false, or_false, false_or, or_true, true_or, or_self, and_true, true_and, and_false, false_and, not_true_eq_false, not_false_eq_true, Option.bind_some, Sum.elim_inl, Sum.elim_inr, xu_set, xset_same, xset_ne, xset_2, xset_set, upd_same, upd_ne, nbI_some, ne_eq, reduceCtorEq, reduceIte, Nat.reduceAdd, Nat.reduceMul, Nat.reduceSub, Nat.add_zero, Nat.zero_add, Nat.mul_zero, Nat.zero_mul, h3, e, smN, c]
  · unfold F_X3_doneOf_L4
    simp (disch := omega) only [↓Lm1, L0, L1, L2, L3, L4, L5, L6, L7, L8, L9, L10, L11, L12, L13, L14, L15, L16, L17, L18, L19, L20, L27, L30, L31, L35, L36, L37, L38, L39, L40, L41, L46, L48, L51, L57, L59, L60, L82, L98, L99, L100, L102, L104, L107, L110, L119, L144, L240, L255, L256, L360, L999, L1000000, nI_val, n_lt_t, n_lt_f, n_le_t, n_le_f, n_eq_t, n_eq_f, k_le_f, m_lt_t, m_lt_f, m_le_t, m_le_f, m_eq_f, m_eq_f', nI_add, nI_mulE, nI_subE, if_true, if_false, ite_true, ite_false, or_false, false_or, or_true, true_or, or_self, and_true, true_and, and_false, false_and, not_true_eq_false, not_false_eq_true, Option.bind_some, Sum.elim_inl, Sum.elim_inr, xu_set, xset_same, xset_ne, xset_2, xset_set, upd_same, upd_ne, nbI_some, ne_eq, reduceCtorEq, reduceIte, Nat.reduceAdd, Nat.reduceMul, Nat.reduceSub, Nat.add_zero, Nat.zero_add, Nat.mul_zero, Nat.zero_mul, h3]
theorem doneM {s : xS} {n : Nat} {ft : Nat → Nat} (hn : n ≤ 8) (h3 : s.1 0 5 = nI n) (hf : ∀ i, i < n → s.1 11 i = nI (ft i)) (h2 : ∀ i, ft i ≤ 2) : F_X9_doneMany s = some (nI (smN (fun j => if ft j = 0 then 1 else 0) n)) := by
  unfold F_X9_doneMany
  rw [xlp_at (f := F_X9_doneMany_L4 s) (a := (0, 0)) (fun i => (nI (smN (fun j => if ft j = 0 then 1 else 0) i), nI i)) (b := nI (smN (fun j => if ft j = 0 then 1 else 0) n)) n (by omega) rfl]
  · rfl
  · intro i hi
    have e := hf i hi
    have := h2 i
    unfold F_X9_doneMany_L4
    by_cases c : ft i = 0
    · simp (disch := omega) only [↓Lm1, L0, L1, L2, L3, L4, L5, L6, L7, L8, L9, L10, L11, L12, L13, L14, L15, L16, L17, L18, L19, L20, L27, L30, L31, L35, L36, L37, L38, L39, L40, L41, L46, L48, L51, L57, L59, L60, L82, L98, L99, L100, L102, L104, L107, L110, L119, L144, L240, L255, L256, L360, L999, L1000000, nI_val, n_lt_t, n_lt_f, n_le_t, n_le_f, n_eq_t, n_eq_f, k_le_f, m_lt_t, m_lt_f, m_le_t, m_le_f, m_eq_f, m_eq_f', nI_add, nI_mulE, nI_subE, if_true, if_false, ite_true, ite_false, or_false, false_or, or_true, true_or, or_self, and_true, true_and, and_false, false_and, not_true_eq_false, not_false_eq_true, Option.bind_some, Sum.elim_inl, Sum.elim_inr, xu_set, xset_same, xset_ne, xset_2, xset_set, upd_same, upd_ne, nbI_some, ne_eq, reduceCtorEq, reduceIte, Nat.reduceAdd, Nat.reduceMul, Nat.reduceSub, Nat.add_zero, Nat.zero_add, Nat.mul_zero, Nat.zero_mul, h3, e, smN, c]
    · simp (disch := omega) only [↓Lm1, L0, L1, L2, L3, L4, L5, L6, L7, L8, L9, L10, L11, L12, L13, L14, L15, L16, L17, L18, L19, L20, L27, L30, L31, L35, L36, L37, L38, L39, L40, L41, L46, L48, L51, L57, L59, L60, L82, L98, L99, L100, L102, L104, L107, L110, L119, L144, L240, L255, L256, L360, L999, L1000000, nI_val, n_lt_t, n_lt_f, n_le_t, n_le_f, n_eq_t, n_eq_f, k_le_f, m_lt_t, m_lt_f, m_le_t, m_le_f, m_eq_f, m_eq_f', nI_add, nI_mulE, nI_subE, if_true, if_false, ite_true, ite_false, or_false, false_or, or_true, true_or, or_self, and_true, true_and, and_false, false_and, not_true_eq_false, not_false_eq_true, Option.bind_some, Sum.elim_inl, Sum.elim_inr, xu_set, xset_same, xset_ne, xset_2, xset_set, upd_same, upd_ne, nbI_some, ne_eq, reduceCtorEq, reduceIte, Nat.reduceAdd, Nat.reduceMul, Nat.reduceSub, Nat.add_zero, Nat.zero_add, Nat.mul_zero, Nat.zero_mul, h3, e, smN, c]
  · unfold F_X9_doneMany_L4
    simp (disch := omega) only [↓Lm1, L0, L1, L2, L3, L4, L5, L6, L7, L8, L9, L10, L11, L12, L13, L14, L15, L16, L17, L18, L19, L20, L27, L30, L31, L35, L36, L37, L38, L39, L40, L41, L46, L48, L51, L57, L59, L60, L82, L98, L99, L100, L102, L104, L107, L110, L119, L144, L240, L255, L256, L360, L999, L1000000, nI_val, n_lt_t, n_lt_f, n_le_t, n_le_f, n_eq_t, n_eq_f, k_le_f, m_lt_t, m_lt_f, m_le_t, m_le_f, m_eq_f, m_eq_f', nI_add, nI_mulE, nI_subE, if_true, if_false, ite_true, ite_false, or_false, false_or, or_true, true_or, or_self, and_true, true_and, and_false, false_and, not_true_eq_false, not_false_eq_true, Option.bind_some, Sum.elim_inl, Sum.elim_inr, xu_set, xset_same, xset_ne, xset_2, xset_set, upd_same, upd_ne, nbI_some, ne_eq, reduceCtorEq, reduceIte, Nat.reduceAdd, Nat.reduceMul, Nat.reduceSub, Nat.add_zero, Nat.zero_add, Nat.mul_zero, Nat.zero_mul, h3]
theorem exOfM {s : xS} {N half : Nat} {ex : Nat → Bool} (hh : half < 2) (hN : N ≤ 36) (h3 : s.1 0 3 = nI N) (h14 : ∀ p, p < 40 → s.1 14 p = nI (if ex p = true then 1 else 0)) (hx : ∀ p, ex p = true → p < N) : xlp (F_X9_exiledOf_L8 (nI half) s) 100000 (0, 0) = some (nI (bsm (fun k => ex (18 * half + k)) 18)) := by
  obtain ⟨g, hg⟩ : ∃ g : Nat → Bool, g = fun k => ex (18 * half + k) := ⟨_, rfl⟩
  rw [← hg]
  have hg' : ∀ k, g k = ex (18 * half + k) := fun k => by rw [hg]
  refine xlp_at (f := F_X9_exiledOf_L8 (nI half) s) (a := (0, 0)) (fun i => (nI (bsm g i), nI i)) (b := nI (bsm g 18)) 18 (by omega) rfl ?_ ?_
  · intro i hi
    have e14 := h14 (18 * half + i) (by omega)
    have hl := bsm_lt g i
    unfold F_X9_exiledOf_L8
    by_cases c : ex (18 * half + i) = true
    · rw [if_pos c] at e14
      have hn := hx _ c
      have eb := bsm_t (f := g) (n := i) (by rw [hg', c])
      have eo := or_bit hl (by omega)
      simp (disch := omega) only [↓Lm1, L0, L1, L2, L3, L4, L5, L6, L7, L8, L9, L10, L11, L12, L13, L14, L15, L16, L17, L18, L19, L20, L27, L30, L31, L35, L36, L37, L38, L39, L40, L41, L46, L48, L51, L57, L59, L60, L82, L98, L99, L100, L102, L104, L107, L110, L119, L144, L240, L255, L256, L360, L999, L1000000, nI_val, n_lt_t, n_lt_f, n_le_t, n_le_f, n_eq_t, n_eq_f, k_le_f, m_lt_t, m_lt_f, m_le_t, m_le_f, m_eq_f, m_eq_f', nI_add, nI_mulE, nI_subE, if_true, if_false, ite_true, ite_false, or_false, false_or, or_true, true_or, or_self, and_true, true_and, and_false, false_and, not_true_eq_false, not_false_eq_true, Option.bind_some, Sum.elim_inl, Sum.elim_inr, xu_set, xset_same, xset_ne, xset_2, xset_set, upd_same, upd_ne, nbI_some, ne_eq, reduceCtorEq, reduceIte, Nat.reduceAdd, Nat.reduceMul, Nat.reduceSub, Nat.add_zero, Nat.zero_add, Nat.mul_zero, Nat.zero_mul, h3, e14, eb, eo]
    · rw [if_neg c] at e14
      have eb := bsm_f (f := g) (n := i) (by rw [hg']; exact c)
      by_cases q : N ≤ 18 * half + i
      · simp (disch := omega) only [↓Lm1, L0, L1, L2, L3, L4, L5, L6, L7, L8, L9, L10, L11, L12, L13, L14, L15, L16, L17, L18, L19, L20, L27, L30, L31, L35, L36, L37, L38, L39, L40, L41, L46, L48, L51, L57, L59, L60, L82, L98, L99, L100, L102, L104, L107, L110, L119, L144, L240, L255, L256, L360, L999, L1000000, nI_val, n_lt_t, n_lt_f, n_le_t, n_le_f, n_eq_t, n_eq_f, k_le_f, m_lt_t, m_lt_f, m_le_t, m_le_f, m_eq_f, m_eq_f', nI_add, nI_mulE, nI_subE, if_true, if_false, ite_true, ite_false, or_false, false_or, or_true, true_or, or_self, and_true, true_and, and_false, false_and, not_true_eq_false, not_false_eq_true, Option.bind_some, Sum.elim_inl, Sum.elim_inr, xu_set, xset_same, xset_ne, xset_2, xset_set, upd_same, upd_ne, nbI_some, ne_eq, reduceCtorEq, reduceIte, Nat.reduceAdd, Nat.reduceMul, Nat.reduceSub, Nat.add_zero, Nat.zero_add, Nat.mul_zero, Nat.zero_mul, h3, eb, or_0]
      · simp (disch := omega) only [↓Lm1, L0, L1, L2, L3, L4, L5, L6, L7, L8, L9, L10, L11, L12, L13, L14, L15, L16, L17, L18, L19, L20, L27, L30, L31, L35, L36, L37, L38, L39, L40, L41, L46, L48, L51, L57, L59, L60, L82, L98, L99, L100, L102, L104, L107, L110, L119, L144, L240, L255, L256, L360, L999, L1000000, nI_val, n_lt_t, n_lt_f, n_le_t, n_le_f, n_eq_t, n_eq_f, k_le_f, m_lt_t, m_lt_f, m_le_t, m_le_f, m_eq_f, m_eq_f', nI_add, nI_mulE, nI_subE, if_true, if_false, ite_true, ite_false, or_false, false_or, or_true, true_or, or_self, and_true, true_and, and_false, false_and, not_true_eq_false, not_false_eq_true, Option.bind_some, Sum.elim_inl, Sum.elim_inr, xu_set, xset_same, xset_ne, xset_2, xset_set, upd_same, upd_ne, nbI_some, ne_eq, reduceCtorEq, reduceIte, Nat.reduceAdd, Nat.reduceMul, Nat.reduceSub, Nat.add_zero, Nat.zero_add, Nat.mul_zero, Nat.zero_mul, h3, e14, eb, or_0]
  · unfold F_X9_exiledOf_L8
    simp (disch := omega) only [↓Lm1, L0, L1, L2, L3, L4, L5, L6, L7, L8, L9, L10, L11, L12, L13, L14, L15, L16, L17, L18, L19, L20, L27, L30, L31, L35, L36, L37, L38, L39, L40, L41, L46, L48, L51, L57, L59, L60, L82, L98, L99, L100, L102, L104, L107, L110, L119, L144, L240, L255, L256, L360, L999, L1000000, nI_val, n_lt_t, n_lt_f, n_le_t, n_le_f, n_eq_t, n_eq_f, k_le_f, m_lt_t, m_lt_f, m_le_t, m_le_f, m_eq_f, m_eq_f', nI_add, nI_mulE, nI_subE, if_true, if_false, ite_true, ite_false, or_false, false_or, or_true, true_or, or_self, and_true, true_and, and_false, false_and, not_true_eq_false, not_false_eq_true, Option.bind_some, Sum.elim_inl, Sum.elim_inr, xu_set, xset_same, xset_ne, xset_2, xset_set, upd_same, upd_ne, nbI_some, ne_eq, reduceCtorEq, reduceIte, Nat.reduceAdd, Nat.reduceMul, Nat.reduceSub, Nat.add_zero, Nat.zero_add, Nat.mul_zero, Nat.zero_mul]
/-! loudest -/
def ldst (sh ft : Nat → Nat) : Nat → Option Nat
  | 0 => none
  | k + 1 => if ft k = 0 then (match ldst sh ft k with
    | none => some k
    | some b => if sh k ≤ sh b then some b else some k) else ldst sh ft k
theorem ldst_s (sh ft : Nat → Nat) (k : Nat) : ldst sh ft (k + 1) = if ft k = 0 then (match ldst sh ft k with
    | none => some k
    | some b => if sh k ≤ sh b then some b else some k) else ldst sh ft k := rfl
theorem ldst_lt {sh ft : Nat → Nat} : ∀ {k b : Nat}, ldst sh ft k = some b → b < k
  | 0, b, h => by cases h
  | k + 1, b, h => by
    rw [ldst_s] at h
    split at h
    · split at h
      · cases h; omega
      · rename_i b' hb'
        have := ldst_lt hb'
        split at h
        · cases h; omega
        · cases h; omega
    · have := ldst_lt h
      omega
theorem loudF {s : xS} {n : Nat} {sh ft : Nat → Nat} (hn : n ≤ 8) (h3 : s.1 8 3 = nI n) (hf : ∀ i, i < n → s.1 25 i = nI (sh i) ∧ s.1 26 i = nI (ft i)) (h2 : ∀ i, ft i ≤ 2) (hs : ∀ i, sh i ≤ 14) : F_X8_loudest s = some (nbI (ldst sh ft n)) := by
  unfold F_X8_loudest
  rw [xlp_at (f := F_X8_loudest_L4 s) (a := (-1, 0)) (fun i => (nbI (ldst sh ft i), nI i)) (b := nbI (ldst sh ft n)) n (by omega) rfl]
  · rfl
  · intro i hi
    obtain ⟨e1, e2⟩ := hf i hi
    have := h2 i
    have h14 := hs i
    unfold F_X8_loudest_L4
    by_cases c : ft i = 0
    · cases q : ldst sh ft i with
      | none => simp (disch := omega) only [↓Lm1, L0, L1, L2, L3, L4, L5, L6, L7, L8, L9, L10, L11, L12, L13, L14, L15, L16, L17, L18, L19, L20, L27, L30, L31, L35, L36, L37, L38, L39, L40, L41, L46, L48, L51, L57, L59, L60, L82, L98, L99, L100, L102, L104, L107, L110, L119, L144, L240, L255, L256, L360, L999, L1000000, nI_val, n_lt_t, n_lt_f, n_le_t, n_le_f, n_eq_t, n_eq_f, k_le_f, m_lt_t, m_lt_f, m_le_t, m_le_f, m_eq_f, m_eq_f', nI_add, nI_mulE, nI_subE, if_true, if_false, ite_true, ite_false, or_false, false_or, or_true, true_or, or_self, and_true, true_and, and_false, false_and, not_true_eq_false, not_false_eq_true, Option.bind_some, Sum.elim_inl, Sum.elim_inr, xu_set, xset_same, xset_ne, xset_2, xset_set, upd_same, upd_ne, nbI_some, ne_eq, reduceCtorEq, reduceIte, Nat.reduceAdd, Nat.reduceMul, Nat.reduceSub, Nat.add_zero, Nat.zero_add, Nat.mul_zero, Nat.zero_mul, h3, e2, c, F_X8_loudest_L4_J32, q, ldst_s]
      | some b =>
        have hb := ldst_lt q
        have e3 := (hf b (by omega)).1
        have h14' := hs b
        by_cases c2 : sh i ≤ sh b
        · simp (disch := omega) only [↓Lm1, L0, L1, L2, L3, L4, L5, L6, L7, L8, L9, L10, L11, L12, L13, L14, L15, L16, L17, L18, L19, L20, L27, L30, L31, L35, L36, L37, L38, L39, L40, L41, L46, L48, L51, L57, L59, L60, L82, L98, L99, L100, L102, L104, L107, L110, L119, L144, L240, L255, L256, L360, L999, L1000000, nI_val, n_lt_t, n_lt_f, n_le_t, n_le_f, n_eq_t, n_eq_f, k_le_f, m_lt_t, m_lt_f, m_le_t, m_le_f, m_eq_f, m_eq_f', nI_add, nI_mulE, nI_subE, if_true, if_false, ite_true, ite_false, or_false, false_or, or_true, true_or, or_self, and_true, true_and, and_false, false_and, not_true_eq_false, not_false_eq_true, Option.bind_some, Sum.elim_inl, Sum.elim_inr, xu_set, xset_same, xset_ne, xset_2, xset_set, upd_same, upd_ne, nbI_some, ne_eq, reduceCtorEq, reduceIte, Nat.reduceAdd, Nat.reduceMul, Nat.reduceSub, Nat.add_zero, Nat.zero_add, Nat.mul_zero, Nat.zero_mul, h3, e1, e2, e3, c, F_X8_loudest_L4_J32, q, ldst_s, c2]
        · simp (disch := omega) only [↓Lm1, L0, L1, L2, L3, L4, L5, L6, L7, L8, L9, L10, L11, L12, L13, L14, L15, L16, L17, L18, L19, L20, L27, L30, L31, L35, L36, L37, L38, L39, L40, L41, L46, L48, L51, L57, L59, L60, L82, L98, L99, L100, L102, L104, L107, L110, L119, L144, L240, L255, L256, L360, L999, L1000000, nI_val, n_lt_t, n_lt_f, n_le_t, n_le_f, n_eq_t, n_eq_f, k_le_f, m_lt_t, m_lt_f, m_le_t, m_le_f, m_eq_f, m_eq_f', nI_add, nI_mulE, nI_subE, if_true, if_false, ite_true, ite_false, or_false, false_or, or_true, true_or, or_self, and_true, true_and, and_false, false_and, not_true_eq_false, not_false_eq_true, Option.bind_some, Sum.elim_inl, Sum.elim_inr, xu_set, xset_same, xset_ne, xset_2, xset_set, upd_same, upd_ne, nbI_some, ne_eq, reduceCtorEq, reduceIte, Nat.reduceAdd, Nat.reduceMul, Nat.reduceSub, Nat.add_zero, Nat.zero_add, Nat.mul_zero, Nat.zero_mul, h3, e1, e2, e3, c, F_X8_loudest_L4_J32, q, ldst_s, c2]
    · simp (disch := omega) only [↓Lm1, L0, L1, L2, L3, L4, L5, L6, L7, L8, L9, L10, L11, L12, L13, L14, L15, L16, L17, L18, L19, L20, L27, L30, L31, L35, L36, L37, L38, L39, L40, L41, L46, L48, L51, L57, L59, L60, L82, L98, L99, L100, L102, L104, L107, L110, L119, L144, L240, L255, L256, L360, L999, L1000000, nI_val, n_lt_t, n_lt_f, n_le_t, n_le_f, n_eq_t, n_eq_f, k_le_f, m_lt_t, m_lt_f, m_le_t, m_le_f, m_eq_f, m_eq_f', nI_add, nI_mulE, nI_subE, if_true, if_false, ite_true, ite_false, or_false, false_or, or_true, true_or, or_self, and_true, true_and, and_false, false_and, not_true_eq_false, not_false_eq_true, Option.bind_some, Sum.elim_inl, Sum.elim_inr, xu_set, xset_same, xset_ne, xset_2, xset_set, upd_same, upd_ne, nbI_some, ne_eq, reduceCtorEq, reduceIte, Nat.reduceAdd, Nat.reduceMul, Nat.reduceSub, Nat.add_zero, Nat.zero_add, Nat.mul_zero, Nat.zero_mul, h3, e2, c, F_X8_loudest_L4_J32, ldst_s]
  · unfold F_X8_loudest_L4
    simp (disch := omega) only [↓Lm1, L0, L1, L2, L3, L4, L5, L6, L7, L8, L9, L10, L11, L12, L13, L14, L15, L16, L17, L18, L19, L20, L27, L30, L31, L35, L36, L37, L38, L39, L40, L41, L46, L48, L51, L57, L59, L60, L82, L98, L99, L100, L102, L104, L107, L110, L119, L144, L240, L255, L256, L360, L999, L1000000, nI_val, n_lt_t, n_lt_f, n_le_t, n_le_f, n_eq_t, n_eq_f, k_le_f, m_lt_t, m_lt_f, m_le_t, m_le_f, m_eq_f, m_eq_f', nI_add, nI_mulE, nI_subE, if_true, if_false, ite_true, ite_false, or_false, false_or, or_true, true_or, or_self, and_true, true_and, and_false, false_and, not_true_eq_false, not_false_eq_true, Option.bind_some, Sum.elim_inl, Sum.elim_inr, xu_set, xset_same, xset_ne, xset_2, xset_set, upd_same, upd_ne, nbI_some, ne_eq, reduceCtorEq, reduceIte, Nat.reduceAdd, Nat.reduceMul, Nat.reduceSub, Nat.add_zero, Nat.zero_add, Nat.mul_zero, Nat.zero_mul, h3]
theorem loudM2 {s : xS} {n : Nat} {sh ft : Nat → Nat} (hn : n ≤ 8) (h3 : s.1 0 5 = nI n) (hf : ∀ i, i < n → s.1 10 i = nI (sh i) ∧ s.1 11 i = nI (ft i)) (h2 : ∀ i, ft i ≤ 2) (hs : ∀ i, sh i ≤ 14) : xlp (F_X9_loudestNow_L8 s) 100000 (-1, 0) = some (nbI (ldst sh ft n)) := by
  refine xlp_at (f := F_X9_loudestNow_L8 s) (a := (-1, 0)) (fun i => (nbI (ldst sh ft i), nI i)) (b := nbI (ldst sh ft n)) n (by omega) rfl ?_ ?_
  · intro i hi
    obtain ⟨e1, e2⟩ := hf i hi
    have := h2 i
    have h14 := hs i
    unfold F_X9_loudestNow_L8
    by_cases c : ft i = 0
    · cases q : ldst sh ft i with
      | none => simp (disch := omega) only [↓Lm1, L0, L1, L2, L3, L4, L5, L6, L7, L8, L9, L10, L11, L12, L13, L14, L15, L16, L17, L18, L19, L20, L27, L30, L31, L35, L36, L37, L38, L39, L40, L41, L46, L48, L51, L57, L59, L60, L82, L98, L99, L100, L102, L104, L107, L110, L119, L144, L240, L255, L256, L360, L999, L1000000, nI_val, n_lt_t, n_lt_f, n_le_t, n_le_f, n_eq_t, n_eq_f, k_le_f, m_lt_t, m_lt_f, m_le_t, m_le_f, m_eq_f, m_eq_f', nI_add, nI_mulE, nI_subE, if_true, if_false, ite_true, ite_false, or_false, false_or, or_true, true_or, or_self, and_true, true_and, and_false, false_and, not_true_eq_false, not_false_eq_true, Option.bind_some, Sum.elim_inl, Sum.elim_inr, xu_set, xset_same, xset_ne, xset_2, xset_set, upd_same, upd_ne, nbI_some, ne_eq, reduceCtorEq, reduceIte, Nat.reduceAdd, Nat.reduceMul, Nat.reduceSub, Nat.add_zero, Nat.zero_add, Nat.mul_zero, Nat.zero_mul, h3, e2, c, q, ldst_s]
      | some b =>
        have hb := ldst_lt q
        have e3 := (hf b (by omega)).1
        have h14' := hs b
        by_cases c2 : sh i ≤ sh b
        · simp (disch := omega) only [↓Lm1, L0, L1, L2, L3, L4, L5, L6, L7, L8, L9, L10, L11, L12, L13, L14, L15, L16, L17, L18, L19, L20, L27, L30, L31, L35, L36, L37, L38, L39, L40, L41, L46, L48, L51, L57, L59, L60, L82, L98, L99, L100, L102, L104, L107, L110, L119, L144, L240, L255, L256, L360, L999, L1000000, nI_val, n_lt_t, n_lt_f, n_le_t, n_le_f, n_eq_t, n_eq_f, k_le_f, m_lt_t, m_lt_f, m_le_t, m_le_f, m_eq_f, m_eq_f', nI_add, nI_mulE, nI_subE, if_true, if_false, ite_true, ite_false, or_false, false_or, or_true, true_or, or_self, and_true, true_and, and_false, false_and, not_true_eq_false, not_false_eq_true, Option.bind_some, Sum.elim_inl, Sum.elim_inr, xu_set, xset_same, xset_ne, xset_2, xset_set, upd_same, upd_ne, nbI_some, ne_eq, reduceCtorEq, reduceIte, Nat.reduceAdd, Nat.reduceMul, Nat.reduceSub, Nat.add_zero, Nat.zero_add, Nat.mul_zero, Nat.zero_mul, h3, e1, e2, e3, c, q, ldst_s, c2]
        · simp (disch := omega) only [↓Lm1, L0, L1, L2, L3, L4, L5, L6, L7, L8, L9, L10, L11, L12, L13, L14, L15, L16, L17, L18, L19, L20, L27, L30, L31, L35, L36, L37, L38, L39, L40, L41, L46, L48, L51, L57, L59, L60, L82, L98, L99, L100, L102, L104, L107, L110, L119, L144, L240, L255, L256, L360, L999, L1000000, nI_val, n_lt_t, n_lt_f, n_le_t, n_le_f, n_eq_t, n_eq_f, k_le_f, m_lt_t, m_lt_f, m_le_t, m_le_f, m_eq_f, m_eq_f', nI_add, nI_mulE, nI_subE, if_true, if_false, ite_true, ite_false, or_false, false_or, or_true, true_or, or_self, and_true, true_and, and_false, false_and, not_true_eq_false, not_false_eq_true, Option.bind_some, Sum.elim_inl, Sum.elim_inr, xu_set, xset_same, xset_ne, xset_2, xset_set, upd_same, upd_ne, nbI_some, ne_eq, reduceCtorEq, reduceIte, Nat.reduceAdd, Nat.reduceMul, Nat.reduceSub, Nat.add_zero, Nat.zero_add, Nat.mul_zero, Nat.zero_mul, h3, e1, e2, e3, c, q, ldst_s, c2]
    · simp (disch := omega) only [↓Lm1, L0, L1, L2, L3, L4, L5, L6, L7, L8, L9, L10, L11, L12, L13, L14, L15, L16, L17, L18, L19, L20, L27, L30, L31, L35, L36, L37, L38, L39, L40, L41, L46, L48, L51, L57, L59, L60, L82, L98, L99, L100, L102, L104, L107, L110, L119, L144, L240, L255, L256, L360, L999, L1000000, nI_val, n_lt_t, n_lt_f, n_le_t, n_le_f, n_eq_t, n_eq_f, k_le_f, m_lt_t, m_lt_f, m_le_t, m_le_f, m_eq_f, m_eq_f', nI_add, nI_mulE, nI_subE, if_true, if_false, ite_true, ite_false, or_false, false_or, or_true, true_or, or_self, and_true, true_and, and_false, false_and, not_true_eq_false, not_false_eq_true, Option.bind_some, Sum.elim_inl, Sum.elim_inr, xu_set, xset_same, xset_ne, xset_2, xset_set, upd_same, upd_ne, nbI_some, ne_eq, reduceCtorEq, reduceIte, Nat.reduceAdd, Nat.reduceMul, Nat.reduceSub, Nat.add_zero, Nat.zero_add, Nat.mul_zero, Nat.zero_mul, h3, e2, c, ldst_s]
  · unfold F_X9_loudestNow_L8
    simp (disch := omega) only [↓Lm1, L0, L1, L2, L3, L4, L5, L6, L7, L8, L9, L10, L11, L12, L13, L14, L15, L16, L17, L18, L19, L20, L27, L30, L31, L35, L36, L37, L38, L39, L40, L41, L46, L48, L51, L57, L59, L60, L82, L98, L99, L100, L102, L104, L107, L110, L119, L144, L240, L255, L256, L360, L999, L1000000, nI_val, n_lt_t, n_lt_f, n_le_t, n_le_f, n_eq_t, n_eq_f, k_le_f, m_lt_t, m_lt_f, m_le_t, m_le_f, m_eq_f, m_eq_f', nI_add, nI_mulE, nI_subE, if_true, if_false, ite_true, ite_false, or_false, false_or, or_true, true_or, or_self, and_true, true_and, and_false, false_and, not_true_eq_false, not_false_eq_true, Option.bind_some, Sum.elim_inl, Sum.elim_inr, xu_set, xset_same, xset_ne, xset_2, xset_set, upd_same, upd_ne, nbI_some, ne_eq, reduceCtorEq, reduceIte, Nat.reduceAdd, Nat.reduceMul, Nat.reduceSub, Nat.add_zero, Nat.zero_add, Nat.mul_zero, Nat.zero_mul, h3]
section SPEC
variable {u0 : Nat → Nat} {n0 : Nat} {u1 : Nat → Nat} {n1 : Nat} {l : LD} {e : ED} {s : xS}
theorem q_exiled {k : Nat} (h : BF1 u0 n0 u1 n1 l s) (hk : k < 2) : F_X8_exiled (nI k) s = some (nI (bsm (fun j => (ngt (twn u0 n0).1 (ls0 u0 n0) (ddat u1 n1) all_ l).2.2.1 (18 * k + j)) 18)) := by
  have hx : ExB (ngt (twn u0 n0).1 (ls0 u0 n0) (ddat u1 n1) all_ l).2.2.1 (s.2 22 6) := h.2.2.2.2
  unfold F_X8_exiled
  rcases two_cases hk with rfl | rfl
  · simp (disch := omega) only [↓Lm1, L0, L1, L2, L3, L4, L5, L6, L7, L8, L9, L10, L11, L12, L13, L14, L15, L16, L17, L18, L19, L20, L27, L30, L31, L35, L36, L37, L38, L39, L40, L41, L46, L48, L51, L57, L59, L60, L82, L98, L99, L100, L102, L104, L107, L110, L119, L144, L240, L255, L256, L360, L999, L1000000, nI_val, n_lt_t, n_lt_f, n_le_t, n_le_f, n_eq_t, n_eq_f, k_le_f, m_lt_t, m_lt_f, m_le_t, m_le_f, m_eq_f, m_eq_f', nI_add, nI_mulE, nI_subE, if_true, if_false, ite_true, ite_false, or_false, false_or, or_true, true_or, or_self, and_true, true_and, and_false, false_and, not_true_eq_false, not_false_eq_true, Option.bind_some, Sum.elim_inl, Sum.elim_inr, xu_set, xset_same, xset_ne, xset_2, xset_set, upd_same, upd_ne, nbI_some, ne_eq, reduceCtorEq, reduceIte, Nat.reduceAdd, Nat.reduceMul, Nat.reduceSub, Nat.add_zero, Nat.zero_add, Nat.mul_zero, Nat.zero_mul, out_in, exi_lo hx]
  · simp (disch := omega) only [↓Lm1, L0, L1, L2, L3, L4, L5, L6, L7, L8, L9, L10, L11, L12, L13, L14, L15, L16, L17, L18, L19, L20, L27, L30, L31, L35, L36, L37, L38, L39, L40, L41, L46, L48, L51, L57, L59, L60, L82, L98, L99, L100, L102, L104, L107, L110, L119, L144, L240, L255, L256, L360, L999, L1000000, nI_val, n_lt_t, n_lt_f, n_le_t, n_le_f, n_eq_t, n_eq_f, k_le_f, m_lt_t, m_lt_f, m_le_t, m_le_f, m_eq_f, m_eq_f', nI_add, nI_mulE, nI_subE, if_true, if_false, ite_true, ite_false, or_false, false_or, or_true, true_or, or_self, and_true, true_and, and_false, false_and, not_true_eq_false, not_false_eq_true, Option.bind_some, Sum.elim_inl, Sum.elim_inr, xu_set, xset_same, xset_ne, xset_2, xset_set, upd_same, upd_ne, nbI_some, ne_eq, reduceCtorEq, reduceIte, Nat.reduceAdd, Nat.reduceMul, Nat.reduceSub, Nat.add_zero, Nat.zero_add, Nat.mul_zero, Nat.zero_mul, out_in, exi_hi hx]
theorem m_exiled {k : Nat} (h : BM u0 n0 u1 n1 l s) (hk : k < 2) : ∃ s', F_X9_exiledOf (nI k) s = some (nI (bsm (fun j => (ngt (twn u0 n0).1 (ls0 u0 n0) (ddat u1 n1) all_ l).2.2.1 (18 * k + j)) 18), s') ∧ RT u0 n0 u1 n1 l s s' := by
  obtain ⟨s', e', rt, nt⟩ := runsToldM h
  refine ⟨s', ?_, rt⟩
  have := exOfM hk (twn_ok u0 n0).1.1 rt.2.2.1.2.1 nt.2.2.2 (fun p q => ngt_ex q)
  unfold F_X9_exiledOf
  rw [e']
  dsimp only [Option.bind_some]
  rw [this]
  rfl
theorem q_loudest (h0 : BF0 u0 n0 u1 n1 l s) (h : BF1 u0 n0 u1 n1 l s) : F_X8_loudest s = some (nbI (ldst (shr (ddat u1 n1) (twn u0 n0).1 (ls0 u0 n0)) (ngt (twn u0 n0).1 (ls0 u0 n0) (ddat u1 n1) all_ l).2.2.2.2.2 (ddat u1 n1).1)) :=
  loudF (dd_ok (u := u1) h0.1.2.1).1 h0.2.2.1.1.1 h.2.2.2.1 (nst_ft 10) (shr_le _ _ _)
theorem m_loudest (h : BM u0 n0 u1 n1 l s) : ∃ s', F_X9_loudestNow s = some (nbI (ldst (shr (ddat u1 n1) (twn u0 n0).1 (ls0 u0 n0)) (ngt (twn u0 n0).1 (ls0 u0 n0) (ddat u1 n1) all_ l).2.2.2.2.2 (ddat u1 n1).1), s') ∧ RT u0 n0 u1 n1 l s s' := by
  obtain ⟨s', e', rt, nt⟩ := runsToldM h
  refine ⟨s', ?_, rt⟩
  have := loudM2 (dd_ok (u := u1) h.2.1).1 rt.2.2.2.1 nt.2.2.1 (nst_ft 10) (shr_le _ _ _)
  unfold F_X9_loudestNow
  rw [e']
  dsimp only [Option.bind_some]
  rw [this]
  rfl
end SPEC
theorem c_exiled : lh_exiled Inv := by
  intro x s1 s2 hI
  have hI0 := hI
  obtain ⟨u0, n0, u1, n1, l, e, hA⟩ := hI
  rcases arg_cases x 2 with ⟨k, hk, rfl⟩ | hno
  · obtain ⟨s', e', rt⟩ := m_exiled hA.iM.1 hk
    refine ⟨_, s', q_exiled hA.2.1 hk, ?_, hA.mk2 hA.iF (KF.refl _) rt.1⟩
    unfold F_X9_exiled
    simp (disch := omega) only [↓Lm1, L0, L1, L2, L3, L4, L5, L6, L7, L8, L9, L10, L11, L12, L13, L14, L15, L16, L17, L18, L19, L20, L27, L30, L31, L35, L36, L37, L38, L39, L40, L41, L46, L48, L51, L57, L59, L60, L82, L98, L99, L100, L102, L104, L107, L110, L119, L144, L240, L255, L256, L360, L999, L1000000, nI_val, n_lt_t, n_lt_f, n_le_t, n_le_f, n_eq_t, n_eq_f, k_le_f, m_lt_t, m_lt_f, m_le_t, m_le_f, m_eq_f, m_eq_f', nI_add, nI_mulE, nI_subE, if_true, if_false, ite_true, ite_false, or_false, false_or, or_true, true_or, or_self, and_true, true_and, and_false, false_and, not_true_eq_false, not_false_eq_true, Option.bind_some, Sum.elim_inl, Sum.elim_inr, xu_set, xset_same, xset_ne, xset_2, xset_set, upd_same, upd_ne, nbI_some, ne_eq, reduceCtorEq, reduceIte, Nat.reduceAdd, Nat.reduceMul, Nat.reduceSub, Nat.add_zero, Nat.zero_add, Nat.mul_zero, Nat.zero_mul, inM_t, e']
  · refine ⟨-2, s2, ?_, ?_, hI0⟩
    · unfold F_X8_exiled
      simp (disch := omega) only [↓Lm1, L0, L1, L2, L3, L4, L5, L6, L7, L8, L9, L10, L11, L12, L13, L14, L15, L16, L17, L18, L19, L20, L27, L30, L31, L35, L36, L37, L38, L39, L40, L41, L46, L48, L51, L57, L59, L60, L82, L98, L99, L100, L102, L104, L107, L110, L119, L144, L240, L255, L256, L360, L999, L1000000, nI_val, n_lt_t, n_lt_f, n_le_t, n_le_f, n_eq_t, n_eq_f, k_le_f, m_lt_t, m_lt_f, m_le_t, m_le_f, m_eq_f, m_eq_f', nI_add, nI_mulE, nI_subE, if_true, if_false, ite_true, ite_false, or_false, false_or, or_true, true_or, or_self, and_true, true_and, and_false, false_and, not_true_eq_false, not_false_eq_true, Option.bind_some, Sum.elim_inl, Sum.elim_inr, xu_set, xset_same, xset_ne, xset_2, xset_set, upd_same, upd_ne, nbI_some, ne_eq, reduceCtorEq, reduceIte, Nat.reduceAdd, Nat.reduceMul, Nat.reduceSub, Nat.add_zero, Nat.zero_add, Nat.mul_zero, Nat.zero_mul, out_no (x := x) (n := 2) (by omega) hno]
    · unfold F_X9_exiled
      simp (disch := omega) only [↓Lm1, L0, L1, L2, L3, L4, L5, L6, L7, L8, L9, L10, L11, L12, L13, L14, L15, L16, L17, L18, L19, L20, L27, L30, L31, L35, L36, L37, L38, L39, L40, L41, L46, L48, L51, L57, L59, L60, L82, L98, L99, L100, L102, L104, L107, L110, L119, L144, L240, L255, L256, L360, L999, L1000000, nI_val, n_lt_t, n_lt_f, n_le_t, n_le_f, n_eq_t, n_eq_f, k_le_f, m_lt_t, m_lt_f, m_le_t, m_le_f, m_eq_f, m_eq_f', nI_add, nI_mulE, nI_subE, if_true, if_false, ite_true, ite_false, or_false, false_or, or_true, true_or, or_self, and_true, true_and, and_false, false_and, not_true_eq_false, not_false_eq_true, Option.bind_some, Sum.elim_inl, Sum.elim_inr, xu_set, xset_same, xset_ne, xset_2, xset_set, upd_same, upd_ne, nbI_some, ne_eq, reduceCtorEq, reduceIte, Nat.reduceAdd, Nat.reduceMul, Nat.reduceSub, Nat.add_zero, Nat.zero_add, Nat.mul_zero, Nat.zero_mul, inM_no (x := x) (n := 1) (by omega) hno]
theorem c_loudest : lh_loudest Inv := by
  intro s1 s2 hI
  obtain ⟨u0, n0, u1, n1, l, e, hA⟩ := hI
  obtain ⟨s', e', rt⟩ := m_loudest hA.iM.1
  refine ⟨_, s', q_loudest hA.1 hA.2.1, ?_, hA.mk2 hA.iF (KF.refl _) rt.1⟩
  unfold F_X9_loudest
  rw [e']
  rfl
