/-! ===== ask ===== -/
def mxN (g : Nat → Nat) : Nat → Nat
  | 0 => 0
  | n + 1 => if mxN g n < g n then g n else mxN g n
theorem mxN_s (g : Nat → Nat) (n : Nat) : mxN g (n + 1) = if mxN g n < g n then g n else mxN g n := rfl
theorem mxN_le {g : Nat → Nat} {B : Nat} : ∀ n, (∀ j, j < n → g j ≤ B) → mxN g n ≤ B
  | 0, _ => Nat.zero_le _
  | n + 1, h => by
    have h1 := mxN_le n (fun j hj => h j (by omega))
    have h2 := h n (by omega)
    rw [mxN_s]
    split <;> assumption
theorem mxN_ext {f g : Nat → Nat} : ∀ n, (∀ j, j < n → f j = g j) → mxN f n = mxN g n
  | 0, _ => rfl
  | n + 1, h => by
    rw [mxN_s, mxN_s, mxN_ext n (fun j hj => h j (by omega)), h n (by omega)]
/-- those that are, close together -/
theorem smN_cn {P : Nat → Bool} {G f : Nat → Nat} : ∀ N, (∀ b, b < N → P b = true → G (cnN P b) = f b) → smN G (cnN P N) = smN (fun b => if P b = true then f b else 0) N
  | 0, _ => rfl
  | N + 1, h => by
    have ih := smN_cn (f := f) N (fun b hb => h b (by omega))
    show _ = smN (fun b => if P b = true then f b else 0) N + (if P N = true then f N else 0)
    cases q : P N with
    | true =>
      rw [cnN_t q]
      show smN G (cnN P N) + G (cnN P N) = _
      rw [ih, h N (by omega) q]
      simp
    | false =>
      rw [cnN_f q, ih]
      simp
theorem mxN_cn {P : Nat → Bool} {G f : Nat → Nat} : ∀ N, (∀ b, b < N → P b = true → G (cnN P b) = f b) → mxN G (cnN P N) = mxN (fun b => if P b = true then f b else 0) N
  | 0, _ => rfl
  | N + 1, h => by
    have ih := mxN_cn (f := f) N (fun b hb => h b (by omega))
    rw [mxN_s]
    cases q : P N with
    | true =>
      rw [cnN_t q, mxN_s, ih, h N (by omega) q]
      simp
    | false =>
      rw [cnN_f q, ih]
      simp
def amn (L : Nat → Nat) : Nat → Nat
  | 0 => 0
  | n + 1 => if L (amn L n) ≤ L (n + 1) then amn L n else n + 1
theorem amn_s (L : Nat → Nat) (n : Nat) : amn L (n + 1) = if L (amn L n) ≤ L (n + 1) then amn L n else n + 1 := rfl
section SPEC
variable {u0 : Nat → Nat} {n0 : Nat} {u1 : Nat → Nat} {n1 : Nat} {l : LD} {e : ED} {s s4 a : xS}
def alE (S : Nat → Nat → Option Nat) (h a b : Nat) : Nat := if nbI (S a h) = nbI (S b h) then 1 else 0
def alI (P : Nat → Bool) (S : Nat → Nat → Option Nat) (N h a : Nat) : Nat := smN (fun b => if P b = true then alE S h a b else 0) N
def alk (P : Nat → Bool) (S : Nat → Nat → Option Nat) (N h : Nat) : Nat := mxN (fun a => if P a = true then alI P S N h a else 0) N
theorem alI_le (P : Nat → Bool) (S : Nat → Nat → Option Nat) (N h a : Nat) : alI P S N h a ≤ N := smN_one N (fun j _ => by
  unfold alE
  split
  · split <;> omega
  · omega)
theorem alk_le (P : Nat → Bool) (S : Nat → Nat → Option Nat) (N h : Nat) : alk P S N h ≤ N := mxN_le N (fun a _ => by
  have := alI_le P S N h a
  split
  · exact this
  · omega)
theorem alikeF {P : Nat → Bool} {S : Nat → Nat → Option Nat} {N h : Nat} (hN : N ≤ 36) (hh : h < 10) (hf : FPl P S N s) : F_X8_mostAlike (nI h) (nI (cnN P N)) s = some (nI (alk P S N h)) := by
  have hle := cnN_le P N
  obtain ⟨M, hM⟩ : ∃ M, M = cnN P N := ⟨_, rfl⟩
  obtain ⟨T, hT⟩ : ∃ T : Nat → Nat → Nat, T = fun i j => if s.1 40 (i * 10 + h) = s.1 40 (j * 10 + h) then 1 else 0 := ⟨_, rfl⟩
  have hT1 : ∀ i j, T i j ≤ 1 := fun i j => by rw [hT]; dsimp only; split <;> omega
  have in1 : ∀ i, i < M → ∀ l3 : Int32, xlp (F_X8_mostAlike_L17 (nI h) (nI M) l3 (nI i) s) 100000 (nI 0, nI 0) = some (nI (smN (T i) M)) := by
    intro i hi l3
    refine xlp_at (f := F_X8_mostAlike_L17 (nI h) (nI M) l3 (nI i) s) (a := (nI 0, nI 0)) (fun j => (nI (smN (T i) j), nI j)) (b := nI (smN (T i) M)) M (by omega) rfl ?_ ?_
    · intro j hj
      unfold F_X8_mostAlike_L17
      by_cases c : s.1 40 (i * 10 + h) = s.1 40 (j * 10 + h)
      · have t1 : T i j = 1 := by rw [hT]; exact if_pos c
        simp (disch := omega) only [↓Lm1, L0, L1, L2, L3, L4, L5, L6, L7, L8, L9, L10, L11, L12, L13, L14, L15, L16, L17, L18, L19, L20, L27, L30, L31, L35, L36, L37, L38, L39, L40, L41, L46, L48, L51, L57, L59, L60, L82, L98, L99, L100, L102, L104, L107, L110, L119, L144, L240, L255, L256, L360, L999, L1000000, nI_val, n_lt_t, n_lt_f, n_le_t, n_le_f, n_eq_t, n_eq_f, k_le_f, m_lt_t, m_lt_f, m_le_t, m_le_f, m_eq_f, m_eq_f', nI_add, nI_mulE, nI_subE, if_true, if_false, ite_true, ite_false, or_false, false_or, or_true, true_or, or_self, and_true, true_and, and_false, false_and, not_true_eq_false, not_false_eq_true, Option.bind_some, Sum.elim_inl, Sum.elim_inr, xu_set, xset_same, xset_ne, xset_2, xset_set, upd_same, upd_ne, nbI_some, ne_eq, reduceCtorEq, reduceIte, Nat.reduceAdd, Nat.reduceMul, Nat.reduceSub, Nat.add_zero, Nat.zero_add, Nat.mul_zero, Nat.zero_mul, c, smN, t1]
      · have t1 : T i j = 0 := by rw [hT]; exact if_neg c
        simp (disch := omega) only [↓Lm1, L0, L1, L2, L3, L4, L5, L6, L7, L8, L9, L10, L11, L12, L13, L14, L15, L16, L17, L18, L19, L20, L27, L30, L31, L35, L36, L37, L38, L39, L40, L41, L46, L48, L51, L57, L59, L60, L82, L98, L99, L100, L102, L104, L107, L110, L119, L144, L240, L255, L256, L360, L999, L1000000, nI_val, n_lt_t, n_lt_f, n_le_t, n_le_f, n_eq_t, n_eq_f, k_le_f, m_lt_t, m_lt_f, m_le_t, m_le_f, m_eq_f, m_eq_f', nI_add, nI_mulE, nI_subE, if_true, if_false, ite_true, ite_false, or_false, false_or, or_true, true_or, or_self, and_true, true_and, and_false, false_and, not_true_eq_false, not_false_eq_true, Option.bind_some, Sum.elim_inl, Sum.elim_inr, xu_set, xset_same, xset_ne, xset_2, xset_set, upd_same, upd_ne, nbI_some, ne_eq, reduceCtorEq, reduceIte, Nat.reduceAdd, Nat.reduceMul, Nat.reduceSub, Nat.add_zero, Nat.zero_add, Nat.mul_zero, Nat.zero_mul, c, smN, t1]
    · unfold F_X8_mostAlike_L17
      simp (disch := omega) only [↓Lm1, L0, L1, L2, L3, L4, L5, L6, L7, L8, L9, L10, L11, L12, L13, L14, L15, L16, L17, L18, L19, L20, L27, L30, L31, L35, L36, L37, L38, L39, L40, L41, L46, L48, L51, L57, L59, L60, L82, L98, L99, L100, L102, L104, L107, L110, L119, L144, L240, L255, L256, L360, L999, L1000000, nI_val, n_lt_t, n_lt_f, n_le_t, n_le_f, n_eq_t, n_eq_f, k_le_f, m_lt_t, m_lt_f, m_le_t, m_le_f, m_eq_f, m_eq_f', nI_add, nI_mulE, nI_subE, if_true, if_false, ite_true, ite_false, or_false, false_or, or_true, true_or, or_self, and_true, true_and, and_false, false_and, not_true_eq_false, not_false_eq_true, Option.bind_some, Sum.elim_inl, Sum.elim_inr, xu_set, xset_same, xset_ne, xset_2, xset_set, upd_same, upd_ne, nbI_some, ne_eq, reduceCtorEq, reduceIte, Nat.reduceAdd, Nat.reduceMul, Nat.reduceSub, Nat.add_zero, Nat.zero_add, Nat.mul_zero, Nat.zero_mul]
  have key : xlp (F_X8_mostAlike_L5 (nI h) (nI M) s) 100000 (nI 0, nI 0) = some (nI (mxN (fun i => smN (T i) M) M)) := by
    refine xlp_at (f := F_X8_mostAlike_L5 (nI h) (nI M) s) (a := (nI 0, nI 0)) (fun i => (nI (mxN (fun i => smN (T i) M) i), nI i)) (b := nI (mxN (fun i => smN (T i) M) M)) M (by omega) rfl ?_ ?_
    · intro i hi
      have b1 := smN_one (f := T i) M (fun j _ => hT1 i j)
      have b2 := mxN_le (g := fun i => smN (T i) M) (B := M) i (fun j _ => smN_one M (fun x _ => hT1 j x))
      have ei := in1 i hi
      unfold F_X8_mostAlike_L5
      by_cases c : mxN (fun i => smN (T i) M) i < smN (T i) M
      · simp (disch := omega) only [↓Lm1, L0, L1, L2, L3, L4, L5, L6, L7, L8, L9, L10, L11, L12, L13, L14, L15, L16, L17, L18, L19, L20, L27, L30, L31, L35, L36, L37, L38, L39, L40, L41, L46, L48, L51, L57, L59, L60, L82, L98, L99, L100, L102, L104, L107, L110, L119, L144, L240, L255, L256, L360, L999, L1000000, nI_val, n_lt_t, n_lt_f, n_le_t, n_le_f, n_eq_t, n_eq_f, k_le_f, m_lt_t, m_lt_f, m_le_t, m_le_f, m_eq_f, m_eq_f', nI_add, nI_mulE, nI_subE, if_true, if_false, ite_true, ite_false, or_false, false_or, or_true, true_or, or_self, and_true, true_and, and_false, false_and, not_true_eq_false, not_false_eq_true, Option.bind_some, Sum.elim_inl, Sum.elim_inr, xu_set, xset_same, xset_ne, xset_2, xset_set, upd_same, upd_ne, nbI_some, ne_eq, reduceCtorEq, reduceIte, Nat.reduceAdd, Nat.reduceMul, Nat.reduceSub, Nat.add_zero, Nat.zero_add, Nat.mul_zero, Nat.zero_mul, ei, mxN_s, c]
      · simp (disch := omega) only [↓Lm1, L0, L1, L2, L3, L4, L5, L6, L7, L8, L9, L10, L11, L12, L13, L14, L15, L16, L17, L18, L19, L20, L27, L30, L31, L35, L36, L37, L38, L39, L40, L41, L46, L48, L51, L57, L59, L60, L82, L98, L99, L100, L102, L104, L107, L110, L119, L144, L240, L255, L256, L360, L999, L1000000, nI_val, n_lt_t, n_lt_f, n_le_t, n_le_f, n_eq_t, n_eq_f, k_le_f, m_lt_t, m_lt_f, m_le_t, m_le_f, m_eq_f, m_eq_f', nI_add, nI_mulE, nI_subE, if_true, if_false, ite_true, ite_false, or_false, false_or, or_true, true_or, or_self, and_true, true_and, and_false, false_and, not_true_eq_false, not_false_eq_true, Option.bind_some, Sum.elim_inl, Sum.elim_inr, xu_set, xset_same, xset_ne, xset_2, xset_set, upd_same, upd_ne, nbI_some, ne_eq, reduceCtorEq, reduceIte, Nat.reduceAdd, Nat.reduceMul, Nat.reduceSub, Nat.add_zero, Nat.zero_add, Nat.mul_zero, Nat.zero_mul, ei, mxN_s, c]
    · unfold F_X8_mostAlike_L5
      simp (disch := omega) only [↓Lm1, L0, L1, L2, L3, L4, L5, L6, L7, L8, L9, L10, L11, L12, L13, L14, L15, L16, L17, L18, L19, L20, L27, L30, L31, L35, L36, L37, L38, L39, L40, L41, L46, L48, L51, L57, L59, L60, L82, L98, L99, L100, L102, L104, L107, L110, L119, L144, L240, L255, L256, L360, L999, L1000000, nI_val, n_lt_t, n_lt_f, n_le_t, n_le_f, n_eq_t, n_eq_f, k_le_f, m_lt_t, m_lt_f, m_le_t, m_le_f, m_eq_f, m_eq_f', nI_add, nI_mulE, nI_subE, if_true, if_false, ite_true, ite_false, or_false, false_or, or_true, true_or, or_self, and_true, true_and, and_false, false_and, not_true_eq_false, not_false_eq_true, Option.bind_some, Sum.elim_inl, Sum.elim_inr, xu_set, xset_same, xset_ne, xset_2, xset_set, upd_same, upd_ne, nbI_some, ne_eq, reduceCtorEq, reduceIte, Nat.reduceAdd, Nat.reduceMul, Nat.reduceSub, Nat.add_zero, Nat.zero_add, Nat.mul_zero, Nat.zero_mul]
  have fin : mxN (fun i => smN (T i) M) M = alk P S N h := by
    rw [hM]
    refine mxN_cn N (fun a ha hpa => ?_)
    refine smN_cn N (fun b hb hpb => ?_)
    rw [hT]
    show (if s.1 40 (cnN P a * 10 + h) = s.1 40 (cnN P b * 10 + h) then 1 else 0) = alE S h a b
    rw [(hf a ha hpa).2 h hh, (hf b hb hpb).2 h hh]
    rfl
  unfold F_X8_mostAlike
  rw [← hM, ← fin]
  have key' : xlp (F_X8_mostAlike_L5 (nI h) (nI M) s) 100000 (0, 0) = _ := key
  rw [key']
  rfl
theorem alikeM {P : Nat → Bool} {S : Nat → Nat → Option Nat} {N h : Nat} (l3 l4 : Int32) (hN : N ≤ 36) (hh : h < 10) (h03 : s.1 0 3 = nI N) (hf : MPl P S N s) : xlp (F_X9_askOf_L27 l3 l4 (nI h) s) 100000 (nI 0, nI 0) = some (nI (alk P S N h)) := by
  have in1 : ∀ a, a < N → ∀ l6 : Int32, xlp (F_X9_askOf_L42 l3 l4 (nI h) l6 (nI a) s) 100000 (nI 0, nI 0) = some (nI (if P a = true then alI P S N h a else 0)) := by
    intro a ha l6
    have e20a := (hf a ha).1
    have e21a := (hf a ha).2 h hh
    cases pa : P a with
    | false =>
      rw [pa] at e20a
      have e20a' : s.1 20 a = nI 0 := e20a
      refine xlp_at (f := F_X9_askOf_L42 l3 l4 (nI h) l6 (nI a) s) (a := (nI 0, nI 0)) (fun j => (nI 0, nI j)) (b := nI 0) N (by omega) rfl ?_ ?_
      · intro j hj
        unfold F_X9_askOf_L42
        simp (disch := omega) only [↓Lm1, L0, L1, L2, L3, L4, L5, L6, L7, L8, L9, L10, L11, L12, L13, L14, L15, L16, L17, L18, L19, L20, L27, L30, L31, L35, L36, L37, L38, L39, L40, L41, L46, L48, L51, L57, L59, L60, L82, L98, L99, L100, L102, L104, L107, L110, L119, L144, L240, L255, L256, L360, L999, L1000000, nI_val, n_lt_t, n_lt_f, n_le_t, n_le_f, n_eq_t, n_eq_f, k_le_f, m_lt_t, m_lt_f, m_le_t, m_le_f, m_eq_f, m_eq_f', nI_add, nI_mulE, nI_subE, if_true, if_false, ite_true, ite_false, or_false, false_or, or_true, true_or, or_self, and_true, true_and, and_false, false_and, not_true_eq_false, not_false_eq_true, Option.bind_some, Sum.elim_inl, Sum.elim_inr, xu_set, xset_same, xset_ne, xset_2, xset_set, upd_same, upd_ne, nbI_some, ne_eq, reduceCtorEq, reduceIte, Nat.reduceAdd, Nat.reduceMul, Nat.reduceSub, Nat.add_zero, Nat.zero_add, Nat.mul_zero, Nat.zero_mul, h03, e20a']
      · unfold F_X9_askOf_L42
        simp (disch := omega) only [↓Lm1, L0, L1, L2, L3, L4, L5, L6, L7, L8, L9, L10, L11, L12, L13, L14, L15, L16, L17, L18, L19, L20, L27, L30, L31, L35, L36, L37, L38, L39, L40, L41, L46, L48, L51, L57, L59, L60, L82, L98, L99, L100, L102, L104, L107, L110, L119, L144, L240, L255, L256, L360, L999, L1000000, nI_val, n_lt_t, n_lt_f, n_le_t, n_le_f, n_eq_t, n_eq_f, k_le_f, m_lt_t, m_lt_f, m_le_t, m_le_f, m_eq_f, m_eq_f', nI_add, nI_mulE, nI_subE, if_true, if_false, ite_true, ite_false, or_false, false_or, or_true, true_or, or_self, and_true, true_and, and_false, false_and, not_true_eq_false, not_false_eq_true, Option.bind_some, Sum.elim_inl, Sum.elim_inr, xu_set, xset_same, xset_ne, xset_2, xset_set, upd_same, upd_ne, nbI_some, ne_eq, reduceCtorEq, reduceIte, Nat.reduceAdd, Nat.reduceMul, Nat.reduceSub, Nat.add_zero, Nat.zero_add, Nat.mul_zero, Nat.zero_mul, h03]
    | true =>
      rw [pa] at e20a
      have e20a' : s.1 20 a = nI 1 := e20a
      rw [if_pos rfl]
      unfold alI
      refine xlp_at (f := F_X9_askOf_L42 l3 l4 (nI h) l6 (nI a) s) (a := (nI 0, nI 0)) (fun j => (nI (smN (fun b => if P b = true then alE S h a b else 0) j), nI j)) (b := nI (smN (fun b => if P b = true then alE S h a b else 0) N)) N (by omega) rfl ?_ ?_
      · intro j hj
        have e20b := (hf j hj).1
        have e21b := (hf j hj).2 h hh
        unfold F_X9_askOf_L42
        cases pb : P j with
        | false =>
          rw [pb] at e20b
          have e20b' : s.1 20 j = nI 0 := e20b
          simp (disch := omega) only [↓Lm1, L0, L1, L2, L3, L4, L5, L6, L7, L8, L9, L10, L11, L12, L13, L14, L15, L16, L17, L18, L19, L20, L27, L30, L31, L35, L36, L37, L38, L39, L40, L41, L46, L48, L51, L57, L59, L60, L82, L98, L99, L100, L102, L104, L107, L110, L119, L144, L240, L255, L256, L360, L999, L1000000, nI_val, n_lt_t, n_lt_f, n_le_t, n_le_f, n_eq_t, n_eq_f, k_le_f, m_lt_t, m_lt_f, m_le_t, m_le_f, m_eq_f, m_eq_f', nI_add, nI_mulE, nI_subE, if_true, if_false, ite_true, ite_false, or_false, false_or, or_true, true_or, or_self, and_true, true_and, and_false, false_and, not_true_eq_false, not_false_eq_true, Option.bind_some, Sum.elim_inl, Sum.elim_inr, xu_set, xset_same, xset_ne, xset_2, xset_set, upd_same, upd_ne, nbI_some, ne_eq, reduceCtorEq, reduceIte, Nat.reduceAdd, Nat.reduceMul, Nat.reduceSub, Nat.add_zero, Nat.zero_add, Nat.mul_zero, Nat.zero_mul, h03, e20a', e20b', smN, pb, Bool.false_eq_true]
        | true =>
          rw [pb] at e20b
          have e20b' : s.1 20 j = nI 1 := e20b
          by_cases c : nbI (S a h) = nbI (S j h)
          · have t1 : alE S h a j = 1 := if_pos c
            simp (disch := omega) only [↓Lm1, L0, L1, L2, L3, L4, L5, L6, L7, L8, L9, L10, L11, L12, L13, L14, L15, L16, L17, L18, L19, L20, L27, L30, L31, L35, L36, L37, L38, L39, L40, L41, L46, L48, L51, L57, L59, L60, L82, L98, L99, L100, L102, L104, L107, L110, L119, L144, L240, L255, L256, L360, L999, L1000000, nI_val, n_lt_t, n_lt_f, n_le_t, n_le_f, n_eq_t, n_eq_f, k_le_f, m_lt_t, m_lt_f, m_le_t, m_le_f, m_eq_f, m_eq_f', nI_add, nI_mulE, nI_subE, if_true, if_false, ite_true, ite_false, or_false, false_or, or_true, true_or, or_self, and_true, true_and, and_false, false_and, not_true_eq_false, not_false_eq_true, Option.bind_some, Sum.elim_inl, Sum.elim_inr, xu_set, xset_same, xset_ne, xset_2, xset_set, upd_same, upd_ne, nbI_some, ne_eq, reduceCtorEq, reduceIte, Nat.reduceAdd, Nat.reduceMul, Nat.reduceSub, Nat.add_zero, Nat.zero_add, Nat.mul_zero, Nat.zero_mul, h03, e20a', e20b', e21a, e21b, c, smN, pb, t1]
          · have t1 : alE S h a j = 0 := if_neg c
            simp (disch := omega) only [↓Lm1, L0, L1, L2, L3, L4, L5, L6, L7, L8, L9, L10, L11, L12, L13, L14, L15, L16, L17, L18, L19, L20, L27, L30, L31, L35, L36, L37, L38, L39, L40, L41, L46, L48, L51, L57, L59, L60, L82, L98, L99, L100, L102, L104, L107, L110, L119, L144, L240, L255, L256, L360, L999, L1000000, nI_val, n_lt_t, n_lt_f, n_le_t, n_le_f, n_eq_t, n_eq_f, k_le_f, m_lt_t, m_lt_f, m_le_t, m_le_f, m_eq_f, m_eq_f', nI_add, nI_mulE, nI_subE, if_true, if_false, ite_true, ite_false, or_false, false_or, or_true, true_or, or_self, and_true, true_and, and_false, false_and, not_true_eq_false, not_false_eq_true, Option.bind_some, Sum.elim_inl, Sum.elim_inr, xu_set, xset_same, xset_ne, xset_2, xset_set, upd_same, upd_ne, nbI_some, ne_eq, reduceCtorEq, reduceIte, Nat.reduceAdd, Nat.reduceMul, Nat.reduceSub, Nat.add_zero, Nat.zero_add, Nat.mul_zero, Nat.zero_mul, h03, e20a', e20b', e21a, e21b, c, smN, pb, t1]
      · unfold F_X9_askOf_L42
        simp (disch := omega) only [↓Lm1, L0, L1, L2, L3, L4, L5, L6, L7, L8, L9, L10, L11, L12, L13, L14, L15, L16, L17, L18, L19, L20, L27, L30, L31, L35, L36, L37, L38, L39, L40, L41, L46, L48, L51, L57, L59, L60, L82, L98, L99, L100, L102, L104, L107, L110, L119, L144, L240, L255, L256, L360, L999, L1000000, nI_val, n_lt_t, n_lt_f, n_le_t, n_le_f, n_eq_t, n_eq_f, k_le_f, m_lt_t, m_lt_f, m_le_t, m_le_f, m_eq_f, m_eq_f', nI_add, nI_mulE, nI_subE, if_true, if_false, ite_true, ite_false, or_false, false_or, or_true, true_or, or_self, and_true, true_and, and_false, false_and, not_true_eq_false, not_false_eq_true, Option.bind_some, Sum.elim_inl, Sum.elim_inr, xu_set, xset_same, xset_ne, xset_2, xset_set, upd_same, upd_ne, nbI_some, ne_eq, reduceCtorEq, reduceIte, Nat.reduceAdd, Nat.reduceMul, Nat.reduceSub, Nat.add_zero, Nat.zero_add, Nat.mul_zero, Nat.zero_mul, h03]
  obtain ⟨G, hG⟩ : ∃ G : Nat → Nat, G = fun a => if P a = true then alI P S N h a else 0 := ⟨_, rfl⟩
  have b0 : ∀ a, G a ≤ N := fun a => by
    have := alI_le P S N h a
    rw [hG]
    dsimp only
    split
    · exact this
    · omega
  have in2 : ∀ a, a < N → ∀ l6 : Int32, xlp (F_X9_askOf_L42 l3 l4 (nI h) l6 (nI a) s) 100000 (nI 0, nI 0) = some (nI (G a)) := fun a ha l6 => by rw [hG]; exact in1 a ha l6
  unfold alk
  rw [← hG]
  refine xlp_at (f := F_X9_askOf_L27 l3 l4 (nI h) s) (a := (nI 0, nI 0)) (fun i => (nI (mxN G i), nI i)) (b := nI (mxN G N)) N (by omega) rfl ?_ ?_
  · intro i hi
    have b1 := b0 i
    have b2 := mxN_le (g := G) (B := N) i (fun j _ => b0 j)
    have ei := in2 i hi
    unfold F_X9_askOf_L27
    by_cases c : mxN G i < G i
    · simp (disch := omega) only [↓Lm1, L0, L1, L2, L3, L4, L5, L6, L7, L8, L9, L10, L11, L12, L13, L14, L15, L16, L17, L18, L19, L20, L27, L30, L31, L35, L36, L37, L38, L39, L40, L41, L46, L48, L51, L57, L59, L60, L82, L98, L99, L100, L102, L104, L107, L110, L119, L144, L240, L255, L256, L360, L999, L1000000, nI_val, n_lt_t, n_lt_f, n_le_t, n_le_f, n_eq_t, n_eq_f, k_le_f, m_lt_t, m_lt_f, m_le_t, m_le_f, m_eq_f, m_eq_f', nI_add, nI_mulE, nI_subE, if_true, if_false, ite_true, ite_false, or_false, false_or, or_true, true_or, or_self, and_true, true_and, and_false, false_and, not_true_eq_false, not_false_eq_true, Option.bind_some, Sum.elim_inl, Sum.elim_inr, xu_set, xset_same, xset_ne, xset_2, xset_set, upd_same, upd_ne, nbI_some, ne_eq, reduceCtorEq, reduceIte, Nat.reduceAdd, Nat.reduceMul, Nat.reduceSub, Nat.add_zero, Nat.zero_add, Nat.mul_zero, Nat.zero_mul, h03, ei, mxN_s, c]
    · simp (disch := omega) only [↓Lm1, L0, L1, L2, L3, L4, L5, L6, L7, L8, L9, L10, L11, L12, L13, L14, L15, L16, L17, L18, L19, L20, L27, L30, L31, L35, L36, L37, L38, L39, L40, L41, L46, L48, L51, L57, L59, L60, L82, L98, L99, L100, L102, L104, L107, L110, L119, L144, L240, L255, L256, L360, L999, L1000000, nI_val, n_lt_t, n_lt_f, n_le_t, n_le_f, n_eq_t, n_eq_f, k_le_f, m_lt_t, m_lt_f, m_le_t, m_le_f, m_eq_f, m_eq_f', nI_add, nI_mulE, nI_subE, if_true, if_false, ite_true, ite_false, or_false, false_or, or_true, true_or, or_self, and_true, true_and, and_false, false_and, not_true_eq_false, not_false_eq_true, Option.bind_some, Sum.elim_inl, Sum.elim_inr, xu_set, xset_same, xset_ne, xset_2, xset_set, upd_same, upd_ne, nbI_some, ne_eq, reduceCtorEq, reduceIte, Nat.reduceAdd, Nat.reduceMul, Nat.reduceSub, Nat.add_zero, Nat.zero_add, Nat.mul_zero, Nat.zero_mul, h03, ei, mxN_s, c]
  · unfold F_X9_askOf_L27
    simp (disch := omega) only [↓Lm1, L0, L1, L2, L3, L4, L5, L6, L7, L8, L9, L10, L11, L12, L13, L14, L15, L16, L17, L18, L19, L20, L27, L30, L31, L35, L36, L37, L38, L39, L40, L41, L46, L48, L51, L57, L59, L60, L82, L98, L99, L100, L102, L104, L107, L110, L119, L144, L240, L255, L256, L360, L999, L1000000, nI_val, n_lt_t, n_lt_f, n_le_t, n_le_f, n_eq_t, n_eq_f, k_le_f, m_lt_t, m_lt_f, m_le_t, m_le_f, m_eq_f, m_eq_f', nI_add, nI_mulE, nI_subE, if_true, if_false, ite_true, ite_false, or_false, false_or, or_true, true_or, or_self, and_true, true_and, and_false, false_and, not_true_eq_false, not_false_eq_true, Option.bind_some, Sum.elim_inl, Sum.elim_inr, xu_set, xset_same, xset_ne, xset_2, xset_set, upd_same, upd_ne, nbI_some, ne_eq, reduceCtorEq, reduceIte, Nat.reduceAdd, Nat.reduceMul, Nat.reduceSub, Nat.add_zero, Nat.zero_add, Nat.mul_zero, Nat.zero_mul, h03]
theorem q_ask {k : Nat} (hI : IF u0 n0 u1 n1 l e s) (hk : k < (ddat u1 n1).1) : ∃ s', F_X8_ask (nI k) s = some (nI (amn (alk (wnB u0 n0 u1 n1 l e k) (wnS u0 n0 u1 n1 l k) (twn u0 n0).1) 9), s') ∧ Kp 27 40 s s' := by
  have h8 := (dd_ok (u := u1) hI.1.1.2.1).1
  have hD := hI.1.2.2.1.1
  have hN := (twn_ok u0 n0).1.1
  obtain ⟨s', e', k', f'⟩ := findF hI hk
  refine ⟨s', ?_, k'⟩
  obtain ⟨L, hL⟩ : ∃ L : Nat → Nat, L = alk (wnB u0 n0 u1 n1 l e k) (wnS u0 n0 u1 n1 l k) (twn u0 n0).1 := ⟨_, rfl⟩
  have hle : ∀ h, L h ≤ 36 := fun h => by rw [hL]; exact Nat.le_trans (alk_le _ _ _ _) hN
  have ma : ∀ h, h < 10 → F_X8_mostAlike (nI h) (nI (cnN (wnB u0 n0 u1 n1 l e k) (twn u0 n0).1)) s' = some (nI (L h)) := fun h hh => by rw [hL]; exact alikeF hN hh f'
  rw [← hL]
  have key : xlp (F_X8_ask_L30 (nI (cnN (wnB u0 n0 u1 n1 l e k) (twn u0 n0).1)) s') 100000 (nI 0, nI (L 0), nI 1) = some (nI (amn L 9)) := by
    refine xlp_at (f := F_X8_ask_L30 (nI (cnN (wnB u0 n0 u1 n1 l e k) (twn u0 n0).1)) s') (a := (nI 0, nI (L 0), nI 1)) (fun n => (nI (amn L n), nI (L (amn L n)), nI (n + 1))) (b := nI (amn L 9)) 9 (by omega) rfl ?_ ?_
    · intro n hn
      have b1 := hle (n + 1)
      have b2 := hle (amn L n)
      have em := ma (n + 1) (by omega)
      unfold F_X8_ask_L30
      by_cases c : L (amn L n) ≤ L (n + 1)
      · simp (disch := omega) only [↓Lm1, L0, L1, L2, L3, L4, L5, L6, L7, L8, L9, L10, L11, L12, L13, L14, L15, L16, L17, L18, L19, L20, L27, L30, L31, L35, L36, L37, L38, L39, L40, L41, L46, L48, L51, L57, L59, L60, L82, L98, L99, L100, L102, L104, L107, L110, L119, L144, L240, L255, L256, L360, L999, L1000000, nI_val, n_lt_t, n_lt_f, n_le_t, n_le_f, n_eq_t, n_eq_f, k_le_f, m_lt_t, m_lt_f, m_le_t, m_le_f, m_eq_f, m_eq_f', nI_add, nI_mulE, nI_subE, if_true, if_false, ite_true, ite_false, or_false, false_or, or_true, true_or, or_self, and_true, true_and, and_false, false_and, not_true_eq_false, not_false_eq_true, Option.bind_some, Sum.elim_inl, Sum.elim_inr, xu_set, xset_same, xset_ne, xset_2, xset_set, upd_same, upd_ne, nbI_some, ne_eq, reduceCtorEq, reduceIte, Nat.reduceAdd, Nat.reduceMul, Nat.reduceSub, Nat.add_zero, Nat.zero_add, Nat.mul_zero, Nat.zero_mul, em, amn_s, c]
      · simp (disch := omega) only [↓Lm1, L0, L1, L2, L3, L4, L5, L6, L7, L8, L9, L10, L11, L12, L13, L14, L15, L16, L17, L18, L19, L20, L27, L30, L31, L35, L36, L37, L38, L39, L40, L41, L46, L48, L51, L57, L59, L60, L82, L98, L99, L100, L102, L104, L107, L110, L119, L144, L240, L255, L256, L360, L999, L1000000, nI_val, n_lt_t, n_lt_f, n_le_t, n_le_f, n_eq_t, n_eq_f, k_le_f, m_lt_t, m_lt_f, m_le_t, m_le_f, m_eq_f, m_eq_f', nI_add, nI_mulE, nI_subE, if_true, if_false, ite_true, ite_false, or_false, false_or, or_true, true_or, or_self, and_true, true_and, and_false, false_and, not_true_eq_false, not_false_eq_true, Option.bind_some, Sum.elim_inl, Sum.elim_inr, xu_set, xset_same, xset_ne, xset_2, xset_set, upd_same, upd_ne, nbI_some, ne_eq, reduceCtorEq, reduceIte, Nat.reduceAdd, Nat.reduceMul, Nat.reduceSub, Nat.add_zero, Nat.zero_add, Nat.mul_zero, Nat.zero_mul, em, amn_s, c]
    · unfold F_X8_ask_L30
      simp (disch := omega) only [↓Lm1, L0, L1, L2, L3, L4, L5, L6, L7, L8, L9, L10, L11, L12, L13, L14, L15, L16, L17, L18, L19, L20, L27, L30, L31, L35, L36, L37, L38, L39, L40, L41, L46, L48, L51, L57, L59, L60, L82, L98, L99, L100, L102, L104, L107, L110, L119, L144, L240, L255, L256, L360, L999, L1000000, nI_val, n_lt_t, n_lt_f, n_le_t, n_le_f, n_eq_t, n_eq_f, k_le_f, m_lt_t, m_lt_f, m_le_t, m_le_f, m_eq_f, m_eq_f', nI_add, nI_mulE, nI_subE, if_true, if_false, ite_true, ite_false, or_false, false_or, or_true, true_or, or_self, and_true, true_and, and_false, false_and, not_true_eq_false, not_false_eq_true, Option.bind_some, Sum.elim_inl, Sum.elim_inr, xu_set, xset_same, xset_ne, xset_2, xset_set, upd_same, upd_ne, nbI_some, ne_eq, reduceCtorEq, reduceIte, Nat.reduceAdd, Nat.reduceMul, Nat.reduceSub, Nat.add_zero, Nat.zero_add, Nat.mul_zero, Nat.zero_mul]
  have m0 := ma 0 (by omega)
  unfold F_X8_ask
  simp (disch := omega) only [↓Lm1, L0, L1, L2, L3, L4, L5, L6, L7, L8, L9, L10, L11, L12, L13, L14, L15, L16, L17, L18, L19, L20, L27, L30, L31, L35, L36, L37, L38, L39, L40, L41, L46, L48, L51, L57, L59, L60, L82, L98, L99, L100, L102, L104, L107, L110, L119, L144, L240, L255, L256, L360, L999, L1000000, nI_val, n_lt_t, n_lt_f, n_le_t, n_le_f, n_eq_t, n_eq_f, k_le_f, m_lt_t, m_lt_f, m_le_t, m_le_f, m_eq_f, m_eq_f', nI_add, nI_mulE, nI_subE, if_true, if_false, ite_true, ite_false, or_false, false_or, or_true, true_or, or_self, and_true, true_and, and_false, false_and, not_true_eq_false, not_false_eq_true, Option.bind_some, Sum.elim_inl, Sum.elim_inr, xu_set, xset_same, xset_ne, xset_2, xset_set, upd_same, upd_ne, nbI_some, ne_eq, reduceCtorEq, reduceIte, Nat.reduceAdd, Nat.reduceMul, Nat.reduceSub, Nat.add_zero, Nat.zero_add, Nat.mul_zero, Nat.zero_mul, noDeedF_t hD.1 h8 hk, e', m0, key]
theorem m_ask {k : Nat} (h : IM u0 n0 u1 n1 l e s) (he : EaOk e) (hk : k < (ddat u1 n1).1) : ∃ s', F_X9_askOf (nI k) s = some (nI (amn (alk (wnB u0 n0 u1 n1 l e k) (wnS u0 n0 u1 n1 l k) (twn u0 n0).1) 9), s') ∧ RT u0 n0 u1 n1 l s s' := by
  have hN := (twn_ok u0 n0).1.1
  obtain ⟨s', e', rt, mp⟩ := whencesM h he hk
  refine ⟨s', ?_, rt⟩
  have h03 := rt.2.2.1.2.1
  obtain ⟨L, hL⟩ : ∃ L : Nat → Nat, L = alk (wnB u0 n0 u1 n1 l e k) (wnS u0 n0 u1 n1 l k) (twn u0 n0).1 := ⟨_, rfl⟩
  have hle : ∀ h, L h ≤ 36 := fun h => by rw [hL]; exact Nat.le_trans (alk_le _ _ _ _) hN
  have ma : ∀ h, h < 10 → ∀ l3 l4 : Int32, xlp (F_X9_askOf_L27 l3 l4 (nI h) s') 100000 (nI 0, nI 0) = some (nI (L h)) := fun h hh l3 l4 => by rw [hL]; exact alikeM l3 l4 hN hh h03 mp
  rw [← hL]
  have key : xlp (F_X9_askOf_L14 s') 100000 (nbI none, nI 0, nI 0) = some (nI (amn L 9)) := by
    refine xlp_at (f := F_X9_askOf_L14 s') (a := (nbI none, nI 0, nI 0)) (fun i => match i with
      | 0 => (nbI none, nI 0, nI 0)
      | n + 1 => (nI (amn L n), nI (L (amn L n)), nI (n + 1))) (b := nI (amn L 9)) 10 (by omega) rfl ?_ ?_
    · intro i hi
      cases i with
      | zero =>
        have em := ma 0 (by omega)
        unfold F_X9_askOf_L14
        simp (disch := omega) only [↓Lm1, L0, L1, L2, L3, L4, L5, L6, L7, L8, L9, L10, L11, L12, L13, L14, L15, L16, L17, L18, L19, L20, L27, L30, L31, L35, L36, L37, L38, L39, L40, L41, L46, L48, L51, L57, L59, L60, L82, L98, L99, L100, L102, L104, L107, L110, L119, L144, L240, L255, L256, L360, L999, L1000000, nI_val, n_lt_t, n_lt_f, n_le_t, n_le_f, n_eq_t, n_eq_f, k_le_f, m_lt_t, m_lt_f, m_le_t, m_le_f, m_eq_f, m_eq_f', nI_add, nI_mulE, nI_subE, if_true, if_false, ite_true, ite_false, or_false, false_or, or_true, true_or, or_self, and_true, true_and, and_false, false_and, not_true_eq_false, not_false_eq_true, Option.bind_some, Sum.elim_inl, Sum.elim_inr, xu_set, xset_same, xset_ne, xset_2, xset_set, upd_same, upd_ne, nbI_some, ne_eq, reduceCtorEq, reduceIte, Nat.reduceAdd, Nat.reduceMul, Nat.reduceSub, Nat.add_zero, Nat.zero_add, Nat.mul_zero, Nat.zero_mul, em, F_X9_askOf_L14_J150, F_X9_askOf_L14_J155]
        rfl
      | succ n =>
        have b1 := hle (n + 1)
        have b2 := hle (amn L n)
        have b3 : amn L n ≤ n := by
          have : ∀ n, amn L n ≤ n := by
            intro n
            induction n with
            | zero => exact Nat.le_refl _
            | succ n ih => rw [amn_s]; split <;> omega
          exact this n
        have em := ma (n + 1) (by omega)
        unfold F_X9_askOf_L14
        by_cases c : L (amn L n) ≤ L (n + 1)
        · simp (disch := omega) only [↓Lm1, L0, L1, L2, L3, L4, L5, L6, L7, L8, L9, L10, L11, L12, L13, L14, L15, L16, L17, L18, L19, L20, L27, L30, L31, L35, L36, L37, L38, L39, L40, L41, L46, L48, L51, L57, L59, L60, L82, L98, L99, L100, L102, L104, L107, L110, L119, L144, L240, L255, L256, L360, L999, L1000000, nI_val, n_lt_t, n_lt_f, n_le_t, n_le_f, n_eq_t, n_eq_f, k_le_f, m_lt_t, m_lt_f, m_le_t, m_le_f, m_eq_f, m_eq_f', nI_add, nI_mulE, nI_subE, if_true, if_false, ite_true, ite_false, or_false, false_or, or_true, true_or, or_self, and_true, true_and, and_false, false_and, not_true_eq_false, not_false_eq_true, Option.bind_some, Sum.elim_inl, Sum.elim_inr, xu_set, xset_same, xset_ne, xset_2, xset_set, upd_same, upd_ne, nbI_some, ne_eq, reduceCtorEq, reduceIte, Nat.reduceAdd, Nat.reduceMul, Nat.reduceSub, Nat.add_zero, Nat.zero_add, Nat.mul_zero, Nat.zero_mul, em, F_X9_askOf_L14_J150, F_X9_askOf_L14_J155, amn_s, c]
        · simp (disch := omega) only [↓Lm1, L0, L1, L2, L3, L4, L5, L6, L7, L8, L9, L10, L11, L12, L13, L14, L15, L16, L17, L18, L19, L20, L27, L30, L31, L35, L36, L37, L38, L39, L40, L41, L46, L48, L51, L57, L59, L60, L82, L98, L99, L100, L102, L104, L107, L110, L119, L144, L240, L255, L256, L360, L999, L1000000, nI_val, n_lt_t, n_lt_f, n_le_t, n_le_f, n_eq_t, n_eq_f, k_le_f, m_lt_t, m_lt_f, m_le_t, m_le_f, m_eq_f, m_eq_f', nI_add, nI_mulE, nI_subE, if_true, if_false, ite_true, ite_false, or_false, false_or, or_true, true_or, or_self, and_true, true_and, and_false, false_and, not_true_eq_false, not_false_eq_true, Option.bind_some, Sum.elim_inl, Sum.elim_inr, xu_set, xset_same, xset_ne, xset_2, xset_set, upd_same, upd_ne, nbI_some, ne_eq, reduceCtorEq, reduceIte, Nat.reduceAdd, Nat.reduceMul, Nat.reduceSub, Nat.add_zero, Nat.zero_add, Nat.mul_zero, Nat.zero_mul, em, F_X9_askOf_L14_J150, F_X9_askOf_L14_J155, amn_s, c]
    · unfold F_X9_askOf_L14
      simp (disch := omega) only [↓Lm1, L0, L1, L2, L3, L4, L5, L6, L7, L8, L9, L10, L11, L12, L13, L14, L15, L16, L17, L18, L19, L20, L27, L30, L31, L35, L36, L37, L38, L39, L40, L41, L46, L48, L51, L57, L59, L60, L82, L98, L99, L100, L102, L104, L107, L110, L119, L144, L240, L255, L256, L360, L999, L1000000, nI_val, n_lt_t, n_lt_f, n_le_t, n_le_f, n_eq_t, n_eq_f, k_le_f, m_lt_t, m_lt_f, m_le_t, m_le_f, m_eq_f, m_eq_f', nI_add, nI_mulE, nI_subE, if_true, if_false, ite_true, ite_false, or_false, false_or, or_true, true_or, or_self, and_true, true_and, and_false, false_and, not_true_eq_false, not_false_eq_true, Option.bind_some, Sum.elim_inl, Sum.elim_inr, xu_set, xset_same, xset_ne, xset_2, xset_set, upd_same, upd_ne, nbI_some, ne_eq, reduceCtorEq, reduceIte, Nat.reduceAdd, Nat.reduceMul, Nat.reduceSub, Nat.add_zero, Nat.zero_add, Nat.mul_zero, Nat.zero_mul]
  unfold F_X9_askOf
  simp (disch := omega) only [↓Lm1, L0, L1, L2, L3, L4, L5, L6, L7, L8, L9, L10, L11, L12, L13, L14, L15, L16, L17, L18, L19, L20, L27, L30, L31, L35, L36, L37, L38, L39, L40, L41, L46, L48, L51, L57, L59, L60, L82, L98, L99, L100, L102, L104, L107, L110, L119, L144, L240, L255, L256, L360, L999, L1000000, nI_val, n_lt_t, n_lt_f, n_le_t, n_le_f, n_eq_t, n_eq_f, k_le_f, m_lt_t, m_lt_f, m_le_t, m_le_f, m_eq_f, m_eq_f', nI_add, nI_mulE, nI_subE, if_true, if_false, ite_true, ite_false, or_false, false_or, or_true, true_or, or_self, and_true, true_and, and_false, false_and, not_true_eq_false, not_false_eq_true, Option.bind_some, Sum.elim_inl, Sum.elim_inr, xu_set, xset_same, xset_ne, xset_2, xset_set, upd_same, upd_ne, nbI_some, ne_eq, reduceCtorEq, reduceIte, Nat.reduceAdd, Nat.reduceMul, Nat.reduceSub, Nat.add_zero, Nat.zero_add, Nat.mul_zero, Nat.zero_mul, e', key]
theorem c_ask : lh_ask Inv := by
  intro x s1 s2 hI
  obtain ⟨u0, n0, u1, n1, l, e, hA⟩ := hI
  have h8 := (dd_ok (u := u1) hA.1.1.2.1).1
  have hD := hA.1.2.2.1.1
  rcases arg_cases x (ddat u1 n1).1 with ⟨k, hk, rfl⟩ | hno
  · obtain ⟨s', e', rt⟩ := isDeedM_t hA.iM.1 hk
    obtain ⟨s'', e'', rt'⟩ := m_ask (rt.im hA.iM) hA.iF.2.2.2.ok hk
    obtain ⟨t, et, kt⟩ := q_ask hA.iF hk
    refine ⟨_, t, s'', et, ?_, hA.mk2 (hA.iF.keep kt) kt.kf (rt.tr rt').1⟩
    unfold F_X9_ask
    simp (disch := omega) only [↓Lm1, L0, L1, L2, L3, L4, L5, L6, L7, L8, L9, L10, L11, L12, L13, L14, L15, L16, L17, L18, L19, L20, L27, L30, L31, L35, L36, L37, L38, L39, L40, L41, L46, L48, L51, L57, L59, L60, L82, L98, L99, L100, L102, L104, L107, L110, L119, L144, L240, L255, L256, L360, L999, L1000000, nI_val, n_lt_t, n_lt_f, n_le_t, n_le_f, n_eq_t, n_eq_f, k_le_f, m_lt_t, m_lt_f, m_le_t, m_le_f, m_eq_f, m_eq_f', nI_add, nI_mulE, nI_subE, if_true, if_false, ite_true, ite_false, or_false, false_or, or_true, true_or, or_self, and_true, true_and, and_false, false_and, not_true_eq_false, not_false_eq_true, Option.bind_some, Sum.elim_inl, Sum.elim_inr, xu_set, xset_same, xset_ne, xset_2, xset_set, upd_same, upd_ne, nbI_some, ne_eq, reduceCtorEq, reduceIte, Nat.reduceAdd, Nat.reduceMul, Nat.reduceSub, Nat.add_zero, Nat.zero_add, Nat.mul_zero, Nat.zero_mul, e', e'']
  · obtain ⟨s', e', rt⟩ := isDeedM_f hA.iM.1 hno
    refine ⟨-2, s1, s', ?_, ?_, hA.mk2 hA.iF (KF.refl _) rt.1⟩
    · unfold F_X8_ask
      simp (disch := omega) only [↓Lm1, L0, L1, L2, L3, L4, L5, L6, L7, L8, L9, L10, L11, L12, L13, L14, L15, L16, L17, L18, L19, L20, L27, L30, L31, L35, L36, L37, L38, L39, L40, L41, L46, L48, L51, L57, L59, L60, L82, L98, L99, L100, L102, L104, L107, L110, L119, L144, L240, L255, L256, L360, L999, L1000000, nI_val, n_lt_t, n_lt_f, n_le_t, n_le_f, n_eq_t, n_eq_f, k_le_f, m_lt_t, m_lt_f, m_le_t, m_le_f, m_eq_f, m_eq_f', nI_add, nI_mulE, nI_subE, if_true, if_false, ite_true, ite_false, or_false, false_or, or_true, true_or, or_self, and_true, true_and, and_false, false_and, not_true_eq_false, not_false_eq_true, Option.bind_some, Sum.elim_inl, Sum.elim_inr, xu_set, xset_same, xset_ne, xset_2, xset_set, upd_same, upd_ne, nbI_some, ne_eq, reduceCtorEq, reduceIte, Nat.reduceAdd, Nat.reduceMul, Nat.reduceSub, Nat.add_zero, Nat.zero_add, Nat.mul_zero, Nat.zero_mul, noDeedF_f hD.1 h8 hno]
    · unfold F_X9_ask
      simp (disch := omega) only [↓Lm1, L0, L1, L2, L3, L4, L5, L6, L7, L8, L9, L10, L11, L12, L13, L14, L15, L16, L17, L18, L19, L20, L27, L30, L31, L35, L36, L37, L38, L39, L40, L41, L46, L48, L51, L57, L59, L60, L82, L98, L99, L100, L102, L104, L107, L110, L119, L144, L240, L255, L256, L360, L999, L1000000, nI_val, n_lt_t, n_lt_f, n_le_t, n_le_f, n_eq_t, n_eq_f, k_le_f, m_lt_t, m_lt_f, m_le_t, m_le_f, m_eq_f, m_eq_f', nI_add, nI_mulE, nI_subE, if_true, if_false, ite_true, ite_false, or_false, false_or, or_true, true_or, or_self, and_true, true_and, and_false, false_and, not_true_eq_false, not_false_eq_true, Option.bind_some, Sum.elim_inl, Sum.elim_inr, xu_set, xset_same, xset_ne, xset_2, xset_set, upd_same, upd_ne, nbI_some, ne_eq, reduceCtorEq, reduceIte, Nat.reduceAdd, Nat.reduceMul, Nat.reduceSub, Nat.add_zero, Nat.zero_add, Nat.mul_zero, Nat.zero_mul, e']
end SPEC
