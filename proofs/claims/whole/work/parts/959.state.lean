/-! ===== what both keep ===== -/
/-- N, W, bed, kinds of the town of a text -/
def twn (u : Nat → Nat) (n : Nat) : TD := tdat (tres (fun j => nI (u j)) n)
noncomputable def ls0 (u : Nat → Nat) (n : Nat) : Nat → Nat := lo (twn u n).1 (twn u n).2.1 (fun j => tl ((twn u n).2.2.2 j)) (twn u n).2.2.1
/-- a night of deeds d, where ls is lost, of those present, under the law l -/
def ngt (N : Nat) (ls : Nat → Nat) (d : DD) (pr : Nat → Bool) (l : LD) : NT := nst d (shr d N ls) pr l.2.1 l.1 (tsm l) 10
theorem twn_ok (u : Nat → Nat) (n : Nat) : tgrid (twn u n).1 (twn u n).2.1 ∧ (twn u n).2.1 ≤ 6 ∧ (∀ j, j < (twn u n).1 → (twn u n).2.2.2 j ≤ 3 ∧ ((twn u n).2.2.2 j = 3 ↔ (twn u n).2.2.1 = some j)) ∧ ∀ j, (twn u n).2.2.1 = some j → j < (twn u n).1 := by
  unfold twn
  cases h : tres (fun j => nI (u j)) n with
  | inl k => exact ⟨⟨Nat.zero_le 36, fun z => absurd z (Nat.lt_irrefl 0), 0, rfl⟩, Nat.zero_le 6, fun j hj => absurd hj (Nat.not_lt_zero j), fun j hj => by cases hj⟩
  | inr d => exact tres_ok h
def all_ : Nat → Bool := fun _ => true
/-- the texts, as FounderSleeps keeps them -/
def TxF (u0 : Nat → Nat) (n0 : Nat) (u1 : Nat → Nat) (n1 : Nat) (s : xS) : Prop := n0 ≤ 41 ∧ n1 ≤ 39 ∧ s.1 1 1 = nI 41 ∧ s.1 1 2 = nI n0 ∧ s.1 3 1 = nI 39 ∧ s.1 3 2 = nI n1 ∧ (∀ j, j < n0 → u0 j < 256 ∧ s.1 2 j = nI (u0 j)) ∧ ∀ j, j < n1 → u1 j < 256 ∧ s.1 4 j = nI (u1 j)
/-- texts, town, deeds, law -/
def BF0 (u0 : Nat → Nat) (n0 : Nat) (u1 : Nat → Nat) (n1 : Nat) (l : LD) (s : xS) : Prop := TxF u0 n0 u1 n1 s ∧ (TwF s (twn u0 n0).1 (twn u0 n0).2.1 (twn u0 n0).2.2.2 ∧ s.1 5 4 = nbI (twn u0 n0).2.2.1 ∧ s.1 5 5 = nbI (tflt (tres (fun j => nI (u0 j)) n0))) ∧ (DdF 8 (ddat u1 n1) s ∧ s.1 8 4 = nbI (dflt u1 n1)) ∧ (LwOk l ∧ LwF l s ∧ s.1 13 2 = nI 6)
/-- and the night that is kept -/
def BF1 (u0 : Nat → Nat) (n0 : Nat) (u1 : Nat → Nat) (n1 : Nat) (l : LD) (s : xS) : Prop := LsF 19 (twn u0 n0).1 (ls0 u0 n0) s ∧ NtF 22 (ddat u1 n1) (shr (ddat u1 n1) (twn u0 n0).1 (ls0 u0 n0)) (ngt (twn u0 n0).1 (ls0 u0 n0) (ddat u1 n1) all_ l) s
theorem BF0_K {u0 : Nat → Nat} {n0 : Nat} {u1 : Nat → Nat} {n1 : Nat} {l : LD} {s s' : xS} (h : BF0 u0 n0 u1 n1 l s) (k : ∀ q, 1 ≤ q → q ≤ 15 → s'.1 q = s.1 q) : BF0 u0 n0 u1 n1 l s' := by
  unfold BF0 TxF TwF DdF DdR LwF at h ⊢
  simp only [k 1 (by omega) (by omega), k 2 (by omega) (by omega), k 3 (by omega) (by omega), k 4 (by omega) (by omega), k 5 (by omega) (by omega), k 6 (by omega) (by omega), k 7 (by omega) (by omega), k 8 (by omega) (by omega), k (8 + 1) (by omega) (by omega), k (8 + 2) (by omega) (by omega), k (8 + 3) (by omega) (by omega), k 12 (by omega) (by omega), k 13 (by omega) (by omega), k 14 (by omega) (by omega), k 15 (by omega) (by omega)]
  exact h
theorem BF1_K {u0 : Nat → Nat} {n0 : Nat} {u1 : Nat → Nat} {n1 : Nat} {l : LD} {s s' : xS} (h : BF1 u0 n0 u1 n1 l s) (k : ∀ q, 19 ≤ q → q ≤ 26 → s'.1 q = s.1 q) (k2 : s'.2 22 = s.2 22) : BF1 u0 n0 u1 n1 l s' := by
  unfold BF1 LsF NtF at h ⊢
  simp only [k (19 + 2) (by omega) (by omega), k 22 (by omega) (by omega), k (22 + 1) (by omega) (by omega), k (22 + 2) (by omega) (by omega), k (22 + 3) (by omega) (by omega), k (22 + 4) (by omega) (by omega), k2]
  exact h
theorem pr255 : PrB all_ (nI 255) := fun i hi => by
  have : ∀ i, i < 8 → xshr (nI 255) (nI i) &&& nI 1 = nI 1 := by decide +kernel
  exact propext ⟨fun _ => rfl, fun _ => this i hi⟩
/-- Reach.takeTolls and spread: what is lost to a cell, or to none -/
theorem reachF {p : Nat} {s : xS} {N W : Nat} {kd : Nat → Nat} {bd : Option Nat} (hp : p = 19 ∨ p = 31) (hT : TwF s N W kd) (hb : ∀ j, bd = some j → j < N) : ∃ s1 s', F_X4_takeTolls p s = some s1 ∧ (∀ q, q ≠ p + 1 → s1.1 q = s.1 q) ∧ F_X4_spread p (nbI bd) s1 = some s' ∧ Kp (p + 1) (p + 2) s s' ∧ LsF p N (lo N W (fun j => tl (kd j)) bd) s' := by
  have hN := hT.1.1
  have e := tolls_eq (p := p) (by omega) hT
  generalize hs1 : xset s (p + 1) (rowN N (fun j => tl (kd j)) (s.1 (p + 1))) = s1 at e
  have r1 : ∀ q, q ≠ p + 1 → s1.1 q = s.1 q := fun q hq => by rw [← hs1, xset_ne _ _ hq]
  have k1 : Kp (p + 1) (p + 2) s s1 := by rw [← hs1]; exact (Kp.refl _ _ _).set _ (by omega) (by omega)
  have hT1 : TwF s1 N W kd := by
    unfold TwF at hT ⊢
    rw [r1 5 (by omega), r1 6 (by omega), r1 7 (by omega)]
    exact hT
  have hw : ∀ j, j < N → tl (kd j) ≤ 1000000 ∧ s1.1 (p + 1) j = nI (tl (kd j)) := fun j hj => ⟨by have := (tl_le (kd j)).1; omega, by rw [← hs1, xset_same]; simp [rowN, hj]⟩
  cases bd with
  | none =>
    have e2 := spread_no (s := s1) hp
    refine ⟨s1, _, e, r1, e2, k1.set _ (by omega) (by omega), fun j hj => ⟨?_, fun _ => Nat.le_refl _⟩⟩
    show (xset s1 (p + 2) _).1 (p + 2) j = nI (if j < N then 1000000 else 1000000)
    rw [xset_same, if_pos hj, ite_self]
    rfl
  | some t =>
    obtain ⟨f, hf, e2⟩ := spread_eq hp hT1 hw (hb t rfl)
    refine ⟨s1, _, e, r1, e2, k1.set _ (by omega) (by omega), fun j hj => ⟨?_, fun h => lo_le h⟩⟩
    rw [xset_same]
    by_cases c : j < N
    · rw [if_pos c, if_pos c, lo_is hf c]
    · rw [if_neg c, if_neg c, if_pos hj]
      rfl
/-- sleepAnew: all that is kept is anew -/
theorem anewF {u0 : Nat → Nat} {n0 : Nat} {u1 : Nat → Nat} {n1 : Nat} {l : LD} {s : xS} (h : BF0 u0 n0 u1 n1 l s) : ∃ s', F_X8_sleepAnew s = some s' ∧ BF0 u0 n0 u1 n1 l s' ∧ BF1 u0 n0 u1 n1 l s' ∧ (∀ q, q ≠ 0 → q < 19 ∨ 26 < q → s'.1 q = s.1 q) ∧ (∀ k, k ≠ 15 → s'.1 0 k = s.1 0 k) ∧ s'.1 0 15 = nI 0 := by
  obtain ⟨hx, ⟨hT, h54, h55⟩, ⟨hD, h84⟩, hl, hL, h132⟩ := h
  have hok := twn_ok u0 n0
  obtain ⟨s1, s2, e1, r1, e2, k2, ls⟩ := reachF (p := 19) (bd := (twn u0 n0).2.2.1) (Or.inl rfl) hT hok.2.2.2
  have kk : ∀ q, q ≤ 15 → s2.1 q = s.1 q := fun q hq => (k2 q (by omega)).1
  have h2 : BF0 u0 n0 u1 n1 l s2 := BF0_K ⟨hx, ⟨hT, h54, h55⟩, ⟨hD, h84⟩, hl, hL, h132⟩ (fun q a b => kk q b)
  obtain ⟨hx2, ⟨hT2, h542, h552⟩, ⟨hD2, h842⟩, hl2, hL2, h1322⟩ := h2
  obtain ⟨s3, e3, k3, n3⟩ := passF (p0 := 22) (p1 := 8) (p3 := 19) (N := (twn u0 n0).1) (ls := ls0 u0 n0) (Or.inl ⟨rfl, rfl⟩) (Or.inl rfl) (dd_ok hx.2.1) hD2 hl hL2 pr255 hok.1.1 ls
  refine ⟨xset s3 0 (upd (s3.1 0) 15 (nI 0)), ?_, ?_, ?_, ?_, ?_, ?_⟩
  · unfold F_X8_sleepAnew
    rw [e1]
    have e2' : F_X4_spread 19 (s1.1 5 4) s1 = some s2 := by rw [r1 5 (by omega), h54]; exact e2
    have e3' : F_X3_pass 22 8 19 255 s2 = some s3 := e3
    simp (disch := omega) only [↓Lm1, L0, L1, L2, L3, L4, L5, L6, L7, L8, L9, L10, L11, L12, L13, L14, L15, L16, L17, L18, L19, L20, L27, L30, L31, L35, L36, L37, L38, L39, L40, L41, L46, L48, L51, L57, L59, L60, L82, L98, L99, L100, L102, L104, L107, L110, L119, L144, L240, L256, L360, L999, L1000000, nI_val, n_lt_t, n_lt_f, n_le_t, n_le_f, n_eq_t, n_eq_f, k_le_f, m_lt_t, m_lt_f, m_le_t, m_le_f, m_eq_f, m_eq_f', nI_add, nI_mulE, nI_subE, if_true, if_false, ite_true, ite_false, or_false, false_or, or_true, true_or, or_self, and_true, true_and, and_false, false_and, not_true_eq_false, not_false_eq_true, Option.bind_some, Sum.elim_inl, Sum.elim_inr, xu_set, xset_same, xset_ne, xset_2, xset_set, upd_same, upd_ne, nbI_some, ne_eq, reduceCtorEq, reduceIte, Nat.reduceAdd, Nat.reduceMul, Nat.reduceSub, Nat.add_zero, Nat.zero_add, Nat.mul_zero, Nat.zero_mul, e2', e3']
  · refine BF0_K ⟨hx, ⟨hT, h54, h55⟩, ⟨hD, h84⟩, hl, hL, h132⟩ (fun q a b => ?_)
    rw [xset_ne _ _ (by omega), (k3 q (by omega)).1, kk q b]
  · refine BF1_K (s := s3) ⟨fun j hj => ?_, n3⟩ (fun q a b => xset_ne _ _ (by omega)) rfl
    rw [(k3 (19 + 2) (by omega)).1]
    exact ls j hj
  · intro q a b
    rw [xset_ne _ _ a, (k3 q (by omega)).1, (k2 q (by omega)).1]
  · intro k hk
    simp (disch := omega) only [↓Lm1, L0, L1, L2, L3, L4, L5, L6, L7, L8, L9, L10, L11, L12, L13, L14, L15, L16, L17, L18, L19, L20, L27, L30, L31, L35, L36, L37, L38, L39, L40, L41, L46, L48, L51, L57, L59, L60, L82, L98, L99, L100, L102, L104, L107, L110, L119, L144, L240, L255, L256, L360, L999, L1000000, nI_val, n_lt_t, n_lt_f, n_le_t, n_le_f, n_eq_t, n_eq_f, k_le_f, m_lt_t, m_lt_f, m_le_t, m_le_f, m_eq_f, m_eq_f', nI_add, nI_mulE, nI_subE, if_true, if_false, ite_true, ite_false, or_false, false_or, or_true, true_or, or_self, and_true, true_and, and_false, false_and, not_true_eq_false, not_false_eq_true, Option.bind_some, Sum.elim_inl, Sum.elim_inr, xu_set, xset_same, xset_ne, xset_2, xset_set, upd_same, upd_ne, nbI_some, ne_eq, reduceCtorEq, reduceIte, Nat.reduceAdd, Nat.reduceMul, Nat.reduceSub, Nat.add_zero, Nat.zero_add, Nat.mul_zero, Nat.zero_mul]
    rw [(k3 0 (by omega)).1, (k2 0 (by omega)).1]
  · simp (disch := omega) only [↓Lm1, L0, L1, L2, L3, L4, L5, L6, L7, L8, L9, L10, L11, L12, L13, L14, L15, L16, L17, L18, L19, L20, L27, L30, L31, L35, L36, L37, L38, L39, L40, L41, L46, L48, L51, L57, L59, L60, L82, L98, L99, L100, L102, L104, L107, L110, L119, L144, L240, L255, L256, L360, L999, L1000000, nI_val, n_lt_t, n_lt_f, n_le_t, n_le_f, n_eq_t, n_eq_f, k_le_f, m_lt_t, m_lt_f, m_le_t, m_le_f, m_eq_f, m_eq_f', nI_add, nI_mulE, nI_subE, if_true, if_false, ite_true, ite_false, or_false, false_or, or_true, true_or, or_self, and_true, true_and, and_false, false_and, not_true_eq_false, not_false_eq_true, Option.bind_some, Sum.elim_inl, Sum.elim_inr, xu_set, xset_same, xset_ne, xset_2, xset_set, upd_same, upd_ne, nbI_some, ne_eq, reduceCtorEq, reduceIte, Nat.reduceAdd, Nat.reduceMul, Nat.reduceSub, Nat.add_zero, Nat.zero_add, Nat.mul_zero, Nat.zero_mul]
/-! the other -/
def BM (u0 : Nat → Nat) (n0 : Nat) (u1 : Nat → Nat) (n1 : Nat) (l : LD) (s : xS) : Prop := n0 ≤ 41 ∧ n1 ≤ 39 ∧ s.1 1 0 = nI n0 ∧ s.1 1 1 = nI n1 ∧ (∀ j, j < n0 → s.1 2 j = nI (u0 j)) ∧ (∀ j, j < n1 → u1 j < 256 ∧ s.1 2 (41 + j) = nI (u1 j)) ∧ LwOk l ∧ LwM l s
/-- all that a call may leave behind in the other -/
def SM : List Nat := [3, 4, 5, 6, 9, 10, 11, 12, 13, 14, 15, 16, 17, 20, 21, 26]
def SR : List Nat := [2, 3, 5, 15, 20]
theorem BM_K {u0 : Nat → Nat} {n0 : Nat} {u1 : Nat → Nat} {n1 : Nat} {l : LD} {s s' : xS} (h : BM u0 n0 u1 n1 l s) (k : KR SM SR s s') : BM u0 n0 u1 n1 l s' := by
  unfold BM LwM at h ⊢
  rw [k.1 1 (by decide) (by decide), k.1 2 (by decide) (by decide), k.1 7 (by decide) (by decide), k.1 8 (by decide) (by decide), k.2 9 (by decide), k.2 10 (by decide), k.2 11 (by decide)]
  exact h
theorem bedM {s : xS} {N W : Nat} {kd : Nat → Nat} {bd : Option Nat} (hT : TwM s N W kd) (hb : ∀ j, j < N → (kd j = 3 ↔ bd = some j)) (hb2 : ∀ j, bd = some j → j < N) : F_X9_bedNow s = some (nbI bd) := by
  have hN := hT.1.1
  unfold F_X9_bedNow
  rw [xlp_at (f := F_X9_bedNow_L4 s) (a := (-1, 0)) (fun i => (nbI (match bd with
    | none => none
    | some j => if j < i then some j else none), nI i)) (b := nbI bd) N (by omega)]
  · rfl
  · cases bd with
    | none => rfl
    | some j => rfl
  · intro i hi
    obtain ⟨k3, e3⟩ := hT.2.2.2.2 i hi
    have q := hb i hi
    unfold F_X9_bedNow_L4
    cases bd with
    | none =>
      have : ¬ kd i = 3 := fun z => by have := q.mp z; cases this
      simp (disch := omega) only [↓Lm1, L0, L1, L2, L3, L4, L5, L6, L7, L8, L9, L10, L11, L12, L13, L14, L15, L16, L17, L18, L19, L20, L27, L30, L31, L35, L36, L37, L38, L39, L40, L41, L46, L48, L51, L57, L59, L60, L82, L98, L99, L100, L102, L104, L107, L110, L119, L144, L240, L255, L256, L360, L999, L1000000, nI_val, n_lt_t, n_lt_f, n_le_t, n_le_f, n_eq_t, n_eq_f, k_le_f, m_lt_t, m_lt_f, m_le_t, m_le_f, m_eq_f, m_eq_f', nI_add, nI_mulE, nI_subE, if_true, if_false, ite_true, ite_false, or_false, false_or, or_true, true_or, or_self, and_true, true_and, and_false, false_and, not_true_eq_false, not_false_eq_true, Option.bind_some, Sum.elim_inl, Sum.elim_inr, xu_set, xset_same, xset_ne, xset_2, xset_set, upd_same, upd_ne, nbI_some, ne_eq, reduceCtorEq, reduceIte, Nat.reduceAdd, Nat.reduceMul, Nat.reduceSub, Nat.add_zero, Nat.zero_add, Nat.mul_zero, Nat.zero_mul, hT.2.1, e3]
    | some j =>
      by_cases c : kd i = 3
      · have e := Option.some.inj (q.mp c)
        subst e
        simp (disch := omega) only [↓Lm1, L0, L1, L2, L3, L4, L5, L6, L7, L8, L9, L10, L11, L12, L13, L14, L15, L16, L17, L18, L19, L20, L27, L30, L31, L35, L36, L37, L38, L39, L40, L41, L46, L48, L51, L57, L59, L60, L82, L98, L99, L100, L102, L104, L107, L110, L119, L144, L240, L255, L256, L360, L999, L1000000, nI_val, n_lt_t, n_lt_f, n_le_t, n_le_f, n_eq_t, n_eq_f, k_le_f, m_lt_t, m_lt_f, m_le_t, m_le_f, m_eq_f, m_eq_f', nI_add, nI_mulE, nI_subE, if_true, if_false, ite_true, ite_false, or_false, false_or, or_true, true_or, or_self, and_true, true_and, and_false, false_and, not_true_eq_false, not_false_eq_true, Option.bind_some, Sum.elim_inl, Sum.elim_inr, xu_set, xset_same, xset_ne, xset_2, xset_set, upd_same, upd_ne, nbI_some, ne_eq, reduceCtorEq, reduceIte, Nat.reduceAdd, Nat.reduceMul, Nat.reduceSub, Nat.add_zero, Nat.zero_add, Nat.mul_zero, Nat.zero_mul, hT.2.1, e3, c, Nat.lt_irrefl, Nat.lt_succ_self]
      · have ne : ¬ j = i := fun z => c (q.mpr (by rw [z]))
        by_cases c2 : j < i
        · have : j < i + 1 := by omega
          simp (disch := omega) only [↓Lm1, L0, L1, L2, L3, L4, L5, L6, L7, L8, L9, L10, L11, L12, L13, L14, L15, L16, L17, L18, L19, L20, L27, L30, L31, L35, L36, L37, L38, L39, L40, L41, L46, L48, L51, L57, L59, L60, L82, L98, L99, L100, L102, L104, L107, L110, L119, L144, L240, L255, L256, L360, L999, L1000000, nI_val, n_lt_t, n_lt_f, n_le_t, n_le_f, n_eq_t, n_eq_f, k_le_f, m_lt_t, m_lt_f, m_le_t, m_le_f, m_eq_f, m_eq_f', nI_add, nI_mulE, nI_subE, if_true, if_false, ite_true, ite_false, or_false, false_or, or_true, true_or, or_self, and_true, true_and, and_false, false_and, not_true_eq_false, not_false_eq_true, Option.bind_some, Sum.elim_inl, Sum.elim_inr, xu_set, xset_same, xset_ne, xset_2, xset_set, upd_same, upd_ne, nbI_some, ne_eq, reduceCtorEq, reduceIte, Nat.reduceAdd, Nat.reduceMul, Nat.reduceSub, Nat.add_zero, Nat.zero_add, Nat.mul_zero, Nat.zero_mul, hT.2.1, e3, c2, this]
        · have : ¬ j < i + 1 := by omega
          simp (disch := omega) only [↓Lm1, L0, L1, L2, L3, L4, L5, L6, L7, L8, L9, L10, L11, L12, L13, L14, L15, L16, L17, L18, L19, L20, L27, L30, L31, L35, L36, L37, L38, L39, L40, L41, L46, L48, L51, L57, L59, L60, L82, L98, L99, L100, L102, L104, L107, L110, L119, L144, L240, L255, L256, L360, L999, L1000000, nI_val, n_lt_t, n_lt_f, n_le_t, n_le_f, n_eq_t, n_eq_f, k_le_f, m_lt_t, m_lt_f, m_le_t, m_le_f, m_eq_f, m_eq_f', nI_add, nI_mulE, nI_subE, if_true, if_false, ite_true, ite_false, or_false, false_or, or_true, true_or, or_self, and_true, true_and, and_false, false_and, not_true_eq_false, not_false_eq_true, Option.bind_some, Sum.elim_inl, Sum.elim_inr, xu_set, xset_same, xset_ne, xset_2, xset_set, upd_same, upd_ne, nbI_some, ne_eq, reduceCtorEq, reduceIte, Nat.reduceAdd, Nat.reduceMul, Nat.reduceSub, Nat.add_zero, Nat.zero_add, Nat.mul_zero, Nat.zero_mul, hT.2.1, e3, c2, this]
  · unfold F_X9_bedNow_L4
    cases bd with
    | none => simp (disch := omega) only [↓Lm1, L0, L1, L2, L3, L4, L5, L6, L7, L8, L9, L10, L11, L12, L13, L14, L15, L16, L17, L18, L19, L20, L27, L30, L31, L35, L36, L37, L38, L39, L40, L41, L46, L48, L51, L57, L59, L60, L82, L98, L99, L100, L102, L104, L107, L110, L119, L144, L240, L255, L256, L360, L999, L1000000, nI_val, n_lt_t, n_lt_f, n_le_t, n_le_f, n_eq_t, n_eq_f, k_le_f, m_lt_t, m_lt_f, m_le_t, m_le_f, m_eq_f, m_eq_f', nI_add, nI_mulE, nI_subE, if_true, if_false, ite_true, ite_false, or_false, false_or, or_true, true_or, or_self, and_true, true_and, and_false, false_and, not_true_eq_false, not_false_eq_true, Option.bind_some, Sum.elim_inl, Sum.elim_inr, xu_set, xset_same, xset_ne, xset_2, xset_set, upd_same, upd_ne, nbI_some, ne_eq, reduceCtorEq, reduceIte, Nat.reduceAdd, Nat.reduceMul, Nat.reduceSub, Nat.add_zero, Nat.zero_add, Nat.mul_zero, Nat.zero_mul, hT.2.1]
    | some j =>
      have := hb2 j rfl
      simp (disch := omega) only [↓Lm1, L0, L1, L2, L3, L4, L5, L6, L7, L8, L9, L10, L11, L12, L13, L14, L15, L16, L17, L18, L19, L20, L27, L30, L31, L35, L36, L37, L38, L39, L40, L41, L46, L48, L51, L57, L59, L60, L82, L98, L99, L100, L102, L104, L107, L110, L119, L144, L240, L255, L256, L360, L999, L1000000, nI_val, n_lt_t, n_lt_f, n_le_t, n_le_f, n_eq_t, n_eq_f, k_le_f, m_lt_t, m_lt_f, m_le_t, m_le_f, m_eq_f, m_eq_f', nI_add, nI_mulE, nI_subE, if_true, if_false, ite_true, ite_false, or_false, false_or, or_true, true_or, or_self, and_true, true_and, and_false, false_and, not_true_eq_false, not_false_eq_true, Option.bind_some, Sum.elim_inl, Sum.elim_inr, xu_set, xset_same, xset_ne, xset_2, xset_set, upd_same, upd_ne, nbI_some, ne_eq, reduceCtorEq, reduceIte, Nat.reduceAdd, Nat.reduceMul, Nat.reduceSub, Nat.add_zero, Nat.zero_add, Nat.mul_zero, Nat.zero_mul, hT.2.1, this]
theorem laysM {s : xS} {N W : Nat} {kd : Nat → Nat} {bd : Option Nat} (hT : TwM s N W kd) (hb : ∀ j, j < N → (kd j = 3 ↔ bd = some j)) (hb2 : ∀ j, bd = some j → j < N) : ∃ s', F_X9_lays s = some s' ∧ KR [9] [] s s' ∧ LsM N (lo N W (fun j => tl (kd j)) bd) s' := by
  have hN := hT.1.1
  unfold F_X9_lays
  rw [bedM hT hb hb2]
  dsimp only [Option.bind_some]
  cases bd with
  | none =>
    rw [nbI_none, carriesTo_no]
    refine ⟨_, rfl, (KR.refl _ _ _).set _ (by decide) (by decide), fun j hj => ?_⟩
    rw [xset_same, if_pos (by omega)]
    rfl
  | some t =>
    obtain ⟨f, hf, e⟩ := carriesTo_eq hT (hb2 t rfl)
    rw [nbI_some, e]
    refine ⟨_, rfl, (KR.refl _ _ _).set _ (by decide) (by decide), fun j hj => ?_⟩
    rw [xset_same, if_pos hj, lo_cap hf hj]
