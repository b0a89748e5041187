/-! ===== what is asked, refusals; reading and running of the other; the invariant ===== -/
theorem arg_cases (x : Int32) (n : Nat) : (∃ k, k < n ∧ x = nI k) ∨ ∀ k, k < n → x ≠ nI k := by
  by_cases h : ∃ k, k < n ∧ x = nI k
  · exact Or.inl h
  · exact Or.inr fun k hk e => h ⟨k, hk, e⟩
theorem arg_out {x : Int32} {n : Nat} (hn : n < 2 ^ 31) (h : ∀ k, k < n → x ≠ nI k) : ¬ x < nI 0 → nI n ≤ x := by
  intro h0
  have h0' : 0 ≤ x.toInt := by
    rw [i_lt, nI_toInt (by omega)] at h0
    omega
  have e := i_of h0'
  by_cases c : x.toInt.toNat < n
  · exact absurd e (h _ c)
  · rw [e]
    exact nI_le (by omega) (by have := Int32.toInt_lt x; omega)
theorem out_in {k n : Nat} {s : xS} (h : k < n) (hn : n < 2 ^ 31) : F_X8_isOutside (nI k) (nI n) s = some (nI 0) := by
  unfold F_X8_isOutside
  simp (disch := omega) only [↓Lm1, L0, L1, L2, L3, L4, L5, L6, L7, L8, L9, L10, L11, L12, L13, L14, L15, L16, L17, L18, L19, L20, L27, L30, L31, L35, L36, L37, L38, L39, L40, L41, L46, L48, L51, L57, L59, L60, L82, L98, L99, L100, L102, L104, L107, L110, L119, L144, L240, L255, L256, L360, L999, L1000000, nI_val, n_lt_t, n_lt_f, n_le_t, n_le_f, n_eq_t, n_eq_f, k_le_f, m_lt_t, m_lt_f, m_le_t, m_le_f, m_eq_f, m_eq_f', nI_add, nI_mulE, nI_subE, if_true, if_false, ite_true, ite_false, or_false, false_or, or_true, true_or, or_self, and_true, true_and, and_false, false_and, not_true_eq_false, not_false_eq_true, Option.bind_some, Sum.elim_inl, Sum.elim_inr, xu_set, xset_same, xset_ne, xset_2, xset_set, upd_same, upd_ne, nbI_some, ne_eq, reduceCtorEq, reduceIte, Nat.reduceAdd, Nat.reduceMul, Nat.reduceSub, Nat.add_zero, Nat.zero_add, Nat.mul_zero, Nat.zero_mul]
theorem out_no {x : Int32} {n : Nat} {s : xS} (hn : n < 2 ^ 31) (h : ∀ k, k < n → x ≠ nI k) : F_X8_isOutside x (nI n) s = some (nI 1) := by
  unfold F_X8_isOutside
  by_cases c : x < nI 0
  · have c' : x < 0 := c
    rw [if_pos c']; rfl
  · have := arg_out hn h c
    have c' : ¬ x < 0 := c
    rw [if_neg c', if_neg (fun q => by rw [i_lt] at q; rw [i_le] at this; omega)]
    rfl
theorem inM_no {x : Int32} {n : Nat} {s : xS} (hn : n < 2 ^ 31) (h : ∀ k, k < n + 1 → x ≠ nI k) : F_X9_in x (nI 0) (nI n) s = some (nI 0) := by
  by_cases c : x < nI 0
  · exact in_lo c
  · by_cases c2 : n + 1 < 2 ^ 31
    · have := arg_out c2 h c
      exact in_hi c (by rw [i_lt, nI_toInt hn]; rw [i_le, nI_toInt c2] at this; omega)
    · exfalso
      have h0' : 0 ≤ x.toInt := by
        rw [i_lt, nI_toInt (by omega)] at c
        omega
      exact h _ (by have := Int32.toInt_lt x; omega) (i_of h0')
/-- within what is there -/
theorem inN_t {k N : Nat} {s : xS} (h : k < N) (hN : N < 2 ^ 31) : F_X9_in (nI k) (nI 0) (nI N - nI 1) s = some (nI 1) := by
  rw [nI_subE (by omega)]
  exact inM_t (by omega) (by omega) (by omega)
theorem inN_no {x : Int32} {N : Nat} {s : xS} (hN : N < 2 ^ 31) (h : ∀ k, k < N → x ≠ nI k) : F_X9_in x (nI 0) (nI N - nI 1) s = some (nI 0) := by
  by_cases c : x < nI 0
  · exact in_lo c
  · by_cases n0 : N = 0
    · subst n0
      refine in_hi c ?_
      have e : nI 0 - nI 1 = -1 := by decide
      rw [e, i_lt, i_m1]
      rw [i_lt, nI_toInt (by omega)] at c
      omega
    · rw [nI_subE (by omega)]
      exact inM_no (by omega) (fun k hk => h k (by omega))
theorem faultM {u0 : Nat → Nat} {n0 : Nat} {u1 : Nat → Nat} {n1 : Nat} {l : LD} {s : xS} (h : BM u0 n0 u1 n1 l s) (x : Int32) : ∃ s', F_X9_faultOf x s = some (if x = nI 0 then nbI (tflt (tres (fun j => nI (u0 j)) n0)) else nbI (dflt u1 n1), s') ∧ KR [3, 4, 5, 6] [2, 3, 5] s s' ∧ TwM s' (twn u0 n0).1 (twn u0 n0).2.1 (twn u0 n0).2.2.2 ∧ DdM (ddat u1 n1) s' := by
  obtain ⟨h0, h1, b1, b2, b3, b4, hl, hL⟩ := h
  obtain ⟨s1, e1, k1, t1⟩ := townM (t := fun j => nI (u0 j)) h0 b1 b3
  have hD1 : DtM u1 n1 s1 := ⟨by rw [k1.1 1 (by decide) (by decide)]; exact b2, fun j hj => by rw [k1.1 2 (by decide) (by decide)]; exact b4 j hj⟩
  obtain ⟨s2, e2, k2, d2⟩ := deedsM h1 hD1
  refine ⟨s2, ?_, (k1.wide (by decide) (by decide)).trans (k2.wide (by decide) (by decide)), ?_, d2⟩
  · unfold F_X9_faultOf
    rw [e1]
    dsimp only [Option.bind_some]
    rw [e2]
    dsimp only [Option.bind_some]
    by_cases c : x = nI 0
    · rw [if_pos c]
      exact if_pos c
    · rw [if_neg c]
      exact if_neg c
  · have q : TwM s1 (twn u0 n0).1 (twn u0 n0).2.1 (twn u0 n0).2.2.2 := t1
    unfold TwM at q ⊢
    rw [k2.1 3 (by decide) (by decide), k2.2 3 (by decide), k2.2 2 (by decide)]
    exact q
/-- the other, as told -/
def RT (u0 : Nat → Nat) (n0 : Nat) (u1 : Nat → Nat) (n1 : Nat) (l : LD) (s s' : xS) : Prop := KR SM SR s s' ∧ BM u0 n0 u1 n1 l s' ∧ TwM s' (twn u0 n0).1 (twn u0 n0).2.1 (twn u0 n0).2.2.2 ∧ DdM (ddat u1 n1) s'
theorem readsT {u0 : Nat → Nat} {n0 : Nat} {u1 : Nat → Nat} {n1 : Nat} {l : LD} {s : xS} (h : BM u0 n0 u1 n1 l s) : ∃ s', F_X9_reads s = some s' ∧ RT u0 n0 u1 n1 l s s' ∧ KR [3, 4, 5, 6] [2, 3, 5] s s' := by
  obtain ⟨s', e, k, t, d⟩ := faultM h (nI 0)
  have kw : KR SM SR s s' := k.wide (by decide) (by decide)
  refine ⟨s', ?_, ⟨kw, BM_K h kw, t, d⟩, k⟩
  unfold F_X9_reads
  have e' : F_X9_faultOf 0 s = _ := e
  rw [e']
  rfl
theorem asToldM {u0 : Nat → Nat} {n0 : Nat} {u1 : Nat → Nat} {n1 : Nat} {l : LD} {s : xS} (h : BM u0 n0 u1 n1 l s) : ∃ s', F_X9_asTold s = some s' ∧ RT u0 n0 u1 n1 l s s' ∧ s'.1 0 15 = nI 0 := by
  obtain ⟨s1, e, ⟨k, b, t, d⟩, _⟩ := readsT h
  have k2 : KR SM SR s (xset s1 0 (upd (s1.1 0) 15 (nI 0))) := k.set0 _ (fun j hj => upd_ne _ _ (fun z => hj (by rw [z]; decide)))
  refine ⟨xset s1 0 (upd (s1.1 0) 15 (nI 0)), ?_, ⟨k2, BM_K h k2, ?_, ?_⟩, ?_⟩
  · unfold F_X9_asTold
    rw [e]
    simp (disch := omega) only [↓Lm1, L0, L1, L2, L3, L4, L5, L6, L7, L8, L9, L10, L11, L12, L13, L14, L15, L16, L17, L18, L19, L20, L27, L30, L31, L35, L36, L37, L38, L39, L40, L41, L46, L48, L51, L57, L59, L60, L82, L98, L99, L100, L102, L104, L107, L110, L119, L144, L240, L255, L256, L360, L999, L1000000, nI_val, n_lt_t, n_lt_f, n_le_t, n_le_f, n_eq_t, n_eq_f, k_le_f, m_lt_t, m_lt_f, m_le_t, m_le_f, m_eq_f, m_eq_f', nI_add, nI_mulE, nI_subE, if_true, if_false, ite_true, ite_false, or_false, false_or, or_true, true_or, or_self, and_true, true_and, and_false, false_and, not_true_eq_false, not_false_eq_true, Option.bind_some, Sum.elim_inl, Sum.elim_inr, xu_set, xset_same, xset_ne, xset_2, xset_set, upd_same, upd_ne, nbI_some, ne_eq, reduceCtorEq, reduceIte, Nat.reduceAdd, Nat.reduceMul, Nat.reduceSub, Nat.add_zero, Nat.zero_add, Nat.mul_zero, Nat.zero_mul]
  · unfold TwM at t ⊢
    simp (disch := omega) only [↓Lm1, L0, L1, L2, L3, L4, L5, L6, L7, L8, L9, L10, L11, L12, L13, L14, L15, L16, L17, L18, L19, L20, L27, L30, L31, L35, L36, L37, L38, L39, L40, L41, L46, L48, L51, L57, L59, L60, L82, L98, L99, L100, L102, L104, L107, L110, L119, L144, L240, L255, L256, L360, L999, L1000000, nI_val, n_lt_t, n_lt_f, n_le_t, n_le_f, n_eq_t, n_eq_f, k_le_f, m_lt_t, m_lt_f, m_le_t, m_le_f, m_eq_f, m_eq_f', nI_add, nI_mulE, nI_subE, if_true, if_false, ite_true, ite_false, or_false, false_or, or_true, true_or, or_self, and_true, true_and, and_false, false_and, not_true_eq_false, not_false_eq_true, Option.bind_some, Sum.elim_inl, Sum.elim_inr, xu_set, xset_same, xset_ne, xset_2, xset_set, upd_same, upd_ne, nbI_some, ne_eq, reduceCtorEq, reduceIte, Nat.reduceAdd, Nat.reduceMul, Nat.reduceSub, Nat.add_zero, Nat.zero_add, Nat.mul_zero, Nat.zero_mul]
    exact t
  · unfold DdM DdR at d ⊢
    simp (disch := omega) only [↓Lm1, L0, L1, L2, L3, L4, L5, L6, L7, L8, L9, L10, L11, L12, L13, L14, L15, L16, L17, L18, L19, L20, L27, L30, L31, L35, L36, L37, L38, L39, L40, L41, L46, L48, L51, L57, L59, L60, L82, L98, L99, L100, L102, L104, L107, L110, L119, L144, L240, L255, L256, L360, L999, L1000000, nI_val, n_lt_t, n_lt_f, n_le_t, n_le_f, n_eq_t, n_eq_f, k_le_f, m_lt_t, m_lt_f, m_le_t, m_le_f, m_eq_f, m_eq_f', nI_add, nI_mulE, nI_subE, if_true, if_false, ite_true, ite_false, or_false, false_or, or_true, true_or, or_self, and_true, true_and, and_false, false_and, not_true_eq_false, not_false_eq_true, Option.bind_some, Sum.elim_inl, Sum.elim_inr, xu_set, xset_same, xset_ne, xset_2, xset_set, upd_same, upd_ne, nbI_some, ne_eq, reduceCtorEq, reduceIte, Nat.reduceAdd, Nat.reduceMul, Nat.reduceSub, Nat.add_zero, Nat.zero_add, Nat.mul_zero, Nat.zero_mul]
    exact d
  · simp (disch := omega) only [↓Lm1, L0, L1, L2, L3, L4, L5, L6, L7, L8, L9, L10, L11, L12, L13, L14, L15, L16, L17, L18, L19, L20, L27, L30, L31, L35, L36, L37, L38, L39, L40, L41, L46, L48, L51, L57, L59, L60, L82, L98, L99, L100, L102, L104, L107, L110, L119, L144, L240, L255, L256, L360, L999, L1000000, nI_val, n_lt_t, n_lt_f, n_le_t, n_le_f, n_eq_t, n_eq_f, k_le_f, m_lt_t, m_lt_f, m_le_t, m_le_f, m_eq_f, m_eq_f', nI_add, nI_mulE, nI_subE, if_true, if_false, ite_true, ite_false, or_false, false_or, or_true, true_or, or_self, and_true, true_and, and_false, false_and, not_true_eq_false, not_false_eq_true, Option.bind_some, Sum.elim_inl, Sum.elim_inr, xu_set, xset_same, xset_ne, xset_2, xset_set, upd_same, upd_ne, nbI_some, ne_eq, reduceCtorEq, reduceIte, Nat.reduceAdd, Nat.reduceMul, Nat.reduceSub, Nat.add_zero, Nat.zero_add, Nat.mul_zero, Nat.zero_mul]
theorem pr0 : PrM all_ (nI 0) := fun i hi => by
  have : ∀ i, i < 8 → ¬ xshr (nI 0) (nI i) &&& nI 1 = nI 1 := by decide +kernel
  exact propext ⟨fun q => absurd q (this i hi), fun q => by cases q⟩
/-- lays and sleepsOn, over any town and deeds -/
theorem runsM {s : xS} {N W : Nat} {kd : Nat → Nat} {bd : Option Nat} {d : DD} {pr : Nat → Bool} {l : LD} (hT : TwM s N W kd) (hb : ∀ j, j < N → (kd j = 3 ↔ bd = some j)) (hb2 : ∀ j, bd = some j → j < N) (hd : DdOk d) (hD : DdM d s) (hl : LwOk l) (hL : LwM l s) (hpr : PrM pr (s.1 0 15)) : ∃ s', F_X9_runs s = some s' ∧ KR [9, 10, 11, 12, 13, 14] [20] s s' ∧ NtM d (shr d N (lo N W (fun j => tl (kd j)) bd)) (ngt N (lo N W (fun j => tl (kd j)) bd) d pr l) 10 s' := by
  obtain ⟨s1, e1, k1, ls⟩ := laysM hT hb hb2
  obtain ⟨s2, e2, k2, n2⟩ := sleepM (pr := pr) hd (DdM_K hD k1 (by decide) (by decide) (by decide) (by decide)) hl (LwM_K hL k1 (by decide) (by decide) (by decide) (by decide) (by decide)) (by rw [k1.2 15 (by decide)]; exact hpr) hT.1.1 (by rw [k1.2 3 (by decide)]; exact hT.2.1) ls
  refine ⟨s2, ?_, (k1.wide (by decide) (by decide)).trans (k2.wide (by decide) (by decide)), n2⟩
  unfold F_X9_runs
  rw [e1]
  dsimp only [Option.bind_some]
  rw [e2]
  rfl
theorem runsToldM {u0 : Nat → Nat} {n0 : Nat} {u1 : Nat → Nat} {n1 : Nat} {l : LD} {s : xS} (h : BM u0 n0 u1 n1 l s) : ∃ s', F_X9_runsTold s = some s' ∧ RT u0 n0 u1 n1 l s s' ∧ NtM (ddat u1 n1) (shr (ddat u1 n1) (twn u0 n0).1 (ls0 u0 n0)) (ngt (twn u0 n0).1 (ls0 u0 n0) (ddat u1 n1) all_ l) 10 s' := by
  obtain ⟨s1, e1, ⟨k1, b1, t1, d1⟩, h15⟩ := asToldM h
  have hok := twn_ok u0 n0
  obtain ⟨s2, e2, k2, n2⟩ := runsM (pr := all_) t1 (fun j hj => (hok.2.2.1 j hj).2) hok.2.2.2 (dd_ok h.2.1) d1 h.2.2.2.2.2.2.1 b1.2.2.2.2.2.2.2 (by rw [h15]; exact pr0)
  have k3 : KR SM SR s s2 := k1.trans (k2.wide (by decide) (by decide))
  refine ⟨s2, ?_, ⟨k3, BM_K h k3, ?_, ?_⟩, n2⟩
  · unfold F_X9_runsTold
    rw [e1]
    dsimp only [Option.bind_some]
    rw [e2]
    rfl
  · unfold TwM at t1 ⊢
    rw [k2.1 3 (by decide) (by decide), k2.2 3 (by decide), k2.2 2 (by decide)]
    exact t1
  · exact DdM_K d1 k2 (by decide) (by decide) (by decide) (by decide)
/-! the invariant -/
/-- what was listened: how many, when, how much -/
abbrev ED : Type := Nat × (Nat → Nat) × (Nat → Nat)
def EaF (e : ED) (s : xS) : Prop := e.1 ≤ 8 ∧ s.1 16 2 = nI 8 ∧ s.1 16 3 = nI e.1 ∧ ∀ k, k < e.1 → e.2.1 k ≤ 9 ∧ e.2.2 k ≤ 99 ∧ s.1 17 k = nI (e.2.1 k) ∧ s.1 18 k = nI (e.2.2 k)
def EaM (e : ED) (s : xS) : Prop := s.1 0 25 = nI e.1 ∧ ∀ k, k < e.1 → s.1 18 k = nI (e.2.1 k) ∧ s.1 19 k = nI (e.2.2 k)
def ShR (f m : xS) : Prop := ∀ s, s < 4 → (m.1 22 s = nI 0 ∧ f.1 43 s = nbI none) ∨ ∃ fm sz, fm < 3 ∧ sz ≤ 60 ∧ m.1 22 s = nI 1 ∧ f.1 43 s = nI fm ∧ m.1 23 s = nI fm ∧ f.1 44 s = nI sz ∧ m.1 24 s = nI sz ∧ ∀ i, i < sz → f.1 45 (s * 60 + i) = m.1 25 (s * 60 + i)
/-- felt laid on a and b -/
def wfl (kd : Nat → Nat) (a b : Option Nat) : Nat → Nat := fun j => if a = some j ∨ b = some j then 3 else tl (kd j)
noncomputable def stl (u0 : Nat → Nat) (n0 : Nat) (u1 : Nat → Nat) (n1 : Nat) (l : LD) (a b : Option Nat) : Bool := decide ((ngt (twn u0 n0).1 (lo (twn u0 n0).1 (twn u0 n0).2.1 (wfl (twn u0 n0).2.2.2 a b) (twn u0 n0).2.2.1) (ddat u1 n1) all_ l).1 = none)
/-- the first below k that is so -/
def fst_ (P : Nat → Bool) : Nat → Option Nat
  | 0 => none
  | k + 1 => match fst_ P k with
    | some a => some a
    | none => if P k = true then some k else none
/-- what felt is needed, and where -/
noncomputable def fsp (u0 : Nat → Nat) (n0 : Nat) (u1 : Nat → Nat) (n1 : Nat) (l : LD) : Option Nat × Option Nat × Option Nat :=
  if (ngt (twn u0 n0).1 (ls0 u0 n0) (ddat u1 n1) all_ l).1 = none then (some 0, none, none)
  else match fst_ (fun a => decide ((twn u0 n0).2.2.2 a = 0) && stl u0 n0 u1 n1 l (some a) none) (twn u0 n0).1 with
    | some a => (some 1, some a, none)
    | none => match fst_ (fun a => (fst_ (fun b => decide (a < b) && decide ((twn u0 n0).2.2.2 a = 0) && decide ((twn u0 n0).2.2.2 b = 0) && stl u0 n0 u1 n1 l (some a) (some b)) (twn u0 n0).1).isSome) (twn u0 n0).1 with
      | some a => (some 2, some a, fst_ (fun b => decide (a < b) && decide ((twn u0 n0).2.2.2 a = 0) && decide ((twn u0 n0).2.2.2 b = 0) && stl u0 n0 u1 n1 l (some a) (some b)) (twn u0 n0).1)
      | none => (none, none, none)
def FeF (u0 : Nat → Nat) (n0 : Nat) (u1 : Nat → Nat) (n1 : Nat) (l : LD) (s : xS) : Prop := s.1 0 15 = nI 0 ∨ (s.1 0 15 = nI 1 ∧ s.1 0 14 = nbI (fsp u0 n0 u1 n1 l).1 ∧ s.1 41 0 = nbI (fsp u0 n0 u1 n1 l).2.1 ∧ s.1 41 1 = nbI (fsp u0 n0 u1 n1 l).2.2)
def InvA (u0 : Nat → Nat) (n0 : Nat) (u1 : Nat → Nat) (n1 : Nat) (l : LD) (e : ED) (f m : xS) : Prop := BF0 u0 n0 u1 n1 l f ∧ BF1 u0 n0 u1 n1 l f ∧ FeF u0 n0 u1 n1 l f ∧ EaF e f ∧ BM u0 n0 u1 n1 l m ∧ EaM e m ∧ ShR f m ∧ f.1 0 17 = m.1 0 35
def Inv (f m : xS) : Prop := ∃ u0 n0 u1 n1 l e, InvA u0 n0 u1 n1 l e f m
/-- the other may leave behind what it likes of its scratch -/
theorem InvA.keepM {u0 : Nat → Nat} {n0 : Nat} {u1 : Nat → Nat} {n1 : Nat} {l : LD} {e : ED} {f m m' : xS} (h : InvA u0 n0 u1 n1 l e f m) (k : KR SM SR m m') : InvA u0 n0 u1 n1 l e f m' := by
  obtain ⟨a1, a2, a3, a4, a5, a6, a7, a8⟩ := h
  refine ⟨a1, a2, a3, a4, BM_K a5 k, ?_, ?_, ?_⟩
  · unfold EaM at a6 ⊢
    rw [k.2 25 (by decide), k.1 18 (by decide) (by decide), k.1 19 (by decide) (by decide)]
    exact a6
  · unfold ShR at a7 ⊢
    rw [k.1 22 (by decide) (by decide), k.1 23 (by decide) (by decide), k.1 24 (by decide) (by decide), k.1 25 (by decide) (by decide)]
    exact a7
  · rw [k.2 35 (by decide)]
    exact a8
theorem InvA.keepF {u0 : Nat → Nat} {n0 : Nat} {u1 : Nat → Nat} {n1 : Nat} {l : LD} {e : ED} {f f' m : xS} (h : InvA u0 n0 u1 n1 l e f m) (k : Kp 27 40 f f') : InvA u0 n0 u1 n1 l e f' m := by
  obtain ⟨a1, a2, a3, a4, a5, a6, a7, a8⟩ := h
  refine ⟨BF0_K a1 (fun q _ _ => (k q (by omega)).1), BF1_K a2 (fun q _ _ => (k q (by omega)).1) (k 22 (by omega)).2, ?_, ?_, a5, a6, ?_, ?_⟩
  · unfold FeF at a3 ⊢
    rw [(k 0 (by omega)).1, (k 41 (by omega)).1]
    exact a3
  · unfold EaF at a4 ⊢
    rw [(k 16 (by omega)).1, (k 17 (by omega)).1, (k 18 (by omega)).1]
    exact a4
  · unfold ShR at a7 ⊢
    rw [(k 43 (by omega)).1, (k 44 (by omega)).1, (k 45 (by omega)).1]
    exact a7
  · rw [(k 0 (by omega)).1]
    exact a8
