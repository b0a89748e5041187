/-! ===== felt ===== -/
theorem fst_s (Q : Nat → Bool) (k : Nat) : fst_ Q (k + 1) = match fst_ Q k with
    | some a => some a
    | none => if Q k = true then some k else none := rfl
theorem fst_up {Q : Nat → Bool} {k a : Nat} (h : fst_ Q k = some a) : ∀ n, k ≤ n → fst_ Q n = some a := by
  intro n hn
  induction hn with
  | refl => exact h
  | step _ ih => rw [fst_s, ih]
theorem fst_hit {Q : Nat → Bool} {k n : Nat} (h : fst_ Q k = none) (q : Q k = true) (hn : k < n) : fst_ Q n = some k := by
  refine fst_up (k := k + 1) ?_ n hn
  rw [fst_s, h]
  exact if_pos q
theorem fst_miss {Q : Nat → Bool} {k : Nat} (h : fst_ Q k = none) (q : Q k = false) : fst_ Q (k + 1) = none := by
  rw [fst_s, h]
  exact if_neg (by rw [q]; exact Bool.false_ne_true)
theorem fst_all {Q : Nat → Bool} : ∀ {k : Nat}, (∀ c, c < k → Q c = false) → fst_ Q k = none
  | 0, _ => rfl
  | k + 1, h => fst_miss (fst_all (fun c hc => h c (by omega))) (h k (by omega))
section SPEC
variable {u0 : Nat → Nat} {n0 : Nat} {u1 : Nat → Nat} {n1 : Nat} {l : LD} {e : ED} {s s4 a : xS}
/-- Reach.spread, tolls w laid -/
theorem reachW {N W : Nat} {kd w : Nat → Nat} {bd : Option Nat} (hT : TwF s N W kd) (hw : ∀ j, j < N → w j ≤ 1000000 ∧ s.1 32 j = nI (w j)) (hb : ∀ j, bd = some j → j < N) : ∃ s', F_X4_spread 31 (nbI bd) s = some s' ∧ Kp 33 33 s s' ∧ LsF 31 N (lo N W w bd) s' := by
  cases bd with
  | none =>
    have e2 := spread_no (p := 31) (s := s) (Or.inr rfl)
    refine ⟨_, e2, (Kp.refl _ _ _).set _ (by omega) (by omega), fun j hj => ⟨?_, fun _ => Nat.le_refl _⟩⟩
    show (xset s (31 + 2) _).1 (31 + 2) j = nI (if j < N then 1000000 else 1000000)
    rw [xset_same, if_pos hj, ite_self]
    rfl
  | some t =>
    obtain ⟨f, hf, e2⟩ := spread_eq (p := 31) (Or.inr rfl) hT hw (hb t rfl)
    refine ⟨_, e2, (Kp.refl _ _ _).set _ (by omega) (by omega), fun j hj => ⟨?_, fun h => lo_le h⟩⟩
    rw [xset_same]
    by_cases c : j < N
    · rw [if_pos c, if_pos c, lo_is hf c]
    · rw [if_neg c, if_neg c, if_pos hj]
      rfl
def lyx (x : Option Nat) (s : xS) : xS := match x with
  | none => s
  | some j => xset s 32 (upd (s.1 32) j (nI 3))
theorem layF {x : Option Nat} (hx : ∀ j, x = some j → j < 36) : F_X4_layFelt (nbI x) s = some (lyx x s) := by
  unfold F_X4_layFelt lyx
  cases x with
  | none =>
    have q : (nbI none < nI 0) = True := eq_true (by decide)
    simp (disch := omega) only [↓Lm1, L0, L1, L2, L3, L4, L5, L6, L7, L8, L9, L10, L11, L12, L13, L14, L15, L16, L17, L18, L19, L20, L27, L30, L31, L35, L36, L37, L38, L39, L40, L41, L46, L48, L51, L57, L59, L60, L82, L98, L99, L100, L102, L104, L107, L110, L119, L144, L240, L255, L256, L360, L999, L1000000, nI_val, n_lt_t, n_lt_f, n_le_t, n_le_f, n_eq_t, n_eq_f, k_le_f, m_lt_t, m_lt_f, m_le_t, m_le_f, m_eq_f, m_eq_f', nI_add, nI_mulE, nI_subE, if_true, if_false, ite_true, ite_false, or_false, false_or, or_true, true_or, or_self, and_true, true_and, and_false, false_and, not_true_eq_false, not_false_eq_true, Option.bind_some, Sum.elim_inl, Sum.elim_inr, xu_set, xset_same, xset_ne, xset_2, xset_set, upd_same, upd_ne, nbI_some, ne_eq, reduceCtorEq, reduceIte, Nat.reduceAdd, Nat.reduceMul, Nat.reduceSub, Nat.add_zero, Nat.zero_add, Nat.mul_zero, Nat.zero_mul, q]
  | some j =>
    have := hx j rfl
    rw [nbI_some]
    simp (disch := omega) only [↓Lm1, L0, L1, L2, L3, L4, L5, L6, L7, L8, L9, L10, L11, L12, L13, L14, L15, L16, L17, L18, L19, L20, L27, L30, L31, L35, L36, L37, L38, L39, L40, L41, L46, L48, L51, L57, L59, L60, L82, L98, L99, L100, L102, L104, L107, L110, L119, L144, L240, L255, L256, L360, L999, L1000000, nI_val, n_lt_t, n_lt_f, n_le_t, n_le_f, n_eq_t, n_eq_f, k_le_f, m_lt_t, m_lt_f, m_le_t, m_le_f, m_eq_f, m_eq_f', nI_add, nI_mulE, nI_subE, if_true, if_false, ite_true, ite_false, or_false, false_or, or_true, true_or, or_self, and_true, true_and, and_false, false_and, not_true_eq_false, not_false_eq_true, Option.bind_some, Sum.elim_inl, Sum.elim_inr, xu_set, xset_same, xset_ne, xset_2, xset_set, upd_same, upd_ne, nbI_some, ne_eq, reduceCtorEq, reduceIte, Nat.reduceAdd, Nat.reduceMul, Nat.reduceSub, Nat.add_zero, Nat.zero_add, Nat.mul_zero, Nat.zero_mul]
theorem stillF {i : Nat} {b : Option Nat} (h : BF0 u0 n0 u1 n1 l s) (hi : i < (twn u0 n0).1) (hb : ∀ j, b = some j → j < (twn u0 n0).1) : ∃ s', F_X8_isStillWith (nI i) (nbI b) s = some (nI (b01 (stl u0 n0 u1 n1 l (some i) b)), s') ∧ Kp 27 40 s s' := by
  have hok := twn_ok u0 n0
  have hdo := dd_ok (u := u1) h.1.2.1
  have hT := h.2.1.1
  have hN := hT.1.1
  have hl := h.2.2.2.1
  have e1 := tolls_eq (p := 31) (by omega) hT
  obtain ⟨s1, hs1⟩ : ∃ s1, s1 = xset s (31 + 1) (rowN (twn u0 n0).1 (fun j => tl ((twn u0 n0).2.2.2 j)) (s.1 (31 + 1))) := ⟨_, rfl⟩
  rw [← hs1] at e1
  have k1 : Kp 32 33 s s1 := by rw [hs1]; exact (Kp.refl _ _ _).set _ (by omega) (by omega)
  have r1 : ∀ j, j < (twn u0 n0).1 → s1.1 32 j = nI (tl ((twn u0 n0).2.2.2 j)) := fun j hj => by
    rw [hs1]
    show (xset s 32 _).1 32 j = _
    rw [xset_same]
    simp [rowN, hj]
  have e2 := layF (s := s1) (x := some i) (fun j hj => by cases hj; omega)
  rw [nbI_some] at e2
  obtain ⟨s2, hs2⟩ : ∃ s2, s2 = xset s1 32 (upd (s1.1 32) i (nI 3)) := ⟨_, rfl⟩
  have e2 : F_X4_layFelt (nI i) s1 = some s2 := by rw [hs2]; exact e2
  have k2 : Kp 32 33 s s2 := by rw [hs2]; exact k1.set _ (by omega) (by omega)
  have r2 : ∀ j, s2.1 32 j = if j = i then nI 3 else s1.1 32 j := fun j => by
    rw [hs2, xset_same]
    by_cases c : j = i
    · rw [if_pos c, c, upd_same]
    · rw [if_neg c, upd_ne _ _ c]
  have e3 := layF (s := s2) (x := b) (fun j hj => by have := hb j hj; omega)
  obtain ⟨s3, hs3⟩ : ∃ s3, s3 = lyx b s2 := ⟨_, rfl⟩
  rw [← hs3] at e3
  have k3 : Kp 32 33 s s3 := by
    rw [hs3]
    cases b with
    | none => exact k2
    | some j => exact k2.set _ (by omega) (by omega)
  have r3 : ∀ j, j < (twn u0 n0).1 → s3.1 32 j = nI (wfl (twn u0 n0).2.2.2 (some i) b j) := fun j hj => by
    unfold wfl
    have q := r2 j
    cases b with
    | none =>
      rw [hs3]
      show s2.1 32 j = _
      rw [q]
      by_cases c : j = i
      · rw [if_pos c, if_pos (Or.inl (by rw [c]))]
      · rw [if_neg c, if_neg (fun z => z.elim (fun y => c (Option.some.inj y).symm) (fun y => by cases y)), r1 j hj]
    | some b =>
      rw [hs3]
      show (xset s2 32 (upd (s2.1 32) b (nI 3))).1 32 j = _
      rw [xset_same]
      by_cases c2 : j = b
      · rw [c2, upd_same, if_pos (Or.inr rfl)]
      · rw [upd_ne _ _ c2, q]
        by_cases c : j = i
        · rw [if_pos c, if_pos (Or.inl (by rw [c]))]
        · rw [if_neg c, if_neg (fun z => z.elim (fun y => c (Option.some.inj y).symm) (fun y => c2 (Option.some.inj y).symm)), r1 j hj]
  have hT3 : TwF s3 (twn u0 n0).1 (twn u0 n0).2.1 (twn u0 n0).2.2.2 := by
    unfold TwF at hT ⊢
    rw [(k3 5 (by omega)).1, (k3 6 (by omega)).1, (k3 7 (by omega)).1]
    exact hT
  have h54 : s3.1 5 4 = nbI (twn u0 n0).2.2.1 := by rw [(k3 5 (by omega)).1]; exact h.2.1.2.1
  obtain ⟨s4, e4, k4, ls⟩ := reachW (w := wfl (twn u0 n0).2.2.2 (some i) b) (bd := (twn u0 n0).2.2.1) hT3 (fun j hj => ⟨by
    unfold wfl
    have := (tl_le ((twn u0 n0).2.2.2 j)).1
    split <;> omega, r3 j hj⟩) hok.2.2.2
  have k4' : Kp 27 40 s s4 := (k3.wide (by omega) (by omega)).trans (k4.wide (by omega) (by omega))
  have h4 : BF0 u0 n0 u1 n1 l s4 := BF0_K h (fun q _ _ => (k4' q (by omega)).1)
  obtain ⟨s5, e5, k5, n5⟩ := passF (p0 := 34) (p1 := 8) (p3 := 31) (N := (twn u0 n0).1) (ls := lo (twn u0 n0).1 (twn u0 n0).2.1 (wfl (twn u0 n0).2.2.2 (some i) b) (twn u0 n0).2.2.1) (Or.inr (Or.inr ⟨rfl, rfl⟩)) (Or.inr rfl) hdo h4.2.2.1.1 hl h4.2.2.2.2.1 pr255 hN ls
  refine ⟨s5, ?_, k4'.trans (k5.wide (by omega) (by omega))⟩
  have e345 : s5.1 34 5 = nbI (ngt (twn u0 n0).1 (lo (twn u0 n0).1 (twn u0 n0).2.1 (wfl (twn u0 n0).2.2.2 (some i) b) (twn u0 n0).2.2.1) (ddat u1 n1) all_ l).1 := n5.1
  unfold F_X8_isStillWith stl
  cases q : (ngt (twn u0 n0).1 (lo (twn u0 n0).1 (twn u0 n0).2.1 (wfl (twn u0 n0).2.2.2 (some i) b) (twn u0 n0).2.2.1) (ddat u1 n1) all_ l).1 with
  | none =>
    rw [q] at e345
    simp (disch := omega) only [↓Lm1, L0, L1, L2, L3, L4, L5, L6, L7, L8, L9, L10, L11, L12, L13, L14, L15, L16, L17, L18, L19, L20, L27, L30, L31, L35, L36, L37, L38, L39, L40, L41, L46, L48, L51, L57, L59, L60, L82, L98, L99, L100, L102, L104, L107, L110, L119, L144, L240, L255, L256, L360, L999, L1000000, nI_val, n_lt_t, n_lt_f, n_le_t, n_le_f, n_eq_t, n_eq_f, k_le_f, m_lt_t, m_lt_f, m_le_t, m_le_f, m_eq_f, m_eq_f', nI_add, nI_mulE, nI_subE, if_true, if_false, ite_true, ite_false, or_false, false_or, or_true, true_or, or_self, and_true, true_and, and_false, false_and, not_true_eq_false, not_false_eq_true, Option.bind_some, Sum.elim_inl, Sum.elim_inr, xu_set, xset_same, xset_ne, xset_2, xset_set, upd_same, upd_ne, nbI_some, ne_eq, reduceCtorEq, reduceIte, Nat.reduceAdd, Nat.reduceMul, Nat.reduceSub, Nat.add_zero, Nat.zero_add, Nat.mul_zero, Nat.zero_mul, e1, e2, e3, h54, e4, e5, e345, b01, decide_true]
  | some x =>
    have := ngt_wk hl q
    rw [q] at e345
    simp (disch := omega) only [↓Lm1, L0, L1, L2, L3, L4, L5, L6, L7, L8, L9, L10, L11, L12, L13, L14, L15, L16, L17, L18, L19, L20, L27, L30, L31, L35, L36, L37, L38, L39, L40, L41, L46, L48, L51, L57, L59, L60, L82, L98, L99, L100, L102, L104, L107, L110, L119, L144, L240, L255, L256, L360, L999, L1000000, nI_val, n_lt_t, n_lt_f, n_le_t, n_le_f, n_eq_t, n_eq_f, k_le_f, m_lt_t, m_lt_f, m_le_t, m_le_f, m_eq_f, m_eq_f', nI_add, nI_mulE, nI_subE, if_true, if_false, ite_true, ite_false, or_false, false_or, or_true, true_or, or_self, and_true, true_and, and_false, false_and, not_true_eq_false, not_false_eq_true, Option.bind_some, Sum.elim_inl, Sum.elim_inr, xu_set, xset_same, xset_ne, xset_2, xset_set, upd_same, upd_ne, nbI_some, ne_eq, reduceCtorEq, reduceIte, Nat.reduceAdd, Nat.reduceMul, Nat.reduceSub, Nat.add_zero, Nat.zero_add, Nat.mul_zero, Nat.zero_mul, e1, e2, e3, h54, e4, e5, e345, b01, decide_false, Bool.false_eq_true]
noncomputable def fQ1 (u0 : Nat → Nat) (n0 : Nat) (u1 : Nat → Nat) (n1 : Nat) (l : LD) : Nat → Bool := fun a => decide ((twn u0 n0).2.2.2 a = 0) && stl u0 n0 u1 n1 l (some a) none
noncomputable def fQ2 (u0 : Nat → Nat) (n0 : Nat) (u1 : Nat → Nat) (n1 : Nat) (l : LD) (a : Nat) : Nat → Bool := fun b => decide (a < b) && decide ((twn u0 n0).2.2.2 a = 0) && decide ((twn u0 n0).2.2.2 b = 0) && stl u0 n0 u1 n1 l (some a) (some b)
noncomputable def fQ3 (u0 : Nat → Nat) (n0 : Nat) (u1 : Nat → Nat) (n1 : Nat) (l : LD) : Nat → Bool := fun a => (fst_ (fQ2 u0 n0 u1 n1 l a) (twn u0 n0).1).isSome
theorem BF0_kp {s' : xS} (h : BF0 u0 n0 u1 n1 l s) (k : Kp 27 40 s s') : BF0 u0 n0 u1 n1 l s' := BF0_K h (fun q _ _ => (k q (by omega)).1)
theorem oneF (h : BF0 u0 n0 u1 n1 l s) : ∃ b, xlp F_X8_isStillWithOne_L2 100000 (nI 0, s) = some b ∧ ((∃ i t, b = Sum.inl (nI i, t) ∧ fst_ (fQ1 u0 n0 u1 n1 l) (twn u0 n0).1 = some i ∧ Kp 27 40 s t) ∨ (∃ t, b = Sum.inr t ∧ fst_ (fQ1 u0 n0 u1 n1 l) (twn u0 n0).1 = none ∧ Kp 27 40 s t)) := by
  have hN := (twn_ok u0 n0).1.1
  obtain ⟨Q, hQ⟩ : ∃ Q : Nat → Bool, Q = fQ1 u0 n0 u1 n1 l := ⟨_, rfl⟩
  rw [← hQ]
  refine xlp_cnt (f := F_X8_isStillWithOne_L2) (fun i a => a.1 = nI i ∧ Kp 27 40 s a.2 ∧ fst_ Q i = none) (fun b => (∃ i t, b = Sum.inl (nI i, t) ∧ fst_ Q (twn u0 n0).1 = some i ∧ Kp 27 40 s t) ∨ (∃ t, b = Sum.inr t ∧ fst_ Q (twn u0 n0).1 = none ∧ Kp 27 40 s t)) (twn u0 n0).1 (by omega) ?_ ?_ (a := (nI 0, s)) ⟨rfl, Kp.refl _ _ _, rfl⟩
  · intro i a hi ⟨h1, h2, h3⟩
    obtain ⟨a1, s'⟩ := a
    dsimp only at h1 h2
    subst h1
    have h' := BF0_kp h h2
    have hT := h'.2.1.1
    have h52 := hT.2.1
    have eo := openF hT hi
    obtain ⟨t, et, kt⟩ := stillF (b := none) h' hi (fun j q => by cases q)
    have hQi : Q i = (opB u0 n0 i && stl u0 n0 u1 n1 l (some i) none) := by rw [hQ]; rfl
    unfold F_X8_isStillWithOne_L2
    cases c : opB u0 n0 i with
    | false =>
      rw [c] at eo hQi
      have eo' : F_X7_isOpen (nI i) s' = some (nI 0) := eo
      left
      refine ⟨(nI (i + 1), s'), ?_, rfl, h2, fst_miss h3 (by rw [hQi]; rfl)⟩
      simp (disch := omega) only [↓Lm1, L0, L1, L2, L3, L4, L5, L6, L7, L8, L9, L10, L11, L12, L13, L14, L15, L16, L17, L18, L19, L20, L27, L30, L31, L35, L36, L37, L38, L39, L40, L41, L46, L48, L51, L57, L59, L60, L82, L98, L99, L100, L102, L104, L107, L110, L119, L144, L240, L255, L256, L360, L999, L1000000, nI_val, n_lt_t, n_lt_f, n_le_t, n_le_f, n_eq_t, n_eq_f, k_le_f, m_lt_t, m_lt_f, m_le_t, m_le_f, m_eq_f, m_eq_f', nI_add, nI_mulE, nI_subE, if_true, if_false, ite_true, ite_false, or_false, false_or, or_true, true_or, or_self, and_true, true_and, and_false, false_and, not_true_eq_false, not_false_eq_true, Option.bind_some, Sum.elim_inl, Sum.elim_inr, xu_set, xset_same, xset_ne, xset_2, xset_set, upd_same, upd_ne, nbI_some, ne_eq, reduceCtorEq, reduceIte, Nat.reduceAdd, Nat.reduceMul, Nat.reduceSub, Nat.add_zero, Nat.zero_add, Nat.mul_zero, Nat.zero_mul, h52, eo']
    | true =>
      rw [c] at eo hQi
      have eo' : F_X7_isOpen (nI i) s' = some (nI 1) := eo
      cases z : stl u0 n0 u1 n1 l (some i) none with
      | false =>
        rw [z] at et hQi
        have et' : F_X8_isStillWith (nI i) (nbI none) s' = some (nI 0, t) := et
        left
        refine ⟨(nI (i + 1), t), ?_, rfl, h2.trans kt, fst_miss h3 (by rw [hQi]; rfl)⟩
        simp (disch := omega) only [↓Lm1, L0, L1, L2, L3, L4, L5, L6, L7, L8, L9, L10, L11, L12, L13, L14, L15, L16, L17, L18, L19, L20, L27, L30, L31, L35, L36, L37, L38, L39, L40, L41, L46, L48, L51, L57, L59, L60, L82, L98, L99, L100, L102, L104, L107, L110, L119, L144, L240, L255, L256, L360, L999, L1000000, nI_val, n_lt_t, n_lt_f, n_le_t, n_le_f, n_eq_t, n_eq_f, k_le_f, m_lt_t, m_lt_f, m_le_t, m_le_f, m_eq_f, m_eq_f', nI_add, nI_mulE, nI_subE, if_true, if_false, ite_true, ite_false, or_false, false_or, or_true, true_or, or_self, and_true, true_and, and_false, false_and, not_true_eq_false, not_false_eq_true, Option.bind_some, Sum.elim_inl, Sum.elim_inr, xu_set, xset_same, xset_ne, xset_2, xset_set, upd_same, upd_ne, nbI_some, ne_eq, reduceCtorEq, reduceIte, Nat.reduceAdd, Nat.reduceMul, Nat.reduceSub, Nat.add_zero, Nat.zero_add, Nat.mul_zero, Nat.zero_mul, h52, eo', et']
      | true =>
        rw [z] at et hQi
        have et' : F_X8_isStillWith (nI i) (nbI none) s' = some (nI 1, t) := et
        right
        refine ⟨Sum.inl (nI i, t), ?_, Or.inl ⟨i, t, rfl, fst_hit h3 (by rw [hQi]; rfl) hi, h2.trans kt⟩⟩
        simp (disch := omega) only [↓Lm1, L0, L1, L2, L3, L4, L5, L6, L7, L8, L9, L10, L11, L12, L13, L14, L15, L16, L17, L18, L19, L20, L27, L30, L31, L35, L36, L37, L38, L39, L40, L41, L46, L48, L51, L57, L59, L60, L82, L98, L99, L100, L102, L104, L107, L110, L119, L144, L240, L255, L256, L360, L999, L1000000, nI_val, n_lt_t, n_lt_f, n_le_t, n_le_f, n_eq_t, n_eq_f, k_le_f, m_lt_t, m_lt_f, m_le_t, m_le_f, m_eq_f, m_eq_f', nI_add, nI_mulE, nI_subE, if_true, if_false, ite_true, ite_false, or_false, false_or, or_true, true_or, or_self, and_true, true_and, and_false, false_and, not_true_eq_false, not_false_eq_true, Option.bind_some, Sum.elim_inl, Sum.elim_inr, xu_set, xset_same, xset_ne, xset_2, xset_set, upd_same, upd_ne, nbI_some, ne_eq, reduceCtorEq, reduceIte, Nat.reduceAdd, Nat.reduceMul, Nat.reduceSub, Nat.add_zero, Nat.zero_add, Nat.mul_zero, Nat.zero_mul, h52, eo', et']
  · intro a ⟨h1, h2, h3⟩
    obtain ⟨a1, s'⟩ := a
    dsimp only at h1 h2
    subst h1
    have h52 := (BF0_kp h h2).2.1.1.2.1
    refine ⟨Sum.inr s', ?_, Or.inr ⟨s', rfl, h3, h2⟩⟩
    unfold F_X8_isStillWithOne_L2
    simp (disch := omega) only [↓Lm1, L0, L1, L2, L3, L4, L5, L6, L7, L8, L9, L10, L11, L12, L13, L14, L15, L16, L17, L18, L19, L20, L27, L30, L31, L35, L36, L37, L38, L39, L40, L41, L46, L48, L51, L57, L59, L60, L82, L98, L99, L100, L102, L104, L107, L110, L119, L144, L240, L255, L256, L360, L999, L1000000, nI_val, n_lt_t, n_lt_f, n_le_t, n_le_f, n_eq_t, n_eq_f, k_le_f, m_lt_t, m_lt_f, m_le_t, m_le_f, m_eq_f, m_eq_f', nI_add, nI_mulE, nI_subE, if_true, if_false, ite_true, ite_false, or_false, false_or, or_true, true_or, or_self, and_true, true_and, and_false, false_and, not_true_eq_false, not_false_eq_true, Option.bind_some, Sum.elim_inl, Sum.elim_inr, xu_set, xset_same, xset_ne, xset_2, xset_set, upd_same, upd_ne, nbI_some, ne_eq, reduceCtorEq, reduceIte, Nat.reduceAdd, Nat.reduceMul, Nat.reduceSub, Nat.add_zero, Nat.zero_add, Nat.mul_zero, Nat.zero_mul, h52]
theorem twoF_in {i : Nat} (h : BF0 u0 n0 u1 n1 l s) (hi : i < (twn u0 n0).1) : ∃ b, xlp (F_X8_isStillWithTwo_L17 (nI i)) 100000 (nI (i + 1), s) = some b ∧ ((∃ j t, b = Sum.inl (nI j, t) ∧ fst_ (fQ2 u0 n0 u1 n1 l i) (twn u0 n0).1 = some j ∧ Kp 27 40 s t) ∨ (∃ t, b = Sum.inr t ∧ fst_ (fQ2 u0 n0 u1 n1 l i) (twn u0 n0).1 = none ∧ Kp 27 40 s t)) := by
  have hN := (twn_ok u0 n0).1.1
  obtain ⟨Q, hQ⟩ : ∃ Q : Nat → Bool, Q = fQ2 u0 n0 u1 n1 l i := ⟨_, rfl⟩
  rw [← hQ]
  have start : fst_ Q (i + 1) = none := fst_all (fun c hc => by
    rw [hQ]
    show (decide (i < c) && _ && _ && _) = false
    rw [decide_eq_false (show ¬ i < c by omega)]
    rfl)
  refine xlp_cnt (f := F_X8_isStillWithTwo_L17 (nI i)) (fun k a => a.1 = nI (i + 1 + k) ∧ Kp 27 40 s a.2 ∧ fst_ Q (i + 1 + k) = none) (fun b => (∃ j t, b = Sum.inl (nI j, t) ∧ fst_ Q (twn u0 n0).1 = some j ∧ Kp 27 40 s t) ∨ (∃ t, b = Sum.inr t ∧ fst_ Q (twn u0 n0).1 = none ∧ Kp 27 40 s t)) ((twn u0 n0).1 - (i + 1)) (by omega) ?_ ?_ (a := (nI (i + 1), s)) ⟨rfl, Kp.refl _ _ _, start⟩
  · intro k a hk ⟨h1, h2, h3⟩
    obtain ⟨a1, s'⟩ := a
    dsimp only at h1 h2
    obtain ⟨j, hj⟩ : ∃ j, j = i + 1 + k := ⟨_, rfl⟩
    have hs : i + 1 + (k + 1) = j + 1 := by omega
    rw [← hj] at h1 h3
    rw [hs]
    subst h1
    have hjN : j < (twn u0 n0).1 := by omega
    have h' := BF0_kp h h2
    have hT := h'.2.1.1
    have h52 := hT.2.1
    have eo := openF hT hi
    have eo2 := openF hT hjN
    obtain ⟨t, et, kt⟩ := stillF (b := some j) h' hi (fun j' q => by cases q; exact hjN)
    rw [nbI_some] at et
    have hQi : Q j = (opB u0 n0 i && opB u0 n0 j && stl u0 n0 u1 n1 l (some i) (some j)) := by
      rw [hQ]
      show (decide (i < j) && _ && _ && _) = _
      rw [decide_eq_true (show i < j by omega), Bool.true_and]
      rfl
    unfold F_X8_isStillWithTwo_L17
    cases c : opB u0 n0 i with
    | false =>
      rw [c] at eo hQi
      have eo' : F_X7_isOpen (nI i) s' = some (nI 0) := eo
      left
      refine ⟨(nI (j + 1), s'), ?_, rfl, h2, fst_miss h3 (by rw [hQi]; rfl)⟩
      simp (disch := omega) only [↓Lm1, L0, L1, L2, L3, L4, L5, L6, L7, L8, L9, L10, L11, L12, L13, L14, L15, L16, L17, L18, L19, L20, L27, L30, L31, L35, L36, L37, L38, L39, L40, L41, L46, L48, L51, L57, L59, L60, L82, L98, L99, L100, L102, L104, L107, L110, L119, L144, L240, L255, L256, L360, L999, L1000000, nI_val, n_lt_t, n_lt_f, n_le_t, n_le_f, n_eq_t, n_eq_f, k_le_f, m_lt_t, m_lt_f, m_le_t, m_le_f, m_eq_f, m_eq_f', nI_add, nI_mulE, nI_subE, if_true, if_false, ite_true, ite_false, or_false, false_or, or_true, true_or, or_self, and_true, true_and, and_false, false_and, not_true_eq_false, not_false_eq_true, Option.bind_some, Sum.elim_inl, Sum.elim_inr, xu_set, xset_same, xset_ne, xset_2, xset_set, upd_same, upd_ne, nbI_some, ne_eq, reduceCtorEq, reduceIte, Nat.reduceAdd, Nat.reduceMul, Nat.reduceSub, Nat.add_zero, Nat.zero_add, Nat.mul_zero, Nat.zero_mul, h52, eo']
    | true =>
      rw [c] at eo hQi
      have eo' : F_X7_isOpen (nI i) s' = some (nI 1) := eo
      cases c2 : opB u0 n0 j with
      | false =>
        rw [c2] at eo2 hQi
        have eo2' : F_X7_isOpen (nI j) s' = some (nI 0) := eo2
        left
        refine ⟨(nI (j + 1), s'), ?_, rfl, h2, fst_miss h3 (by rw [hQi]; rfl)⟩
        simp (disch := omega) only [↓Lm1, L0, L1, L2, L3, L4, L5, L6, L7, L8, L9, L10, L11, L12, L13, L14, L15, L16, L17, L18, L19, L20, L27, L30, L31, L35, L36, L37, L38, L39, L40, L41, L46, L48, L51, L57, L59, L60, L82, L98, L99, L100, L102, L104, L107, L110, L119, L144, L240, L255, L256, L360, L999, L1000000, nI_val, n_lt_t, n_lt_f, n_le_t, n_le_f, n_eq_t, n_eq_f, k_le_f, m_lt_t, m_lt_f, m_le_t, m_le_f, m_eq_f, m_eq_f', nI_add, nI_mulE, nI_subE, if_true, if_false, ite_true, ite_false, or_false, false_or, or_true, true_or, or_self, and_true, true_and, and_false, false_and, not_true_eq_false, not_false_eq_true, Option.bind_some, Sum.elim_inl, Sum.elim_inr, xu_set, xset_same, xset_ne, xset_2, xset_set, upd_same, upd_ne, nbI_some, ne_eq, reduceCtorEq, reduceIte, Nat.reduceAdd, Nat.reduceMul, Nat.reduceSub, Nat.add_zero, Nat.zero_add, Nat.mul_zero, Nat.zero_mul, h52, eo', eo2']
      | true =>
        rw [c2] at eo2 hQi
        have eo2' : F_X7_isOpen (nI j) s' = some (nI 1) := eo2
        cases z : stl u0 n0 u1 n1 l (some i) (some j) with
        | false =>
          rw [z] at et hQi
          have et' : F_X8_isStillWith (nI i) (nI j) s' = some (nI 0, t) := et
          left
          refine ⟨(nI (j + 1), t), ?_, rfl, h2.trans kt, fst_miss h3 (by rw [hQi]; rfl)⟩
          simp (disch := omega) only [↓Lm1, L0, L1, L2, L3, L4, L5, L6, L7, L8, L9, L10, L11, L12, L13, L14, L15, L16, L17, L18, L19, L20, L27, L30, L31, L35, L36, L37, L38, L39, L40, L41, L46, L48, L51, L57, L59, L60, L82, L98, L99, L100, L102, L104, L107, L110, L119, L144, L240, L255, L256, L360, L999, L1000000, nI_val, n_lt_t, n_lt_f, n_le_t, n_le_f, n_eq_t, n_eq_f, k_le_f, m_lt_t, m_lt_f, m_le_t, m_le_f, m_eq_f, m_eq_f', nI_add, nI_mulE, nI_subE, if_true, if_false, ite_true, ite_false, or_false, false_or, or_true, true_or, or_self, and_true, true_and, and_false, false_and, not_true_eq_false, not_false_eq_true, Option.bind_some, Sum.elim_inl, Sum.elim_inr, xu_set, xset_same, xset_ne, xset_2, xset_set, upd_same, upd_ne, nbI_some, ne_eq, reduceCtorEq, reduceIte, Nat.reduceAdd, Nat.reduceMul, Nat.reduceSub, Nat.add_zero, Nat.zero_add, Nat.mul_zero, Nat.zero_mul, h52, eo', eo2', et']
        | true =>
          rw [z] at et hQi
          have et' : F_X8_isStillWith (nI i) (nI j) s' = some (nI 1, t) := et
          right
          refine ⟨Sum.inl (nI j, t), ?_, Or.inl ⟨j, t, rfl, fst_hit h3 (by rw [hQi]; rfl) hjN, h2.trans kt⟩⟩
          simp (disch := omega) only [↓Lm1, L0, L1, L2, L3, L4, L5, L6, L7, L8, L9, L10, L11, L12, L13, L14, L15, L16, L17, L18, L19, L20, L27, L30, L31, L35, L36, L37, L38, L39, L40, L41, L46, L48, L51, L57, L59, L60, L82, L98, L99, L100, L102, L104, L107, L110, L119, L144, L240, L255, L256, L360, L999, L1000000, nI_val, n_lt_t, n_lt_f, n_le_t, n_le_f, n_eq_t, n_eq_f, k_le_f, m_lt_t, m_lt_f, m_le_t, m_le_f, m_eq_f, m_eq_f', nI_add, nI_mulE, nI_subE, if_true, if_false, ite_true, ite_false, or_false, false_or, or_true, true_or, or_self, and_true, true_and, and_false, false_and, not_true_eq_false, not_false_eq_true, Option.bind_some, Sum.elim_inl, Sum.elim_inr, xu_set, xset_same, xset_ne, xset_2, xset_set, upd_same, upd_ne, nbI_some, ne_eq, reduceCtorEq, reduceIte, Nat.reduceAdd, Nat.reduceMul, Nat.reduceSub, Nat.add_zero, Nat.zero_add, Nat.mul_zero, Nat.zero_mul, h52, eo', eo2', et']
  · intro a ⟨h1, h2, h3⟩
    obtain ⟨a1, s'⟩ := a
    dsimp only at h1 h2
    rw [show i + 1 + ((twn u0 n0).1 - (i + 1)) = (twn u0 n0).1 by omega] at h1 h3
    subst h1
    have h52 := (BF0_kp h h2).2.1.1.2.1
    refine ⟨Sum.inr s', ?_, Or.inr ⟨s', rfl, h3, h2⟩⟩
    unfold F_X8_isStillWithTwo_L17
    simp (disch := omega) only [↓Lm1, L0, L1, L2, L3, L4, L5, L6, L7, L8, L9, L10, L11, L12, L13, L14, L15, L16, L17, L18, L19, L20, L27, L30, L31, L35, L36, L37, L38, L39, L40, L41, L46, L48, L51, L57, L59, L60, L82, L98, L99, L100, L102, L104, L107, L110, L119, L144, L240, L255, L256, L360, L999, L1000000, nI_val, n_lt_t, n_lt_f, n_le_t, n_le_f, n_eq_t, n_eq_f, k_le_f, m_lt_t, m_lt_f, m_le_t, m_le_f, m_eq_f, m_eq_f', nI_add, nI_mulE, nI_subE, if_true, if_false, ite_true, ite_false, or_false, false_or, or_true, true_or, or_self, and_true, true_and, and_false, false_and, not_true_eq_false, not_false_eq_true, Option.bind_some, Sum.elim_inl, Sum.elim_inr, xu_set, xset_same, xset_ne, xset_2, xset_set, upd_same, upd_ne, nbI_some, ne_eq, reduceCtorEq, reduceIte, Nat.reduceAdd, Nat.reduceMul, Nat.reduceSub, Nat.add_zero, Nat.zero_add, Nat.mul_zero, Nat.zero_mul, h52]
theorem twoF (h : BF0 u0 n0 u1 n1 l s) : ∃ b, xlp F_X8_isStillWithTwo_L2 100000 (nI 0, s) = some b ∧ ((∃ i j t, b = Sum.inl (nI i, nI j, t) ∧ fst_ (fQ3 u0 n0 u1 n1 l) (twn u0 n0).1 = some i ∧ fst_ (fQ2 u0 n0 u1 n1 l i) (twn u0 n0).1 = some j ∧ Kp 27 40 s t) ∨ (∃ t, b = Sum.inr t ∧ fst_ (fQ3 u0 n0 u1 n1 l) (twn u0 n0).1 = none ∧ Kp 27 40 s t)) := by
  have hN := (twn_ok u0 n0).1.1
  obtain ⟨Q, hQ⟩ : ∃ Q : Nat → Bool, Q = fQ3 u0 n0 u1 n1 l := ⟨_, rfl⟩
  rw [← hQ]
  refine xlp_cnt (f := F_X8_isStillWithTwo_L2) (fun i a => a.1 = nI i ∧ Kp 27 40 s a.2 ∧ fst_ Q i = none) (fun b => (∃ i j t, b = Sum.inl (nI i, nI j, t) ∧ fst_ Q (twn u0 n0).1 = some i ∧ fst_ (fQ2 u0 n0 u1 n1 l i) (twn u0 n0).1 = some j ∧ Kp 27 40 s t) ∨ (∃ t, b = Sum.inr t ∧ fst_ Q (twn u0 n0).1 = none ∧ Kp 27 40 s t)) (twn u0 n0).1 (by omega) ?_ ?_ (a := (nI 0, s)) ⟨rfl, Kp.refl _ _ _, rfl⟩
  · intro i a hi ⟨h1, h2, h3⟩
    obtain ⟨a1, s'⟩ := a
    dsimp only at h1 h2
    subst h1
    have h' := BF0_kp h h2
    have h52 := h'.2.1.1.2.1
    have hQi : Q i = (fst_ (fQ2 u0 n0 u1 n1 l i) (twn u0 n0).1).isSome := by rw [hQ]; rfl
    obtain ⟨b, eb, q⟩ := twoF_in h' hi
    unfold F_X8_isStillWithTwo_L2
    rcases q with ⟨j, t, rfl, q1, q2⟩ | ⟨t, rfl, q1, q2⟩
    · right
      refine ⟨Sum.inl (nI i, nI j, t), ?_, Or.inl ⟨i, j, t, rfl, fst_hit h3 (by rw [hQi, q1]; rfl) hi, q1, h2.trans q2⟩⟩
      simp (disch := omega) only [↓Lm1, L0, L1, L2, L3, L4, L5, L6, L7, L8, L9, L10, L11, L12, L13, L14, L15, L16, L17, L18, L19, L20, L27, L30, L31, L35, L36, L37, L38, L39, L40, L41, L46, L48, L51, L57, L59, L60, L82, L98, L99, L100, L102, L104, L107, L110, L119, L144, L240, L255, L256, L360, L999, L1000000, nI_val, n_lt_t, n_lt_f, n_le_t, n_le_f, n_eq_t, n_eq_f, k_le_f, m_lt_t, m_lt_f, m_le_t, m_le_f, m_eq_f, m_eq_f', nI_add, nI_mulE, nI_subE, if_true, if_false, ite_true, ite_false, or_false, false_or, or_true, true_or, or_self, and_true, true_and, and_false, false_and, not_true_eq_false, not_false_eq_true, Option.bind_some, Sum.elim_inl, Sum.elim_inr, xu_set, xset_same, xset_ne, xset_2, xset_set, upd_same, upd_ne, nbI_some, ne_eq, reduceCtorEq, reduceIte, Nat.reduceAdd, Nat.reduceMul, Nat.reduceSub, Nat.add_zero, Nat.zero_add, Nat.mul_zero, Nat.zero_mul, h52, eb]
    · left
      refine ⟨(nI (i + 1), t), ?_, rfl, h2.trans q2, fst_miss h3 (by rw [hQi, q1]; rfl)⟩
      simp (disch := omega) only [↓Lm1, L0, L1, L2, L3, L4, L5, L6, L7, L8, L9, L10, L11, L12, L13, L14, L15, L16, L17, L18, L19, L20, L27, L30, L31, L35, L36, L37, L38, L39, L40, L41, L46, L48, L51, L57, L59, L60, L82, L98, L99, L100, L102, L104, L107, L110, L119, L144, L240, L255, L256, L360, L999, L1000000, nI_val, n_lt_t, n_lt_f, n_le_t, n_le_f, n_eq_t, n_eq_f, k_le_f, m_lt_t, m_lt_f, m_le_t, m_le_f, m_eq_f, m_eq_f', nI_add, nI_mulE, nI_subE, if_true, if_false, ite_true, ite_false, or_false, false_or, or_true, true_or, or_self, and_true, true_and, and_false, false_and, not_true_eq_false, not_false_eq_true, Option.bind_some, Sum.elim_inl, Sum.elim_inr, xu_set, xset_same, xset_ne, xset_2, xset_set, upd_same, upd_ne, nbI_some, ne_eq, reduceCtorEq, reduceIte, Nat.reduceAdd, Nat.reduceMul, Nat.reduceSub, Nat.add_zero, Nat.zero_add, Nat.mul_zero, Nat.zero_mul, h52, eb]
  · intro a ⟨h1, h2, h3⟩
    obtain ⟨a1, s'⟩ := a
    dsimp only at h1 h2
    subst h1
    have h52 := (BF0_kp h h2).2.1.1.2.1
    refine ⟨Sum.inr s', ?_, Or.inr ⟨s', rfl, h3, h2⟩⟩
    unfold F_X8_isStillWithTwo_L2
    simp (disch := omega) only [↓Lm1, L0, L1, L2, L3, L4, L5, L6, L7, L8, L9, L10, L11, L12, L13, L14, L15, L16, L17, L18, L19, L20, L27, L30, L31, L35, L36, L37, L38, L39, L40, L41, L46, L48, L51, L57, L59, L60, L82, L98, L99, L100, L102, L104, L107, L110, L119, L144, L240, L255, L256, L360, L999, L1000000, nI_val, n_lt_t, n_lt_f, n_le_t, n_le_f, n_eq_t, n_eq_f, k_le_f, m_lt_t, m_lt_f, m_le_t, m_le_f, m_eq_f, m_eq_f', nI_add, nI_mulE, nI_subE, if_true, if_false, ite_true, ite_false, or_false, false_or, or_true, true_or, or_self, and_true, true_and, and_false, false_and, not_true_eq_false, not_false_eq_true, Option.bind_some, Sum.elim_inl, Sum.elim_inr, xu_set, xset_same, xset_ne, xset_2, xset_set, upd_same, upd_ne, nbI_some, ne_eq, reduceCtorEq, reduceIte, Nat.reduceAdd, Nat.reduceMul, Nat.reduceSub, Nat.add_zero, Nat.zero_add, Nat.mul_zero, Nat.zero_mul, h52]
theorem fsp_0 (h : (ngt (twn u0 n0).1 (ls0 u0 n0) (ddat u1 n1) all_ l).1 = none) : fsp u0 n0 u1 n1 l = (some 0, none, none) := if_pos h
theorem fsp_1 {i : Nat} (h : ¬ (ngt (twn u0 n0).1 (ls0 u0 n0) (ddat u1 n1) all_ l).1 = none) (h1 : fst_ (fQ1 u0 n0 u1 n1 l) (twn u0 n0).1 = some i) : fsp u0 n0 u1 n1 l = (some 1, some i, none) := by
  have h1' : fst_ (fun a => decide ((twn u0 n0).2.2.2 a = 0) && stl u0 n0 u1 n1 l (some a) none) (twn u0 n0).1 = some i := h1
  unfold fsp
  rw [if_neg h, h1']
theorem fsp_2 {i j : Nat} (h : ¬ (ngt (twn u0 n0).1 (ls0 u0 n0) (ddat u1 n1) all_ l).1 = none) (h1 : fst_ (fQ1 u0 n0 u1 n1 l) (twn u0 n0).1 = none) (h2 : fst_ (fQ3 u0 n0 u1 n1 l) (twn u0 n0).1 = some i) (h3 : fst_ (fQ2 u0 n0 u1 n1 l i) (twn u0 n0).1 = some j) : fsp u0 n0 u1 n1 l = (some 2, some i, some j) := by
  have h1' : fst_ (fun a => decide ((twn u0 n0).2.2.2 a = 0) && stl u0 n0 u1 n1 l (some a) none) (twn u0 n0).1 = none := h1
  have h2' : fst_ (fun a => (fst_ (fun b => decide (a < b) && decide ((twn u0 n0).2.2.2 a = 0) && decide ((twn u0 n0).2.2.2 b = 0) && stl u0 n0 u1 n1 l (some a) (some b)) (twn u0 n0).1).isSome) (twn u0 n0).1 = some i := h2
  have h3' : fst_ (fun b => decide (i < b) && decide ((twn u0 n0).2.2.2 i = 0) && decide ((twn u0 n0).2.2.2 b = 0) && stl u0 n0 u1 n1 l (some i) (some b)) (twn u0 n0).1 = some j := h3
  unfold fsp
  rw [if_neg h, h1']
  dsimp only
  rw [h2']
  dsimp only
  rw [h3']
theorem fsp_3 (h : ¬ (ngt (twn u0 n0).1 (ls0 u0 n0) (ddat u1 n1) all_ l).1 = none) (h1 : fst_ (fQ1 u0 n0 u1 n1 l) (twn u0 n0).1 = none) (h2 : fst_ (fQ3 u0 n0 u1 n1 l) (twn u0 n0).1 = none) : fsp u0 n0 u1 n1 l = (none, none, none) := by
  have h1' : fst_ (fun a => decide ((twn u0 n0).2.2.2 a = 0) && stl u0 n0 u1 n1 l (some a) none) (twn u0 n0).1 = none := h1
  have h2' : fst_ (fun a => (fst_ (fun b => decide (a < b) && decide ((twn u0 n0).2.2.2 a = 0) && decide ((twn u0 n0).2.2.2 b = 0) && stl u0 n0 u1 n1 l (some a) (some b)) (twn u0 n0).1).isSome) (twn u0 n0).1 = none := h2
  unfold fsp
  rw [if_neg h, h1']
  dsimp only
  rw [h2']
/-- all but where felt is planned, and what is tried, is kept -/
def KG (s s' : xS) : Prop := (∀ q, q ≠ 0 → q ≠ 41 → q < 27 ∨ 40 < q → s'.1 q = s.1 q) ∧ (∀ k, k ≠ 14 → k ≠ 15 → s'.1 0 k = s.1 0 k) ∧ s'.2 22 = s.2 22
theorem IF_KG {s' : xS} (h : IF u0 n0 u1 n1 l e s) (k : KG s s') (hf : FeF u0 n0 u1 n1 l s') : IF u0 n0 u1 n1 l e s' := by
  obtain ⟨a1, a2, a3, a4⟩ := h
  refine ⟨BF0_K a1 (fun q _ _ => k.1 q (by omega) (by omega) (by omega)), BF1_K a2 (fun q _ _ => k.1 q (by omega) (by omega) (by omega)) k.2.2, hf, ?_⟩
  unfold EaF at a4 ⊢
  rw [k.1 16 (by omega) (by omega) (by omega), k.1 17 (by omega) (by omega) (by omega), k.1 18 (by omega) (by omega) (by omega)]
  exact a4
theorem KG.kf {s' : xS} (k : KG s s') : KF s s' := ⟨k.1 43 (by omega) (by omega) (by omega), k.1 44 (by omega) (by omega) (by omega), k.1 45 (by omega) (by omega) (by omega), k.2.1 17 (by omega) (by omega)⟩
theorem KG.refl (s : xS) : KG s s := ⟨fun _ _ _ _ => rfl, fun _ _ _ => rfl, rfl⟩
theorem KG.kp {s' s'' : xS} (h : KG s s') (k : Kp 27 40 s' s'') : KG s s'' := ⟨fun q a b c => by rw [(k q (by omega)).1]; exact h.1 q a b c, fun j a b => by rw [(k 0 (by omega)).1]; exact h.2.1 j a b, by rw [(k 22 (by omega)).2]; exact h.2.2⟩
theorem KG.s41 {s' : xS} (h : KG s s') (g : Nat → Int32) : KG s (xset s' 41 g) := ⟨fun q a b c => by rw [xset_ne _ _ b]; exact h.1 q a b c, fun j a b => by rw [xset_ne _ _ (by omega)]; exact h.2.1 j a b, h.2.2⟩
theorem KG.s0 {s' : xS} (h : KG s s') (k : Nat) (v : Int32) (hk : k = 14 ∨ k = 15) : KG s (xset s' 0 (upd (s'.1 0) k v)) := ⟨fun q a b c => by rw [xset_ne _ _ a]; exact h.1 q a b c, fun j a b => by rw [xset_same, upd_ne _ _ (by omega)]; exact h.2.1 j a b, h.2.2⟩
theorem planF (h : IF u0 n0 u1 n1 l e s) : ∃ s', F_X8_planFelt s = some s' ∧ KG s s' ∧ s'.1 0 15 = nI 1 ∧ s'.1 0 14 = nbI (fsp u0 n0 u1 n1 l).1 ∧ s'.1 41 0 = nbI (fsp u0 n0 u1 n1 l).2.1 ∧ s'.1 41 1 = nbI (fsp u0 n0 u1 n1 l).2.2 := by
  rcases h.2.2.1 with h15 | ⟨h15, h14, h0, h1⟩
  · obtain ⟨s1, hs1⟩ : ∃ s1, s1 = xset (xset s 0 (upd (s.1 0) 15 (nI 1))) 41 (upd (upd (s.1 41) 0 (nbI none)) 1 (nbI none)) := ⟨_, rfl⟩
    have kg1 : KG s s1 := by
      rw [hs1]
      exact ((KG.refl s).s0 15 (nI 1) (Or.inr rfl)).s41 _
    have e15 : s1.1 0 15 = nI 1 := by rw [hs1]; simp (disch := omega) only [↓Lm1, L0, L1, L2, L3, L4, L5, L6, L7, L8, L9, L10, L11, L12, L13, L14, L15, L16, L17, L18, L19, L20, L27, L30, L31, L35, L36, L37, L38, L39, L40, L41, L46, L48, L51, L57, L59, L60, L82, L98, L99, L100, L102, L104, L107, L110, L119, L144, L240, L255, L256, L360, L999, L1000000, nI_val, n_lt_t, n_lt_f, n_le_t, n_le_f, n_eq_t, n_eq_f, k_le_f, m_lt_t, m_lt_f, m_le_t, m_le_f, m_eq_f, m_eq_f', nI_add, nI_mulE, nI_subE, if_true, if_false, ite_true, ite_false, or_false, false_or, or_true, true_or, or_self, and_true, true_and, and_false, false_and, not_true_eq_false, not_false_eq_true, Option.bind_some, Sum.elim_inl, Sum.elim_inr, xu_set, xset_same, xset_ne, xset_2, xset_set, upd_same, upd_ne, nbI_some, ne_eq, reduceCtorEq, reduceIte, Nat.reduceAdd, Nat.reduceMul, Nat.reduceSub, Nat.add_zero, Nat.zero_add, Nat.mul_zero, Nat.zero_mul]
    have e410 : s1.1 41 0 = nbI none := by rw [hs1]; simp (disch := omega) only [↓Lm1, L0, L1, L2, L3, L4, L5, L6, L7, L8, L9, L10, L11, L12, L13, L14, L15, L16, L17, L18, L19, L20, L27, L30, L31, L35, L36, L37, L38, L39, L40, L41, L46, L48, L51, L57, L59, L60, L82, L98, L99, L100, L102, L104, L107, L110, L119, L144, L240, L255, L256, L360, L999, L1000000, nI_val, n_lt_t, n_lt_f, n_le_t, n_le_f, n_eq_t, n_eq_f, k_le_f, m_lt_t, m_lt_f, m_le_t, m_le_f, m_eq_f, m_eq_f', nI_add, nI_mulE, nI_subE, if_true, if_false, ite_true, ite_false, or_false, false_or, or_true, true_or, or_self, and_true, true_and, and_false, false_and, not_true_eq_false, not_false_eq_true, Option.bind_some, Sum.elim_inl, Sum.elim_inr, xu_set, xset_same, xset_ne, xset_2, xset_set, upd_same, upd_ne, nbI_some, ne_eq, reduceCtorEq, reduceIte, Nat.reduceAdd, Nat.reduceMul, Nat.reduceSub, Nat.add_zero, Nat.zero_add, Nat.mul_zero, Nat.zero_mul]
    have e411 : s1.1 41 1 = nbI none := by rw [hs1]; simp (disch := omega) only [↓Lm1, L0, L1, L2, L3, L4, L5, L6, L7, L8, L9, L10, L11, L12, L13, L14, L15, L16, L17, L18, L19, L20, L27, L30, L31, L35, L36, L37, L38, L39, L40, L41, L46, L48, L51, L57, L59, L60, L82, L98, L99, L100, L102, L104, L107, L110, L119, L144, L240, L255, L256, L360, L999, L1000000, nI_val, n_lt_t, n_lt_f, n_le_t, n_le_f, n_eq_t, n_eq_f, k_le_f, m_lt_t, m_lt_f, m_le_t, m_le_f, m_eq_f, m_eq_f', nI_add, nI_mulE, nI_subE, if_true, if_false, ite_true, ite_false, or_false, false_or, or_true, true_or, or_self, and_true, true_and, and_false, false_and, not_true_eq_false, not_false_eq_true, Option.bind_some, Sum.elim_inl, Sum.elim_inr, xu_set, xset_same, xset_ne, xset_2, xset_set, upd_same, upd_ne, nbI_some, ne_eq, reduceCtorEq, reduceIte, Nat.reduceAdd, Nat.reduceMul, Nat.reduceSub, Nat.add_zero, Nat.zero_add, Nat.mul_zero, Nat.zero_mul]
    have b1 : BF0 u0 n0 u1 n1 l s1 := BF0_K h.1 (fun q _ _ => kg1.1 q (by omega) (by omega) (by omega))
    have e22 : s.1 22 5 = nbI (ngt (twn u0 n0).1 (ls0 u0 n0) (ddat u1 n1) all_ l).1 := h.2.1.2.1
    have hl := h.1.2.2.2.1
    cases w : (ngt (twn u0 n0).1 (ls0 u0 n0) (ddat u1 n1) all_ l).1 with
    | none =>
      rw [w] at e22
      rw [fsp_0 w]
      refine ⟨xset s1 0 (upd (s1.1 0) 14 (nI 0)), ?_, kg1.s0 14 _ (Or.inl rfl), ?_, ?_, ?_, ?_⟩
      · unfold F_X8_planFelt
        rw [hs1]
        simp (disch := omega) only [↓Lm1, L0, L1, L2, L3, L4, L5, L6, L7, L8, L9, L10, L11, L12, L13, L14, L15, L16, L17, L18, L19, L20, L27, L30, L31, L35, L36, L37, L38, L39, L40, L41, L46, L48, L51, L57, L59, L60, L82, L98, L99, L100, L102, L104, L107, L110, L119, L144, L240, L255, L256, L360, L999, L1000000, nI_val, n_lt_t, n_lt_f, n_le_t, n_le_f, n_eq_t, n_eq_f, k_le_f, m_lt_t, m_lt_f, m_le_t, m_le_f, m_eq_f, m_eq_f', nI_add, nI_mulE, nI_subE, if_true, if_false, ite_true, ite_false, or_false, false_or, or_true, true_or, or_self, and_true, true_and, and_false, false_and, not_true_eq_false, not_false_eq_true, Option.bind_some, Sum.elim_inl, Sum.elim_inr, xu_set, xset_same, xset_ne, xset_2, xset_set, upd_same, upd_ne, nbI_some, ne_eq, reduceCtorEq, reduceIte, Nat.reduceAdd, Nat.reduceMul, Nat.reduceSub, Nat.add_zero, Nat.zero_add, Nat.mul_zero, Nat.zero_mul, h15, e22]
      · simp (disch := omega) only [↓Lm1, L0, L1, L2, L3, L4, L5, L6, L7, L8, L9, L10, L11, L12, L13, L14, L15, L16, L17, L18, L19, L20, L27, L30, L31, L35, L36, L37, L38, L39, L40, L41, L46, L48, L51, L57, L59, L60, L82, L98, L99, L100, L102, L104, L107, L110, L119, L144, L240, L255, L256, L360, L999, L1000000, nI_val, n_lt_t, n_lt_f, n_le_t, n_le_f, n_eq_t, n_eq_f, k_le_f, m_lt_t, m_lt_f, m_le_t, m_le_f, m_eq_f, m_eq_f', nI_add, nI_mulE, nI_subE, if_true, if_false, ite_true, ite_false, or_false, false_or, or_true, true_or, or_self, and_true, true_and, and_false, false_and, not_true_eq_false, not_false_eq_true, Option.bind_some, Sum.elim_inl, Sum.elim_inr, xu_set, xset_same, xset_ne, xset_2, xset_set, upd_same, upd_ne, nbI_some, ne_eq, reduceCtorEq, reduceIte, Nat.reduceAdd, Nat.reduceMul, Nat.reduceSub, Nat.add_zero, Nat.zero_add, Nat.mul_zero, Nat.zero_mul, e15]
      · simp (disch := omega) only [↓Lm1, L0, L1, L2, L3, L4, L5, L6, L7, L8, L9, L10, L11, L12, L13, L14, L15, L16, L17, L18, L19, L20, L27, L30, L31, L35, L36, L37, L38, L39, L40, L41, L46, L48, L51, L57, L59, L60, L82, L98, L99, L100, L102, L104, L107, L110, L119, L144, L240, L255, L256, L360, L999, L1000000, nI_val, n_lt_t, n_lt_f, n_le_t, n_le_f, n_eq_t, n_eq_f, k_le_f, m_lt_t, m_lt_f, m_le_t, m_le_f, m_eq_f, m_eq_f', nI_add, nI_mulE, nI_subE, if_true, if_false, ite_true, ite_false, or_false, false_or, or_true, true_or, or_self, and_true, true_and, and_false, false_and, not_true_eq_false, not_false_eq_true, Option.bind_some, Sum.elim_inl, Sum.elim_inr, xu_set, xset_same, xset_ne, xset_2, xset_set, upd_same, upd_ne, nbI_some, ne_eq, reduceCtorEq, reduceIte, Nat.reduceAdd, Nat.reduceMul, Nat.reduceSub, Nat.add_zero, Nat.zero_add, Nat.mul_zero, Nat.zero_mul]
      · simp (disch := omega) only [↓Lm1, L0, L1, L2, L3, L4, L5, L6, L7, L8, L9, L10, L11, L12, L13, L14, L15, L16, L17, L18, L19, L20, L27, L30, L31, L35, L36, L37, L38, L39, L40, L41, L46, L48, L51, L57, L59, L60, L82, L98, L99, L100, L102, L104, L107, L110, L119, L144, L240, L255, L256, L360, L999, L1000000, nI_val, n_lt_t, n_lt_f, n_le_t, n_le_f, n_eq_t, n_eq_f, k_le_f, m_lt_t, m_lt_f, m_le_t, m_le_f, m_eq_f, m_eq_f', nI_add, nI_mulE, nI_subE, if_true, if_false, ite_true, ite_false, or_false, false_or, or_true, true_or, or_self, and_true, true_and, and_false, false_and, not_true_eq_false, not_false_eq_true, Option.bind_some, Sum.elim_inl, Sum.elim_inr, xu_set, xset_same, xset_ne, xset_2, xset_set, upd_same, upd_ne, nbI_some, ne_eq, reduceCtorEq, reduceIte, Nat.reduceAdd, Nat.reduceMul, Nat.reduceSub, Nat.add_zero, Nat.zero_add, Nat.mul_zero, Nat.zero_mul, e410]
      · simp (disch := omega) only [↓Lm1, L0, L1, L2, L3, L4, L5, L6, L7, L8, L9, L10, L11, L12, L13, L14, L15, L16, L17, L18, L19, L20, L27, L30, L31, L35, L36, L37, L38, L39, L40, L41, L46, L48, L51, L57, L59, L60, L82, L98, L99, L100, L102, L104, L107, L110, L119, L144, L240, L255, L256, L360, L999, L1000000, nI_val, n_lt_t, n_lt_f, n_le_t, n_le_f, n_eq_t, n_eq_f, k_le_f, m_lt_t, m_lt_f, m_le_t, m_le_f, m_eq_f, m_eq_f', nI_add, nI_mulE, nI_subE, if_true, if_false, ite_true, ite_false, or_false, false_or, or_true, true_or, or_self, and_true, true_and, and_false, false_and, not_true_eq_false, not_false_eq_true, Option.bind_some, Sum.elim_inl, Sum.elim_inr, xu_set, xset_same, xset_ne, xset_2, xset_set, upd_same, upd_ne, nbI_some, ne_eq, reduceCtorEq, reduceIte, Nat.reduceAdd, Nat.reduceMul, Nat.reduceSub, Nat.add_zero, Nat.zero_add, Nat.mul_zero, Nat.zero_mul, e411]
    | some x =>
      have hx := ngt_wk hl w
      rw [w] at e22
      have hne : ¬ (ngt (twn u0 n0).1 (ls0 u0 n0) (ddat u1 n1) all_ l).1 = none := by rw [w]; exact fun q => by cases q
      obtain ⟨b, eb, q⟩ := oneF b1
      unfold F_X8_planFelt F_X8_isStillWithOne
      have eb' : xlp F_X8_isStillWithOne_L2 100000 (nI 0, xset (xset s 0 (upd (s.1 0) 15 (nI 1))) 41 (upd (upd (s.1 41) 0 (nbI none)) 1 (nbI none))) = some b := by rw [← hs1]; exact eb
      rcases q with ⟨i, t, rfl, q1, q2⟩ | ⟨t, rfl, q1, q2⟩
      · have kt := kg1.kp q2
        have t15 : t.1 0 15 = nI 1 := by rw [(q2 0 (by omega)).1]; exact e15
        have t41 : t.1 41 1 = nbI none := by rw [(q2 41 (by omega)).1]; exact e411
        rw [fsp_1 hne q1]
        refine ⟨xset (xset t 41 (upd (t.1 41) 0 (nI i))) 0 (upd (t.1 0) 14 (nI 1)), ?_, ?_, ?_, ?_, ?_, ?_⟩
        · simp (disch := omega) only [↓Lm1, L0, L1, L2, L3, L4, L5, L6, L7, L8, L9, L10, L11, L12, L13, L14, L15, L16, L17, L18, L19, L20, L27, L30, L31, L35, L36, L37, L38, L39, L40, L41, L46, L48, L51, L57, L59, L60, L82, L98, L99, L100, L102, L104, L107, L110, L119, L144, L240, L255, L256, L360, L999, L1000000, nI_val, n_lt_t, n_lt_f, n_le_t, n_le_f, n_eq_t, n_eq_f, k_le_f, m_lt_t, m_lt_f, m_le_t, m_le_f, m_eq_f, m_eq_f', nI_add, nI_mulE, nI_subE, if_true, if_false, ite_true, ite_false, or_false, false_or, or_true, true_or, or_self, and_true, true_and, and_false, false_and, not_true_eq_false, not_false_eq_true, Option.bind_some, Sum.elim_inl, Sum.elim_inr, xu_set, xset_same, xset_ne, xset_2, xset_set, upd_same, upd_ne, nbI_some, ne_eq, reduceCtorEq, reduceIte, Nat.reduceAdd, Nat.reduceMul, Nat.reduceSub, Nat.add_zero, Nat.zero_add, Nat.mul_zero, Nat.zero_mul, h15, e22, eb']
        · have := (kt.s41 (upd (t.1 41) 0 (nI i))).s0 14 (nI 1) (Or.inl rfl)
          rw [xset_ne _ _ (show 0 ≠ 41 by omega)] at this
          exact this
        · simp (disch := omega) only [↓Lm1, L0, L1, L2, L3, L4, L5, L6, L7, L8, L9, L10, L11, L12, L13, L14, L15, L16, L17, L18, L19, L20, L27, L30, L31, L35, L36, L37, L38, L39, L40, L41, L46, L48, L51, L57, L59, L60, L82, L98, L99, L100, L102, L104, L107, L110, L119, L144, L240, L255, L256, L360, L999, L1000000, nI_val, n_lt_t, n_lt_f, n_le_t, n_le_f, n_eq_t, n_eq_f, k_le_f, m_lt_t, m_lt_f, m_le_t, m_le_f, m_eq_f, m_eq_f', nI_add, nI_mulE, nI_subE, if_true, if_false, ite_true, ite_false, or_false, false_or, or_true, true_or, or_self, and_true, true_and, and_false, false_and, not_true_eq_false, not_false_eq_true, Option.bind_some, Sum.elim_inl, Sum.elim_inr, xu_set, xset_same, xset_ne, xset_2, xset_set, upd_same, upd_ne, nbI_some, ne_eq, reduceCtorEq, reduceIte, Nat.reduceAdd, Nat.reduceMul, Nat.reduceSub, Nat.add_zero, Nat.zero_add, Nat.mul_zero, Nat.zero_mul, t15]
        · simp (disch := omega) only [↓Lm1, L0, L1, L2, L3, L4, L5, L6, L7, L8, L9, L10, L11, L12, L13, L14, L15, L16, L17, L18, L19, L20, L27, L30, L31, L35, L36, L37, L38, L39, L40, L41, L46, L48, L51, L57, L59, L60, L82, L98, L99, L100, L102, L104, L107, L110, L119, L144, L240, L255, L256, L360, L999, L1000000, nI_val, n_lt_t, n_lt_f, n_le_t, n_le_f, n_eq_t, n_eq_f, k_le_f, m_lt_t, m_lt_f, m_le_t, m_le_f, m_eq_f, m_eq_f', nI_add, nI_mulE, nI_subE, if_true, if_false, ite_true, ite_false, or_false, false_or, or_true, true_or, or_self, and_true, true_and, and_false, false_and, not_true_eq_false, not_false_eq_true, Option.bind_some, Sum.elim_inl, Sum.elim_inr, xu_set, xset_same, xset_ne, xset_2, xset_set, upd_same, upd_ne, nbI_some, ne_eq, reduceCtorEq, reduceIte, Nat.reduceAdd, Nat.reduceMul, Nat.reduceSub, Nat.add_zero, Nat.zero_add, Nat.mul_zero, Nat.zero_mul]
        · simp (disch := omega) only [↓Lm1, L0, L1, L2, L3, L4, L5, L6, L7, L8, L9, L10, L11, L12, L13, L14, L15, L16, L17, L18, L19, L20, L27, L30, L31, L35, L36, L37, L38, L39, L40, L41, L46, L48, L51, L57, L59, L60, L82, L98, L99, L100, L102, L104, L107, L110, L119, L144, L240, L255, L256, L360, L999, L1000000, nI_val, n_lt_t, n_lt_f, n_le_t, n_le_f, n_eq_t, n_eq_f, k_le_f, m_lt_t, m_lt_f, m_le_t, m_le_f, m_eq_f, m_eq_f', nI_add, nI_mulE, nI_subE, if_true, if_false, ite_true, ite_false, or_false, false_or, or_true, true_or, or_self, and_true, true_and, and_false, false_and, not_true_eq_false, not_false_eq_true, Option.bind_some, Sum.elim_inl, Sum.elim_inr, xu_set, xset_same, xset_ne, xset_2, xset_set, upd_same, upd_ne, nbI_some, ne_eq, reduceCtorEq, reduceIte, Nat.reduceAdd, Nat.reduceMul, Nat.reduceSub, Nat.add_zero, Nat.zero_add, Nat.mul_zero, Nat.zero_mul]
        · simp (disch := omega) only [↓Lm1, L0, L1, L2, L3, L4, L5, L6, L7, L8, L9, L10, L11, L12, L13, L14, L15, L16, L17, L18, L19, L20, L27, L30, L31, L35, L36, L37, L38, L39, L40, L41, L46, L48, L51, L57, L59, L60, L82, L98, L99, L100, L102, L104, L107, L110, L119, L144, L240, L255, L256, L360, L999, L1000000, nI_val, n_lt_t, n_lt_f, n_le_t, n_le_f, n_eq_t, n_eq_f, k_le_f, m_lt_t, m_lt_f, m_le_t, m_le_f, m_eq_f, m_eq_f', nI_add, nI_mulE, nI_subE, if_true, if_false, ite_true, ite_false, or_false, false_or, or_true, true_or, or_self, and_true, true_and, and_false, false_and, not_true_eq_false, not_false_eq_true, Option.bind_some, Sum.elim_inl, Sum.elim_inr, xu_set, xset_same, xset_ne, xset_2, xset_set, upd_same, upd_ne, nbI_some, ne_eq, reduceCtorEq, reduceIte, Nat.reduceAdd, Nat.reduceMul, Nat.reduceSub, Nat.add_zero, Nat.zero_add, Nat.mul_zero, Nat.zero_mul, t41]
      · have bt := BF0_kp b1 q2
        have kt := kg1.kp q2
        have t15 : t.1 0 15 = nI 1 := by rw [(q2 0 (by omega)).1]; exact e15
        have t410 : t.1 41 0 = nbI none := by rw [(q2 41 (by omega)).1]; exact e410
        have t411 : t.1 41 1 = nbI none := by rw [(q2 41 (by omega)).1]; exact e411
        obtain ⟨b2, eb2, q⟩ := twoF bt
        unfold F_X8_isStillWithTwo
        rcases q with ⟨i, j, t', rfl, r1, r2, r3⟩ | ⟨t', rfl, r1, r3⟩
        · have kt' := kt.kp r3
          have w15 : t'.1 0 15 = nI 1 := by rw [(r3 0 (by omega)).1]; exact t15
          rw [fsp_2 hne q1 r1 r2]
          refine ⟨xset (xset t' 41 (upd (upd (t'.1 41) 0 (nI i)) 1 (nI j))) 0 (upd (t'.1 0) 14 (nI 2)), ?_, ?_, ?_, ?_, ?_, ?_⟩
          · simp (disch := omega) only [↓Lm1, L0, L1, L2, L3, L4, L5, L6, L7, L8, L9, L10, L11, L12, L13, L14, L15, L16, L17, L18, L19, L20, L27, L30, L31, L35, L36, L37, L38, L39, L40, L41, L46, L48, L51, L57, L59, L60, L82, L98, L99, L100, L102, L104, L107, L110, L119, L144, L240, L255, L256, L360, L999, L1000000, nI_val, n_lt_t, n_lt_f, n_le_t, n_le_f, n_eq_t, n_eq_f, k_le_f, m_lt_t, m_lt_f, m_le_t, m_le_f, m_eq_f, m_eq_f', nI_add, nI_mulE, nI_subE, if_true, if_false, ite_true, ite_false, or_false, false_or, or_true, true_or, or_self, and_true, true_and, and_false, false_and, not_true_eq_false, not_false_eq_true, Option.bind_some, Sum.elim_inl, Sum.elim_inr, xu_set, xset_same, xset_ne, xset_2, xset_set, upd_same, upd_ne, nbI_some, ne_eq, reduceCtorEq, reduceIte, Nat.reduceAdd, Nat.reduceMul, Nat.reduceSub, Nat.add_zero, Nat.zero_add, Nat.mul_zero, Nat.zero_mul, h15, e22, eb', eb2]
          · have := (kt'.s41 (upd (upd (t'.1 41) 0 (nI i)) 1 (nI j))).s0 14 (nI 2) (Or.inl rfl)
            rw [xset_ne _ _ (show 0 ≠ 41 by omega)] at this
            exact this
          · simp (disch := omega) only [↓Lm1, L0, L1, L2, L3, L4, L5, L6, L7, L8, L9, L10, L11, L12, L13, L14, L15, L16, L17, L18, L19, L20, L27, L30, L31, L35, L36, L37, L38, L39, L40, L41, L46, L48, L51, L57, L59, L60, L82, L98, L99, L100, L102, L104, L107, L110, L119, L144, L240, L255, L256, L360, L999, L1000000, nI_val, n_lt_t, n_lt_f, n_le_t, n_le_f, n_eq_t, n_eq_f, k_le_f, m_lt_t, m_lt_f, m_le_t, m_le_f, m_eq_f, m_eq_f', nI_add, nI_mulE, nI_subE, if_true, if_false, ite_true, ite_false, or_false, false_or, or_true, true_or, or_self, and_true, true_and, and_false, false_and, not_true_eq_false, not_false_eq_true, Option.bind_some, Sum.elim_inl, Sum.elim_inr, xu_set, xset_same, xset_ne, xset_2, xset_set, upd_same, upd_ne, nbI_some, ne_eq, reduceCtorEq, reduceIte, Nat.reduceAdd, Nat.reduceMul, Nat.reduceSub, Nat.add_zero, Nat.zero_add, Nat.mul_zero, Nat.zero_mul, w15]
          · simp (disch := omega) only [↓Lm1, L0, L1, L2, L3, L4, L5, L6, L7, L8, L9, L10, L11, L12, L13, L14, L15, L16, L17, L18, L19, L20, L27, L30, L31, L35, L36, L37, L38, L39, L40, L41, L46, L48, L51, L57, L59, L60, L82, L98, L99, L100, L102, L104, L107, L110, L119, L144, L240, L255, L256, L360, L999, L1000000, nI_val, n_lt_t, n_lt_f, n_le_t, n_le_f, n_eq_t, n_eq_f, k_le_f, m_lt_t, m_lt_f, m_le_t, m_le_f, m_eq_f, m_eq_f', nI_add, nI_mulE, nI_subE, if_true, if_false, ite_true, ite_false, or_false, false_or, or_true, true_or, or_self, and_true, true_and, and_false, false_and, not_true_eq_false, not_false_eq_true, Option.bind_some, Sum.elim_inl, Sum.elim_inr, xu_set, xset_same, xset_ne, xset_2, xset_set, upd_same, upd_ne, nbI_some, ne_eq, reduceCtorEq, reduceIte, Nat.reduceAdd, Nat.reduceMul, Nat.reduceSub, Nat.add_zero, Nat.zero_add, Nat.mul_zero, Nat.zero_mul]
          · simp (disch := omega) only [↓Lm1, L0, L1, L2, L3, L4, L5, L6, L7, L8, L9, L10, L11, L12, L13, L14, L15, L16, L17, L18, L19, L20, L27, L30, L31, L35, L36, L37, L38, L39, L40, L41, L46, L48, L51, L57, L59, L60, L82, L98, L99, L100, L102, L104, L107, L110, L119, L144, L240, L255, L256, L360, L999, L1000000, nI_val, n_lt_t, n_lt_f, n_le_t, n_le_f, n_eq_t, n_eq_f, k_le_f, m_lt_t, m_lt_f, m_le_t, m_le_f, m_eq_f, m_eq_f', nI_add, nI_mulE, nI_subE, if_true, if_false, ite_true, ite_false, or_false, false_or, or_true, true_or, or_self, and_true, true_and, and_false, false_and, not_true_eq_false, not_false_eq_true, Option.bind_some, Sum.elim_inl, Sum.elim_inr, xu_set, xset_same, xset_ne, xset_2, xset_set, upd_same, upd_ne, nbI_some, ne_eq, reduceCtorEq, reduceIte, Nat.reduceAdd, Nat.reduceMul, Nat.reduceSub, Nat.add_zero, Nat.zero_add, Nat.mul_zero, Nat.zero_mul]
          · simp (disch := omega) only [↓Lm1, L0, L1, L2, L3, L4, L5, L6, L7, L8, L9, L10, L11, L12, L13, L14, L15, L16, L17, L18, L19, L20, L27, L30, L31, L35, L36, L37, L38, L39, L40, L41, L46, L48, L51, L57, L59, L60, L82, L98, L99, L100, L102, L104, L107, L110, L119, L144, L240, L255, L256, L360, L999, L1000000, nI_val, n_lt_t, n_lt_f, n_le_t, n_le_f, n_eq_t, n_eq_f, k_le_f, m_lt_t, m_lt_f, m_le_t, m_le_f, m_eq_f, m_eq_f', nI_add, nI_mulE, nI_subE, if_true, if_false, ite_true, ite_false, or_false, false_or, or_true, true_or, or_self, and_true, true_and, and_false, false_and, not_true_eq_false, not_false_eq_true, Option.bind_some, Sum.elim_inl, Sum.elim_inr, xu_set, xset_same, xset_ne, xset_2, xset_set, upd_same, upd_ne, nbI_some, ne_eq, reduceCtorEq, reduceIte, Nat.reduceAdd, Nat.reduceMul, Nat.reduceSub, Nat.add_zero, Nat.zero_add, Nat.mul_zero, Nat.zero_mul]
        · have kt' := kt.kp r3
          have w15 : t'.1 0 15 = nI 1 := by rw [(r3 0 (by omega)).1]; exact t15
          have w410 : t'.1 41 0 = nbI none := by rw [(r3 41 (by omega)).1]; exact t410
          have w411 : t'.1 41 1 = nbI none := by rw [(r3 41 (by omega)).1]; exact t411
          rw [fsp_3 hne q1 r1]
          refine ⟨xset t' 0 (upd (t'.1 0) 14 (nbI none)), ?_, kt'.s0 14 _ (Or.inl rfl), ?_, ?_, ?_, ?_⟩
          · simp (disch := omega) only [↓Lm1, L0, L1, L2, L3, L4, L5, L6, L7, L8, L9, L10, L11, L12, L13, L14, L15, L16, L17, L18, L19, L20, L27, L30, L31, L35, L36, L37, L38, L39, L40, L41, L46, L48, L51, L57, L59, L60, L82, L98, L99, L100, L102, L104, L107, L110, L119, L144, L240, L255, L256, L360, L999, L1000000, nI_val, n_lt_t, n_lt_f, n_le_t, n_le_f, n_eq_t, n_eq_f, k_le_f, m_lt_t, m_lt_f, m_le_t, m_le_f, m_eq_f, m_eq_f', nI_add, nI_mulE, nI_subE, if_true, if_false, ite_true, ite_false, or_false, false_or, or_true, true_or, or_self, and_true, true_and, and_false, false_and, not_true_eq_false, not_false_eq_true, Option.bind_some, Sum.elim_inl, Sum.elim_inr, xu_set, xset_same, xset_ne, xset_2, xset_set, upd_same, upd_ne, nbI_some, ne_eq, reduceCtorEq, reduceIte, Nat.reduceAdd, Nat.reduceMul, Nat.reduceSub, Nat.add_zero, Nat.zero_add, Nat.mul_zero, Nat.zero_mul, h15, e22, eb', eb2]
          · simp (disch := omega) only [↓Lm1, L0, L1, L2, L3, L4, L5, L6, L7, L8, L9, L10, L11, L12, L13, L14, L15, L16, L17, L18, L19, L20, L27, L30, L31, L35, L36, L37, L38, L39, L40, L41, L46, L48, L51, L57, L59, L60, L82, L98, L99, L100, L102, L104, L107, L110, L119, L144, L240, L255, L256, L360, L999, L1000000, nI_val, n_lt_t, n_lt_f, n_le_t, n_le_f, n_eq_t, n_eq_f, k_le_f, m_lt_t, m_lt_f, m_le_t, m_le_f, m_eq_f, m_eq_f', nI_add, nI_mulE, nI_subE, if_true, if_false, ite_true, ite_false, or_false, false_or, or_true, true_or, or_self, and_true, true_and, and_false, false_and, not_true_eq_false, not_false_eq_true, Option.bind_some, Sum.elim_inl, Sum.elim_inr, xu_set, xset_same, xset_ne, xset_2, xset_set, upd_same, upd_ne, nbI_some, ne_eq, reduceCtorEq, reduceIte, Nat.reduceAdd, Nat.reduceMul, Nat.reduceSub, Nat.add_zero, Nat.zero_add, Nat.mul_zero, Nat.zero_mul, w15]
          · simp (disch := omega) only [↓Lm1, L0, L1, L2, L3, L4, L5, L6, L7, L8, L9, L10, L11, L12, L13, L14, L15, L16, L17, L18, L19, L20, L27, L30, L31, L35, L36, L37, L38, L39, L40, L41, L46, L48, L51, L57, L59, L60, L82, L98, L99, L100, L102, L104, L107, L110, L119, L144, L240, L255, L256, L360, L999, L1000000, nI_val, n_lt_t, n_lt_f, n_le_t, n_le_f, n_eq_t, n_eq_f, k_le_f, m_lt_t, m_lt_f, m_le_t, m_le_f, m_eq_f, m_eq_f', nI_add, nI_mulE, nI_subE, if_true, if_false, ite_true, ite_false, or_false, false_or, or_true, true_or, or_self, and_true, true_and, and_false, false_and, not_true_eq_false, not_false_eq_true, Option.bind_some, Sum.elim_inl, Sum.elim_inr, xu_set, xset_same, xset_ne, xset_2, xset_set, upd_same, upd_ne, nbI_some, ne_eq, reduceCtorEq, reduceIte, Nat.reduceAdd, Nat.reduceMul, Nat.reduceSub, Nat.add_zero, Nat.zero_add, Nat.mul_zero, Nat.zero_mul]
          · simp (disch := omega) only [↓Lm1, L0, L1, L2, L3, L4, L5, L6, L7, L8, L9, L10, L11, L12, L13, L14, L15, L16, L17, L18, L19, L20, L27, L30, L31, L35, L36, L37, L38, L39, L40, L41, L46, L48, L51, L57, L59, L60, L82, L98, L99, L100, L102, L104, L107, L110, L119, L144, L240, L255, L256, L360, L999, L1000000, nI_val, n_lt_t, n_lt_f, n_le_t, n_le_f, n_eq_t, n_eq_f, k_le_f, m_lt_t, m_lt_f, m_le_t, m_le_f, m_eq_f, m_eq_f', nI_add, nI_mulE, nI_subE, if_true, if_false, ite_true, ite_false, or_false, false_or, or_true, true_or, or_self, and_true, true_and, and_false, false_and, not_true_eq_false, not_false_eq_true, Option.bind_some, Sum.elim_inl, Sum.elim_inr, xu_set, xset_same, xset_ne, xset_2, xset_set, upd_same, upd_ne, nbI_some, ne_eq, reduceCtorEq, reduceIte, Nat.reduceAdd, Nat.reduceMul, Nat.reduceSub, Nat.add_zero, Nat.zero_add, Nat.mul_zero, Nat.zero_mul, w410]
          · simp (disch := omega) only [↓Lm1, L0, L1, L2, L3, L4, L5, L6, L7, L8, L9, L10, L11, L12, L13, L14, L15, L16, L17, L18, L19, L20, L27, L30, L31, L35, L36, L37, L38, L39, L40, L41, L46, L48, L51, L57, L59, L60, L82, L98, L99, L100, L102, L104, L107, L110, L119, L144, L240, L255, L256, L360, L999, L1000000, nI_val, n_lt_t, n_lt_f, n_le_t, n_le_f, n_eq_t, n_eq_f, k_le_f, m_lt_t, m_lt_f, m_le_t, m_le_f, m_eq_f, m_eq_f', nI_add, nI_mulE, nI_subE, if_true, if_false, ite_true, ite_false, or_false, false_or, or_true, true_or, or_self, and_true, true_and, and_false, false_and, not_true_eq_false, not_false_eq_true, Option.bind_some, Sum.elim_inl, Sum.elim_inr, xu_set, xset_same, xset_ne, xset_2, xset_set, upd_same, upd_ne, nbI_some, ne_eq, reduceCtorEq, reduceIte, Nat.reduceAdd, Nat.reduceMul, Nat.reduceSub, Nat.add_zero, Nat.zero_add, Nat.mul_zero, Nat.zero_mul, w411]
  · refine ⟨s, ?_, KG.refl s, h15, h14, h0, h1⟩
    unfold F_X8_planFelt
    simp (disch := omega) only [↓Lm1, L0, L1, L2, L3, L4, L5, L6, L7, L8, L9, L10, L11, L12, L13, L14, L15, L16, L17, L18, L19, L20, L27, L30, L31, L35, L36, L37, L38, L39, L40, L41, L46, L48, L51, L57, L59, L60, L82, L98, L99, L100, L102, L104, L107, L110, L119, L144, L240, L255, L256, L360, L999, L1000000, nI_val, n_lt_t, n_lt_f, n_le_t, n_le_f, n_eq_t, n_eq_f, k_le_f, m_lt_t, m_lt_f, m_le_t, m_le_f, m_eq_f, m_eq_f', nI_add, nI_mulE, nI_subE, if_true, if_false, ite_true, ite_false, or_false, false_or, or_true, true_or, or_self, and_true, true_and, and_false, false_and, not_true_eq_false, not_false_eq_true, Option.bind_some, Sum.elim_inl, Sum.elim_inr, xu_set, xset_same, xset_ne, xset_2, xset_set, upd_same, upd_ne, nbI_some, ne_eq, reduceCtorEq, reduceIte, Nat.reduceAdd, Nat.reduceMul, Nat.reduceSub, Nat.add_zero, Nat.zero_add, Nat.mul_zero, Nat.zero_mul, h15]
noncomputable def fev (u0 : Nat → Nat) (n0 : Nat) (u1 : Nat → Nat) (n1 : Nat) (l : LD) (i : Option Nat) : Int32 := match i with
  | none => nbI (fsp u0 n0 u1 n1 l).1
  | some i => if i = 0 then nbI (fsp u0 n0 u1 n1 l).2.1 else nbI (fsp u0 n0 u1 n1 l).2.2
theorem q_felt {i : Option Nat} (h : IF u0 n0 u1 n1 l e s) (hi : ∀ x, i = some x → x < 2) : ∃ s', F_X8_felt (nbI i) s = some (fev u0 n0 u1 n1 l i, s') ∧ IF u0 n0 u1 n1 l e s' ∧ KF s s' := by
  obtain ⟨s', e', kg, f15, f14, f0, f1⟩ := planF h
  refine ⟨s', ?_, IF_KG h kg (Or.inr ⟨f15, f14, f0, f1⟩), kg.kf⟩
  unfold F_X8_felt fev
  cases i with
  | none =>
    have q0 : (nbI none < nbI none) = False := eq_false (by decide)
    have q1 : (nbI none ≤ nI 1) = True := eq_true (by decide)
    simp (disch := omega) only [↓Lm1, L0, L1, L2, L3, L4, L5, L6, L7, L8, L9, L10, L11, L12, L13, L14, L15, L16, L17, L18, L19, L20, L27, L30, L31, L35, L36, L37, L38, L39, L40, L41, L46, L48, L51, L57, L59, L60, L82, L98, L99, L100, L102, L104, L107, L110, L119, L144, L240, L255, L256, L360, L999, L1000000, nI_val, n_lt_t, n_lt_f, n_le_t, n_le_f, n_eq_t, n_eq_f, k_le_f, m_lt_t, m_lt_f, m_le_t, m_le_f, m_eq_f, m_eq_f', nI_add, nI_mulE, nI_subE, if_true, if_false, ite_true, ite_false, or_false, false_or, or_true, true_or, or_self, and_true, true_and, and_false, false_and, not_true_eq_false, not_false_eq_true, Option.bind_some, Sum.elim_inl, Sum.elim_inr, xu_set, xset_same, xset_ne, xset_2, xset_set, upd_same, upd_ne, nbI_some, ne_eq, reduceCtorEq, reduceIte, Nat.reduceAdd, Nat.reduceMul, Nat.reduceSub, Nat.add_zero, Nat.zero_add, Nat.mul_zero, Nat.zero_mul, q0, q1, e', f14]
  | some i =>
    rw [nbI_some]
    rcases two_cases (hi i rfl) with rfl | rfl
    · simp (disch := omega) only [↓Lm1, L0, L1, L2, L3, L4, L5, L6, L7, L8, L9, L10, L11, L12, L13, L14, L15, L16, L17, L18, L19, L20, L27, L30, L31, L35, L36, L37, L38, L39, L40, L41, L46, L48, L51, L57, L59, L60, L82, L98, L99, L100, L102, L104, L107, L110, L119, L144, L240, L255, L256, L360, L999, L1000000, nI_val, n_lt_t, n_lt_f, n_le_t, n_le_f, n_eq_t, n_eq_f, k_le_f, m_lt_t, m_lt_f, m_le_t, m_le_f, m_eq_f, m_eq_f', nI_add, nI_mulE, nI_subE, if_true, if_false, ite_true, ite_false, or_false, false_or, or_true, true_or, or_self, and_true, true_and, and_false, false_and, not_true_eq_false, not_false_eq_true, Option.bind_some, Sum.elim_inl, Sum.elim_inr, xu_set, xset_same, xset_ne, xset_2, xset_set, upd_same, upd_ne, nbI_some, ne_eq, reduceCtorEq, reduceIte, Nat.reduceAdd, Nat.reduceMul, Nat.reduceSub, Nat.add_zero, Nat.zero_add, Nat.mul_zero, Nat.zero_mul, e', f0]
    · simp (disch := omega) only [↓Lm1, L0, L1, L2, L3, L4, L5, L6, L7, L8, L9, L10, L11, L12, L13, L14, L15, L16, L17, L18, L19, L20, L27, L30, L31, L35, L36, L37, L38, L39, L40, L41, L46, L48, L51, L57, L59, L60, L82, L98, L99, L100, L102, L104, L107, L110, L119, L144, L240, L255, L256, L360, L999, L1000000, nI_val, n_lt_t, n_lt_f, n_le_t, n_le_f, n_eq_t, n_eq_f, k_le_f, m_lt_t, m_lt_f, m_le_t, m_le_f, m_eq_f, m_eq_f', nI_add, nI_mulE, nI_subE, if_true, if_false, ite_true, ite_false, or_false, false_or, or_true, true_or, or_self, and_true, true_and, and_false, false_and, not_true_eq_false, not_false_eq_true, Option.bind_some, Sum.elim_inl, Sum.elim_inr, xu_set, xset_same, xset_ne, xset_2, xset_set, upd_same, upd_ne, nbI_some, ne_eq, reduceCtorEq, reduceIte, Nat.reduceAdd, Nat.reduceMul, Nat.reduceSub, Nat.add_zero, Nat.zero_add, Nat.mul_zero, Nat.zero_mul, e', f1]
end SPEC
