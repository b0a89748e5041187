/-! ===== lay ===== -/
def bmx (P : Nat → Bool) (L : Nat → Nat) : Nat → Option Nat
  | 0 => none
  | n + 1 => if P n = true then (match bmx P L n with
    | none => some n
    | some b => if L n ≤ L b then some b else some n) else bmx P L n
theorem bmx_s (P : Nat → Bool) (L : Nat → Nat) (n : Nat) : bmx P L (n + 1) = if P n = true then (match bmx P L n with
    | none => some n
    | some b => if L n ≤ L b then some b else some n) else bmx P L n := rfl
theorem bmx_lt {P : Nat → Bool} {L : Nat → Nat} : ∀ {k b : Nat}, bmx P L k = some b → b < k ∧ P b = true
  | 0, b, h => by cases h
  | k + 1, b, h => by
    rw [bmx_s] at h
    split at h
    · rename_i hp
      split at h
      · cases h; exact ⟨by omega, hp⟩
      · rename_i b' hb'
        obtain ⟨h1, h2⟩ := bmx_lt hb'
        split at h
        · cases h; exact ⟨by omega, h2⟩
        · cases h; exact ⟨by omega, hp⟩
    · obtain ⟨h1, h2⟩ := bmx_lt h
      exact ⟨by omega, h2⟩
def bml (P : Nat → Bool) (L : Nat → Nat) (i : Nat) : Int32 := match bmx P L i with
  | none => nbI none
  | some b => nI (L b)
theorem bmx_n {P : Nat → Bool} {L : Nat → Nat} {i : Nat} (h : ¬ P i = true) : bmx P L (i + 1) = bmx P L i := by
  rw [bmx_s, if_neg h]
theorem bmx_t {P : Nat → Bool} {L : Nat → Nat} {i : Nat} (hL : ∀ j, L j ≤ 10) (h : P i = true) (c : nI (L i) ≤ bml P L i) : bmx P L (i + 1) = bmx P L i := by
  rw [bmx_s, if_pos h]
  unfold bml at c
  have h1 := hL i
  cases q : bmx P L i with
  | none =>
    rw [q] at c
    have z : (nI (L i) ≤ nbI none) = False := m_le_f (by omega)
    have c : nI (L i) ≤ nbI none := c
    rw [z] at c
    exact absurd c id
  | some b =>
    rw [q] at c
    have h2 := hL b
    have c : nI (L i) ≤ nI (L b) := c
    rw [nI_leE (by omega) (by omega)] at c
    dsimp only
    rw [if_pos c]
theorem bmx_f {P : Nat → Bool} {L : Nat → Nat} {i : Nat} (hL : ∀ j, L j ≤ 10) (h : P i = true) (c : ¬ nI (L i) ≤ bml P L i) : bmx P L (i + 1) = some i := by
  rw [bmx_s, if_pos h]
  unfold bml at c
  have h1 := hL i
  cases q : bmx P L i with
  | none => rfl
  | some b =>
    rw [q] at c
    have h2 := hL b
    have c : ¬ nI (L i) ≤ nI (L b) := c
    rw [nI_leE (by omega) (by omega)] at c
    dsimp only
    rw [if_neg c]
section SPEC
variable {u0 : Nat → Nat} {n0 : Nat} {u1 : Nat → Nat} {n1 : Nat} {l : LD} {e : ED} {s s4 a : xS}
def opB (u0 : Nat → Nat) (n0 : Nat) (c : Nat) : Bool := decide ((twn u0 n0).2.2.2 c = 0)
theorem openF {c : Nat} (hT : TwF s (twn u0 n0).1 (twn u0 n0).2.1 (twn u0 n0).2.2.2) (hc : c < (twn u0 n0).1) : F_X7_isOpen (nI c) s = some (nI (b01 (opB u0 n0 c))) := by
  have hN := hT.1.1
  obtain ⟨k3, e6⟩ := hT.2.2.2.2.1 c hc
  unfold F_X7_isOpen opB
  by_cases q : (twn u0 n0).2.2.2 c = 0
  · simp (disch := omega) only [↓Lm1, L0, L1, L2, L3, L4, L5, L6, L7, L8, L9, L10, L11, L12, L13, L14, L15, L16, L17, L18, L19, L20, L27, L30, L31, L35, L36, L37, L38, L39, L40, L41, L46, L48, L51, L57, L59, L60, L82, L98, L99, L100, L102, L104, L107, L110, L119, L144, L240, L255, L256, L360, L999, L1000000, nI_val, n_lt_t, n_lt_f, n_le_t, n_le_f, n_eq_t, n_eq_f, k_le_f, m_lt_t, m_lt_f, m_le_t, m_le_f, m_eq_f, m_eq_f', nI_add, nI_mulE, nI_subE, if_true, if_false, ite_true, ite_false, or_false, false_or, or_true, true_or, or_self, and_true, true_and, and_false, false_and, not_true_eq_false, not_false_eq_true, Option.bind_some, Sum.elim_inl, Sum.elim_inr, xu_set, xset_same, xset_ne, xset_2, xset_set, upd_same, upd_ne, nbI_some, ne_eq, reduceCtorEq, reduceIte, Nat.reduceAdd, Nat.reduceMul, Nat.reduceSub, Nat.add_zero, Nat.zero_add, Nat.mul_zero, Nat.zero_mul, hasF_t hT.2.1 hN hc, e6, q, b01, decide_true]
  · simp (disch := omega) only [↓Lm1, L0, L1, L2, L3, L4, L5, L6, L7, L8, L9, L10, L11, L12, L13, L14, L15, L16, L17, L18, L19, L20, L27, L30, L31, L35, L36, L37, L38, L39, L40, L41, L46, L48, L51, L57, L59, L60, L82, L98, L99, L100, L102, L104, L107, L110, L119, L144, L240, L255, L256, L360, L999, L1000000, nI_val, n_lt_t, n_lt_f, n_le_t, n_le_f, n_eq_t, n_eq_f, k_le_f, m_lt_t, m_lt_f, m_le_t, m_le_f, m_eq_f, m_eq_f', nI_add, nI_mulE, nI_subE, if_true, if_false, ite_true, ite_false, or_false, false_or, or_true, true_or, or_self, and_true, true_and, and_false, false_and, not_true_eq_false, not_false_eq_true, Option.bind_some, Sum.elim_inl, Sum.elim_inr, xu_set, xset_same, xset_ne, xset_2, xset_set, upd_same, upd_ne, nbI_some, ne_eq, reduceCtorEq, reduceIte, Nat.reduceAdd, Nat.reduceMul, Nat.reduceSub, Nat.add_zero, Nat.zero_add, Nat.mul_zero, Nat.zero_mul, hasF_t hT.2.1 hN hc, e6, q, b01, decide_false, Bool.false_eq_true]
noncomputable def lyL (u0 : Nat → Nat) (n0 : Nat) (u1 : Nat → Nat) (n1 : Nat) (l : LD) (c : Nat) : Nat := lat (ngt (twn u0 n0).1 (lo (twn u0 n0).1 (twn u0 n0).2.1 (fun j => tl ((twn u0 n0).2.2.2 j)) (some c)) (ddat u1 n1) all_ l).1
theorem lyL_le (hl : LwOk l) (c : Nat) : lyL u0 n0 u1 n1 l c ≤ 10 := lat_le (fun x q => ngt_wk hl q)
noncomputable def lyv (u0 : Nat → Nat) (n0 : Nat) (u1 : Nat → Nat) (n1 : Nat) (l : LD) (w : Nat) : Int32 := if w = 0 then nbI (bmx (opB u0 n0) (lyL u0 n0 u1 n1 l) (twn u0 n0).1) else match bmx (opB u0 n0) (lyL u0 n0 u1 n1 l) (twn u0 n0).1 with
  | none => nbI none
  | some b => if lyL u0 n0 u1 n1 l b = 10 then nbI none else nI (lyL u0 n0 u1 n1 l b)
theorem lateB {c : Nat} (hI : BF0 u0 n0 u1 n1 l s) (hc : c < (twn u0 n0).1) : ∃ s', F_X8_latenessWithBed (nI c) s = some (nI (lyL u0 n0 u1 n1 l c), s') ∧ Kp 27 40 s s' := by
  have hok := dd_ok (u := u1) hI.1.2.1
  have hT := hI.2.1.1
  have hN := hT.1.1
  have hl := hI.2.2.2.1
  obtain ⟨s1, s2, e1, r1, e2, k2, ls⟩ := reachF (p := 31) (bd := some c) (Or.inr rfl) hT (fun j hj => by cases hj; exact hc)
  have h2 : BF0 u0 n0 u1 n1 l s2 := BF0_K hI (fun q _ _ => (k2 q (by omega)).1)
  obtain ⟨s3, e3, k3, n3⟩ := passF (p0 := 34) (p1 := 8) (p3 := 31) (N := (twn u0 n0).1) (ls := lo (twn u0 n0).1 (twn u0 n0).2.1 (fun j => tl ((twn u0 n0).2.2.2 j)) (some c)) (Or.inr (Or.inr ⟨rfl, rfl⟩)) (Or.inr rfl) hok h2.2.2.1.1 hl h2.2.2.2.2.1 pr255 hN ls
  have el := latF n3.1 (fun x q => ngt_wk (N := (twn u0 n0).1) (ls := lo (twn u0 n0).1 (twn u0 n0).2.1 (fun j => tl ((twn u0 n0).2.2.2 j)) (some c)) hl q)
  rw [nbI_some] at e2
  refine ⟨s3, ?_, (k2.wide (by omega) (by omega)).trans (k3.wide (by omega) (by omega))⟩
  unfold F_X8_latenessWithBed
  simp (disch := omega) only [↓Lm1, L0, L1, L2, L3, L4, L5, L6, L7, L8, L9, L10, L11, L12, L13, L14, L15, L16, L17, L18, L19, L20, L27, L30, L31, L35, L36, L37, L38, L39, L40, L41, L46, L48, L51, L57, L59, L60, L82, L98, L99, L100, L102, L104, L107, L110, L119, L144, L240, L255, L256, L360, L999, L1000000, nI_val, n_lt_t, n_lt_f, n_le_t, n_le_f, n_eq_t, n_eq_f, k_le_f, m_lt_t, m_lt_f, m_le_t, m_le_f, m_eq_f, m_eq_f', nI_add, nI_mulE, nI_subE, if_true, if_false, ite_true, ite_false, or_false, false_or, or_true, true_or, or_self, and_true, true_and, and_false, false_and, not_true_eq_false, not_false_eq_true, Option.bind_some, Sum.elim_inl, Sum.elim_inr, xu_set, xset_same, xset_ne, xset_2, xset_set, upd_same, upd_ne, nbI_some, ne_eq, reduceCtorEq, reduceIte, Nat.reduceAdd, Nat.reduceMul, Nat.reduceSub, Nat.add_zero, Nat.zero_add, Nat.mul_zero, Nat.zero_mul, e1, e2, e3, el]
  rfl
theorem q_lay {w : Nat} (hI : IF u0 n0 u1 n1 l e s) (hw : w < 2) : ∃ s', F_X8_lay (nI w) s = some (lyv u0 n0 u1 n1 l w, s') ∧ Kp 27 40 s s' := by
  have hN := (twn_ok u0 n0).1.1
  have hl := hI.1.2.2.2.1
  have hL := lyL_le (u0 := u0) (n0 := n0) (u1 := u1) (n1 := n1) hl
  obtain ⟨L, hLe⟩ : ∃ L : Nat → Nat, L = lyL u0 n0 u1 n1 l := ⟨_, rfl⟩
  obtain ⟨P, hPe⟩ : ∃ P : Nat → Bool, P = opB u0 n0 := ⟨_, rfl⟩
  rw [← hLe] at hL
  have lt : ∀ {s : xS} {c : Nat}, IF u0 n0 u1 n1 l e s → c < (twn u0 n0).1 → ∃ s', F_X8_latenessWithBed (nI c) s = some (nI (L c), s') ∧ Kp 27 40 s s' := fun hI hc => by rw [hLe]; exact lateB hI.1 hc
  have key : ∃ b, xlp F_X8_bestBed_L6 100000 (nbI none, nbI none, nI 0, s) = some b ∧ b.1 = nbI (bmx P L (twn u0 n0).1) ∧ Kp 27 40 s b.2 := by
    refine xlp_cnt (f := F_X8_bestBed_L6) (fun i a => a.1 = nbI (bmx P L i) ∧ a.2.1 = bml P L i ∧ a.2.2.1 = nI i ∧ Kp 27 40 s a.2.2.2) (fun b => b.1 = nbI (bmx P L (twn u0 n0).1) ∧ Kp 27 40 s b.2) (twn u0 n0).1 (by omega) ?_ ?_ (a := (nbI none, nbI none, nI 0, s)) ⟨rfl, rfl, rfl, Kp.refl _ _ _⟩
    · intro i a hi ⟨h1, h2, h3, h4⟩
      obtain ⟨a1, a2, a3, s'⟩ := a
      dsimp only at h1 h2 h3 h4
      subst h1; subst h2; subst h3
      have hI' := hI.keep h4
      have hT' := hI'.1.2.1.1
      have h52 := hT'.2.1
      have eo := openF hT' hi
      rw [← hPe] at eo
      left
      unfold F_X8_bestBed_L6
      by_cases p : P i = true
      · rw [p] at eo
        have eo' : F_X7_isOpen (nI i) s' = some (nI 1) := eo
        obtain ⟨s'', e'', k''⟩ := lt hI' hi
        by_cases c : nI (L i) ≤ bml P L i
        · have z := bmx_t hL p c
          have z2 : bml P L (i + 1) = bml P L i := by unfold bml; rw [z]
          have c' := eq_true c
          refine ⟨(nbI (bmx P L i), bml P L i, nI (i + 1), s''), ?_, by rw [z], z2.symm, rfl, h4.trans k''⟩
          simp (disch := omega) only [↓Lm1, L0, L1, L2, L3, L4, L5, L6, L7, L8, L9, L10, L11, L12, L13, L14, L15, L16, L17, L18, L19, L20, L27, L30, L31, L35, L36, L37, L38, L39, L40, L41, L46, L48, L51, L57, L59, L60, L82, L98, L99, L100, L102, L104, L107, L110, L119, L144, L240, L255, L256, L360, L999, L1000000, nI_val, n_lt_t, n_lt_f, n_le_t, n_le_f, n_eq_t, n_eq_f, k_le_f, m_lt_t, m_lt_f, m_le_t, m_le_f, m_eq_f, m_eq_f', nI_add, nI_mulE, nI_subE, if_true, if_false, ite_true, ite_false, or_false, false_or, or_true, true_or, or_self, and_true, true_and, and_false, false_and, not_true_eq_false, not_false_eq_true, Option.bind_some, Sum.elim_inl, Sum.elim_inr, xu_set, xset_same, xset_ne, xset_2, xset_set, upd_same, upd_ne, nbI_some, ne_eq, reduceCtorEq, reduceIte, Nat.reduceAdd, Nat.reduceMul, Nat.reduceSub, Nat.add_zero, Nat.zero_add, Nat.mul_zero, Nat.zero_mul, h52, eo', e'', c']
        · have z := bmx_f hL p c
          have z2 : bml P L (i + 1) = nI (L i) := by unfold bml; rw [z]
          have c' := eq_false c
          refine ⟨(nI i, nI (L i), nI (i + 1), s''), ?_, by rw [z]; rfl, z2.symm, rfl, h4.trans k''⟩
          simp (disch := omega) only [↓Lm1, L0, L1, L2, L3, L4, L5, L6, L7, L8, L9, L10, L11, L12, L13, L14, L15, L16, L17, L18, L19, L20, L27, L30, L31, L35, L36, L37, L38, L39, L40, L41, L46, L48, L51, L57, L59, L60, L82, L98, L99, L100, L102, L104, L107, L110, L119, L144, L240, L255, L256, L360, L999, L1000000, nI_val, n_lt_t, n_lt_f, n_le_t, n_le_f, n_eq_t, n_eq_f, k_le_f, m_lt_t, m_lt_f, m_le_t, m_le_f, m_eq_f, m_eq_f', nI_add, nI_mulE, nI_subE, if_true, if_false, ite_true, ite_false, or_false, false_or, or_true, true_or, or_self, and_true, true_and, and_false, false_and, not_true_eq_false, not_false_eq_true, Option.bind_some, Sum.elim_inl, Sum.elim_inr, xu_set, xset_same, xset_ne, xset_2, xset_set, upd_same, upd_ne, nbI_some, ne_eq, reduceCtorEq, reduceIte, Nat.reduceAdd, Nat.reduceMul, Nat.reduceSub, Nat.add_zero, Nat.zero_add, Nat.mul_zero, Nat.zero_mul, h52, eo', e'', c']
      · have z := bmx_n (L := L) p
        have z2 : bml P L (i + 1) = bml P L i := by unfold bml; rw [z]
        have p' : P i = false := by simpa using p
        rw [p'] at eo
        have eo' : F_X7_isOpen (nI i) s' = some (nI 0) := eo
        have c' : (nbI none ≤ bml P L i) = True := by
          unfold bml
          cases q : bmx P L i with
          | none => exact eq_true (show nbI none ≤ nbI none by decide)
          | some b => have := hL b; exact m_le_t (by omega)
        refine ⟨(nbI (bmx P L i), bml P L i, nI (i + 1), s'), ?_, by rw [z], z2.symm, rfl, h4⟩
        simp (disch := omega) only [↓Lm1, L0, L1, L2, L3, L4, L5, L6, L7, L8, L9, L10, L11, L12, L13, L14, L15, L16, L17, L18, L19, L20, L27, L30, L31, L35, L36, L37, L38, L39, L40, L41, L46, L48, L51, L57, L59, L60, L82, L98, L99, L100, L102, L104, L107, L110, L119, L144, L240, L255, L256, L360, L999, L1000000, nI_val, n_lt_t, n_lt_f, n_le_t, n_le_f, n_eq_t, n_eq_f, k_le_f, m_lt_t, m_lt_f, m_le_t, m_le_f, m_eq_f, m_eq_f', nI_add, nI_mulE, nI_subE, if_true, if_false, ite_true, ite_false, or_false, false_or, or_true, true_or, or_self, and_true, true_and, and_false, false_and, not_true_eq_false, not_false_eq_true, Option.bind_some, Sum.elim_inl, Sum.elim_inr, xu_set, xset_same, xset_ne, xset_2, xset_set, upd_same, upd_ne, nbI_some, ne_eq, reduceCtorEq, reduceIte, Nat.reduceAdd, Nat.reduceMul, Nat.reduceSub, Nat.add_zero, Nat.zero_add, Nat.mul_zero, Nat.zero_mul, h52, eo', c']
    · intro a ⟨h1, h2, h3, h4⟩
      obtain ⟨a1, a2, a3, s'⟩ := a
      dsimp only at h1 h2 h3 h4
      subst h1; subst h2; subst h3
      have h52 := (hI.keep h4).1.2.1.1.2.1
      refine ⟨(nbI (bmx P L (twn u0 n0).1), s'), ?_, rfl, h4⟩
      unfold F_X8_bestBed_L6
      simp (disch := omega) only [↓Lm1, L0, L1, L2, L3, L4, L5, L6, L7, L8, L9, L10, L11, L12, L13, L14, L15, L16, L17, L18, L19, L20, L27, L30, L31, L35, L36, L37, L38, L39, L40, L41, L46, L48, L51, L57, L59, L60, L82, L98, L99, L100, L102, L104, L107, L110, L119, L144, L240, L255, L256, L360, L999, L1000000, nI_val, n_lt_t, n_lt_f, n_le_t, n_le_f, n_eq_t, n_eq_f, k_le_f, m_lt_t, m_lt_f, m_le_t, m_le_f, m_eq_f, m_eq_f', nI_add, nI_mulE, nI_subE, if_true, if_false, ite_true, ite_false, or_false, false_or, or_true, true_or, or_self, and_true, true_and, and_false, false_and, not_true_eq_false, not_false_eq_true, Option.bind_some, Sum.elim_inl, Sum.elim_inr, xu_set, xset_same, xset_ne, xset_2, xset_set, upd_same, upd_ne, nbI_some, ne_eq, reduceCtorEq, reduceIte, Nat.reduceAdd, Nat.reduceMul, Nat.reduceSub, Nat.add_zero, Nat.zero_add, Nat.mul_zero, Nat.zero_mul, h52]
  obtain ⟨b, eb, hb1, hb2⟩ := key
  unfold F_X8_lay F_X8_bestBed lyv
  rw [← hLe, ← hPe]
  rcases two_cases hw with rfl | rfl
  · refine ⟨b.2, ?_, hb2⟩
    simp (disch := omega) only [↓Lm1, L0, L1, L2, L3, L4, L5, L6, L7, L8, L9, L10, L11, L12, L13, L14, L15, L16, L17, L18, L19, L20, L27, L30, L31, L35, L36, L37, L38, L39, L40, L41, L46, L48, L51, L57, L59, L60, L82, L98, L99, L100, L102, L104, L107, L110, L119, L144, L240, L255, L256, L360, L999, L1000000, nI_val, n_lt_t, n_lt_f, n_le_t, n_le_f, n_eq_t, n_eq_f, k_le_f, m_lt_t, m_lt_f, m_le_t, m_le_f, m_eq_f, m_eq_f', nI_add, nI_mulE, nI_subE, if_true, if_false, ite_true, ite_false, or_false, false_or, or_true, true_or, or_self, and_true, true_and, and_false, false_and, not_true_eq_false, not_false_eq_true, Option.bind_some, Sum.elim_inl, Sum.elim_inr, xu_set, xset_same, xset_ne, xset_2, xset_set, upd_same, upd_ne, nbI_some, ne_eq, reduceCtorEq, reduceIte, Nat.reduceAdd, Nat.reduceMul, Nat.reduceSub, Nat.add_zero, Nat.zero_add, Nat.mul_zero, Nat.zero_mul, out_in, eb, hb1]
  · cases q : bmx P L (twn u0 n0).1 with
    | none =>
      rw [q] at hb1
      refine ⟨b.2, ?_, hb2⟩
      simp (disch := omega) only [↓Lm1, L0, L1, L2, L3, L4, L5, L6, L7, L8, L9, L10, L11, L12, L13, L14, L15, L16, L17, L18, L19, L20, L27, L30, L31, L35, L36, L37, L38, L39, L40, L41, L46, L48, L51, L57, L59, L60, L82, L98, L99, L100, L102, L104, L107, L110, L119, L144, L240, L255, L256, L360, L999, L1000000, nI_val, n_lt_t, n_lt_f, n_le_t, n_le_f, n_eq_t, n_eq_f, k_le_f, m_lt_t, m_lt_f, m_le_t, m_le_f, m_eq_f, m_eq_f', nI_add, nI_mulE, nI_subE, if_true, if_false, ite_true, ite_false, or_false, false_or, or_true, true_or, or_self, and_true, true_and, and_false, false_and, not_true_eq_false, not_false_eq_true, Option.bind_some, Sum.elim_inl, Sum.elim_inr, xu_set, xset_same, xset_ne, xset_2, xset_set, upd_same, upd_ne, nbI_some, ne_eq, reduceCtorEq, reduceIte, Nat.reduceAdd, Nat.reduceMul, Nat.reduceSub, Nat.add_zero, Nat.zero_add, Nat.mul_zero, Nat.zero_mul, out_in, eb, hb1]
    | some c =>
      rw [q, nbI_some] at hb1
      have hc := (bmx_lt q).1
      obtain ⟨s'', e'', k''⟩ := lt (hI.keep hb2) hc
      refine ⟨s'', ?_, hb2.trans k''⟩
      have := hL c
      unfold F_X8_asHour
      by_cases z : L c = 10
      · simp (disch := omega) only [↓Lm1, L0, L1, L2, L3, L4, L5, L6, L7, L8, L9, L10, L11, L12, L13, L14, L15, L16, L17, L18, L19, L20, L27, L30, L31, L35, L36, L37, L38, L39, L40, L41, L46, L48, L51, L57, L59, L60, L82, L98, L99, L100, L102, L104, L107, L110, L119, L144, L240, L255, L256, L360, L999, L1000000, nI_val, n_lt_t, n_lt_f, n_le_t, n_le_f, n_eq_t, n_eq_f, k_le_f, m_lt_t, m_lt_f, m_le_t, m_le_f, m_eq_f, m_eq_f', nI_add, nI_mulE, nI_subE, if_true, if_false, ite_true, ite_false, or_false, false_or, or_true, true_or, or_self, and_true, true_and, and_false, false_and, not_true_eq_false, not_false_eq_true, Option.bind_some, Sum.elim_inl, Sum.elim_inr, xu_set, xset_same, xset_ne, xset_2, xset_set, upd_same, upd_ne, nbI_some, ne_eq, reduceCtorEq, reduceIte, Nat.reduceAdd, Nat.reduceMul, Nat.reduceSub, Nat.add_zero, Nat.zero_add, Nat.mul_zero, Nat.zero_mul, out_in, eb, hb1, e'', z]
      · simp (disch := omega) only [↓Lm1, L0, L1, L2, L3, L4, L5, L6, L7, L8, L9, L10, L11, L12, L13, L14, L15, L16, L17, L18, L19, L20, L27, L30, L31, L35, L36, L37, L38, L39, L40, L41, L46, L48, L51, L57, L59, L60, L82, L98, L99, L100, L102, L104, L107, L110, L119, L144, L240, L255, L256, L360, L999, L1000000, nI_val, n_lt_t, n_lt_f, n_le_t, n_le_f, n_eq_t, n_eq_f, k_le_f, m_lt_t, m_lt_f, m_le_t, m_le_f, m_eq_f, m_eq_f', nI_add, nI_mulE, nI_subE, if_true, if_false, ite_true, ite_false, or_false, false_or, or_true, true_or, or_self, and_true, true_and, and_false, false_and, not_true_eq_false, not_false_eq_true, Option.bind_some, Sum.elim_inl, Sum.elim_inr, xu_set, xset_same, xset_ne, xset_2, xset_set, upd_same, upd_ne, nbI_some, ne_eq, reduceCtorEq, reduceIte, Nat.reduceAdd, Nat.reduceMul, Nat.reduceSub, Nat.add_zero, Nat.zero_add, Nat.mul_zero, Nat.zero_mul, out_in, eb, hb1, e'', z]
/-- a bed in c, in place of its own -/
def kdb (u0 : Nat → Nat) (n0 : Nat) (c : Nat) : Nat → Nat := fun j => if j = c then 3 else if (twn u0 n0).2.2.1 = some j then 0 else (twn u0 n0).2.2.2 j
theorem kdb_tl {c : Nat} (hc : c < (twn u0 n0).1) (ho : (twn u0 n0).2.2.2 c = 0) : (fun j => tl (kdb u0 n0 c j)) = fun j => tl ((twn u0 n0).2.2.2 j) := by
  have hok := twn_ok u0 n0
  funext j
  unfold kdb
  by_cases c1 : j = c
  · rw [if_pos c1, c1, ho]
    rfl
  · rw [if_neg c1]
    by_cases c2 : (twn u0 n0).2.2.1 = some j
    · rw [if_pos c2, (hok.2.2.1 j (hok.2.2.2 j c2)).2.mpr c2]
      rfl
    · rw [if_neg c2]
theorem layRun {c : Nat} {g : Nat → Int32} (rt : RT u0 n0 u1 n1 l s s4) (h15 : s4.1 0 15 = nI 0) (ka : KR [9, 10, 11, 12, 13, 14] [20] s4 a) (hc : c < (twn u0 n0).1) (ho : (twn u0 n0).2.2.2 c = 0) (hg : ∀ j, j < (twn u0 n0).1 → g j = nI (kdb u0 n0 c j)) : ∃ s', F_X9_runs (xset a 3 g) = some s' ∧ KR [3, 9, 10, 11, 12, 13, 14] [20] s4 s' ∧ s'.1 3 = g ∧ s'.1 0 20 = nbI (ngt (twn u0 n0).1 (lo (twn u0 n0).1 (twn u0 n0).2.1 (fun j => tl ((twn u0 n0).2.2.2 j)) (some c)) (ddat u1 n1) all_ l).1 := by
  have hok := twn_ok u0 n0
  obtain ⟨_, hb, hT, hD⟩ := rt
  have k3 : KR [3, 9, 10, 11, 12, 13, 14] [20] s4 (xset a 3 g) := (ka.wide (fun x hx => List.mem_cons_of_mem _ hx) (fun x hx => hx)).set _ (by decide) (by decide)
  have hT' : TwM (xset a 3 g) (twn u0 n0).1 (twn u0 n0).2.1 (kdb u0 n0 c) := by
    refine ⟨hT.1, by rw [k3.2 3 (by decide)]; exact hT.2.1, fun z => by rw [k3.2 2 (by decide)]; exact hT.2.2.1 z, hT.2.2.2.1, fun i hi => ⟨?_, by rw [xset_same]; exact hg i hi⟩⟩
    have := (hok.2.2.1 i hi).1
    unfold kdb
    split
    · omega
    · split <;> omega
  obtain ⟨s', e', k', n'⟩ := runsM (bd := some c) (d := (ddat u1 n1)) (pr := all_) (l := l) hT' (fun j hj => by
    unfold kdb
    by_cases c1 : j = c
    · rw [if_pos c1, c1]
      exact ⟨fun _ => rfl, fun _ => rfl⟩
    · rw [if_neg c1]
      constructor
      · intro q
        by_cases c2 : (twn u0 n0).2.2.1 = some j
        · rw [if_pos c2] at q; cases q
        · rw [if_neg c2] at q
          exact absurd ((hok.2.2.1 j hj).2.mp q) c2
      · intro q; cases q; exact absurd rfl c1) (fun j hj => by cases hj; exact hc) (dd_ok hb.2.1) (DdM_K hD k3 (by decide) (by decide) (by decide) (by decide)) hb.2.2.2.2.2.2.1 (LwM_K hb.2.2.2.2.2.2.2 k3 (by decide) (by decide) (by decide) (by decide) (by decide)) (by rw [k3.2 15 (by decide), h15]; exact pr0)
  rw [kdb_tl hc ho] at n'
  exact ⟨s', e', k3.trans (k'.wide (by decide) (fun x hx => hx)), by rw [k'.1 3 (by decide) (by decide), xset_same], n'.1⟩
theorem KR3 {s4 s' : xS} {g : Nat → Int32} (k : KR [3, 9, 10, 11, 12, 13, 14] [20] s4 s') (hg : g = s4.1 3) : KR [9, 10, 11, 12, 13, 14] [20] s4 (xset s' 3 g) := by
  refine ⟨fun q hq hL => ?_, fun j hj => ?_⟩
  · by_cases c : q = 3
    · subst c
      rw [xset_same, hg]
    · rw [xset_ne _ _ c]
      exact k.1 q hq (by simp only [List.mem_cons, List.not_mem_nil, or_false] at hL ⊢; omega)
  · rw [xset_ne _ _ (by omega)]
    exact k.2 j hj
theorem m_lay {w : Nat} (h : BM u0 n0 u1 n1 l s) (hw : w < 2) : ∃ s', F_X9_layOf (nI w) s = some (lyv u0 n0 u1 n1 l w, s') ∧ RT u0 n0 u1 n1 l s s' := by
  have hok := twn_ok u0 n0
  have hN := hok.1.1
  have hl := h.2.2.2.2.2.2.1
  have hL := lyL_le (u0 := u0) (n0 := n0) (u1 := u1) (n1 := n1) hl
  obtain ⟨L, hLe⟩ : ∃ L : Nat → Nat, L = lyL u0 n0 u1 n1 l := ⟨_, rfl⟩
  obtain ⟨P, hPe⟩ : ∃ P : Nat → Bool, P = opB u0 n0 := ⟨_, rfl⟩
  rw [← hLe] at hL
  obtain ⟨s4, e4, rt, h15⟩ := asToldM h
  have hT := rt.2.2.1
  have eb := bedM hT (fun j hj => (hok.2.2.1 j hj).2) hok.2.2.2
  have key : ∃ b, xlp (F_X9_layOf_L17 (nI w) (nbI (twn u0 n0).2.2.1)) 100000 (nbI none, nbI none, nI 0, s4) = some b ∧ b.1 = nbI (bmx P L (twn u0 n0).1) ∧ b.2.1 = bml P L (twn u0 n0).1 ∧ KR [9, 10, 11, 12, 13, 14] [20] s4 b.2.2 := by
    refine xlp_cnt (f := F_X9_layOf_L17 (nI w) (nbI (twn u0 n0).2.2.1)) (fun i a => a.1 = nbI (bmx P L i) ∧ a.2.1 = bml P L i ∧ a.2.2.1 = nI i ∧ KR [9, 10, 11, 12, 13, 14] [20] s4 a.2.2.2) (fun b => b.1 = nbI (bmx P L (twn u0 n0).1) ∧ b.2.1 = bml P L (twn u0 n0).1 ∧ KR [9, 10, 11, 12, 13, 14] [20] s4 b.2.2) (twn u0 n0).1 (by omega) ?_ ?_ (a := (nbI none, nbI none, nI 0, s4)) ⟨rfl, rfl, rfl, KR.refl _ _ _⟩
    · intro i a hi ⟨h1, h2, h3, h4⟩
      obtain ⟨a1, a2, a3, s'⟩ := a
      dsimp only at h1 h2 h3 h4
      subst h1; subst h2; subst h3
      have h03 : s'.1 0 3 = nI (twn u0 n0).1 := by rw [h4.2 3 (by decide)]; exact hT.2.1
      have r3 : s'.1 3 = s4.1 3 := h4.1 3 (by decide) (by decide)
      have e3 : s'.1 3 i = nI ((twn u0 n0).2.2.2 i) := by rw [r3]; exact (hT.2.2.2.2 i hi).2
      have k3 := (hok.2.2.1 i hi).1
      left
      by_cases p : (twn u0 n0).2.2.2 i = 0
      · have pP : P i = true := by rw [hPe]; exact decide_eq_true p
        have nb : ¬ (twn u0 n0).2.2.1 = some i := fun q => by have := (hok.2.2.1 i hi).2.mpr q; omega
        have hLi : L i = lat (ngt (twn u0 n0).1 (lo (twn u0 n0).1 (twn u0 n0).2.1 (fun j => tl ((twn u0 n0).2.2.2 j)) (some i)) (ddat u1 n1) all_ l).1 := by rw [hLe]; rfl
        have e3' : s'.1 3 i = nI 0 := by rw [e3, p]
        -- what J86 makes of a state
        have fin : ∀ t : xS, t.1 0 20 = nbI (ngt (twn u0 n0).1 (lo (twn u0 n0).1 (twn u0 n0).2.1 (fun j => tl ((twn u0 n0).2.2.2 j)) (some i)) (ddat u1 n1) all_ l).1 → F_X9_layOf_L17_J86 (nI w) (nbI (twn u0 n0).2.2.1) (nbI (bmx P L i)) (bml P L i) (nI i) t = some (Sum.inl (nbI (bmx P L (i + 1)), bml P L (i + 1), nI (i + 1), t)) := by
          intro t ht
          have z : F_X9_layOf_L17_J86 (nI w) (nbI (twn u0 n0).2.2.1) (nbI (bmx P L i)) (bml P L i) (nI i) t = F_X9_layOf_L17_J103 (nI w) (nbI (twn u0 n0).2.2.1) (nbI (bmx P L i)) (bml P L i) (nI i) (nI (L i)) t := by
            unfold F_X9_layOf_L17_J86
            rw [ht, hLi]
            cases q : (ngt (twn u0 n0).1 (lo (twn u0 n0).1 (twn u0 n0).2.1 (fun j => tl ((twn u0 n0).2.2.2 j)) (some i)) (ddat u1 n1) all_ l).1 with
            | none => exact if_pos rfl
            | some x =>
              have := ngt_wk hl q
              exact if_neg (by rw [nbI_some]; exact nI_m1 (by omega))
          rw [z]
          unfold F_X9_layOf_L17_J103
          by_cases c : nI (L i) ≤ bml P L i
          · have z1 := bmx_t hL pP c
            have z2 : bml P L (i + 1) = bml P L i := by unfold bml; rw [z1]
            have c' := eq_true c
            simp (disch := omega) only [↓Lm1, L0, L1, L2, L3, L4, L5, L6, L7, L8, L9, L10, L11, L12, L13, L14, L15, L16, L17, L18, L19, L20, L27, L30, L31, L35, L36, L37, L38, L39, L40, L41, L46, L48, L51, L57, L59, L60, L82, L98, L99, L100, L102, L104, L107, L110, L119, L144, L240, L255, L256, L360, L999, L1000000, nI_val, n_lt_t, n_lt_f, n_le_t, n_le_f, n_eq_t, n_eq_f, k_le_f, m_lt_t, m_lt_f, m_le_t, m_le_f, m_eq_f, m_eq_f', nI_add, nI_mulE, nI_subE, if_true, if_false, ite_true, ite_false, or_false, false_or, or_true, true_or, or_self, and_true, true_and, and_false, false_and, not_true_eq_false, not_false_eq_true, Option.bind_some, Sum.elim_inl, Sum.elim_inr, xu_set, xset_same, xset_ne, xset_2, xset_set, upd_same, upd_ne, nbI_some, ne_eq, reduceCtorEq, reduceIte, Nat.reduceAdd, Nat.reduceMul, Nat.reduceSub, Nat.add_zero, Nat.zero_add, Nat.mul_zero, Nat.zero_mul, c', z1, z2]
          · have z1 := bmx_f hL pP c
            have z2 : bml P L (i + 1) = nI (L i) := by unfold bml; rw [z1]
            have c' := eq_false c
            simp (disch := omega) only [↓Lm1, L0, L1, L2, L3, L4, L5, L6, L7, L8, L9, L10, L11, L12, L13, L14, L15, L16, L17, L18, L19, L20, L27, L30, L31, L35, L36, L37, L38, L39, L40, L41, L46, L48, L51, L57, L59, L60, L82, L98, L99, L100, L102, L104, L107, L110, L119, L144, L240, L255, L256, L360, L999, L1000000, nI_val, n_lt_t, n_lt_f, n_le_t, n_le_f, n_eq_t, n_eq_f, k_le_f, m_lt_t, m_lt_f, m_le_t, m_le_f, m_eq_f, m_eq_f', nI_add, nI_mulE, nI_subE, if_true, if_false, ite_true, ite_false, or_false, false_or, or_true, true_or, or_self, and_true, true_and, and_false, false_and, not_true_eq_false, not_false_eq_true, Option.bind_some, Sum.elim_inl, Sum.elim_inr, xu_set, xset_same, xset_ne, xset_2, xset_set, upd_same, upd_ne, nbI_some, ne_eq, reduceCtorEq, reduceIte, Nat.reduceAdd, Nat.reduceMul, Nat.reduceSub, Nat.add_zero, Nat.zero_add, Nat.mul_zero, Nat.zero_mul, c', z1, z2]
        unfold F_X9_layOf_L17
        cases hbd : (twn u0 n0).2.2.1 with
        | none =>
          rw [hbd] at fin
          obtain ⟨s'', e'', k'', g'', n''⟩ := layRun (a := s') (g := upd (s'.1 3) i (nI 3)) rt h15 h4 hi p (fun j hj => by
            unfold kdb
            by_cases c1 : j = i
            · rw [if_pos c1, c1, upd_same]
            · rw [if_neg c1, upd_ne _ _ c1, hbd, if_neg (fun q => by cases q), r3]
              exact (hT.2.2.2.2 j hj).2)
          have rr : upd (s''.1 3) i (nI 0) = s4.1 3 := by
            funext j
            rw [g'']
            by_cases c1 : j = i
            · rw [c1, upd_same, ← r3, e3']
            · rw [upd_ne _ _ c1, upd_ne _ _ c1, r3]
          have f1 := fin (xset s'' 3 (upd (s''.1 3) i (nI 0))) (by rw [xset_ne _ _ (by omega)]; exact n'')
          refine ⟨(nbI (bmx P L (i + 1)), bml P L (i + 1), nI (i + 1), xset s'' 3 (upd (s''.1 3) i (nI 0))), ?_, rfl, rfl, rfl, KR3 k'' rr⟩
          unfold F_X9_layOf_L17_J54
          simp (disch := omega) only [↓Lm1, L0, L1, L2, L3, L4, L5, L6, L7, L8, L9, L10, L11, L12, L13, L14, L15, L16, L17, L18, L19, L20, L27, L30, L31, L35, L36, L37, L38, L39, L40, L41, L46, L48, L51, L57, L59, L60, L82, L98, L99, L100, L102, L104, L107, L110, L119, L144, L240, L255, L256, L360, L999, L1000000, nI_val, n_lt_t, n_lt_f, n_le_t, n_le_f, n_eq_t, n_eq_f, k_le_f, m_lt_t, m_lt_f, m_le_t, m_le_f, m_eq_f, m_eq_f', nI_add, nI_mulE, nI_subE, if_true, if_false, ite_true, ite_false, or_false, false_or, or_true, true_or, or_self, and_true, true_and, and_false, false_and, not_true_eq_false, not_false_eq_true, Option.bind_some, Sum.elim_inl, Sum.elim_inr, xu_set, xset_same, xset_ne, xset_2, xset_set, upd_same, upd_ne, nbI_some, ne_eq, reduceCtorEq, reduceIte, Nat.reduceAdd, Nat.reduceMul, Nat.reduceSub, Nat.add_zero, Nat.zero_add, Nat.mul_zero, Nat.zero_mul, h03, e3', e'', f1]
        | some b =>
          have hbN := hok.2.2.2 b hbd
          have nbi : b ≠ i := fun q => nb (by rw [hbd, q])
          rw [hbd] at fin
          obtain ⟨s'', e'', k'', g'', n''⟩ := layRun (a := s') (g := upd (upd (s'.1 3) b (nI 0)) i (nI 3)) rt h15 h4 hi p (fun j hj => by
            unfold kdb
            by_cases c1 : j = i
            · rw [if_pos c1, c1, upd_same]
            · rw [if_neg c1, upd_ne _ _ c1, hbd]
              by_cases c2 : j = b
              · rw [if_pos (by rw [c2]), c2, upd_same]
              · rw [if_neg (fun q => c2 (Option.some.inj q).symm), upd_ne _ _ c2, r3]
                exact (hT.2.2.2.2 j hj).2)
          have rr : upd (upd (s''.1 3) i (nI 0)) b (nI 3) = s4.1 3 := by
            funext j
            rw [g'']
            by_cases c2 : j = b
            · rw [c2, upd_same, (hT.2.2.2.2 b hbN).2, (hok.2.2.1 b hbN).2.mpr hbd]
            · rw [upd_ne _ _ c2]
              by_cases c1 : j = i
              · rw [c1, upd_same, ← r3, e3']
              · rw [upd_ne _ _ c1, upd_ne _ _ c1, upd_ne _ _ c2, r3]
          have f1 := fin (xset s'' 3 (upd (upd (s''.1 3) i (nI 0)) b (nI 3))) (by rw [xset_ne _ _ (by omega)]; exact n'')
          rw [nbI_some] at f1
          refine ⟨(nbI (bmx P L (i + 1)), bml P L (i + 1), nI (i + 1), xset s'' 3 (upd (upd (s''.1 3) i (nI 0)) b (nI 3))), ?_, rfl, rfl, rfl, KR3 k'' rr⟩
          unfold F_X9_layOf_L17_J54
          simp (disch := omega) only [↓Lm1, L0, L1, L2, L3, L4, L5, L6, L7, L8, L9, L10, L11, L12, L13, L14, L15, L16, L17, L18, L19, L20, L27, L30, L31, L35, L36, L37, L38, L39, L40, L41, L46, L48, L51, L57, L59, L60, L82, L98, L99, L100, L102, L104, L107, L110, L119, L144, L240, L255, L256, L360, L999, L1000000, nI_val, n_lt_t, n_lt_f, n_le_t, n_le_f, n_eq_t, n_eq_f, k_le_f, m_lt_t, m_lt_f, m_le_t, m_le_f, m_eq_f, m_eq_f', nI_add, nI_mulE, nI_subE, if_true, if_false, ite_true, ite_false, or_false, false_or, or_true, true_or, or_self, and_true, true_and, and_false, false_and, not_true_eq_false, not_false_eq_true, Option.bind_some, Sum.elim_inl, Sum.elim_inr, xu_set, xset_same, xset_ne, xset_2, xset_set, upd_same, upd_ne, nbI_some, ne_eq, reduceCtorEq, reduceIte, Nat.reduceAdd, Nat.reduceMul, Nat.reduceSub, Nat.add_zero, Nat.zero_add, Nat.mul_zero, Nat.zero_mul, h03, e3', e'', f1]
      · have pP : ¬ P i = true := by rw [hPe]; exact fun q => p (of_decide_eq_true q)
        have z := bmx_n (L := L) pP
        have z2 : bml P L (i + 1) = bml P L i := by unfold bml; rw [z]
        refine ⟨(nbI (bmx P L i), bml P L i, nI (i + 1), s'), ?_, by rw [z], z2.symm, rfl, h4⟩
        unfold F_X9_layOf_L17
        simp (disch := omega) only [↓Lm1, L0, L1, L2, L3, L4, L5, L6, L7, L8, L9, L10, L11, L12, L13, L14, L15, L16, L17, L18, L19, L20, L27, L30, L31, L35, L36, L37, L38, L39, L40, L41, L46, L48, L51, L57, L59, L60, L82, L98, L99, L100, L102, L104, L107, L110, L119, L144, L240, L255, L256, L360, L999, L1000000, nI_val, n_lt_t, n_lt_f, n_le_t, n_le_f, n_eq_t, n_eq_f, k_le_f, m_lt_t, m_lt_f, m_le_t, m_le_f, m_eq_f, m_eq_f', nI_add, nI_mulE, nI_subE, if_true, if_false, ite_true, ite_false, or_false, false_or, or_true, true_or, or_self, and_true, true_and, and_false, false_and, not_true_eq_false, not_false_eq_true, Option.bind_some, Sum.elim_inl, Sum.elim_inr, xu_set, xset_same, xset_ne, xset_2, xset_set, upd_same, upd_ne, nbI_some, ne_eq, reduceCtorEq, reduceIte, Nat.reduceAdd, Nat.reduceMul, Nat.reduceSub, Nat.add_zero, Nat.zero_add, Nat.mul_zero, Nat.zero_mul, h03, e3, p]
    · intro a ⟨h1, h2, h3, h4⟩
      obtain ⟨a1, a2, a3, s'⟩ := a
      dsimp only at h1 h2 h3 h4
      subst h1; subst h2; subst h3
      have h03 : s'.1 0 3 = nI (twn u0 n0).1 := by rw [h4.2 3 (by decide)]; exact hT.2.1
      refine ⟨(nbI (bmx P L (twn u0 n0).1), bml P L (twn u0 n0).1, s'), ?_, rfl, rfl, h4⟩
      unfold F_X9_layOf_L17
      simp (disch := omega) only [↓Lm1, L0, L1, L2, L3, L4, L5, L6, L7, L8, L9, L10, L11, L12, L13, L14, L15, L16, L17, L18, L19, L20, L27, L30, L31, L35, L36, L37, L38, L39, L40, L41, L46, L48, L51, L57, L59, L60, L82, L98, L99, L100, L102, L104, L107, L110, L119, L144, L240, L255, L256, L360, L999, L1000000, nI_val, n_lt_t, n_lt_f, n_le_t, n_le_f, n_eq_t, n_eq_f, k_le_f, m_lt_t, m_lt_f, m_le_t, m_le_f, m_eq_f, m_eq_f', nI_add, nI_mulE, nI_subE, if_true, if_false, ite_true, ite_false, or_false, false_or, or_true, true_or, or_self, and_true, true_and, and_false, false_and, not_true_eq_false, not_false_eq_true, Option.bind_some, Sum.elim_inl, Sum.elim_inr, xu_set, xset_same, xset_ne, xset_2, xset_set, upd_same, upd_ne, nbI_some, ne_eq, reduceCtorEq, reduceIte, Nat.reduceAdd, Nat.reduceMul, Nat.reduceSub, Nat.add_zero, Nat.zero_add, Nat.mul_zero, Nat.zero_mul, h03]
  obtain ⟨b, ek, hb1, hb2, hb3⟩ := key
  refine ⟨b.2.2, ?_, rt.keep (hb3.wide (by decide) (by decide))⟩
  unfold F_X9_layOf lyv
  rw [← hLe, ← hPe]
  rcases two_cases hw with rfl | rfl
  · simp (disch := omega) only [↓Lm1, L0, L1, L2, L3, L4, L5, L6, L7, L8, L9, L10, L11, L12, L13, L14, L15, L16, L17, L18, L19, L20, L27, L30, L31, L35, L36, L37, L38, L39, L40, L41, L46, L48, L51, L57, L59, L60, L82, L98, L99, L100, L102, L104, L107, L110, L119, L144, L240, L255, L256, L360, L999, L1000000, nI_val, n_lt_t, n_lt_f, n_le_t, n_le_f, n_eq_t, n_eq_f, k_le_f, m_lt_t, m_lt_f, m_le_t, m_le_f, m_eq_f, m_eq_f', nI_add, nI_mulE, nI_subE, if_true, if_false, ite_true, ite_false, or_false, false_or, or_true, true_or, or_self, and_true, true_and, and_false, false_and, not_true_eq_false, not_false_eq_true, Option.bind_some, Sum.elim_inl, Sum.elim_inr, xu_set, xset_same, xset_ne, xset_2, xset_set, upd_same, upd_ne, nbI_some, ne_eq, reduceCtorEq, reduceIte, Nat.reduceAdd, Nat.reduceMul, Nat.reduceSub, Nat.add_zero, Nat.zero_add, Nat.mul_zero, Nat.zero_mul, e4, eb, ek, hb1]
  · cases q : bmx P L (twn u0 n0).1 with
    | none =>
      have hb2' : b.2.1 = nbI none := by rw [hb2]; unfold bml; rw [q]
      simp (disch := omega) only [↓Lm1, L0, L1, L2, L3, L4, L5, L6, L7, L8, L9, L10, L11, L12, L13, L14, L15, L16, L17, L18, L19, L20, L27, L30, L31, L35, L36, L37, L38, L39, L40, L41, L46, L48, L51, L57, L59, L60, L82, L98, L99, L100, L102, L104, L107, L110, L119, L144, L240, L255, L256, L360, L999, L1000000, nI_val, n_lt_t, n_lt_f, n_le_t, n_le_f, n_eq_t, n_eq_f, k_le_f, m_lt_t, m_lt_f, m_le_t, m_le_f, m_eq_f, m_eq_f', nI_add, nI_mulE, nI_subE, if_true, if_false, ite_true, ite_false, or_false, false_or, or_true, true_or, or_self, and_true, true_and, and_false, false_and, not_true_eq_false, not_false_eq_true, Option.bind_some, Sum.elim_inl, Sum.elim_inr, xu_set, xset_same, xset_ne, xset_2, xset_set, upd_same, upd_ne, nbI_some, ne_eq, reduceCtorEq, reduceIte, Nat.reduceAdd, Nat.reduceMul, Nat.reduceSub, Nat.add_zero, Nat.zero_add, Nat.mul_zero, Nat.zero_mul, e4, eb, ek, hb2']
    | some c =>
      have hb2' : b.2.1 = nI (L c) := by rw [hb2]; unfold bml; rw [q]
      have := hL c
      by_cases z : L c = 10
      · simp (disch := omega) only [↓Lm1, L0, L1, L2, L3, L4, L5, L6, L7, L8, L9, L10, L11, L12, L13, L14, L15, L16, L17, L18, L19, L20, L27, L30, L31, L35, L36, L37, L38, L39, L40, L41, L46, L48, L51, L57, L59, L60, L82, L98, L99, L100, L102, L104, L107, L110, L119, L144, L240, L255, L256, L360, L999, L1000000, nI_val, n_lt_t, n_lt_f, n_le_t, n_le_f, n_eq_t, n_eq_f, k_le_f, m_lt_t, m_lt_f, m_le_t, m_le_f, m_eq_f, m_eq_f', nI_add, nI_mulE, nI_subE, if_true, if_false, ite_true, ite_false, or_false, false_or, or_true, true_or, or_self, and_true, true_and, and_false, false_and, not_true_eq_false, not_false_eq_true, Option.bind_some, Sum.elim_inl, Sum.elim_inr, xu_set, xset_same, xset_ne, xset_2, xset_set, upd_same, upd_ne, nbI_some, ne_eq, reduceCtorEq, reduceIte, Nat.reduceAdd, Nat.reduceMul, Nat.reduceSub, Nat.add_zero, Nat.zero_add, Nat.mul_zero, Nat.zero_mul, e4, eb, ek, hb2', z]
      · simp (disch := omega) only [↓Lm1, L0, L1, L2, L3, L4, L5, L6, L7, L8, L9, L10, L11, L12, L13, L14, L15, L16, L17, L18, L19, L20, L27, L30, L31, L35, L36, L37, L38, L39, L40, L41, L46, L48, L51, L57, L59, L60, L82, L98, L99, L100, L102, L104, L107, L110, L119, L144, L240, L255, L256, L360, L999, L1000000, nI_val, n_lt_t, n_lt_f, n_le_t, n_le_f, n_eq_t, n_eq_f, k_le_f, m_lt_t, m_lt_f, m_le_t, m_le_f, m_eq_f, m_eq_f', nI_add, nI_mulE, nI_subE, if_true, if_false, ite_true, ite_false, or_false, false_or, or_true, true_or, or_self, and_true, true_and, and_false, false_and, not_true_eq_false, not_false_eq_true, Option.bind_some, Sum.elim_inl, Sum.elim_inr, xu_set, xset_same, xset_ne, xset_2, xset_set, upd_same, upd_ne, nbI_some, ne_eq, reduceCtorEq, reduceIte, Nat.reduceAdd, Nat.reduceMul, Nat.reduceSub, Nat.add_zero, Nat.zero_add, Nat.mul_zero, Nat.zero_mul, e4, eb, ek, hb2', z]
theorem c_lay : lh_lay Inv := by
  intro x s1 s2 hI
  have hI0 := hI
  obtain ⟨u0, n0, u1, n1, l, e, hA⟩ := hI
  rcases arg_cases x 2 with ⟨w, hw, rfl⟩ | hno
  · obtain ⟨s', e', rt⟩ := m_lay hA.iM.1 hw
    obtain ⟨t, et, kt⟩ := q_lay hA.iF hw
    refine ⟨_, t, s', et, ?_, hA.mk2 (hA.iF.keep kt) kt.kf rt.1⟩
    unfold F_X9_lay
    simp (disch := omega) only [↓Lm1, L0, L1, L2, L3, L4, L5, L6, L7, L8, L9, L10, L11, L12, L13, L14, L15, L16, L17, L18, L19, L20, L27, L30, L31, L35, L36, L37, L38, L39, L40, L41, L46, L48, L51, L57, L59, L60, L82, L98, L99, L100, L102, L104, L107, L110, L119, L144, L240, L255, L256, L360, L999, L1000000, nI_val, n_lt_t, n_lt_f, n_le_t, n_le_f, n_eq_t, n_eq_f, k_le_f, m_lt_t, m_lt_f, m_le_t, m_le_f, m_eq_f, m_eq_f', nI_add, nI_mulE, nI_subE, if_true, if_false, ite_true, ite_false, or_false, false_or, or_true, true_or, or_self, and_true, true_and, and_false, false_and, not_true_eq_false, not_false_eq_true, Option.bind_some, Sum.elim_inl, Sum.elim_inr, xu_set, xset_same, xset_ne, xset_2, xset_set, upd_same, upd_ne, nbI_some, ne_eq, reduceCtorEq, reduceIte, Nat.reduceAdd, Nat.reduceMul, Nat.reduceSub, Nat.add_zero, Nat.zero_add, Nat.mul_zero, Nat.zero_mul, inM_t, e']
  · refine ⟨-2, s1, s2, ?_, ?_, hI0⟩
    · unfold F_X8_lay
      simp (disch := omega) only [↓Lm1, L0, L1, L2, L3, L4, L5, L6, L7, L8, L9, L10, L11, L12, L13, L14, L15, L16, L17, L18, L19, L20, L27, L30, L31, L35, L36, L37, L38, L39, L40, L41, L46, L48, L51, L57, L59, L60, L82, L98, L99, L100, L102, L104, L107, L110, L119, L144, L240, L255, L256, L360, L999, L1000000, nI_val, n_lt_t, n_lt_f, n_le_t, n_le_f, n_eq_t, n_eq_f, k_le_f, m_lt_t, m_lt_f, m_le_t, m_le_f, m_eq_f, m_eq_f', nI_add, nI_mulE, nI_subE, if_true, if_false, ite_true, ite_false, or_false, false_or, or_true, true_or, or_self, and_true, true_and, and_false, false_and, not_true_eq_false, not_false_eq_true, Option.bind_some, Sum.elim_inl, Sum.elim_inr, xu_set, xset_same, xset_ne, xset_2, xset_set, upd_same, upd_ne, nbI_some, ne_eq, reduceCtorEq, reduceIte, Nat.reduceAdd, Nat.reduceMul, Nat.reduceSub, Nat.add_zero, Nat.zero_add, Nat.mul_zero, Nat.zero_mul, out_no (x := x) (n := 2) (by omega) hno]
    · unfold F_X9_lay
      simp (disch := omega) only [↓Lm1, L0, L1, L2, L3, L4, L5, L6, L7, L8, L9, L10, L11, L12, L13, L14, L15, L16, L17, L18, L19, L20, L27, L30, L31, L35, L36, L37, L38, L39, L40, L41, L46, L48, L51, L57, L59, L60, L82, L98, L99, L100, L102, L104, L107, L110, L119, L144, L240, L255, L256, L360, L999, L1000000, nI_val, n_lt_t, n_lt_f, n_le_t, n_le_f, n_eq_t, n_eq_f, k_le_f, m_lt_t, m_lt_f, m_le_t, m_le_f, m_eq_f, m_eq_f', nI_add, nI_mulE, nI_subE, if_true, if_false, ite_true, ite_false, or_false, false_or, or_true, true_or, or_self, and_true, true_and, and_false, false_and, not_true_eq_false, not_false_eq_true, Option.bind_some, Sum.elim_inl, Sum.elim_inr, xu_set, xset_same, xset_ne, xset_2, xset_set, upd_same, upd_ne, nbI_some, ne_eq, reduceCtorEq, reduceIte, Nat.reduceAdd, Nat.reduceMul, Nat.reduceSub, Nat.add_zero, Nat.zero_add, Nat.mul_zero, Nat.zero_mul, inM_no (x := x) (n := 1) (by omega) hno]
end SPEC
