/-! ===== hour, what, never ===== -/
def lat (w : Option Nat) : Nat := match w with
  | none => 10
  | some h => h
theorem lat_le {w : Option Nat} (h : ∀ x, w = some x → x < 10) : lat w ≤ 10 := by
  cases w with
  | none => exact Nat.le_refl _
  | some x => have := h x rfl; show x ≤ 10; omega
def amx (L : Nat → Nat) : Nat → Nat
  | 0 => 0
  | n + 1 => if L (n + 1) ≤ L (amx L n) then amx L n else n + 1
theorem amx_s (L : Nat → Nat) (n : Nat) : amx L (n + 1) = if L (n + 1) ≤ L (amx L n) then amx L n else n + 1 := rfl
theorem amx_le (L : Nat → Nat) : ∀ n, amx L n ≤ n
  | 0 => Nat.le_refl _
  | n + 1 => by
    have := amx_le L n
    rw [amx_s]
    split <;> omega
def ab (z : Int32) (L : Nat → Nat) : Nat → Int32
  | 0 => z
  | n + 1 => nI (amx L n)
def al (L : Nat → Nat) : Nat → Int32
  | 0 => nbI none
  | n + 1 => nI (L (amx L n))
theorem latF {s : xS} {w : Option Nat} (h : s.1 34 5 = nbI w) (hw : ∀ x, w = some x → x < 10) : F_X3_lateness s = some (nI (lat w)) := by
  unfold F_X3_lateness
  cases w with
  | none => simp (disch := omega) only [↓Lm1, L0, L1, L2, L3, L4, L5, L6, L7, L8, L9, L10, L11, L12, L13, L14, L15, L16, L17, L18, L19, L20, L27, L30, L31, L35, L36, L37, L38, L39, L40, L41, L46, L48, L51, L57, L59, L60, L82, L98, L99, L100, L102, L104, L107, L110, L119, L144, L240, L255, L256, L360, L999, L1000000, nI_val, n_lt_t, n_lt_f, n_le_t, n_le_f, n_eq_t, n_eq_f, k_le_f, m_lt_t, m_lt_f, m_le_t, m_le_f, m_eq_f, m_eq_f', nI_add, nI_mulE, nI_subE, if_true, if_false, ite_true, ite_false, or_false, false_or, or_true, true_or, or_self, and_true, true_and, and_false, false_and, not_true_eq_false, not_false_eq_true, Option.bind_some, Sum.elim_inl, Sum.elim_inr, xu_set, xset_same, xset_ne, xset_2, xset_set, upd_same, upd_ne, nbI_some, ne_eq, reduceCtorEq, reduceIte, Nat.reduceAdd, Nat.reduceMul, Nat.reduceSub, Nat.add_zero, Nat.zero_add, Nat.mul_zero, Nat.zero_mul, h, lat]
  | some x =>
    have := hw x rfl
    simp (disch := omega) only [↓Lm1, L0, L1, L2, L3, L4, L5, L6, L7, L8, L9, L10, L11, L12, L13, L14, L15, L16, L17, L18, L19, L20, L27, L30, L31, L35, L36, L37, L38, L39, L40, L41, L46, L48, L51, L57, L59, L60, L82, L98, L99, L100, L102, L104, L107, L110, L119, L144, L240, L255, L256, L360, L999, L1000000, nI_val, n_lt_t, n_lt_f, n_le_t, n_le_f, n_eq_t, n_eq_f, k_le_f, m_lt_t, m_lt_f, m_le_t, m_le_f, m_eq_f, m_eq_f', nI_add, nI_mulE, nI_subE, if_true, if_false, ite_true, ite_false, or_false, false_or, or_true, true_or, or_self, and_true, true_and, and_false, false_and, not_true_eq_false, not_false_eq_true, Option.bind_some, Sum.elim_inl, Sum.elim_inr, xu_set, xset_same, xset_ne, xset_2, xset_set, upd_same, upd_ne, nbI_some, ne_eq, reduceCtorEq, reduceIte, Nat.reduceAdd, Nat.reduceMul, Nat.reduceSub, Nat.add_zero, Nat.zero_add, Nat.mul_zero, Nat.zero_mul, h, lat]
/-- a try more is held against the best -/
theorem ab_t {z : Int32} {L : Nat → Nat} {i : Nat} (hL : ∀ j, L j ≤ 10) (h : nI (L i) ≤ al L i) : ab z L (i + 1) = ab z L i ∧ al L (i + 1) = al L i := by
  cases i with
  | zero =>
    have := hL 0
    have q : (nI (L 0) ≤ nbI none) = False := m_le_f (by omega)
    exact absurd h (by show ¬ nI (L 0) ≤ nbI none; rw [q]; exact id)
  | succ n =>
    have h1 := hL (n + 1)
    have h2 := hL (amx L n)
    have h' : nI (L (n + 1)) ≤ nI (L (amx L n)) := h
    rw [nI_leE (by omega) (by omega)] at h'
    show nI (amx L (n + 1)) = nI (amx L n) ∧ nI (L (amx L (n + 1))) = nI (L (amx L n))
    rw [amx_s, if_pos h']
    exact ⟨rfl, rfl⟩
theorem ab_f {z : Int32} {L : Nat → Nat} {i : Nat} (hL : ∀ j, L j ≤ 10) (h : ¬ nI (L i) ≤ al L i) : ab z L (i + 1) = nI i ∧ al L (i + 1) = nI (L i) := by
  cases i with
  | zero => exact ⟨rfl, rfl⟩
  | succ n =>
    have h1 := hL (n + 1)
    have h2 := hL (amx L n)
    have h' : ¬ nI (L (n + 1)) ≤ nI (L (amx L n)) := h
    rw [nI_leE (by omega) (by omega)] at h'
    show nI (amx L (n + 1)) = nI (n + 1) ∧ nI (L (amx L (n + 1))) = nI (L (n + 1))
    rw [amx_s, if_neg h']
    exact ⟨rfl, rfl⟩
section SPEC
variable {u0 : Nat → Nat} {n0 : Nat} {u1 : Nat → Nat} {n1 : Nat} {l : LD} {e : ED} {s s4 a : xS}
noncomputable def hrL (u0 : Nat → Nat) (n0 : Nat) (u1 : Nat → Nat) (n1 : Nat) (l : LD) (k h : Nat) : Nat := lat (ngt (twn u0 n0).1 (ls0 u0 n0) (dup (ddat u1 n1) 6 k h) all_ l).1
theorem hrL_le (hl : LwOk l) (k h : Nat) : hrL u0 n0 u1 n1 l k h ≤ 10 := lat_le (fun x q => ngt_wk hl q)
noncomputable def hrv (u0 : Nat → Nat) (n0 : Nat) (u1 : Nat → Nat) (n1 : Nat) (l : LD) (k w : Nat) : Int32 := if w = 0 then nI (amx (hrL u0 n0 u1 n1 l k) 9) else if hrL u0 n0 u1 n1 l k (amx (hrL u0 n0 u1 n1 l k) 9) = 10 then nbI none else nI (hrL u0 n0 u1 n1 l k (amx (hrL u0 n0 u1 n1 l k) 9))
theorem lateF {k h : Nat} (hI : IF u0 n0 u1 n1 l e s) (hk : k < (ddat u1 n1).1) (hh : h < 10) : ∃ s', F_X8_latenessAt (nI k) (nI h) s = some (nI (hrL u0 n0 u1 n1 l k h), s') ∧ Kp 27 40 s s' := by
  have hok := dd_ok (u := u1) hI.1.1.2.1
  have hl := hI.1.2.2.2.1
  obtain ⟨s2, e2, k2, d2⟩ := takeF hok hI.1.2.2.1.1
  have hI2 := hI.keep (k2.wide (Nat.le_refl 27) (by omega))
  obtain ⟨s', e', u', n'⟩ := passU (p := 6) (k := k) (v := h) (Or.inr (Or.inr rfl)) hI2 d2 (UF.refl 6 k s2) (fun q => by cases q) (fun q => by cases q) (fun _ => by omega)
  have e'' : F_X3_pass 34 27 19 (nI 255) (xset s2 30 (upd (s2.1 30) k (nI h))) = some s' := e'
  have el := latF n'.1 (fun x q => ngt_wk hl q)
  have h8 := hok.1
  refine ⟨s', ?_, (k2.wide (Nat.le_refl 27) (by omega)).trans u'.1⟩
  unfold F_X8_latenessAt
  simp (disch := omega) only [↓Lm1, L0, L1, L2, L3, L4, L5, L6, L7, L8, L9, L10, L11, L12, L13, L14, L15, L16, L17, L18, L19, L20, L27, L30, L31, L35, L36, L37, L38, L39, L40, L41, L46, L48, L51, L57, L59, L60, L82, L98, L99, L100, L102, L104, L107, L110, L119, L144, L240, L255, L256, L360, L999, L1000000, nI_val, n_lt_t, n_lt_f, n_le_t, n_le_f, n_eq_t, n_eq_f, k_le_f, m_lt_t, m_lt_f, m_le_t, m_le_f, m_eq_f, m_eq_f', nI_add, nI_mulE, nI_subE, if_true, if_false, ite_true, ite_false, or_false, false_or, or_true, true_or, or_self, and_true, true_and, and_false, false_and, not_true_eq_false, not_false_eq_true, Option.bind_some, Sum.elim_inl, Sum.elim_inr, xu_set, xset_same, xset_ne, xset_2, xset_set, upd_same, upd_ne, nbI_some, ne_eq, reduceCtorEq, reduceIte, Nat.reduceAdd, Nat.reduceMul, Nat.reduceSub, Nat.add_zero, Nat.zero_add, Nat.mul_zero, Nat.zero_mul, e2, e'', el]
  rfl
theorem q_hour {k w : Nat} (hI : IF u0 n0 u1 n1 l e s) (hk : k < (ddat u1 n1).1) (hw : w < 2) : ∃ s', F_X8_hour (nI k) (nI w) s = some (hrv u0 n0 u1 n1 l k w, s') ∧ Kp 27 40 s s' := by
  have h8 := (dd_ok (u := u1) hI.1.1.2.1).1
  have hl := hI.1.2.2.2.1
  have hD := hI.1.2.2.1.1
  have hL := hrL_le (u0 := u0) (n0 := n0) (u1 := u1) (n1 := n1) hl k
  obtain ⟨L, hLe⟩ : ∃ L : Nat → Nat, L = hrL u0 n0 u1 n1 l k := ⟨_, rfl⟩
  rw [← hLe] at hL
  have lt : ∀ {s : xS} {h : Nat}, IF u0 n0 u1 n1 l e s → h < 10 → ∃ s', F_X8_latenessAt (nI k) (nI h) s = some (nI (L h), s') ∧ Kp 27 40 s s' := fun hI hh => by rw [hLe]; exact lateF hI hk hh
  have key : ∃ b, xlp (F_X8_bestHourOf_L7 (nI k)) 100000 (nI 0, nbI none, nI 0, s) = some b ∧ b.1 = nI (amx L 9) ∧ Kp 27 40 s b.2 := by
    refine xlp_cnt (f := F_X8_bestHourOf_L7 (nI k)) (fun i a => a.1 = ab (nI 0) L i ∧ a.2.1 = al L i ∧ a.2.2.1 = nI i ∧ Kp 27 40 s a.2.2.2) (fun b => b.1 = nI (amx L 9) ∧ Kp 27 40 s b.2) 10 (by omega) ?_ ?_ (a := (nI 0, nbI none, nI 0, s)) ⟨rfl, rfl, rfl, Kp.refl _ _ _⟩
    · intro i a hi ⟨h1, h2, h3, h4⟩
      obtain ⟨a1, a2, a3, s'⟩ := a
      dsimp only at h1 h2 h3 h4
      subst h1; subst h2; subst h3
      obtain ⟨s'', e'', k''⟩ := lt (hI.keep h4) hi
      left
      unfold F_X8_bestHourOf_L7
      by_cases c : nI (L i) ≤ al L i
      · obtain ⟨z1, z2⟩ := ab_t (z := nI 0) hL c
        have c' := eq_true c
        refine ⟨(ab (nI 0) L i, al L i, nI (i + 1), s''), ?_, z1.symm, z2.symm, rfl, h4.trans k''⟩
        simp (disch := omega) only [↓Lm1, L0, L1, L2, L3, L4, L5, L6, L7, L8, L9, L10, L11, L12, L13, L14, L15, L16, L17, L18, L19, L20, L27, L30, L31, L35, L36, L37, L38, L39, L40, L41, L46, L48, L51, L57, L59, L60, L82, L98, L99, L100, L102, L104, L107, L110, L119, L144, L240, L255, L256, L360, L999, L1000000, nI_val, n_lt_t, n_lt_f, n_le_t, n_le_f, n_eq_t, n_eq_f, k_le_f, m_lt_t, m_lt_f, m_le_t, m_le_f, m_eq_f, m_eq_f', nI_add, nI_mulE, nI_subE, if_true, if_false, ite_true, ite_false, or_false, false_or, or_true, true_or, or_self, and_true, true_and, and_false, false_and, not_true_eq_false, not_false_eq_true, Option.bind_some, Sum.elim_inl, Sum.elim_inr, xu_set, xset_same, xset_ne, xset_2, xset_set, upd_same, upd_ne, nbI_some, ne_eq, reduceCtorEq, reduceIte, Nat.reduceAdd, Nat.reduceMul, Nat.reduceSub, Nat.add_zero, Nat.zero_add, Nat.mul_zero, Nat.zero_mul, e'', c']
      · obtain ⟨z1, z2⟩ := ab_f (z := nI 0) hL c
        have c' := eq_false c
        refine ⟨(nI i, nI (L i), nI (i + 1), s''), ?_, z1.symm, z2.symm, rfl, h4.trans k''⟩
        simp (disch := omega) only [↓Lm1, L0, L1, L2, L3, L4, L5, L6, L7, L8, L9, L10, L11, L12, L13, L14, L15, L16, L17, L18, L19, L20, L27, L30, L31, L35, L36, L37, L38, L39, L40, L41, L46, L48, L51, L57, L59, L60, L82, L98, L99, L100, L102, L104, L107, L110, L119, L144, L240, L255, L256, L360, L999, L1000000, nI_val, n_lt_t, n_lt_f, n_le_t, n_le_f, n_eq_t, n_eq_f, k_le_f, m_lt_t, m_lt_f, m_le_t, m_le_f, m_eq_f, m_eq_f', nI_add, nI_mulE, nI_subE, if_true, if_false, ite_true, ite_false, or_false, false_or, or_true, true_or, or_self, and_true, true_and, and_false, false_and, not_true_eq_false, not_false_eq_true, Option.bind_some, Sum.elim_inl, Sum.elim_inr, xu_set, xset_same, xset_ne, xset_2, xset_set, upd_same, upd_ne, nbI_some, ne_eq, reduceCtorEq, reduceIte, Nat.reduceAdd, Nat.reduceMul, Nat.reduceSub, Nat.add_zero, Nat.zero_add, Nat.mul_zero, Nat.zero_mul, e'', c']
    · intro a ⟨h1, h2, h3, h4⟩
      obtain ⟨a1, a2, a3, s'⟩ := a
      dsimp only at h1 h2 h3 h4
      subst h1; subst h2; subst h3
      refine ⟨(nI (amx L 9), s'), ?_, rfl, h4⟩
      unfold F_X8_bestHourOf_L7
      simp (disch := omega) only [↓Lm1, L0, L1, L2, L3, L4, L5, L6, L7, L8, L9, L10, L11, L12, L13, L14, L15, L16, L17, L18, L19, L20, L27, L30, L31, L35, L36, L37, L38, L39, L40, L41, L46, L48, L51, L57, L59, L60, L82, L98, L99, L100, L102, L104, L107, L110, L119, L144, L240, L255, L256, L360, L999, L1000000, nI_val, n_lt_t, n_lt_f, n_le_t, n_le_f, n_eq_t, n_eq_f, k_le_f, m_lt_t, m_lt_f, m_le_t, m_le_f, m_eq_f, m_eq_f', nI_add, nI_mulE, nI_subE, if_true, if_false, ite_true, ite_false, or_false, false_or, or_true, true_or, or_self, and_true, true_and, and_false, false_and, not_true_eq_false, not_false_eq_true, Option.bind_some, Sum.elim_inl, Sum.elim_inr, xu_set, xset_same, xset_ne, xset_2, xset_set, upd_same, upd_ne, nbI_some, ne_eq, reduceCtorEq, reduceIte, Nat.reduceAdd, Nat.reduceMul, Nat.reduceSub, Nat.add_zero, Nat.zero_add, Nat.mul_zero, Nat.zero_mul]
      rfl
  obtain ⟨b, eb, hb1, hb2⟩ := key
  have am := amx_le L 9
  obtain ⟨s'', e'', k''⟩ := lt (hI.keep hb2) (show amx L 9 < 10 by omega)
  unfold F_X8_hour F_X8_bestHourOf hrv
  rw [← hLe]
  rcases two_cases hw with rfl | rfl
  · refine ⟨b.2, ?_, hb2⟩
    simp (disch := omega) only [↓Lm1, L0, L1, L2, L3, L4, L5, L6, L7, L8, L9, L10, L11, L12, L13, L14, L15, L16, L17, L18, L19, L20, L27, L30, L31, L35, L36, L37, L38, L39, L40, L41, L46, L48, L51, L57, L59, L60, L82, L98, L99, L100, L102, L104, L107, L110, L119, L144, L240, L255, L256, L360, L999, L1000000, nI_val, n_lt_t, n_lt_f, n_le_t, n_le_f, n_eq_t, n_eq_f, k_le_f, m_lt_t, m_lt_f, m_le_t, m_le_f, m_eq_f, m_eq_f', nI_add, nI_mulE, nI_subE, if_true, if_false, ite_true, ite_false, or_false, false_or, or_true, true_or, or_self, and_true, true_and, and_false, false_and, not_true_eq_false, not_false_eq_true, Option.bind_some, Sum.elim_inl, Sum.elim_inr, xu_set, xset_same, xset_ne, xset_2, xset_set, upd_same, upd_ne, nbI_some, ne_eq, reduceCtorEq, reduceIte, Nat.reduceAdd, Nat.reduceMul, Nat.reduceSub, Nat.add_zero, Nat.zero_add, Nat.mul_zero, Nat.zero_mul, noDeedF_t hD.1 h8 hk, out_in, eb, hb1]
  · refine ⟨s'', ?_, hb2.trans k''⟩
    have := hL (amx L 9)
    unfold F_X8_asHour
    by_cases c : L (amx L 9) = 10
    · simp (disch := omega) only [↓Lm1, L0, L1, L2, L3, L4, L5, L6, L7, L8, L9, L10, L11, L12, L13, L14, L15, L16, L17, L18, L19, L20, L27, L30, L31, L35, L36, L37, L38, L39, L40, L41, L46, L48, L51, L57, L59, L60, L82, L98, L99, L100, L102, L104, L107, L110, L119, L144, L240, L255, L256, L360, L999, L1000000, nI_val, n_lt_t, n_lt_f, n_le_t, n_le_f, n_eq_t, n_eq_f, k_le_f, m_lt_t, m_lt_f, m_le_t, m_le_f, m_eq_f, m_eq_f', nI_add, nI_mulE, nI_subE, if_true, if_false, ite_true, ite_false, or_false, false_or, or_true, true_or, or_self, and_true, true_and, and_false, false_and, not_true_eq_false, not_false_eq_true, Option.bind_some, Sum.elim_inl, Sum.elim_inr, xu_set, xset_same, xset_ne, xset_2, xset_set, upd_same, upd_ne, nbI_some, ne_eq, reduceCtorEq, reduceIte, Nat.reduceAdd, Nat.reduceMul, Nat.reduceSub, Nat.add_zero, Nat.zero_add, Nat.mul_zero, Nat.zero_mul, noDeedF_t hD.1 h8 hk, out_in, eb, hb1, e'', c]
    · simp (disch := omega) only [↓Lm1, L0, L1, L2, L3, L4, L5, L6, L7, L8, L9, L10, L11, L12, L13, L14, L15, L16, L17, L18, L19, L20, L27, L30, L31, L35, L36, L37, L38, L39, L40, L41, L46, L48, L51, L57, L59, L60, L82, L98, L99, L100, L102, L104, L107, L110, L119, L144, L240, L255, L256, L360, L999, L1000000, nI_val, n_lt_t, n_lt_f, n_le_t, n_le_f, n_eq_t, n_eq_f, k_le_f, m_lt_t, m_lt_f, m_le_t, m_le_f, m_eq_f, m_eq_f', nI_add, nI_mulE, nI_subE, if_true, if_false, ite_true, ite_false, or_false, false_or, or_true, true_or, or_self, and_true, true_and, and_false, false_and, not_true_eq_false, not_false_eq_true, Option.bind_some, Sum.elim_inl, Sum.elim_inr, xu_set, xset_same, xset_ne, xset_2, xset_set, upd_same, upd_ne, nbI_some, ne_eq, reduceCtorEq, reduceIte, Nat.reduceAdd, Nat.reduceMul, Nat.reduceSub, Nat.add_zero, Nat.zero_add, Nat.mul_zero, Nat.zero_mul, noDeedF_t hD.1 h8 hk, out_in, eb, hb1, e'', c]
theorem m_hour {k w : Nat} (h : BM u0 n0 u1 n1 l s) (hk : k < (ddat u1 n1).1) (hw : w < 2) : ∃ s', F_X9_hourOf (nI k) (nI w) s = some (hrv u0 n0 u1 n1 l k w, s') ∧ RT u0 n0 u1 n1 l s s' := by
  have h8 := (dd_ok (u := u1) h.2.1).1
  have hl := h.2.2.2.2.2.2.1
  have hL := hrL_le (u0 := u0) (n0 := n0) (u1 := u1) (n1 := n1) hl k
  obtain ⟨L, hLe⟩ : ∃ L : Nat → Nat, L = hrL u0 n0 u1 n1 l k := ⟨_, rfl⟩
  rw [← hLe] at hL
  obtain ⟨s2, s4, e2, e4, lt⟩ := laysT h
  have key : ∃ b, xlp (F_X9_hourOf_L24 (nI k) (nI w) (s4.1 6 k)) 100000 (nbI none, nbI none, nI 0, s4) = some b ∧ b.1 = nI (amx L 9) ∧ b.2.1 = nI (L (amx L 9)) ∧ UK 6 k s4 b.2.2 := by
    refine xlp_cnt (f := F_X9_hourOf_L24 (nI k) (nI w) (s4.1 6 k)) (fun i a => a.1 = ab (nbI none) L i ∧ a.2.1 = al L i ∧ a.2.2.1 = nI i ∧ UK 6 k s4 a.2.2.2) (fun b => b.1 = nI (amx L 9) ∧ b.2.1 = nI (L (amx L 9)) ∧ UK 6 k s4 b.2.2) 10 (by omega) ?_ ?_ (a := (nbI none, nbI none, nI 0, s4)) ⟨rfl, rfl, rfl, UK.refl _ _ _⟩
    · intro i a hi ⟨h1, h2, h3, h4⟩
      obtain ⟨a1, a2, a3, s'⟩ := a
      dsimp only at h1 h2 h3 h4
      subst h1; subst h2; subst h3
      obtain ⟨s'', e'', u'', n''⟩ := sleepU (p := 6) (v := i) (Or.inr (Or.inr rfl)) lt h4 h.2.1 (fun q => by cases q) (fun q => by cases q) (fun _ => by omega)
      have hLi : L i = lat (ngt (twn u0 n0).1 (ls0 u0 n0) (dup (ddat u1 n1) 6 k i) all_ l).1 := by rw [hLe]; rfl
      have e20 := n''.1
      left
      unfold F_X9_hourOf_L24
      have fin : (if s''.1 0 20 = nbI none then F_X9_hourOf_L24_J60 (nI k) (nI w) (s4.1 6 k) (ab (nbI none) L i) (al L i) (nI i) (nI 10) s'' else F_X9_hourOf_L24_J60 (nI k) (nI w) (s4.1 6 k) (ab (nbI none) L i) (al L i) (nI i) (s''.1 0 20) s'') = F_X9_hourOf_L24_J60 (nI k) (nI w) (s4.1 6 k) (ab (nbI none) L i) (al L i) (nI i) (nI (L i)) s'' := by
        rw [e20, hLi]
        cases q : (ngt (twn u0 n0).1 (ls0 u0 n0) (dup (ddat u1 n1) 6 k i) all_ l).1 with
        | none => rw [if_pos rfl]; rfl
        | some x =>
          have := ngt_wk hl q
          rw [if_neg (by rw [nbI_some, m_eq_f (by omega)]; exact id)]
          rfl
      by_cases c : nI (L i) ≤ al L i
      · obtain ⟨z1, z2⟩ := ab_t (z := nbI none) hL c
        have c' := eq_true c
        refine ⟨(ab (nbI none) L i, al L i, nI (i + 1), s''), ?_, z1.symm, z2.symm, rfl, u''⟩
        simp (disch := omega) only [↓Lm1, L0, L1, L2, L3, L4, L5, L6, L7, L8, L9, L10, L11, L12, L13, L14, L15, L16, L17, L18, L19, L20, L27, L30, L31, L35, L36, L37, L38, L39, L40, L41, L46, L48, L51, L57, L59, L60, L82, L98, L99, L100, L102, L104, L107, L110, L119, L144, L240, L255, L256, L360, L999, L1000000, nI_val, n_lt_t, n_lt_f, n_le_t, n_le_f, n_eq_t, n_eq_f, k_le_f, m_lt_t, m_lt_f, m_le_t, m_le_f, m_eq_f, m_eq_f', nI_add, nI_mulE, nI_subE, if_true, if_false, ite_true, ite_false, or_false, false_or, or_true, true_or, or_self, and_true, true_and, and_false, false_and, not_true_eq_false, not_false_eq_true, Option.bind_some, Sum.elim_inl, Sum.elim_inr, xu_set, xset_same, xset_ne, xset_2, xset_set, upd_same, upd_ne, nbI_some, ne_eq, reduceCtorEq, reduceIte, Nat.reduceAdd, Nat.reduceMul, Nat.reduceSub, Nat.add_zero, Nat.zero_add, Nat.mul_zero, Nat.zero_mul, e'']
        refine Eq.trans fin ?_
        unfold F_X9_hourOf_L24_J60
        simp (disch := omega) only [↓Lm1, L0, L1, L2, L3, L4, L5, L6, L7, L8, L9, L10, L11, L12, L13, L14, L15, L16, L17, L18, L19, L20, L27, L30, L31, L35, L36, L37, L38, L39, L40, L41, L46, L48, L51, L57, L59, L60, L82, L98, L99, L100, L102, L104, L107, L110, L119, L144, L240, L255, L256, L360, L999, L1000000, nI_val, n_lt_t, n_lt_f, n_le_t, n_le_f, n_eq_t, n_eq_f, k_le_f, m_lt_t, m_lt_f, m_le_t, m_le_f, m_eq_f, m_eq_f', nI_add, nI_mulE, nI_subE, if_true, if_false, ite_true, ite_false, or_false, false_or, or_true, true_or, or_self, and_true, true_and, and_false, false_and, not_true_eq_false, not_false_eq_true, Option.bind_some, Sum.elim_inl, Sum.elim_inr, xu_set, xset_same, xset_ne, xset_2, xset_set, upd_same, upd_ne, nbI_some, ne_eq, reduceCtorEq, reduceIte, Nat.reduceAdd, Nat.reduceMul, Nat.reduceSub, Nat.add_zero, Nat.zero_add, Nat.mul_zero, Nat.zero_mul, c']
      · obtain ⟨z1, z2⟩ := ab_f (z := nbI none) hL c
        have c' := eq_false c
        refine ⟨(nI i, nI (L i), nI (i + 1), s''), ?_, z1.symm, z2.symm, rfl, u''⟩
        simp (disch := omega) only [↓Lm1, L0, L1, L2, L3, L4, L5, L6, L7, L8, L9, L10, L11, L12, L13, L14, L15, L16, L17, L18, L19, L20, L27, L30, L31, L35, L36, L37, L38, L39, L40, L41, L46, L48, L51, L57, L59, L60, L82, L98, L99, L100, L102, L104, L107, L110, L119, L144, L240, L255, L256, L360, L999, L1000000, nI_val, n_lt_t, n_lt_f, n_le_t, n_le_f, n_eq_t, n_eq_f, k_le_f, m_lt_t, m_lt_f, m_le_t, m_le_f, m_eq_f, m_eq_f', nI_add, nI_mulE, nI_subE, if_true, if_false, ite_true, ite_false, or_false, false_or, or_true, true_or, or_self, and_true, true_and, and_false, false_and, not_true_eq_false, not_false_eq_true, Option.bind_some, Sum.elim_inl, Sum.elim_inr, xu_set, xset_same, xset_ne, xset_2, xset_set, upd_same, upd_ne, nbI_some, ne_eq, reduceCtorEq, reduceIte, Nat.reduceAdd, Nat.reduceMul, Nat.reduceSub, Nat.add_zero, Nat.zero_add, Nat.mul_zero, Nat.zero_mul, e'']
        refine Eq.trans fin ?_
        unfold F_X9_hourOf_L24_J60
        simp (disch := omega) only [↓Lm1, L0, L1, L2, L3, L4, L5, L6, L7, L8, L9, L10, L11, L12, L13, L14, L15, L16, L17, L18, L19, L20, L27, L30, L31, L35, L36, L37, L38, L39, L40, L41, L46, L48, L51, L57, L59, L60, L82, L98, L99, L100, L102, L104, L107, L110, L119, L144, L240, L255, L256, L360, L999, L1000000, nI_val, n_lt_t, n_lt_f, n_le_t, n_le_f, n_eq_t, n_eq_f, k_le_f, m_lt_t, m_lt_f, m_le_t, m_le_f, m_eq_f, m_eq_f', nI_add, nI_mulE, nI_subE, if_true, if_false, ite_true, ite_false, or_false, false_or, or_true, true_or, or_self, and_true, true_and, and_false, false_and, not_true_eq_false, not_false_eq_true, Option.bind_some, Sum.elim_inl, Sum.elim_inr, xu_set, xset_same, xset_ne, xset_2, xset_set, upd_same, upd_ne, nbI_some, ne_eq, reduceCtorEq, reduceIte, Nat.reduceAdd, Nat.reduceMul, Nat.reduceSub, Nat.add_zero, Nat.zero_add, Nat.mul_zero, Nat.zero_mul, c']
    · intro a ⟨h1, h2, h3, h4⟩
      obtain ⟨a1, a2, a3, s'⟩ := a
      dsimp only at h1 h2 h3 h4
      subst h1; subst h2; subst h3
      refine ⟨(nI (amx L 9), nI (L (amx L 9)), s'), ?_, rfl, rfl, h4⟩
      unfold F_X9_hourOf_L24
      simp (disch := omega) only [↓Lm1, L0, L1, L2, L3, L4, L5, L6, L7, L8, L9, L10, L11, L12, L13, L14, L15, L16, L17, L18, L19, L20, L27, L30, L31, L35, L36, L37, L38, L39, L40, L41, L46, L48, L51, L57, L59, L60, L82, L98, L99, L100, L102, L104, L107, L110, L119, L144, L240, L255, L256, L360, L999, L1000000, nI_val, n_lt_t, n_lt_f, n_le_t, n_le_f, n_eq_t, n_eq_f, k_le_f, m_lt_t, m_lt_f, m_le_t, m_le_f, m_eq_f, m_eq_f', nI_add, nI_mulE, nI_subE, if_true, if_false, ite_true, ite_false, or_false, false_or, or_true, true_or, or_self, and_true, true_and, and_false, false_and, not_true_eq_false, not_false_eq_true, Option.bind_some, Sum.elim_inl, Sum.elim_inr, xu_set, xset_same, xset_ne, xset_2, xset_set, upd_same, upd_ne, nbI_some, ne_eq, reduceCtorEq, reduceIte, Nat.reduceAdd, Nat.reduceMul, Nat.reduceSub, Nat.add_zero, Nat.zero_add, Nat.mul_zero, Nat.zero_mul]
      rfl
  obtain ⟨b, eb, hb1, hb2, hb3⟩ := key
  have fk := hb3.fin (by omega)
  refine ⟨xset b.2.2 6 (upd (b.2.2.1 6) k (s4.1 6 k)), ?_, lt.1.keep (fk.wide (by decide) (by decide))⟩
  have := hL (amx L 9)
  unfold F_X9_hourOf hrv
  rw [← hLe]
  rcases two_cases hw with rfl | rfl
  · simp (disch := omega) only [↓Lm1, L0, L1, L2, L3, L4, L5, L6, L7, L8, L9, L10, L11, L12, L13, L14, L15, L16, L17, L18, L19, L20, L27, L30, L31, L35, L36, L37, L38, L39, L40, L41, L46, L48, L51, L57, L59, L60, L82, L98, L99, L100, L102, L104, L107, L110, L119, L144, L240, L255, L256, L360, L999, L1000000, nI_val, n_lt_t, n_lt_f, n_le_t, n_le_f, n_eq_t, n_eq_f, k_le_f, m_lt_t, m_lt_f, m_le_t, m_le_f, m_eq_f, m_eq_f', nI_add, nI_mulE, nI_subE, if_true, if_false, ite_true, ite_false, or_false, false_or, or_true, true_or, or_self, and_true, true_and, and_false, false_and, not_true_eq_false, not_false_eq_true, Option.bind_some, Sum.elim_inl, Sum.elim_inr, xu_set, xset_same, xset_ne, xset_2, xset_set, upd_same, upd_ne, nbI_some, ne_eq, reduceCtorEq, reduceIte, Nat.reduceAdd, Nat.reduceMul, Nat.reduceSub, Nat.add_zero, Nat.zero_add, Nat.mul_zero, Nat.zero_mul, e2, e4, eb, hb1, hb2]
  · by_cases c : L (amx L 9) = 10
    · simp (disch := omega) only [↓Lm1, L0, L1, L2, L3, L4, L5, L6, L7, L8, L9, L10, L11, L12, L13, L14, L15, L16, L17, L18, L19, L20, L27, L30, L31, L35, L36, L37, L38, L39, L40, L41, L46, L48, L51, L57, L59, L60, L82, L98, L99, L100, L102, L104, L107, L110, L119, L144, L240, L255, L256, L360, L999, L1000000, nI_val, n_lt_t, n_lt_f, n_le_t, n_le_f, n_eq_t, n_eq_f, k_le_f, m_lt_t, m_lt_f, m_le_t, m_le_f, m_eq_f, m_eq_f', nI_add, nI_mulE, nI_subE, if_true, if_false, ite_true, ite_false, or_false, false_or, or_true, true_or, or_self, and_true, true_and, and_false, false_and, not_true_eq_false, not_false_eq_true, Option.bind_some, Sum.elim_inl, Sum.elim_inr, xu_set, xset_same, xset_ne, xset_2, xset_set, upd_same, upd_ne, nbI_some, ne_eq, reduceCtorEq, reduceIte, Nat.reduceAdd, Nat.reduceMul, Nat.reduceSub, Nat.add_zero, Nat.zero_add, Nat.mul_zero, Nat.zero_mul, e2, e4, eb, hb1, hb2, c]
    · simp (disch := omega) only [↓Lm1, L0, L1, L2, L3, L4, L5, L6, L7, L8, L9, L10, L11, L12, L13, L14, L15, L16, L17, L18, L19, L20, L27, L30, L31, L35, L36, L37, L38, L39, L40, L41, L46, L48, L51, L57, L59, L60, L82, L98, L99, L100, L102, L104, L107, L110, L119, L144, L240, L255, L256, L360, L999, L1000000, nI_val, n_lt_t, n_lt_f, n_le_t, n_le_f, n_eq_t, n_eq_f, k_le_f, m_lt_t, m_lt_f, m_le_t, m_le_f, m_eq_f, m_eq_f', nI_add, nI_mulE, nI_subE, if_true, if_false, ite_true, ite_false, or_false, false_or, or_true, true_or, or_self, and_true, true_and, and_false, false_and, not_true_eq_false, not_false_eq_true, Option.bind_some, Sum.elim_inl, Sum.elim_inr, xu_set, xset_same, xset_ne, xset_2, xset_set, upd_same, upd_ne, nbI_some, ne_eq, reduceCtorEq, reduceIte, Nat.reduceAdd, Nat.reduceMul, Nat.reduceSub, Nat.add_zero, Nat.zero_add, Nat.mul_zero, Nat.zero_mul, e2, e4, eb, hb1, hb2, c]
theorem c_hour : lh_hour Inv := by
  intro x y s1 s2 hI
  obtain ⟨u0, n0, u1, n1, l, e, hA⟩ := hI
  have h8 := (dd_ok (u := u1) hA.1.1.2.1).1
  have hD := hA.1.2.2.1.1
  rcases arg_cases x (ddat u1 n1).1 with ⟨k, hk, rfl⟩ | hno
  · obtain ⟨s', e', rt⟩ := isDeedM_t hA.iM.1 hk
    rcases arg_cases y 2 with ⟨w, hw, rfl⟩ | hno
    · obtain ⟨s'', e'', rt'⟩ := m_hour rt.2.1 hk hw
      obtain ⟨t, et, kt⟩ := q_hour hA.iF hk hw
      refine ⟨_, t, s'', et, ?_, hA.mk2 (hA.iF.keep kt) kt.kf (rt.tr rt').1⟩
      unfold F_X9_hour
      simp (disch := omega) only [↓Lm1, L0, L1, L2, L3, L4, L5, L6, L7, L8, L9, L10, L11, L12, L13, L14, L15, L16, L17, L18, L19, L20, L27, L30, L31, L35, L36, L37, L38, L39, L40, L41, L46, L48, L51, L57, L59, L60, L82, L98, L99, L100, L102, L104, L107, L110, L119, L144, L240, L255, L256, L360, L999, L1000000, nI_val, n_lt_t, n_lt_f, n_le_t, n_le_f, n_eq_t, n_eq_f, k_le_f, m_lt_t, m_lt_f, m_le_t, m_le_f, m_eq_f, m_eq_f', nI_add, nI_mulE, nI_subE, if_true, if_false, ite_true, ite_false, or_false, false_or, or_true, true_or, or_self, and_true, true_and, and_false, false_and, not_true_eq_false, not_false_eq_true, Option.bind_some, Sum.elim_inl, Sum.elim_inr, xu_set, xset_same, xset_ne, xset_2, xset_set, upd_same, upd_ne, nbI_some, ne_eq, reduceCtorEq, reduceIte, Nat.reduceAdd, Nat.reduceMul, Nat.reduceSub, Nat.add_zero, Nat.zero_add, Nat.mul_zero, Nat.zero_mul, e', inM_t, e'']
    · refine ⟨-2, s1, s', ?_, ?_, hA.mk2 hA.iF (KF.refl _) rt.1⟩
      · unfold F_X8_hour
        simp (disch := omega) only [↓Lm1, L0, L1, L2, L3, L4, L5, L6, L7, L8, L9, L10, L11, L12, L13, L14, L15, L16, L17, L18, L19, L20, L27, L30, L31, L35, L36, L37, L38, L39, L40, L41, L46, L48, L51, L57, L59, L60, L82, L98, L99, L100, L102, L104, L107, L110, L119, L144, L240, L255, L256, L360, L999, L1000000, nI_val, n_lt_t, n_lt_f, n_le_t, n_le_f, n_eq_t, n_eq_f, k_le_f, m_lt_t, m_lt_f, m_le_t, m_le_f, m_eq_f, m_eq_f', nI_add, nI_mulE, nI_subE, if_true, if_false, ite_true, ite_false, or_false, false_or, or_true, true_or, or_self, and_true, true_and, and_false, false_and, not_true_eq_false, not_false_eq_true, Option.bind_some, Sum.elim_inl, Sum.elim_inr, xu_set, xset_same, xset_ne, xset_2, xset_set, upd_same, upd_ne, nbI_some, ne_eq, reduceCtorEq, reduceIte, Nat.reduceAdd, Nat.reduceMul, Nat.reduceSub, Nat.add_zero, Nat.zero_add, Nat.mul_zero, Nat.zero_mul, noDeedF_t hD.1 h8 hk, out_no (x := y) (n := 2) (by omega) hno]
      · unfold F_X9_hour
        simp (disch := omega) only [↓Lm1, L0, L1, L2, L3, L4, L5, L6, L7, L8, L9, L10, L11, L12, L13, L14, L15, L16, L17, L18, L19, L20, L27, L30, L31, L35, L36, L37, L38, L39, L40, L41, L46, L48, L51, L57, L59, L60, L82, L98, L99, L100, L102, L104, L107, L110, L119, L144, L240, L255, L256, L360, L999, L1000000, nI_val, n_lt_t, n_lt_f, n_le_t, n_le_f, n_eq_t, n_eq_f, k_le_f, m_lt_t, m_lt_f, m_le_t, m_le_f, m_eq_f, m_eq_f', nI_add, nI_mulE, nI_subE, if_true, if_false, ite_true, ite_false, or_false, false_or, or_true, true_or, or_self, and_true, true_and, and_false, false_and, not_true_eq_false, not_false_eq_true, Option.bind_some, Sum.elim_inl, Sum.elim_inr, xu_set, xset_same, xset_ne, xset_2, xset_set, upd_same, upd_ne, nbI_some, ne_eq, reduceCtorEq, reduceIte, Nat.reduceAdd, Nat.reduceMul, Nat.reduceSub, Nat.add_zero, Nat.zero_add, Nat.mul_zero, Nat.zero_mul, e', inM_no (x := y) (n := 1) (by omega) hno]
  · obtain ⟨s', e', rt⟩ := isDeedM_f hA.iM.1 hno
    refine ⟨-2, s1, s', ?_, ?_, hA.mk2 hA.iF (KF.refl _) rt.1⟩
    · unfold F_X8_hour
      simp (disch := omega) only [↓Lm1, L0, L1, L2, L3, L4, L5, L6, L7, L8, L9, L10, L11, L12, L13, L14, L15, L16, L17, L18, L19, L20, L27, L30, L31, L35, L36, L37, L38, L39, L40, L41, L46, L48, L51, L57, L59, L60, L82, L98, L99, L100, L102, L104, L107, L110, L119, L144, L240, L255, L256, L360, L999, L1000000, nI_val, n_lt_t, n_lt_f, n_le_t, n_le_f, n_eq_t, n_eq_f, k_le_f, m_lt_t, m_lt_f, m_le_t, m_le_f, m_eq_f, m_eq_f', nI_add, nI_mulE, nI_subE, if_true, if_false, ite_true, ite_false, or_false, false_or, or_true, true_or, or_self, and_true, true_and, and_false, false_and, not_true_eq_false, not_false_eq_true, Option.bind_some, Sum.elim_inl, Sum.elim_inr, xu_set, xset_same, xset_ne, xset_2, xset_set, upd_same, upd_ne, nbI_some, ne_eq, reduceCtorEq, reduceIte, Nat.reduceAdd, Nat.reduceMul, Nat.reduceSub, Nat.add_zero, Nat.zero_add, Nat.mul_zero, Nat.zero_mul, noDeedF_f hD.1 h8 hno]
    · unfold F_X9_hour
      simp (disch := omega) only [↓Lm1, L0, L1, L2, L3, L4, L5, L6, L7, L8, L9, L10, L11, L12, L13, L14, L15, L16, L17, L18, L19, L20, L27, L30, L31, L35, L36, L37, L38, L39, L40, L41, L46, L48, L51, L57, L59, L60, L82, L98, L99, L100, L102, L104, L107, L110, L119, L144, L240, L255, L256, L360, L999, L1000000, nI_val, n_lt_t, n_lt_f, n_le_t, n_le_f, n_eq_t, n_eq_f, k_le_f, m_lt_t, m_lt_f, m_le_t, m_le_f, m_eq_f, m_eq_f', nI_add, nI_mulE, nI_subE, if_true, if_false, ite_true, ite_false, or_false, false_or, or_true, true_or, or_self, and_true, true_and, and_false, false_and, not_true_eq_false, not_false_eq_true, Option.bind_some, Sum.elim_inl, Sum.elim_inr, xu_set, xset_same, xset_ne, xset_2, xset_set, upd_same, upd_ne, nbI_some, ne_eq, reduceCtorEq, reduceIte, Nat.reduceAdd, Nat.reduceMul, Nat.reduceSub, Nat.add_zero, Nat.zero_add, Nat.mul_zero, Nat.zero_mul, e']
/-! what -/
noncomputable def wtB (u0 : Nat → Nat) (n0 : Nat) (u1 : Nat → Nat) (n1 : Nat) (l : LD) (e : ED) (k v : Nat) : Bool := agr e (ngt (twn u0 n0).1 (ls0 u0 n0) (dup (ddat u1 n1) 5 k v) all_ l).2.2.2.1 e.1
theorem q_what {k : Nat} (hI : IF u0 n0 u1 n1 l e s) (hk : k < (ddat u1 n1).1) : ∃ s', F_X8_what (nI k) s = some (nI (bsm (wtB u0 n0 u1 n1 l e k) 4), s') ∧ Kp 27 40 s s' := by
  have hok := dd_ok (u := u1) hI.1.1.2.1
  have h8 := hok.1
  have hl := hI.1.2.2.2.1
  have hD := hI.1.2.2.1.1
  obtain ⟨s2, e2, k2, d2⟩ := takeF hok hD
  have kk := k2.wide (Nat.le_refl 27) (show 30 ≤ 40 by omega)
  have hI2 := hI.keep kk
  obtain ⟨g, hg⟩ : ∃ g : Nat → Bool, g = wtB u0 n0 u1 n1 l e k := ⟨_, rfl⟩
  have key : ∃ b, xlp (F_X8_what_L26 (nI k)) 100000 (nI 0, nI 0, s2) = some b ∧ b.1 = nI (bsm g 4) ∧ UF 5 k s2 b.2 := by
    refine xlp_cnt (f := F_X8_what_L26 (nI k)) (fun i a => a.1 = nI (bsm g i) ∧ a.2.1 = nI i ∧ UF 5 k s2 a.2.2) (fun b => b.1 = nI (bsm g 4) ∧ UF 5 k s2 b.2) 4 (by omega) ?_ ?_ (a := (nI 0, nI 0, s2)) ⟨rfl, rfl, UF.refl _ _ _⟩
    · intro i a hi ⟨h1, h2, h4⟩
      obtain ⟨a1, a2, s'⟩ := a
      dsimp only at h1 h2 h4
      subst h1; subst h2
      obtain ⟨s'', e'', u'', n''⟩ := passU (p := 5) (v := i) (Or.inr (Or.inl rfl)) hI2 d2 h4 (fun q => by cases q) (fun _ => by omega) (fun q => by cases q)
      have e3 : F_X3_pass 34 27 19 (nI 255) (xset s' 29 (upd (s'.1 29) k (nI i))) = some s'' := e''
      have ea := agrF (hI2.keep u''.1).2.2.2 (fun h hh => (n''.2.1 h hh).1) (fun h v q => ngt_ns (show (dup (ddat u1 n1) 5 k i).1 ≤ 8 from h8) hl q)
      have hgi : g i = agr e (ngt (twn u0 n0).1 (ls0 u0 n0) (dup (ddat u1 n1) 5 k i) all_ l).2.2.2.1 e.1 := by rw [hg]; rfl
      rw [← hgi] at ea
      left
      unfold F_X8_what_L26
      by_cases c : g i = true
      · have eo := or_bit (bsm_lt g i) (show i < 31 by omega)
        have eb := bsm_t c
        refine ⟨(nI (bsm g (i + 1)), nI (i + 1), s''), ?_, rfl, rfl, u''⟩
        simp (disch := omega) only [↓Lm1, L0, L1, L2, L3, L4, L5, L6, L7, L8, L9, L10, L11, L12, L13, L14, L15, L16, L17, L18, L19, L20, L27, L30, L31, L35, L36, L37, L38, L39, L40, L41, L46, L48, L51, L57, L59, L60, L82, L98, L99, L100, L102, L104, L107, L110, L119, L144, L240, L255, L256, L360, L999, L1000000, nI_val, n_lt_t, n_lt_f, n_le_t, n_le_f, n_eq_t, n_eq_f, k_le_f, m_lt_t, m_lt_f, m_le_t, m_le_f, m_eq_f, m_eq_f', nI_add, nI_mulE, nI_subE, if_true, if_false, ite_true, ite_false, or_false, false_or, or_true, true_or, or_self, and_true, true_and, and_false, false_and, not_true_eq_false, not_false_eq_true, Option.bind_some, Sum.elim_inl, Sum.elim_inr, xu_set, xset_same, xset_ne, xset_2, xset_set, upd_same, upd_ne, nbI_some, ne_eq, reduceCtorEq, reduceIte, Nat.reduceAdd, Nat.reduceMul, Nat.reduceSub, Nat.add_zero, Nat.zero_add, Nat.mul_zero, Nat.zero_mul, e3, ea, b01, c, eo, eb]
      · have eb := bsm_f c
        refine ⟨(nI (bsm g (i + 1)), nI (i + 1), s''), ?_, rfl, rfl, u''⟩
        simp (disch := omega) only [↓Lm1, L0, L1, L2, L3, L4, L5, L6, L7, L8, L9, L10, L11, L12, L13, L14, L15, L16, L17, L18, L19, L20, L27, L30, L31, L35, L36, L37, L38, L39, L40, L41, L46, L48, L51, L57, L59, L60, L82, L98, L99, L100, L102, L104, L107, L110, L119, L144, L240, L255, L256, L360, L999, L1000000, nI_val, n_lt_t, n_lt_f, n_le_t, n_le_f, n_eq_t, n_eq_f, k_le_f, m_lt_t, m_lt_f, m_le_t, m_le_f, m_eq_f, m_eq_f', nI_add, nI_mulE, nI_subE, if_true, if_false, ite_true, ite_false, or_false, false_or, or_true, true_or, or_self, and_true, true_and, and_false, false_and, not_true_eq_false, not_false_eq_true, Option.bind_some, Sum.elim_inl, Sum.elim_inr, xu_set, xset_same, xset_ne, xset_2, xset_set, upd_same, upd_ne, nbI_some, ne_eq, reduceCtorEq, reduceIte, Nat.reduceAdd, Nat.reduceMul, Nat.reduceSub, Nat.add_zero, Nat.zero_add, Nat.mul_zero, Nat.zero_mul, e3, ea, b01, c, eb]
    · intro a ⟨h1, h2, h4⟩
      obtain ⟨a1, a2, s'⟩ := a
      dsimp only at h1 h2 h4
      subst h1; subst h2
      refine ⟨(nI (bsm g 4), s'), ?_, rfl, h4⟩
      unfold F_X8_what_L26
      simp (disch := omega) only [↓Lm1, L0, L1, L2, L3, L4, L5, L6, L7, L8, L9, L10, L11, L12, L13, L14, L15, L16, L17, L18, L19, L20, L27, L30, L31, L35, L36, L37, L38, L39, L40, L41, L46, L48, L51, L57, L59, L60, L82, L98, L99, L100, L102, L104, L107, L110, L119, L144, L240, L255, L256, L360, L999, L1000000, nI_val, n_lt_t, n_lt_f, n_le_t, n_le_f, n_eq_t, n_eq_f, k_le_f, m_lt_t, m_lt_f, m_le_t, m_le_f, m_eq_f, m_eq_f', nI_add, nI_mulE, nI_subE, if_true, if_false, ite_true, ite_false, or_false, false_or, or_true, true_or, or_self, and_true, true_and, and_false, false_and, not_true_eq_false, not_false_eq_true, Option.bind_some, Sum.elim_inl, Sum.elim_inr, xu_set, xset_same, xset_ne, xset_2, xset_set, upd_same, upd_ne, nbI_some, ne_eq, reduceCtorEq, reduceIte, Nat.reduceAdd, Nat.reduceMul, Nat.reduceSub, Nat.add_zero, Nat.zero_add, Nat.mul_zero, Nat.zero_mul]
  obtain ⟨b, eb, hb1, hb2⟩ := key
  refine ⟨b.2, ?_, kk.trans hb2.1⟩
  unfold F_X8_what
  rw [← hg]
  simp (disch := omega) only [↓Lm1, L0, L1, L2, L3, L4, L5, L6, L7, L8, L9, L10, L11, L12, L13, L14, L15, L16, L17, L18, L19, L20, L27, L30, L31, L35, L36, L37, L38, L39, L40, L41, L46, L48, L51, L57, L59, L60, L82, L98, L99, L100, L102, L104, L107, L110, L119, L144, L240, L255, L256, L360, L999, L1000000, nI_val, n_lt_t, n_lt_f, n_le_t, n_le_f, n_eq_t, n_eq_f, k_le_f, m_lt_t, m_lt_f, m_le_t, m_le_f, m_eq_f, m_eq_f', nI_add, nI_mulE, nI_subE, if_true, if_false, ite_true, ite_false, or_false, false_or, or_true, true_or, or_self, and_true, true_and, and_false, false_and, not_true_eq_false, not_false_eq_true, Option.bind_some, Sum.elim_inl, Sum.elim_inr, xu_set, xset_same, xset_ne, xset_2, xset_set, upd_same, upd_ne, nbI_some, ne_eq, reduceCtorEq, reduceIte, Nat.reduceAdd, Nat.reduceMul, Nat.reduceSub, Nat.add_zero, Nat.zero_add, Nat.mul_zero, Nat.zero_mul, noDeedF_t hD.1 h8 hk, e2, eb, hb1]
theorem m_what {k : Nat} (h : IM u0 n0 u1 n1 l e s) (he : EaOk e) (hk : k < (ddat u1 n1).1) : ∃ s', F_X9_whatOf (nI k) s = some (nI (bsm (wtB u0 n0 u1 n1 l e k) 4), s') ∧ RT u0 n0 u1 n1 l s s' := by
  have h8 := (dd_ok (u := u1) h.1.2.1).1
  have hl := h.1.2.2.2.2.2.2.1
  obtain ⟨s2, s4, e2, e4, lt⟩ := laysT h.1
  have hI4 := lt.1.im h
  obtain ⟨g, hg⟩ : ∃ g : Nat → Bool, g = wtB u0 n0 u1 n1 l e k := ⟨_, rfl⟩
  have key : ∃ b, xlp (F_X9_whatOf_L20 (nI k) (s4.1 5 k)) 100000 (nI 0, nI 0, s4) = some b ∧ b.1 = nI (bsm g 4) ∧ UK 5 k s4 b.2 := by
    refine xlp_cnt (f := F_X9_whatOf_L20 (nI k) (s4.1 5 k)) (fun i a => a.1 = nI (bsm g i) ∧ a.2.1 = nI i ∧ UK 5 k s4 a.2.2) (fun b => b.1 = nI (bsm g 4) ∧ UK 5 k s4 b.2) 4 (by omega) ?_ ?_ (a := (nI 0, nI 0, s4)) ⟨rfl, rfl, UK.refl _ _ _⟩
    · intro i a hi ⟨h1, h2, h4⟩
      obtain ⟨a1, a2, s'⟩ := a
      dsimp only at h1 h2 h4
      subst h1; subst h2
      obtain ⟨s'', e'', u'', n''⟩ := sleepU (p := 5) (v := i) (Or.inr (Or.inl rfl)) lt h4 h.1.2.1 (fun q => by cases q) (fun _ => by omega) (fun q => by cases q)
      have ea := listM (L := []) he (EaM_K hI4.2 (u''.1.wide (by decide) (by decide))) hl (show (dup (ddat u1 n1) 5 k i).1 ≤ 8 from h8) e'' n''
      have hgi : g i = agr e (ngt (twn u0 n0).1 (ls0 u0 n0) (dup (ddat u1 n1) 5 k i) all_ l).2.2.2.1 e.1 := by rw [hg]; rfl
      rw [← hgi] at ea
      left
      unfold F_X9_whatOf_L20
      by_cases c : g i = true
      · have eo := or_bit (bsm_lt g i) (show i < 31 by omega)
        have eb := bsm_t c
        refine ⟨(nI (bsm g (i + 1)), nI (i + 1), s''), ?_, rfl, rfl, u''⟩
        simp (disch := omega) only [↓Lm1, L0, L1, L2, L3, L4, L5, L6, L7, L8, L9, L10, L11, L12, L13, L14, L15, L16, L17, L18, L19, L20, L27, L30, L31, L35, L36, L37, L38, L39, L40, L41, L46, L48, L51, L57, L59, L60, L82, L98, L99, L100, L102, L104, L107, L110, L119, L144, L240, L255, L256, L360, L999, L1000000, nI_val, n_lt_t, n_lt_f, n_le_t, n_le_f, n_eq_t, n_eq_f, k_le_f, m_lt_t, m_lt_f, m_le_t, m_le_f, m_eq_f, m_eq_f', nI_add, nI_mulE, nI_subE, if_true, if_false, ite_true, ite_false, or_false, false_or, or_true, true_or, or_self, and_true, true_and, and_false, false_and, not_true_eq_false, not_false_eq_true, Option.bind_some, Sum.elim_inl, Sum.elim_inr, xu_set, xset_same, xset_ne, xset_2, xset_set, upd_same, upd_ne, nbI_some, ne_eq, reduceCtorEq, reduceIte, Nat.reduceAdd, Nat.reduceMul, Nat.reduceSub, Nat.add_zero, Nat.zero_add, Nat.mul_zero, Nat.zero_mul, ea, b01, c, eo, eb]
      · have eb := bsm_f c
        refine ⟨(nI (bsm g (i + 1)), nI (i + 1), s''), ?_, rfl, rfl, u''⟩
        simp (disch := omega) only [↓Lm1, L0, L1, L2, L3, L4, L5, L6, L7, L8, L9, L10, L11, L12, L13, L14, L15, L16, L17, L18, L19, L20, L27, L30, L31, L35, L36, L37, L38, L39, L40, L41, L46, L48, L51, L57, L59, L60, L82, L98, L99, L100, L102, L104, L107, L110, L119, L144, L240, L255, L256, L360, L999, L1000000, nI_val, n_lt_t, n_lt_f, n_le_t, n_le_f, n_eq_t, n_eq_f, k_le_f, m_lt_t, m_lt_f, m_le_t, m_le_f, m_eq_f, m_eq_f', nI_add, nI_mulE, nI_subE, if_true, if_false, ite_true, ite_false, or_false, false_or, or_true, true_or, or_self, and_true, true_and, and_false, false_and, not_true_eq_false, not_false_eq_true, Option.bind_some, Sum.elim_inl, Sum.elim_inr, xu_set, xset_same, xset_ne, xset_2, xset_set, upd_same, upd_ne, nbI_some, ne_eq, reduceCtorEq, reduceIte, Nat.reduceAdd, Nat.reduceMul, Nat.reduceSub, Nat.add_zero, Nat.zero_add, Nat.mul_zero, Nat.zero_mul, ea, b01, c, eb, or_0]
    · intro a ⟨h1, h2, h4⟩
      obtain ⟨a1, a2, s'⟩ := a
      dsimp only at h1 h2 h4
      subst h1; subst h2
      refine ⟨(nI (bsm g 4), s'), ?_, rfl, h4⟩
      unfold F_X9_whatOf_L20
      simp (disch := omega) only [↓Lm1, L0, L1, L2, L3, L4, L5, L6, L7, L8, L9, L10, L11, L12, L13, L14, L15, L16, L17, L18, L19, L20, L27, L30, L31, L35, L36, L37, L38, L39, L40, L41, L46, L48, L51, L57, L59, L60, L82, L98, L99, L100, L102, L104, L107, L110, L119, L144, L240, L255, L256, L360, L999, L1000000, nI_val, n_lt_t, n_lt_f, n_le_t, n_le_f, n_eq_t, n_eq_f, k_le_f, m_lt_t, m_lt_f, m_le_t, m_le_f, m_eq_f, m_eq_f', nI_add, nI_mulE, nI_subE, if_true, if_false, ite_true, ite_false, or_false, false_or, or_true, true_or, or_self, and_true, true_and, and_false, false_and, not_true_eq_false, not_false_eq_true, Option.bind_some, Sum.elim_inl, Sum.elim_inr, xu_set, xset_same, xset_ne, xset_2, xset_set, upd_same, upd_ne, nbI_some, ne_eq, reduceCtorEq, reduceIte, Nat.reduceAdd, Nat.reduceMul, Nat.reduceSub, Nat.add_zero, Nat.zero_add, Nat.mul_zero, Nat.zero_mul]
  obtain ⟨b, eb, hb1, hb3⟩ := key
  have fk := hb3.fin (by omega)
  refine ⟨xset b.2 5 (upd (b.2.1 5) k (s4.1 5 k)), ?_, lt.1.keep (fk.wide (by decide) (by decide))⟩
  unfold F_X9_whatOf
  rw [← hg]
  simp (disch := omega) only [↓Lm1, L0, L1, L2, L3, L4, L5, L6, L7, L8, L9, L10, L11, L12, L13, L14, L15, L16, L17, L18, L19, L20, L27, L30, L31, L35, L36, L37, L38, L39, L40, L41, L46, L48, L51, L57, L59, L60, L82, L98, L99, L100, L102, L104, L107, L110, L119, L144, L240, L255, L256, L360, L999, L1000000, nI_val, n_lt_t, n_lt_f, n_le_t, n_le_f, n_eq_t, n_eq_f, k_le_f, m_lt_t, m_lt_f, m_le_t, m_le_f, m_eq_f, m_eq_f', nI_add, nI_mulE, nI_subE, if_true, if_false, ite_true, ite_false, or_false, false_or, or_true, true_or, or_self, and_true, true_and, and_false, false_and, not_true_eq_false, not_false_eq_true, Option.bind_some, Sum.elim_inl, Sum.elim_inr, xu_set, xset_same, xset_ne, xset_2, xset_set, upd_same, upd_ne, nbI_some, ne_eq, reduceCtorEq, reduceIte, Nat.reduceAdd, Nat.reduceMul, Nat.reduceSub, Nat.add_zero, Nat.zero_add, Nat.mul_zero, Nat.zero_mul, e2, e4, eb, hb1]
theorem c_what : lh_what Inv := by
  intro x s1 s2 hI
  obtain ⟨u0, n0, u1, n1, l, e, hA⟩ := hI
  have h8 := (dd_ok (u := u1) hA.1.1.2.1).1
  have hD := hA.1.2.2.1.1
  rcases arg_cases x (ddat u1 n1).1 with ⟨k, hk, rfl⟩ | hno
  · obtain ⟨s', e', rt⟩ := isDeedM_t hA.iM.1 hk
    obtain ⟨s'', e'', rt'⟩ := m_what (rt.im hA.iM) hA.iF.2.2.2.ok hk
    obtain ⟨t, et, kt⟩ := q_what hA.iF hk
    refine ⟨_, t, s'', et, ?_, hA.mk2 (hA.iF.keep kt) kt.kf (rt.tr rt').1⟩
    unfold F_X9_what
    simp (disch := omega) only [↓Lm1, L0, L1, L2, L3, L4, L5, L6, L7, L8, L9, L10, L11, L12, L13, L14, L15, L16, L17, L18, L19, L20, L27, L30, L31, L35, L36, L37, L38, L39, L40, L41, L46, L48, L51, L57, L59, L60, L82, L98, L99, L100, L102, L104, L107, L110, L119, L144, L240, L255, L256, L360, L999, L1000000, nI_val, n_lt_t, n_lt_f, n_le_t, n_le_f, n_eq_t, n_eq_f, k_le_f, m_lt_t, m_lt_f, m_le_t, m_le_f, m_eq_f, m_eq_f', nI_add, nI_mulE, nI_subE, if_true, if_false, ite_true, ite_false, or_false, false_or, or_true, true_or, or_self, and_true, true_and, and_false, false_and, not_true_eq_false, not_false_eq_true, Option.bind_some, Sum.elim_inl, Sum.elim_inr, xu_set, xset_same, xset_ne, xset_2, xset_set, upd_same, upd_ne, nbI_some, ne_eq, reduceCtorEq, reduceIte, Nat.reduceAdd, Nat.reduceMul, Nat.reduceSub, Nat.add_zero, Nat.zero_add, Nat.mul_zero, Nat.zero_mul, e', e'']
  · obtain ⟨s', e', rt⟩ := isDeedM_f hA.iM.1 hno
    refine ⟨-2, s1, s', ?_, ?_, hA.mk2 hA.iF (KF.refl _) rt.1⟩
    · unfold F_X8_what
      simp (disch := omega) only [↓Lm1, L0, L1, L2, L3, L4, L5, L6, L7, L8, L9, L10, L11, L12, L13, L14, L15, L16, L17, L18, L19, L20, L27, L30, L31, L35, L36, L37, L38, L39, L40, L41, L46, L48, L51, L57, L59, L60, L82, L98, L99, L100, L102, L104, L107, L110, L119, L144, L240, L255, L256, L360, L999, L1000000, nI_val, n_lt_t, n_lt_f, n_le_t, n_le_f, n_eq_t, n_eq_f, k_le_f, m_lt_t, m_lt_f, m_le_t, m_le_f, m_eq_f, m_eq_f', nI_add, nI_mulE, nI_subE, if_true, if_false, ite_true, ite_false, or_false, false_or, or_true, true_or, or_self, and_true, true_and, and_false, false_and, not_true_eq_false, not_false_eq_true, Option.bind_some, Sum.elim_inl, Sum.elim_inr, xu_set, xset_same, xset_ne, xset_2, xset_set, upd_same, upd_ne, nbI_some, ne_eq, reduceCtorEq, reduceIte, Nat.reduceAdd, Nat.reduceMul, Nat.reduceSub, Nat.add_zero, Nat.zero_add, Nat.mul_zero, Nat.zero_mul, noDeedF_f hD.1 h8 hno]
    · unfold F_X9_what
      simp (disch := omega) only [↓Lm1, L0, L1, L2, L3, L4, L5, L6, L7, L8, L9, L10, L11, L12, L13, L14, L15, L16, L17, L18, L19, L20, L27, L30, L31, L35, L36, L37, L38, L39, L40, L41, L46, L48, L51, L57, L59, L60, L82, L98, L99, L100, L102, L104, L107, L110, L119, L144, L240, L255, L256, L360, L999, L1000000, nI_val, n_lt_t, n_lt_f, n_le_t, n_le_f, n_eq_t, n_eq_f, k_le_f, m_lt_t, m_lt_f, m_le_t, m_le_f, m_eq_f, m_eq_f', nI_add, nI_mulE, nI_subE, if_true, if_false, ite_true, ite_false, or_false, false_or, or_true, true_or, or_self, and_true, true_and, and_false, false_and, not_true_eq_false, not_false_eq_true, Option.bind_some, Sum.elim_inl, Sum.elim_inr, xu_set, xset_same, xset_ne, xset_2, xset_set, upd_same, upd_ne, nbI_some, ne_eq, reduceCtorEq, reduceIte, Nat.reduceAdd, Nat.reduceMul, Nat.reduceSub, Nat.add_zero, Nat.zero_add, Nat.mul_zero, Nat.zero_mul, e']
/-! never -/
noncomputable def nvB (u0 : Nat → Nat) (n0 : Nat) (u1 : Nat → Nat) (n1 : Nat) (l : LD) (e : ED) (k : Nat) : Bool := agr e (ngt (twn u0 n0).1 (ls0 u0 n0) (ddat u1 n1) (fun j => decide (j ≠ k)) l).2.2.2.1 e.1
theorem prN {i : Nat} (hi : i < 8) : PrB (fun j => decide (j ≠ i)) (nI 255 &&& (xshl (nI 1) (nI i) ^^^ nbI none)) := fun j hj => by
  have : ∀ i, i < 8 → ∀ j, j < 8 → (decide (xshr (nI 255 &&& (xshl (nI 1) (nI i) ^^^ nbI none)) (nI j) &&& nI 1 = nI 1) = decide (j ≠ i)) := by decide +kernel
  have := this i hi j hj
  apply propext
  constructor
  · intro q
    show decide (j ≠ i) = true
    rw [← this]
    exact decide_eq_true q
  · intro q
    have q : decide (j ≠ i) = true := q
    rw [← this] at q
    exact of_decide_eq_true q
theorem prNM {i : Nat} (hi : i < 8) : PrM (fun j => decide (j ≠ i)) (xshl (nI 1) (nI i)) := fun j hj => by
  have : ∀ i, i < 8 → ∀ j, j < 8 → (decide (xshr (xshl (nI 1) (nI i)) (nI j) &&& nI 1 = nI 1) = !decide (j ≠ i)) := by decide +kernel
  have := this i hi j hj
  apply propext
  constructor
  · intro q
    have q := decide_eq_true q
    rw [this] at q
    show decide (j ≠ i) = false
    cases z : decide (j ≠ i) with
    | false => rfl
    | true => rw [z] at q; cases q
  · intro q
    have q : decide (j ≠ i) = false := q
    rw [q] at this
    exact of_decide_eq_true this
theorem q_never (hI : IF u0 n0 u1 n1 l e s) : ∃ s', F_X8_never s = some (nI (bsm (nvB u0 n0 u1 n1 l e) (ddat u1 n1).1), s') ∧ Kp 27 40 s s' := by
  have hok := dd_ok (u := u1) hI.1.1.2.1
  have h8 := hok.1
  have hl := hI.1.2.2.2.1
  have hN := (twn_ok u0 n0).1.1
  obtain ⟨g, hg⟩ : ∃ g : Nat → Bool, g = nvB u0 n0 u1 n1 l e := ⟨_, rfl⟩
  have key : ∃ b, xlp F_X8_never_L4 100000 (nI 0, nI 0, s) = some b ∧ b.1 = nI (bsm g (ddat u1 n1).1) ∧ Kp 27 40 s b.2 := by
    refine xlp_cnt (f := F_X8_never_L4) (fun i a => a.1 = nI (bsm g i) ∧ a.2.1 = nI i ∧ Kp 27 40 s a.2.2) (fun b => b.1 = nI (bsm g (ddat u1 n1).1) ∧ Kp 27 40 s b.2) (ddat u1 n1).1 (by omega) ?_ ?_ (a := (nI 0, nI 0, s)) ⟨rfl, rfl, Kp.refl _ _ _⟩
    · intro i a hi ⟨h1, h2, h4⟩
      obtain ⟨a1, a2, s'⟩ := a
      dsimp only at h1 h2 h4
      subst h1; subst h2
      have hI' := hI.keep h4
      have h83 := hI'.1.2.2.1.1.1
      obtain ⟨s'', e'', k'', n''⟩ := passF (p0 := 34) (p1 := 8) (p3 := 19) (N := (twn u0 n0).1) (ls := (ls0 u0 n0)) (Or.inr (Or.inr ⟨rfl, rfl⟩)) (Or.inl rfl) hok hI'.1.2.2.1.1 hl hI'.1.2.2.2.2.1 (prN (i := i) (by omega)) hN hI'.2.1.1
      have kk := k''.wide (show 27 ≤ 34 by omega) (show 34 + 4 ≤ 40 by omega)
      have ea := agrF (hI'.keep kk).2.2.2 (fun h hh => (n''.2.1 h hh).1) (fun h v q => ngt_ns (N := (twn u0 n0).1) (ls := (ls0 u0 n0)) h8 hl q)
      have hgi : g i = agr e (nst (ddat u1 n1) (shr (ddat u1 n1) (twn u0 n0).1 (ls0 u0 n0)) (fun j => decide (j ≠ i)) l.2.1 l.1 (tsm l) 10).2.2.2.1 e.1 := by rw [hg]; rfl
      rw [← hgi] at ea
      left
      unfold F_X8_never_L4
      by_cases c : g i = true
      · have eo := or_bit (bsm_lt g i) (show i < 31 by omega)
        have eb := bsm_t c
        refine ⟨(nI (bsm g (i + 1)), nI (i + 1), s''), ?_, rfl, rfl, h4.trans kk⟩
        simp (disch := omega) only [↓Lm1, L0, L1, L2, L3, L4, L5, L6, L7, L8, L9, L10, L11, L12, L13, L14, L15, L16, L17, L18, L19, L20, L27, L30, L31, L35, L36, L37, L38, L39, L40, L41, L46, L48, L51, L57, L59, L60, L82, L98, L99, L100, L102, L104, L107, L110, L119, L144, L240, L255, L256, L360, L999, L1000000, nI_val, n_lt_t, n_lt_f, n_le_t, n_le_f, n_eq_t, n_eq_f, k_le_f, m_lt_t, m_lt_f, m_le_t, m_le_f, m_eq_f, m_eq_f', nI_add, nI_mulE, nI_subE, if_true, if_false, ite_true, ite_false, or_false, false_or, or_true, true_or, or_self, and_true, true_and, and_false, false_and, not_true_eq_false, not_false_eq_true, Option.bind_some, Sum.elim_inl, Sum.elim_inr, xu_set, xset_same, xset_ne, xset_2, xset_set, upd_same, upd_ne, nbI_some, ne_eq, reduceCtorEq, reduceIte, Nat.reduceAdd, Nat.reduceMul, Nat.reduceSub, Nat.add_zero, Nat.zero_add, Nat.mul_zero, Nat.zero_mul, h83, e'', ea, b01, c, eo, eb]
      · have eb := bsm_f c
        refine ⟨(nI (bsm g (i + 1)), nI (i + 1), s''), ?_, rfl, rfl, h4.trans kk⟩
        simp (disch := omega) only [↓Lm1, L0, L1, L2, L3, L4, L5, L6, L7, L8, L9, L10, L11, L12, L13, L14, L15, L16, L17, L18, L19, L20, L27, L30, L31, L35, L36, L37, L38, L39, L40, L41, L46, L48, L51, L57, L59, L60, L82, L98, L99, L100, L102, L104, L107, L110, L119, L144, L240, L255, L256, L360, L999, L1000000, nI_val, n_lt_t, n_lt_f, n_le_t, n_le_f, n_eq_t, n_eq_f, k_le_f, m_lt_t, m_lt_f, m_le_t, m_le_f, m_eq_f, m_eq_f', nI_add, nI_mulE, nI_subE, if_true, if_false, ite_true, ite_false, or_false, false_or, or_true, true_or, or_self, and_true, true_and, and_false, false_and, not_true_eq_false, not_false_eq_true, Option.bind_some, Sum.elim_inl, Sum.elim_inr, xu_set, xset_same, xset_ne, xset_2, xset_set, upd_same, upd_ne, nbI_some, ne_eq, reduceCtorEq, reduceIte, Nat.reduceAdd, Nat.reduceMul, Nat.reduceSub, Nat.add_zero, Nat.zero_add, Nat.mul_zero, Nat.zero_mul, h83, e'', ea, b01, c, eb]
    · intro a ⟨h1, h2, h4⟩
      obtain ⟨a1, a2, s'⟩ := a
      dsimp only at h1 h2 h4
      subst h1; subst h2
      have h83 := (hI.keep h4).1.2.2.1.1.1
      refine ⟨(nI (bsm g (ddat u1 n1).1), s'), ?_, rfl, h4⟩
      unfold F_X8_never_L4
      simp (disch := omega) only [↓Lm1, L0, L1, L2, L3, L4, L5, L6, L7, L8, L9, L10, L11, L12, L13, L14, L15, L16, L17, L18, L19, L20, L27, L30, L31, L35, L36, L37, L38, L39, L40, L41, L46, L48, L51, L57, L59, L60, L82, L98, L99, L100, L102, L104, L107, L110, L119, L144, L240, L255, L256, L360, L999, L1000000, nI_val, n_lt_t, n_lt_f, n_le_t, n_le_f, n_eq_t, n_eq_f, k_le_f, m_lt_t, m_lt_f, m_le_t, m_le_f, m_eq_f, m_eq_f', nI_add, nI_mulE, nI_subE, if_true, if_false, ite_true, ite_false, or_false, false_or, or_true, true_or, or_self, and_true, true_and, and_false, false_and, not_true_eq_false, not_false_eq_true, Option.bind_some, Sum.elim_inl, Sum.elim_inr, xu_set, xset_same, xset_ne, xset_2, xset_set, upd_same, upd_ne, nbI_some, ne_eq, reduceCtorEq, reduceIte, Nat.reduceAdd, Nat.reduceMul, Nat.reduceSub, Nat.add_zero, Nat.zero_add, Nat.mul_zero, Nat.zero_mul, h83]
  obtain ⟨b, eb, hb1, hb2⟩ := key
  refine ⟨b.2, ?_, hb2⟩
  unfold F_X8_never
  rw [← hg]
  simp (disch := omega) only [↓Lm1, L0, L1, L2, L3, L4, L5, L6, L7, L8, L9, L10, L11, L12, L13, L14, L15, L16, L17, L18, L19, L20, L27, L30, L31, L35, L36, L37, L38, L39, L40, L41, L46, L48, L51, L57, L59, L60, L82, L98, L99, L100, L102, L104, L107, L110, L119, L144, L240, L255, L256, L360, L999, L1000000, nI_val, n_lt_t, n_lt_f, n_le_t, n_le_f, n_eq_t, n_eq_f, k_le_f, m_lt_t, m_lt_f, m_le_t, m_le_f, m_eq_f, m_eq_f', nI_add, nI_mulE, nI_subE, if_true, if_false, ite_true, ite_false, or_false, false_or, or_true, true_or, or_self, and_true, true_and, and_false, false_and, not_true_eq_false, not_false_eq_true, Option.bind_some, Sum.elim_inl, Sum.elim_inr, xu_set, xset_same, xset_ne, xset_2, xset_set, upd_same, upd_ne, nbI_some, ne_eq, reduceCtorEq, reduceIte, Nat.reduceAdd, Nat.reduceMul, Nat.reduceSub, Nat.add_zero, Nat.zero_add, Nat.mul_zero, Nat.zero_mul, eb, hb1]
theorem m_never (h : IM u0 n0 u1 n1 l e s) (he : EaOk e) : ∃ s', F_X9_neverNow s = some (nI (bsm (nvB u0 n0 u1 n1 l e) (ddat u1 n1).1), s') ∧ RT u0 n0 u1 n1 l s s' := by
  have hok := dd_ok (u := u1) h.1.2.1
  have h8 := hok.1
  have hl := h.1.2.2.2.2.2.2.1
  obtain ⟨s2, s4, e2, e4, lt⟩ := laysT h.1
  have hI4 := lt.1.im h
  obtain ⟨g, hg⟩ : ∃ g : Nat → Bool, g = nvB u0 n0 u1 n1 l e := ⟨_, rfl⟩
  have key : ∃ b, xlp F_X9_neverNow_L12 100000 (nI 0, nI 0, s4) = some b ∧ b.1 = nI (bsm g (ddat u1 n1).1) ∧ KR [10, 11, 12, 13, 14] [15, 20] s4 b.2 := by
    refine xlp_cnt (f := F_X9_neverNow_L12) (fun i a => a.1 = nI (bsm g i) ∧ a.2.1 = nI i ∧ KR [10, 11, 12, 13, 14] [15, 20] s4 a.2.2) (fun b => b.1 = nI (bsm g (ddat u1 n1).1) ∧ KR [10, 11, 12, 13, 14] [15, 20] s4 b.2) (ddat u1 n1).1 (by omega) ?_ ?_ (a := (nI 0, nI 0, s4)) ⟨rfl, rfl, KR.refl _ _ _⟩
    · intro i a hi ⟨h1, h2, h4⟩
      obtain ⟨a1, a2, s'⟩ := a
      dsimp only at h1 h2 h4
      subst h1; subst h2
      have h05 : s'.1 0 5 = nI (ddat u1 n1).1 := by rw [h4.2 5 (by decide)]; exact lt.1.2.2.2.1
      have k5 : KR [10, 11, 12, 13, 14] [15, 20] s4 (xset s' 0 (upd (s'.1 0) 15 (xshl (nI 1) (nI i)))) := h4.set0 _ (fun j hj => upd_ne _ _ (fun z => hj (by rw [z]; decide)))
      obtain ⟨s'', e'', k'', n''⟩ := sleepT (d := (ddat u1 n1)) (pr := fun j => decide (j ≠ i)) (a := xset s' 0 (upd (s'.1 0) 15 (xshl (nI 1) (nI i)))) lt (fun q hq => k5.1 q (by omega) (by simp only [List.mem_cons, List.not_mem_nil, or_false]; omega)) (fun q hq => k5.2 q (by simp only [List.mem_cons, List.not_mem_nil, or_false]; omega)) hok (DdM_K lt.1.2.2.2 k5 (by decide) (by decide) (by decide) (by decide)) (by rw [xset_same, upd_same]; exact prNM (by omega))
      have kk := k5.trans (k''.wide (fun x hx => hx) (by decide))
      have ea := listM (L := []) he (EaM_K hI4.2 (kk.wide (by decide) (by decide))) hl h8 e'' n''
      have hgi : g i = agr e (ngt (twn u0 n0).1 (ls0 u0 n0) (ddat u1 n1) (fun j => decide (j ≠ i)) l).2.2.2.1 e.1 := by rw [hg]; rfl
      rw [← hgi] at ea
      left
      unfold F_X9_neverNow_L12
      by_cases c : g i = true
      · have eo := or_bit (bsm_lt g i) (show i < 31 by omega)
        have eb := bsm_t c
        refine ⟨(nI (bsm g (i + 1)), nI (i + 1), s''), ?_, rfl, rfl, kk⟩
        simp (disch := omega) only [↓Lm1, L0, L1, L2, L3, L4, L5, L6, L7, L8, L9, L10, L11, L12, L13, L14, L15, L16, L17, L18, L19, L20, L27, L30, L31, L35, L36, L37, L38, L39, L40, L41, L46, L48, L51, L57, L59, L60, L82, L98, L99, L100, L102, L104, L107, L110, L119, L144, L240, L255, L256, L360, L999, L1000000, nI_val, n_lt_t, n_lt_f, n_le_t, n_le_f, n_eq_t, n_eq_f, k_le_f, m_lt_t, m_lt_f, m_le_t, m_le_f, m_eq_f, m_eq_f', nI_add, nI_mulE, nI_subE, if_true, if_false, ite_true, ite_false, or_false, false_or, or_true, true_or, or_self, and_true, true_and, and_false, false_and, not_true_eq_false, not_false_eq_true, Option.bind_some, Sum.elim_inl, Sum.elim_inr, xu_set, xset_same, xset_ne, xset_2, xset_set, upd_same, upd_ne, nbI_some, ne_eq, reduceCtorEq, reduceIte, Nat.reduceAdd, Nat.reduceMul, Nat.reduceSub, Nat.add_zero, Nat.zero_add, Nat.mul_zero, Nat.zero_mul, h05, ea, b01, c, eo, eb]
      · have eb := bsm_f c
        refine ⟨(nI (bsm g (i + 1)), nI (i + 1), s''), ?_, rfl, rfl, kk⟩
        simp (disch := omega) only [↓Lm1, L0, L1, L2, L3, L4, L5, L6, L7, L8, L9, L10, L11, L12, L13, L14, L15, L16, L17, L18, L19, L20, L27, L30, L31, L35, L36, L37, L38, L39, L40, L41, L46, L48, L51, L57, L59, L60, L82, L98, L99, L100, L102, L104, L107, L110, L119, L144, L240, L255, L256, L360, L999, L1000000, nI_val, n_lt_t, n_lt_f, n_le_t, n_le_f, n_eq_t, n_eq_f, k_le_f, m_lt_t, m_lt_f, m_le_t, m_le_f, m_eq_f, m_eq_f', nI_add, nI_mulE, nI_subE, if_true, if_false, ite_true, ite_false, or_false, false_or, or_true, true_or, or_self, and_true, true_and, and_false, false_and, not_true_eq_false, not_false_eq_true, Option.bind_some, Sum.elim_inl, Sum.elim_inr, xu_set, xset_same, xset_ne, xset_2, xset_set, upd_same, upd_ne, nbI_some, ne_eq, reduceCtorEq, reduceIte, Nat.reduceAdd, Nat.reduceMul, Nat.reduceSub, Nat.add_zero, Nat.zero_add, Nat.mul_zero, Nat.zero_mul, h05, ea, b01, c, eb, or_0]
    · intro a ⟨h1, h2, h4⟩
      obtain ⟨a1, a2, s'⟩ := a
      dsimp only at h1 h2 h4
      subst h1; subst h2
      have h05 : s'.1 0 5 = nI (ddat u1 n1).1 := by rw [h4.2 5 (by decide)]; exact lt.1.2.2.2.1
      refine ⟨(nI (bsm g (ddat u1 n1).1), s'), ?_, rfl, h4⟩
      unfold F_X9_neverNow_L12
      simp (disch := omega) only [↓Lm1, L0, L1, L2, L3, L4, L5, L6, L7, L8, L9, L10, L11, L12, L13, L14, L15, L16, L17, L18, L19, L20, L27, L30, L31, L35, L36, L37, L38, L39, L40, L41, L46, L48, L51, L57, L59, L60, L82, L98, L99, L100, L102, L104, L107, L110, L119, L144, L240, L255, L256, L360, L999, L1000000, nI_val, n_lt_t, n_lt_f, n_le_t, n_le_f, n_eq_t, n_eq_f, k_le_f, m_lt_t, m_lt_f, m_le_t, m_le_f, m_eq_f, m_eq_f', nI_add, nI_mulE, nI_subE, if_true, if_false, ite_true, ite_false, or_false, false_or, or_true, true_or, or_self, and_true, true_and, and_false, false_and, not_true_eq_false, not_false_eq_true, Option.bind_some, Sum.elim_inl, Sum.elim_inr, xu_set, xset_same, xset_ne, xset_2, xset_set, upd_same, upd_ne, nbI_some, ne_eq, reduceCtorEq, reduceIte, Nat.reduceAdd, Nat.reduceMul, Nat.reduceSub, Nat.add_zero, Nat.zero_add, Nat.mul_zero, Nat.zero_mul, h05]
  obtain ⟨b, eb, hb1, hb2⟩ := key
  refine ⟨b.2, ?_, lt.1.keep (hb2.wide (by decide) (by decide))⟩
  unfold F_X9_neverNow
  rw [← hg]
  simp (disch := omega) only [↓Lm1, L0, L1, L2, L3, L4, L5, L6, L7, L8, L9, L10, L11, L12, L13, L14, L15, L16, L17, L18, L19, L20, L27, L30, L31, L35, L36, L37, L38, L39, L40, L41, L46, L48, L51, L57, L59, L60, L82, L98, L99, L100, L102, L104, L107, L110, L119, L144, L240, L255, L256, L360, L999, L1000000, nI_val, n_lt_t, n_lt_f, n_le_t, n_le_f, n_eq_t, n_eq_f, k_le_f, m_lt_t, m_lt_f, m_le_t, m_le_f, m_eq_f, m_eq_f', nI_add, nI_mulE, nI_subE, if_true, if_false, ite_true, ite_false, or_false, false_or, or_true, true_or, or_self, and_true, true_and, and_false, false_and, not_true_eq_false, not_false_eq_true, Option.bind_some, Sum.elim_inl, Sum.elim_inr, xu_set, xset_same, xset_ne, xset_2, xset_set, upd_same, upd_ne, nbI_some, ne_eq, reduceCtorEq, reduceIte, Nat.reduceAdd, Nat.reduceMul, Nat.reduceSub, Nat.add_zero, Nat.zero_add, Nat.mul_zero, Nat.zero_mul, e2, e4, eb, hb1]
theorem c_never : lh_never Inv := by
  intro s1 s2 hI
  obtain ⟨u0, n0, u1, n1, l, e, hA⟩ := hI
  obtain ⟨s', e', rt⟩ := m_never hA.iM hA.iF.2.2.2.ok
  obtain ⟨t, et, kt⟩ := q_never hA.iF
  refine ⟨_, t, s', et, ?_, hA.mk2 (hA.iF.keep kt) kt.kf rt.1⟩
  unfold F_X9_never
  rw [e']
  rfl
end SPEC
