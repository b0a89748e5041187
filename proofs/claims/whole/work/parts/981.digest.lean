/-! ===== digest ===== -/
def mx_ (h : Int64) (v : Int32) : Int64 := (31 : Int64) * h + v.toInt64
def ml_ (h : Int64) (v : Int64) : Int64 := (31 : Int64) * h + v
theorem bnd {α β : Type} {x : Option α} {a : α} {f : α → Option β} {r : Option β} (h : x = some a) (h2 : f a = r) : x.bind f = r := by
  rw [h]
  exact h2
theorem mixE (h : Int64) (v : Int32) (t : xS) : F_X8_mix h v.toInt64 t = some (mx_ h v) := rfl
theorem mixL (h v : Int64) (t : xS) : F_X8_mix h v t = some (ml_ h v) := rfl
section SPEC
variable {u0 : Nat → Nat} {n0 : Nat} {u1 : Nat → Nat} {n1 : Nat} {l : LD} {e : ED} {s s4 a : xS}
def ddv (u1 : Nat → Nat) (n1 : Nat) (k w : Nat) : Int32 := nI (if w = 0 then (ddat u1 n1).2.1 k else if w = 1 then (ddat u1 n1).2.2.1 k else (ddat u1 n1).2.2.2 k)
noncomputable def hdv (u0 : Nat → Nat) (n0 : Nat) (u1 : Nat → Nat) (n1 : Nat) (l : LD) (k w : Nat) : Int32 := nI (if w = 0 then shr (ddat u1 n1) (twn u0 n0).1 (ls0 u0 n0) k else (ngt (twn u0 n0).1 (ls0 u0 n0) (ddat u1 n1) all_ l).2.2.2.2.2 k)
noncomputable def akv (u0 : Nat → Nat) (n0 : Nat) (u1 : Nat → Nat) (n1 : Nat) (l : LD) (e : ED) (k : Nat) : Int32 := nI (amn (alk (wnB u0 n0 u1 n1 l e k) (wnS u0 n0 u1 n1 l k) (twn u0 n0).1) 9)
noncomputable def wtv (u0 : Nat → Nat) (n0 : Nat) (u1 : Nat → Nat) (n1 : Nat) (l : LD) (e : ED) (k : Nat) : Int32 := nI (bsm (wtB u0 n0 u1 n1 l e k) 4)
/-- a deed's own -/
noncomputable def dgX (u0 : Nat → Nat) (n0 : Nat) (u1 : Nat → Nat) (n1 : Nat) (l : LD) (e : ED) (h : Int64) (k : Nat) : Int64 := mx_ (mx_ (mx_ (mx_ (mx_ (mx_ (mx_ (mx_ (mx_ (mx_ (mx_ h (ddv u1 n1 k 0)) (ddv u1 n1 k 1)) (ddv u1 n1 k 2)) (hdv u0 n0 u1 n1 l k 0)) (hdv u0 n0 u1 n1 l k 1)) (hrv u0 n0 u1 n1 l k 0)) (hrv u0 n0 u1 n1 l k 1)) (wnv u0 n0 u1 n1 l e k none)) (wnv u0 n0 u1 n1 l e k (some 0))) (wtv u0 n0 u1 n1 l e k)) (akv u0 n0 u1 n1 l e k)
theorem q_mixDeed {k : Nat} (h : Int64) (hI : IF u0 n0 u1 n1 l e s) (hk : k < (ddat u1 n1).1) : ∃ s', F_X8_mixDeed h (nI k) s = some (dgX u0 n0 u1 n1 l e h k, s') ∧ Kp 27 40 s s' := by
  have e1 : F_X8_deed (nI k) 0 s = some (ddv u1 n1 k 0) := q_deed (w := 0) hI.1 hk (by omega)
  have e2 : F_X8_deed (nI k) 1 s = some (ddv u1 n1 k 1) := q_deed (w := 1) hI.1 hk (by omega)
  have e3 : F_X8_deed (nI k) 2 s = some (ddv u1 n1 k 2) := q_deed (w := 2) hI.1 hk (by omega)
  have e4 : F_X8_heard (nI k) 0 s = some (hdv u0 n0 u1 n1 l k 0) := q_heard (w := 0) hI.1 hI.2.1 hk (by omega)
  have e5 : F_X8_heard (nI k) 1 s = some (hdv u0 n0 u1 n1 l k 1) := q_heard (w := 1) hI.1 hI.2.1 hk (by omega)
  obtain ⟨s1, f1, k1⟩ := q_hour (w := 0) hI hk (by omega)
  have i1 := hI.keep k1
  obtain ⟨s2, f2, k2⟩ := q_hour (w := 1) i1 hk (by omega)
  have i2 := i1.keep k2
  obtain ⟨s3, f3, k3⟩ := q_whence (i := none) i2 hk (fun x q => by cases q)
  have i3 := i2.keep k3
  obtain ⟨s4, f4, k4⟩ := q_whence (i := some 0) i3 hk (fun x q => by cases q; omega)
  have i4 := i3.keep k4
  obtain ⟨s5, f5, k5⟩ := q_what i4 hk
  have i5 := i4.keep k5
  obtain ⟨s6, f6, k6⟩ := q_ask i5 hk
  have g1 : F_X8_hour (nI k) 0 s = some (hrv u0 n0 u1 n1 l k 0, s1) := f1
  have g2 : F_X8_hour (nI k) 1 s1 = some (hrv u0 n0 u1 n1 l k 1, s2) := f2
  have g3 : F_X8_whence (nI k) (-1) s2 = some (wnv u0 n0 u1 n1 l e k none, s3) := f3
  have g4 : F_X8_whence (nI k) 0 s3 = some (wnv u0 n0 u1 n1 l e k (some 0), s4) := f4
  have g5 : F_X8_what (nI k) s4 = some (wtv u0 n0 u1 n1 l e k, s5) := f5
  have g6 : F_X8_ask (nI k) s5 = some (akv u0 n0 u1 n1 l e k, s6) := f6
  refine ⟨s6, ?_, ((((k1.trans k2).trans k3).trans k4).trans k5).trans k6⟩
  unfold F_X8_mixDeed F_X8_mix
  simp only [e1, e2, e3, e4, e5, g1, g2, g3, g4, g5, g6, Option.bind_some]
  rfl
def dg3 (u1 : Nat → Nat) (n1 : Nat) (h : Int64) (k : Nat) : Nat → Int64
  | 0 => h
  | i + 1 => mx_ (dg3 u1 n1 h k i) (ddv u1 n1 k i)
theorem m_deedDigest {k : Nat} (h : Int64) (hM : IM u0 n0 u1 n1 l e s) (hD : DdM (ddat u1 n1) s) (he : EaOk e) (hk : k < (ddat u1 n1).1) : ∃ s', F_X9_deedDigest h (nI k) s = some (dgX u0 n0 u1 n1 l e h k, s') ∧ RT u0 n0 u1 n1 l s s' := by
  have h8 := (dd_ok (u := u1) hM.1.2.1).1
  have key : xlp (F_X9_deedDigest_L6 (nI k) s) 100000 (h, 0) = some (dg3 u1 n1 h k 3) := by
    refine xlp_at (fun i => (dg3 u1 n1 h k i, nI i)) 3 (by omega) rfl (fun i hi => ?_) ?_
    · have ed : F_X9_deedOf (nI k) (nI i) s = some (ddv u1 n1 k i) := m_deed (w := i) hD h8 hk hi
      have es : dg3 u1 n1 h k (i + 1) = (31 : Int64) * dg3 u1 n1 h k i + (ddv u1 n1 k i).toInt64 := rfl
      unfold F_X9_deedDigest_L6
      simp (disch := omega) only [↓Lm1, L0, L1, L2, L3, L4, L5, L6, L7, L8, L9, L10, L11, L12, L13, L14, L15, L16, L17, L18, L19, L20, L27, L30, L31, L35, L36, L37, L38, L39, L40, L41, L46, L48, L51, L57, L59, L60, L82, L98, L99, L100, L102, L104, L107, L110, L119, L144, L240, L255, L256, L360, L999, L1000000, nI_val, n_lt_t, n_lt_f, n_le_t, n_le_f, n_eq_t, n_eq_f, k_le_f, m_lt_t, m_lt_f, m_le_t, m_le_f, m_eq_f, m_eq_f', nI_add, nI_mulE, nI_subE, if_true, if_false, ite_true, ite_false, or_false, false_or, or_true, true_or, or_self, and_true, true_and, and_false, false_and, not_true_eq_false, not_false_eq_true, Option.bind_some, Sum.elim_inl, Sum.elim_inr, xu_set, xset_same, xset_ne, xset_2, xset_set, upd_same, upd_ne, nbI_some, ne_eq, reduceCtorEq, reduceIte, Nat.reduceAdd, Nat.reduceMul, Nat.reduceSub, Nat.add_zero, Nat.zero_add, Nat.mul_zero, Nat.zero_mul, ed, es]
    · unfold F_X9_deedDigest_L6
      simp (disch := omega) only [↓Lm1, L0, L1, L2, L3, L4, L5, L6, L7, L8, L9, L10, L11, L12, L13, L14, L15, L16, L17, L18, L19, L20, L27, L30, L31, L35, L36, L37, L38, L39, L40, L41, L46, L48, L51, L57, L59, L60, L82, L98, L99, L100, L102, L104, L107, L110, L119, L144, L240, L255, L256, L360, L999, L1000000, nI_val, n_lt_t, n_lt_f, n_le_t, n_le_f, n_eq_t, n_eq_f, k_le_f, m_lt_t, m_lt_f, m_le_t, m_le_f, m_eq_f, m_eq_f', nI_add, nI_mulE, nI_subE, if_true, if_false, ite_true, ite_false, or_false, false_or, or_true, true_or, or_self, and_true, true_and, and_false, false_and, not_true_eq_false, not_false_eq_true, Option.bind_some, Sum.elim_inl, Sum.elim_inr, xu_set, xset_same, xset_ne, xset_2, xset_set, upd_same, upd_ne, nbI_some, ne_eq, reduceCtorEq, reduceIte, Nat.reduceAdd, Nat.reduceMul, Nat.reduceSub, Nat.add_zero, Nat.zero_add, Nat.mul_zero, Nat.zero_mul]
  obtain ⟨s1, f1, r1⟩ := m_heard (w := 0) hM.1 hk (by omega)
  obtain ⟨s2, f2, r2⟩ := m_heard (w := 1) r1.2.1 hk (by omega)
  obtain ⟨s3, f3, r3⟩ := m_hour (w := 0) r2.2.1 hk (by omega)
  obtain ⟨s4, f4, r4⟩ := m_hour (w := 1) r3.2.1 hk (by omega)
  have t4 := ((r1.tr r2).tr r3).tr r4
  obtain ⟨s5, f5, r5⟩ := m_whence (i := none) (t4.im hM) he hk (fun x q => by cases q)
  have t5 := t4.tr r5
  obtain ⟨s6, f6, r6⟩ := m_whence (i := some 0) (t5.im hM) he hk (fun x q => by cases q; omega)
  have t6 := t5.tr r6
  obtain ⟨s7, f7, r7⟩ := m_what (t6.im hM) he hk
  have t7 := t6.tr r7
  obtain ⟨s8, f8, r8⟩ := m_ask (t7.im hM) he hk
  have g1 : F_X9_heardBy (nI k) 0 s = some (hdv u0 n0 u1 n1 l k 0, s1) := f1
  have g2 : F_X9_heardBy (nI k) 1 s1 = some (hdv u0 n0 u1 n1 l k 1, s2) := f2
  have g3 : F_X9_hourOf (nI k) 0 s2 = some (hrv u0 n0 u1 n1 l k 0, s3) := f3
  have g4 : F_X9_hourOf (nI k) 1 s3 = some (hrv u0 n0 u1 n1 l k 1, s4) := f4
  have g5 : F_X9_whenceOf (nI k) (-1) s4 = some (wnv u0 n0 u1 n1 l e k none, s5) := f5
  have g6 : F_X9_whenceOf (nI k) 0 s5 = some (wnv u0 n0 u1 n1 l e k (some 0), s6) := f6
  have g7 : F_X9_whatOf (nI k) s6 = some (wtv u0 n0 u1 n1 l e k, s7) := f7
  have g8 : F_X9_askOf (nI k) s7 = some (akv u0 n0 u1 n1 l e k, s8) := f8
  refine ⟨s8, ?_, t7.tr r8⟩
  unfold F_X9_deedDigest
  simp only [key, g1, g2, g3, g4, g5, g6, g7, g8, Option.bind_some]
  rfl
/-! the parts of it -/
noncomputable def dgC (u0 : Nat → Nat) (n0 : Nat) (u1 : Nat → Nat) (n1 : Nat) (l : LD) (e : ED) : Nat → Int64
  | 0 => 17
  | i + 1 => mx_ (dgC u0 n0 u1 n1 l e i) (nI (cnt u0 n0 u1 n1 l e i))
noncomputable def dgT (u0 : Nat → Nat) (n0 : Nat) (h : Int64) : Nat → Int64
  | 0 => h
  | i + 1 => mx_ (mx_ (mx_ (dgT u0 n0 h i) (nI ((twn u0 n0).2.2.2 i))) (nI (20 - lo (twn u0 n0).1 (twn u0 n0).2.1 (fun j => tl ((twn u0 n0).2.2.2 j)) (some i) 0))) (nbI (wyv u0 n0 0 i))
noncomputable def dgD (u0 : Nat → Nat) (n0 : Nat) (u1 : Nat → Nat) (n1 : Nat) (l : LD) (e : ED) (h : Int64) : Nat → Int64
  | 0 => h
  | i + 1 => dgX u0 n0 u1 n1 l e (dgD u0 n0 u1 n1 l e h i) i
noncomputable def dgN (u0 : Nat → Nat) (n0 : Nat) (u1 : Nat → Nat) (n1 : Nat) (l : LD) (h : Int64) : Nat → Int64
  | 0 => h
  | i + 1 => mx_ (mx_ (dgN u0 n0 u1 n1 l h i) (nbI ((ngt (twn u0 n0).1 (ls0 u0 n0) (ddat u1 n1) all_ l).2.2.2.1 i))) (nbI ((ngt (twn u0 n0).1 (ls0 u0 n0) (ddat u1 n1) all_ l).2.2.2.2.1 i))
theorem q_dgC (hI : IF u0 n0 u1 n1 l e s) : xlp (F_X8_digest_L6 s) 100000 (17, 0) = some (dgC u0 n0 u1 n1 l e 8) := by
  refine xlp_at (fun i => (dgC u0 n0 u1 n1 l e i, nI i)) 8 (by omega) rfl (fun i hi => ?_) ?_
  · have ec := q_count hI hi
    have es : dgC u0 n0 u1 n1 l e (i + 1) = (31 : Int64) * dgC u0 n0 u1 n1 l e i + (nI (cnt u0 n0 u1 n1 l e i)).toInt64 := rfl
    unfold F_X8_digest_L6 F_X8_mix
    simp (disch := omega) only [↓Lm1, L0, L1, L2, L3, L4, L5, L6, L7, L8, L9, L10, L11, L12, L13, L14, L15, L16, L17, L18, L19, L20, L27, L30, L31, L35, L36, L37, L38, L39, L40, L41, L46, L48, L51, L57, L59, L60, L82, L98, L99, L100, L102, L104, L107, L110, L119, L144, L240, L255, L256, L360, L999, L1000000, nI_val, n_lt_t, n_lt_f, n_le_t, n_le_f, n_eq_t, n_eq_f, k_le_f, m_lt_t, m_lt_f, m_le_t, m_le_f, m_eq_f, m_eq_f', nI_add, nI_mulE, nI_subE, if_true, if_false, ite_true, ite_false, or_false, false_or, or_true, true_or, or_self, and_true, true_and, and_false, false_and, not_true_eq_false, not_false_eq_true, Option.bind_some, Sum.elim_inl, Sum.elim_inr, xu_set, xset_same, xset_ne, xset_2, xset_set, upd_same, upd_ne, nbI_some, ne_eq, reduceCtorEq, reduceIte, Nat.reduceAdd, Nat.reduceMul, Nat.reduceSub, Nat.add_zero, Nat.zero_add, Nat.mul_zero, Nat.zero_mul, ec, es]
  · unfold F_X8_digest_L6
    simp (disch := omega) only [↓Lm1, L0, L1, L2, L3, L4, L5, L6, L7, L8, L9, L10, L11, L12, L13, L14, L15, L16, L17, L18, L19, L20, L27, L30, L31, L35, L36, L37, L38, L39, L40, L41, L46, L48, L51, L57, L59, L60, L82, L98, L99, L100, L102, L104, L107, L110, L119, L144, L240, L255, L256, L360, L999, L1000000, nI_val, n_lt_t, n_lt_f, n_le_t, n_le_f, n_eq_t, n_eq_f, k_le_f, m_lt_t, m_lt_f, m_le_t, m_le_f, m_eq_f, m_eq_f', nI_add, nI_mulE, nI_subE, if_true, if_false, ite_true, ite_false, or_false, false_or, or_true, true_or, or_self, and_true, true_and, and_false, false_and, not_true_eq_false, not_false_eq_true, Option.bind_some, Sum.elim_inl, Sum.elim_inr, xu_set, xset_same, xset_ne, xset_2, xset_set, upd_same, upd_ne, nbI_some, ne_eq, reduceCtorEq, reduceIte, Nat.reduceAdd, Nat.reduceMul, Nat.reduceSub, Nat.add_zero, Nat.zero_add, Nat.mul_zero, Nat.zero_mul]
theorem q_dgT (h : Int64) (hI : IF u0 n0 u1 n1 l e s) : ∃ s', xlp F_X8_digest_L51 100000 (h, 0, s) = some (dgT u0 n0 h (twn u0 n0).1, s') ∧ Kp 27 40 s s' := by
  have hN := (twn_ok u0 n0).1.1
  have key : ∃ b, xlp F_X8_digest_L51 100000 (h, 0, s) = some b ∧ b.1 = dgT u0 n0 h (twn u0 n0).1 ∧ Kp 27 40 s b.2 := by
    refine xlp_cnt (f := F_X8_digest_L51) (fun i a => a.1 = dgT u0 n0 h i ∧ a.2.1 = nI i ∧ Kp 27 40 s a.2.2) (fun b => b.1 = dgT u0 n0 h (twn u0 n0).1 ∧ Kp 27 40 s b.2) (twn u0 n0).1 (by omega) ?_ ?_ (a := (h, 0, s)) ⟨rfl, rfl, Kp.refl _ _ _⟩
    · intro i a hi ⟨h1, h2, h4⟩
      obtain ⟨a1, a2, s'⟩ := a
      dsimp only at h1 h2 h4
      subst h1; subst h2
      have hI' := hI.keep h4
      have h52 : s'.1 5 2 = nI (twn u0 n0).1 := hI'.1.2.1.1.2.1
      have e1 := q_cell hI'.1 hi
      obtain ⟨s2, e2, k2⟩ := q_carry (x := 20) (a := 0) (b := i) hI'.1 (by omega) (by omega) hi
      obtain ⟨s3, e3, k3⟩ := q_way (x := 0) (y := i) (hI'.keep k2) (by omega) hi
      have es : dgT u0 n0 h (i + 1) = (31 : Int64) * ((31 : Int64) * ((31 : Int64) * dgT u0 n0 h i + (nI ((twn u0 n0).2.2.2 i)).toInt64) + (nI (20 - lo (twn u0 n0).1 (twn u0 n0).2.1 (fun j => tl ((twn u0 n0).2.2.2 j)) (some i) 0)).toInt64) + (nbI (wyv u0 n0 0 i)).toInt64 := rfl
      left
      refine ⟨(dgT u0 n0 h (i + 1), nI (i + 1), s3), ?_, rfl, rfl, (h4.trans k2).trans k3⟩
      unfold F_X8_digest_L51 F_X8_mix
      simp (disch := omega) only [↓Lm1, L0, L1, L2, L3, L4, L5, L6, L7, L8, L9, L10, L11, L12, L13, L14, L15, L16, L17, L18, L19, L20, L27, L30, L31, L35, L36, L37, L38, L39, L40, L41, L46, L48, L51, L57, L59, L60, L82, L98, L99, L100, L102, L104, L107, L110, L119, L144, L240, L255, L256, L360, L999, L1000000, nI_val, n_lt_t, n_lt_f, n_le_t, n_le_f, n_eq_t, n_eq_f, k_le_f, m_lt_t, m_lt_f, m_le_t, m_le_f, m_eq_f, m_eq_f', nI_add, nI_mulE, nI_subE, if_true, if_false, ite_true, ite_false, or_false, false_or, or_true, true_or, or_self, and_true, true_and, and_false, false_and, not_true_eq_false, not_false_eq_true, Option.bind_some, Sum.elim_inl, Sum.elim_inr, xu_set, xset_same, xset_ne, xset_2, xset_set, upd_same, upd_ne, nbI_some, ne_eq, reduceCtorEq, reduceIte, Nat.reduceAdd, Nat.reduceMul, Nat.reduceSub, Nat.add_zero, Nat.zero_add, Nat.mul_zero, Nat.zero_mul, h52, e1, e2, e3, es]
    · intro a ⟨h1, h2, h4⟩
      obtain ⟨a1, a2, s'⟩ := a
      dsimp only at h1 h2 h4
      subst h1; subst h2
      have h52 : s'.1 5 2 = nI (twn u0 n0).1 := (hI.keep h4).1.2.1.1.2.1
      refine ⟨(dgT u0 n0 h (twn u0 n0).1, s'), ?_, rfl, h4⟩
      unfold F_X8_digest_L51
      simp (disch := omega) only [↓Lm1, L0, L1, L2, L3, L4, L5, L6, L7, L8, L9, L10, L11, L12, L13, L14, L15, L16, L17, L18, L19, L20, L27, L30, L31, L35, L36, L37, L38, L39, L40, L41, L46, L48, L51, L57, L59, L60, L82, L98, L99, L100, L102, L104, L107, L110, L119, L144, L240, L255, L256, L360, L999, L1000000, nI_val, n_lt_t, n_lt_f, n_le_t, n_le_f, n_eq_t, n_eq_f, k_le_f, m_lt_t, m_lt_f, m_le_t, m_le_f, m_eq_f, m_eq_f', nI_add, nI_mulE, nI_subE, if_true, if_false, ite_true, ite_false, or_false, false_or, or_true, true_or, or_self, and_true, true_and, and_false, false_and, not_true_eq_false, not_false_eq_true, Option.bind_some, Sum.elim_inl, Sum.elim_inr, xu_set, xset_same, xset_ne, xset_2, xset_set, upd_same, upd_ne, nbI_some, ne_eq, reduceCtorEq, reduceIte, Nat.reduceAdd, Nat.reduceMul, Nat.reduceSub, Nat.add_zero, Nat.zero_add, Nat.mul_zero, Nat.zero_mul, h52]
  obtain ⟨⟨b1, b2⟩, eb, hb1, hb2⟩ := key
  dsimp only at hb1 hb2
  subst hb1
  exact ⟨b2, eb, hb2⟩
theorem q_dgD (h : Int64) (hI : IF u0 n0 u1 n1 l e s) : ∃ s', xlp F_X8_digest_L113 100000 (h, 0, s) = some (dgD u0 n0 u1 n1 l e h (ddat u1 n1).1, s') ∧ Kp 27 40 s s' := by
  have h8 := (dd_ok (u := u1) hI.1.1.2.1).1
  have key : ∃ b, xlp F_X8_digest_L113 100000 (h, 0, s) = some b ∧ b.1 = dgD u0 n0 u1 n1 l e h (ddat u1 n1).1 ∧ Kp 27 40 s b.2 := by
    refine xlp_cnt (f := F_X8_digest_L113) (fun i a => a.1 = dgD u0 n0 u1 n1 l e h i ∧ a.2.1 = nI i ∧ Kp 27 40 s a.2.2) (fun b => b.1 = dgD u0 n0 u1 n1 l e h (ddat u1 n1).1 ∧ Kp 27 40 s b.2) (ddat u1 n1).1 (by omega) ?_ ?_ (a := (h, 0, s)) ⟨rfl, rfl, Kp.refl _ _ _⟩
    · intro i a hi ⟨h1, h2, h4⟩
      obtain ⟨a1, a2, s'⟩ := a
      dsimp only at h1 h2 h4
      subst h1; subst h2
      have hI' := hI.keep h4
      have h83 : s'.1 8 3 = nI (ddat u1 n1).1 := hI'.1.2.2.1.1.1
      obtain ⟨s2, e2, k2⟩ := q_mixDeed (dgD u0 n0 u1 n1 l e h i) hI' hi
      have es : dgD u0 n0 u1 n1 l e h (i + 1) = dgX u0 n0 u1 n1 l e (dgD u0 n0 u1 n1 l e h i) i := rfl
      left
      refine ⟨(dgD u0 n0 u1 n1 l e h (i + 1), nI (i + 1), s2), ?_, rfl, rfl, h4.trans k2⟩
      unfold F_X8_digest_L113
      simp (disch := omega) only [↓Lm1, L0, L1, L2, L3, L4, L5, L6, L7, L8, L9, L10, L11, L12, L13, L14, L15, L16, L17, L18, L19, L20, L27, L30, L31, L35, L36, L37, L38, L39, L40, L41, L46, L48, L51, L57, L59, L60, L82, L98, L99, L100, L102, L104, L107, L110, L119, L144, L240, L255, L256, L360, L999, L1000000, nI_val, n_lt_t, n_lt_f, n_le_t, n_le_f, n_eq_t, n_eq_f, k_le_f, m_lt_t, m_lt_f, m_le_t, m_le_f, m_eq_f, m_eq_f', nI_add, nI_mulE, nI_subE, if_true, if_false, ite_true, ite_false, or_false, false_or, or_true, true_or, or_self, and_true, true_and, and_false, false_and, not_true_eq_false, not_false_eq_true, Option.bind_some, Sum.elim_inl, Sum.elim_inr, xu_set, xset_same, xset_ne, xset_2, xset_set, upd_same, upd_ne, nbI_some, ne_eq, reduceCtorEq, reduceIte, Nat.reduceAdd, Nat.reduceMul, Nat.reduceSub, Nat.add_zero, Nat.zero_add, Nat.mul_zero, Nat.zero_mul, h83, e2, es]
    · intro a ⟨h1, h2, h4⟩
      obtain ⟨a1, a2, s'⟩ := a
      dsimp only at h1 h2 h4
      subst h1; subst h2
      have h83 : s'.1 8 3 = nI (ddat u1 n1).1 := (hI.keep h4).1.2.2.1.1.1
      refine ⟨(dgD u0 n0 u1 n1 l e h (ddat u1 n1).1, s'), ?_, rfl, h4⟩
      unfold F_X8_digest_L113
      simp (disch := omega) only [↓Lm1, L0, L1, L2, L3, L4, L5, L6, L7, L8, L9, L10, L11, L12, L13, L14, L15, L16, L17, L18, L19, L20, L27, L30, L31, L35, L36, L37, L38, L39, L40, L41, L46, L48, L51, L57, L59, L60, L82, L98, L99, L100, L102, L104, L107, L110, L119, L144, L240, L255, L256, L360, L999, L1000000, nI_val, n_lt_t, n_lt_f, n_le_t, n_le_f, n_eq_t, n_eq_f, k_le_f, m_lt_t, m_lt_f, m_le_t, m_le_f, m_eq_f, m_eq_f', nI_add, nI_mulE, nI_subE, if_true, if_false, ite_true, ite_false, or_false, false_or, or_true, true_or, or_self, and_true, true_and, and_false, false_and, not_true_eq_false, not_false_eq_true, Option.bind_some, Sum.elim_inl, Sum.elim_inr, xu_set, xset_same, xset_ne, xset_2, xset_set, upd_same, upd_ne, nbI_some, ne_eq, reduceCtorEq, reduceIte, Nat.reduceAdd, Nat.reduceMul, Nat.reduceSub, Nat.add_zero, Nat.zero_add, Nat.mul_zero, Nat.zero_mul, h83]
  obtain ⟨⟨b1, b2⟩, eb, hb1, hb2⟩ := key
  dsimp only at hb1 hb2
  subst hb1
  exact ⟨b2, eb, hb2⟩
theorem q_dgN (h : Int64) (hI : BF1 u0 n0 u1 n1 l s) : xlp (F_X8_digest_L139 s) 100000 (h, 0) = some (dgN u0 n0 u1 n1 l h 10) := by
  refine xlp_at (fun i => (dgN u0 n0 u1 n1 l h i, nI i)) 10 (by omega) rfl (fun i hi => ?_) ?_
  · have e1 := q_noise hI hi
    have e2 := q_depth hI hi
    have es : dgN u0 n0 u1 n1 l h (i + 1) = (31 : Int64) * ((31 : Int64) * dgN u0 n0 u1 n1 l h i + (nbI ((ngt (twn u0 n0).1 (ls0 u0 n0) (ddat u1 n1) all_ l).2.2.2.1 i)).toInt64) + (nbI ((ngt (twn u0 n0).1 (ls0 u0 n0) (ddat u1 n1) all_ l).2.2.2.2.1 i)).toInt64 := rfl
    unfold F_X8_digest_L139 F_X8_mix
    simp (disch := omega) only [↓Lm1, L0, L1, L2, L3, L4, L5, L6, L7, L8, L9, L10, L11, L12, L13, L14, L15, L16, L17, L18, L19, L20, L27, L30, L31, L35, L36, L37, L38, L39, L40, L41, L46, L48, L51, L57, L59, L60, L82, L98, L99, L100, L102, L104, L107, L110, L119, L144, L240, L255, L256, L360, L999, L1000000, nI_val, n_lt_t, n_lt_f, n_le_t, n_le_f, n_eq_t, n_eq_f, k_le_f, m_lt_t, m_lt_f, m_le_t, m_le_f, m_eq_f, m_eq_f', nI_add, nI_mulE, nI_subE, if_true, if_false, ite_true, ite_false, or_false, false_or, or_true, true_or, or_self, and_true, true_and, and_false, false_and, not_true_eq_false, not_false_eq_true, Option.bind_some, Sum.elim_inl, Sum.elim_inr, xu_set, xset_same, xset_ne, xset_2, xset_set, upd_same, upd_ne, nbI_some, ne_eq, reduceCtorEq, reduceIte, Nat.reduceAdd, Nat.reduceMul, Nat.reduceSub, Nat.add_zero, Nat.zero_add, Nat.mul_zero, Nat.zero_mul, e1, e2, es]
  · unfold F_X8_digest_L139
    simp (disch := omega) only [↓Lm1, L0, L1, L2, L3, L4, L5, L6, L7, L8, L9, L10, L11, L12, L13, L14, L15, L16, L17, L18, L19, L20, L27, L30, L31, L35, L36, L37, L38, L39, L40, L41, L46, L48, L51, L57, L59, L60, L82, L98, L99, L100, L102, L104, L107, L110, L119, L144, L240, L255, L256, L360, L999, L1000000, nI_val, n_lt_t, n_lt_f, n_le_t, n_le_f, n_eq_t, n_eq_f, k_le_f, m_lt_t, m_lt_f, m_le_t, m_le_f, m_eq_f, m_eq_f', nI_add, nI_mulE, nI_subE, if_true, if_false, ite_true, ite_false, or_false, false_or, or_true, true_or, or_self, and_true, true_and, and_false, false_and, not_true_eq_false, not_false_eq_true, Option.bind_some, Sum.elim_inl, Sum.elim_inr, xu_set, xset_same, xset_ne, xset_2, xset_set, upd_same, upd_ne, nbI_some, ne_eq, reduceCtorEq, reduceIte, Nat.reduceAdd, Nat.reduceMul, Nat.reduceSub, Nat.add_zero, Nat.zero_add, Nat.mul_zero, Nat.zero_mul]
theorem m_dgC (hM : IM u0 n0 u1 n1 l e s) : ∃ s', xlp F_X9_digest_L6 100000 (17, 0, s) = some (dgC u0 n0 u1 n1 l e 8, s') ∧ KR SM SR s s' := by
  have key : ∃ b, xlp F_X9_digest_L6 100000 (17, 0, s) = some b ∧ b.1 = dgC u0 n0 u1 n1 l e 8 ∧ KR SM SR s b.2 := by
    refine xlp_cnt (f := F_X9_digest_L6) (fun i a => a.1 = dgC u0 n0 u1 n1 l e i ∧ a.2.1 = nI i ∧ KR SM SR s a.2.2) (fun b => b.1 = dgC u0 n0 u1 n1 l e 8 ∧ KR SM SR s b.2) 8 (by omega) ?_ ?_ (a := (17, 0, s)) ⟨rfl, rfl, KR.refl _ _ _⟩
    · intro i a hi ⟨h1, h2, h4⟩
      obtain ⟨a1, a2, s'⟩ := a
      dsimp only at h1 h2 h4
      subst h1; subst h2
      obtain ⟨s2, e2, k2⟩ := m_count (hM.keep h4) hi
      have es : dgC u0 n0 u1 n1 l e (i + 1) = (31 : Int64) * dgC u0 n0 u1 n1 l e i + (nI (cnt u0 n0 u1 n1 l e i)).toInt64 := rfl
      left
      refine ⟨(dgC u0 n0 u1 n1 l e (i + 1), nI (i + 1), s2), ?_, rfl, rfl, h4.trans k2⟩
      unfold F_X9_digest_L6
      simp (disch := omega) only [↓Lm1, L0, L1, L2, L3, L4, L5, L6, L7, L8, L9, L10, L11, L12, L13, L14, L15, L16, L17, L18, L19, L20, L27, L30, L31, L35, L36, L37, L38, L39, L40, L41, L46, L48, L51, L57, L59, L60, L82, L98, L99, L100, L102, L104, L107, L110, L119, L144, L240, L255, L256, L360, L999, L1000000, nI_val, n_lt_t, n_lt_f, n_le_t, n_le_f, n_eq_t, n_eq_f, k_le_f, m_lt_t, m_lt_f, m_le_t, m_le_f, m_eq_f, m_eq_f', nI_add, nI_mulE, nI_subE, if_true, if_false, ite_true, ite_false, or_false, false_or, or_true, true_or, or_self, and_true, true_and, and_false, false_and, not_true_eq_false, not_false_eq_true, Option.bind_some, Sum.elim_inl, Sum.elim_inr, xu_set, xset_same, xset_ne, xset_2, xset_set, upd_same, upd_ne, nbI_some, ne_eq, reduceCtorEq, reduceIte, Nat.reduceAdd, Nat.reduceMul, Nat.reduceSub, Nat.add_zero, Nat.zero_add, Nat.mul_zero, Nat.zero_mul, e2, es]
    · intro a ⟨h1, h2, h4⟩
      obtain ⟨a1, a2, s'⟩ := a
      dsimp only at h1 h2 h4
      subst h1; subst h2
      refine ⟨(dgC u0 n0 u1 n1 l e 8, s'), ?_, rfl, h4⟩
      unfold F_X9_digest_L6
      simp (disch := omega) only [↓Lm1, L0, L1, L2, L3, L4, L5, L6, L7, L8, L9, L10, L11, L12, L13, L14, L15, L16, L17, L18, L19, L20, L27, L30, L31, L35, L36, L37, L38, L39, L40, L41, L46, L48, L51, L57, L59, L60, L82, L98, L99, L100, L102, L104, L107, L110, L119, L144, L240, L255, L256, L360, L999, L1000000, nI_val, n_lt_t, n_lt_f, n_le_t, n_le_f, n_eq_t, n_eq_f, k_le_f, m_lt_t, m_lt_f, m_le_t, m_le_f, m_eq_f, m_eq_f', nI_add, nI_mulE, nI_subE, if_true, if_false, ite_true, ite_false, or_false, false_or, or_true, true_or, or_self, and_true, true_and, and_false, false_and, not_true_eq_false, not_false_eq_true, Option.bind_some, Sum.elim_inl, Sum.elim_inr, xu_set, xset_same, xset_ne, xset_2, xset_set, upd_same, upd_ne, nbI_some, ne_eq, reduceCtorEq, reduceIte, Nat.reduceAdd, Nat.reduceMul, Nat.reduceSub, Nat.add_zero, Nat.zero_add, Nat.mul_zero, Nat.zero_mul]
  obtain ⟨⟨b1, b2⟩, eb, hb1, hb2⟩ := key
  dsimp only at hb1 hb2
  subst hb1
  exact ⟨b2, eb, hb2⟩
theorem m_dgT (h : Int64) (hR : RT u0 n0 u1 n1 l s4 s) : ∃ s', xlp F_X9_digest_L59 100000 (h, 0, s) = some (dgT u0 n0 h (twn u0 n0).1, s') ∧ RT u0 n0 u1 n1 l s4 s' := by
  have hN := (twn_ok u0 n0).1.1
  have key : ∃ b, xlp F_X9_digest_L59 100000 (h, 0, s) = some b ∧ b.1 = dgT u0 n0 h (twn u0 n0).1 ∧ RT u0 n0 u1 n1 l s4 b.2 := by
    refine xlp_cnt (f := F_X9_digest_L59) (fun i a => a.1 = dgT u0 n0 h i ∧ a.2.1 = nI i ∧ RT u0 n0 u1 n1 l s4 a.2.2) (fun b => b.1 = dgT u0 n0 h (twn u0 n0).1 ∧ RT u0 n0 u1 n1 l s4 b.2) (twn u0 n0).1 (by omega) ?_ ?_ (a := (h, 0, s)) ⟨rfl, rfl, hR⟩
    · intro i a hi ⟨h1, h2, h4⟩
      obtain ⟨a1, a2, s'⟩ := a
      dsimp only at h1 h2 h4
      subst h1; subst h2
      have h03 : s'.1 0 3 = nI (twn u0 n0).1 := h4.2.2.1.2.1
      have e1 : s'.1 3 i = nI ((twn u0 n0).2.2.2 i) := (h4.2.2.1.2.2.2.2 i hi).2
      obtain ⟨s2, e2, k2⟩ := m_carry (x := 20) (a := 0) (b := i) h4.2.2.1 (by omega) (by omega) hi
      have r2 := h4.keep (k2.wide (by decide) (by decide))
      obtain ⟨s3, e3, r3⟩ := m_way (x := 0) (y := i) r2.2.1 (by omega) hi
      have es : dgT u0 n0 h (i + 1) = (31 : Int64) * ((31 : Int64) * ((31 : Int64) * dgT u0 n0 h i + (nI ((twn u0 n0).2.2.2 i)).toInt64) + (nI (20 - lo (twn u0 n0).1 (twn u0 n0).2.1 (fun j => tl ((twn u0 n0).2.2.2 j)) (some i) 0)).toInt64) + (nbI (wyv u0 n0 0 i)).toInt64 := rfl
      left
      refine ⟨(dgT u0 n0 h (i + 1), nI (i + 1), s3), ?_, rfl, rfl, r2.tr r3⟩
      unfold F_X9_digest_L59
      simp (disch := omega) only [↓Lm1, L0, L1, L2, L3, L4, L5, L6, L7, L8, L9, L10, L11, L12, L13, L14, L15, L16, L17, L18, L19, L20, L27, L30, L31, L35, L36, L37, L38, L39, L40, L41, L46, L48, L51, L57, L59, L60, L82, L98, L99, L100, L102, L104, L107, L110, L119, L144, L240, L255, L256, L360, L999, L1000000, nI_val, n_lt_t, n_lt_f, n_le_t, n_le_f, n_eq_t, n_eq_f, k_le_f, m_lt_t, m_lt_f, m_le_t, m_le_f, m_eq_f, m_eq_f', nI_add, nI_mulE, nI_subE, if_true, if_false, ite_true, ite_false, or_false, false_or, or_true, true_or, or_self, and_true, true_and, and_false, false_and, not_true_eq_false, not_false_eq_true, Option.bind_some, Sum.elim_inl, Sum.elim_inr, xu_set, xset_same, xset_ne, xset_2, xset_set, upd_same, upd_ne, nbI_some, ne_eq, reduceCtorEq, reduceIte, Nat.reduceAdd, Nat.reduceMul, Nat.reduceSub, Nat.add_zero, Nat.zero_add, Nat.mul_zero, Nat.zero_mul, h03, e1, e2, e3, es]
    · intro a ⟨h1, h2, h4⟩
      obtain ⟨a1, a2, s'⟩ := a
      dsimp only at h1 h2 h4
      subst h1; subst h2
      have h03 : s'.1 0 3 = nI (twn u0 n0).1 := h4.2.2.1.2.1
      refine ⟨(dgT u0 n0 h (twn u0 n0).1, s'), ?_, rfl, h4⟩
      unfold F_X9_digest_L59
      simp (disch := omega) only [↓Lm1, L0, L1, L2, L3, L4, L5, L6, L7, L8, L9, L10, L11, L12, L13, L14, L15, L16, L17, L18, L19, L20, L27, L30, L31, L35, L36, L37, L38, L39, L40, L41, L46, L48, L51, L57, L59, L60, L82, L98, L99, L100, L102, L104, L107, L110, L119, L144, L240, L255, L256, L360, L999, L1000000, nI_val, n_lt_t, n_lt_f, n_le_t, n_le_f, n_eq_t, n_eq_f, k_le_f, m_lt_t, m_lt_f, m_le_t, m_le_f, m_eq_f, m_eq_f', nI_add, nI_mulE, nI_subE, if_true, if_false, ite_true, ite_false, or_false, false_or, or_true, true_or, or_self, and_true, true_and, and_false, false_and, not_true_eq_false, not_false_eq_true, Option.bind_some, Sum.elim_inl, Sum.elim_inr, xu_set, xset_same, xset_ne, xset_2, xset_set, upd_same, upd_ne, nbI_some, ne_eq, reduceCtorEq, reduceIte, Nat.reduceAdd, Nat.reduceMul, Nat.reduceSub, Nat.add_zero, Nat.zero_add, Nat.mul_zero, Nat.zero_mul, h03]
  obtain ⟨⟨b1, b2⟩, eb, hb1, hb2⟩ := key
  dsimp only at hb1 hb2
  subst hb1
  exact ⟨b2, eb, hb2⟩
theorem m_dgD (h : Int64) (hM : IM u0 n0 u1 n1 l e s4) (he : EaOk e) (hR : RT u0 n0 u1 n1 l s4 s) : ∃ s', xlp F_X9_digest_L131 100000 (h, 0, s) = some (dgD u0 n0 u1 n1 l e h (ddat u1 n1).1, s') ∧ RT u0 n0 u1 n1 l s4 s' := by
  have h8 := (dd_ok (u := u1) hM.1.2.1).1
  have key : ∃ b, xlp F_X9_digest_L131 100000 (h, 0, s) = some b ∧ b.1 = dgD u0 n0 u1 n1 l e h (ddat u1 n1).1 ∧ RT u0 n0 u1 n1 l s4 b.2 := by
    refine xlp_cnt (f := F_X9_digest_L131) (fun i a => a.1 = dgD u0 n0 u1 n1 l e h i ∧ a.2.1 = nI i ∧ RT u0 n0 u1 n1 l s4 a.2.2) (fun b => b.1 = dgD u0 n0 u1 n1 l e h (ddat u1 n1).1 ∧ RT u0 n0 u1 n1 l s4 b.2) (ddat u1 n1).1 (by omega) ?_ ?_ (a := (h, 0, s)) ⟨rfl, rfl, hR⟩
    · intro i a hi ⟨h1, h2, h4⟩
      obtain ⟨a1, a2, s'⟩ := a
      dsimp only at h1 h2 h4
      subst h1; subst h2
      have h05 : s'.1 0 5 = nI (ddat u1 n1).1 := h4.2.2.2.1
      obtain ⟨s2, e2, r2⟩ := m_deedDigest (dgD u0 n0 u1 n1 l e h i) (h4.im hM) h4.2.2.2 he hi
      have es : dgD u0 n0 u1 n1 l e h (i + 1) = dgX u0 n0 u1 n1 l e (dgD u0 n0 u1 n1 l e h i) i := rfl
      left
      refine ⟨(dgD u0 n0 u1 n1 l e h (i + 1), nI (i + 1), s2), ?_, rfl, rfl, h4.tr r2⟩
      unfold F_X9_digest_L131
      simp (disch := omega) only [↓Lm1, L0, L1, L2, L3, L4, L5, L6, L7, L8, L9, L10, L11, L12, L13, L14, L15, L16, L17, L18, L19, L20, L27, L30, L31, L35, L36, L37, L38, L39, L40, L41, L46, L48, L51, L57, L59, L60, L82, L98, L99, L100, L102, L104, L107, L110, L119, L144, L240, L255, L256, L360, L999, L1000000, nI_val, n_lt_t, n_lt_f, n_le_t, n_le_f, n_eq_t, n_eq_f, k_le_f, m_lt_t, m_lt_f, m_le_t, m_le_f, m_eq_f, m_eq_f', nI_add, nI_mulE, nI_subE, if_true, if_false, ite_true, ite_false, or_false, false_or, or_true, true_or, or_self, and_true, true_and, and_false, false_and, not_true_eq_false, not_false_eq_true, Option.bind_some, Sum.elim_inl, Sum.elim_inr, xu_set, xset_same, xset_ne, xset_2, xset_set, upd_same, upd_ne, nbI_some, ne_eq, reduceCtorEq, reduceIte, Nat.reduceAdd, Nat.reduceMul, Nat.reduceSub, Nat.add_zero, Nat.zero_add, Nat.mul_zero, Nat.zero_mul, h05, e2, es]
    · intro a ⟨h1, h2, h4⟩
      obtain ⟨a1, a2, s'⟩ := a
      dsimp only at h1 h2 h4
      subst h1; subst h2
      have h05 : s'.1 0 5 = nI (ddat u1 n1).1 := h4.2.2.2.1
      refine ⟨(dgD u0 n0 u1 n1 l e h (ddat u1 n1).1, s'), ?_, rfl, h4⟩
      unfold F_X9_digest_L131
      simp (disch := omega) only [↓Lm1, L0, L1, L2, L3, L4, L5, L6, L7, L8, L9, L10, L11, L12, L13, L14, L15, L16, L17, L18, L19, L20, L27, L30, L31, L35, L36, L37, L38, L39, L40, L41, L46, L48, L51, L57, L59, L60, L82, L98, L99, L100, L102, L104, L107, L110, L119, L144, L240, L255, L256, L360, L999, L1000000, nI_val, n_lt_t, n_lt_f, n_le_t, n_le_f, n_eq_t, n_eq_f, k_le_f, m_lt_t, m_lt_f, m_le_t, m_le_f, m_eq_f, m_eq_f', nI_add, nI_mulE, nI_subE, if_true, if_false, ite_true, ite_false, or_false, false_or, or_true, true_or, or_self, and_true, true_and, and_false, false_and, not_true_eq_false, not_false_eq_true, Option.bind_some, Sum.elim_inl, Sum.elim_inr, xu_set, xset_same, xset_ne, xset_2, xset_set, upd_same, upd_ne, nbI_some, ne_eq, reduceCtorEq, reduceIte, Nat.reduceAdd, Nat.reduceMul, Nat.reduceSub, Nat.add_zero, Nat.zero_add, Nat.mul_zero, Nat.zero_mul, h05]
  obtain ⟨⟨b1, b2⟩, eb, hb1, hb2⟩ := key
  dsimp only at hb1 hb2
  subst hb1
  exact ⟨b2, eb, hb2⟩
theorem m_dgN (h : Int64) (hR : RT u0 n0 u1 n1 l s4 s) : ∃ s', xlp F_X9_digest_L154 100000 (h, 0, s) = some (dgN u0 n0 u1 n1 l h 10, s') ∧ RT u0 n0 u1 n1 l s4 s' := by
  have key : ∃ b, xlp F_X9_digest_L154 100000 (h, 0, s) = some b ∧ b.1 = dgN u0 n0 u1 n1 l h 10 ∧ RT u0 n0 u1 n1 l s4 b.2 := by
    refine xlp_cnt (f := F_X9_digest_L154) (fun i a => a.1 = dgN u0 n0 u1 n1 l h i ∧ a.2.1 = nI i ∧ RT u0 n0 u1 n1 l s4 a.2.2) (fun b => b.1 = dgN u0 n0 u1 n1 l h 10 ∧ RT u0 n0 u1 n1 l s4 b.2) 10 (by omega) ?_ ?_ (a := (h, 0, s)) ⟨rfl, rfl, hR⟩
    · intro i a hi ⟨h1, h2, h4⟩
      obtain ⟨a1, a2, s'⟩ := a
      dsimp only at h1 h2 h4
      subst h1; subst h2
      obtain ⟨s2, e2, r2⟩ := m_noise h4.2.1 hi
      obtain ⟨s3, e3, r3⟩ := m_depth r2.2.1 hi
      have es : dgN u0 n0 u1 n1 l h (i + 1) = (31 : Int64) * ((31 : Int64) * dgN u0 n0 u1 n1 l h i + (nbI ((ngt (twn u0 n0).1 (ls0 u0 n0) (ddat u1 n1) all_ l).2.2.2.1 i)).toInt64) + (nbI ((ngt (twn u0 n0).1 (ls0 u0 n0) (ddat u1 n1) all_ l).2.2.2.2.1 i)).toInt64 := rfl
      left
      refine ⟨(dgN u0 n0 u1 n1 l h (i + 1), nI (i + 1), s3), ?_, rfl, rfl, (h4.tr r2).tr r3⟩
      unfold F_X9_digest_L154
      simp (disch := omega) only [↓Lm1, L0, L1, L2, L3, L4, L5, L6, L7, L8, L9, L10, L11, L12, L13, L14, L15, L16, L17, L18, L19, L20, L27, L30, L31, L35, L36, L37, L38, L39, L40, L41, L46, L48, L51, L57, L59, L60, L82, L98, L99, L100, L102, L104, L107, L110, L119, L144, L240, L255, L256, L360, L999, L1000000, nI_val, n_lt_t, n_lt_f, n_le_t, n_le_f, n_eq_t, n_eq_f, k_le_f, m_lt_t, m_lt_f, m_le_t, m_le_f, m_eq_f, m_eq_f', nI_add, nI_mulE, nI_subE, if_true, if_false, ite_true, ite_false, or_false, false_or, or_true, true_or, or_self, and_true, true_and, and_false, false_and, not_true_eq_false, not_false_eq_true, Option.bind_some, Sum.elim_inl, Sum.elim_inr, xu_set, xset_same, xset_ne, xset_2, xset_set, upd_same, upd_ne, nbI_some, ne_eq, reduceCtorEq, reduceIte, Nat.reduceAdd, Nat.reduceMul, Nat.reduceSub, Nat.add_zero, Nat.zero_add, Nat.mul_zero, Nat.zero_mul, e2, e3, es]
    · intro a ⟨h1, h2, h4⟩
      obtain ⟨a1, a2, s'⟩ := a
      dsimp only at h1 h2 h4
      subst h1; subst h2
      refine ⟨(dgN u0 n0 u1 n1 l h 10, s'), ?_, rfl, h4⟩
      unfold F_X9_digest_L154
      simp (disch := omega) only [↓Lm1, L0, L1, L2, L3, L4, L5, L6, L7, L8, L9, L10, L11, L12, L13, L14, L15, L16, L17, L18, L19, L20, L27, L30, L31, L35, L36, L37, L38, L39, L40, L41, L46, L48, L51, L57, L59, L60, L82, L98, L99, L100, L102, L104, L107, L110, L119, L144, L240, L255, L256, L360, L999, L1000000, nI_val, n_lt_t, n_lt_f, n_le_t, n_le_f, n_eq_t, n_eq_f, k_le_f, m_lt_t, m_lt_f, m_le_t, m_le_f, m_eq_f, m_eq_f', nI_add, nI_mulE, nI_subE, if_true, if_false, ite_true, ite_false, or_false, false_or, or_true, true_or, or_self, and_true, true_and, and_false, false_and, not_true_eq_false, not_false_eq_true, Option.bind_some, Sum.elim_inl, Sum.elim_inr, xu_set, xset_same, xset_ne, xset_2, xset_set, upd_same, upd_ne, nbI_some, ne_eq, reduceCtorEq, reduceIte, Nat.reduceAdd, Nat.reduceMul, Nat.reduceSub, Nat.add_zero, Nat.zero_add, Nat.mul_zero, Nat.zero_mul]
  obtain ⟨⟨b1, b2⟩, eb, hb1, hb2⟩ := key
  dsimp only at hb1 hb2
  subst hb1
  exact ⟨b2, eb, hb2⟩
/-! all of it -/
noncomputable def flv (u0 : Nat → Nat) (n0 : Nat) (u1 : Nat → Nat) (n1 : Nat) (k : Nat) : Int32 := if nI k = nI 0 then nbI (tflt (tres (fun j => nI (u0 j)) n0)) else nbI (dflt u1 n1)
noncomputable def exv (u0 : Nat → Nat) (n0 : Nat) (u1 : Nat → Nat) (n1 : Nat) (l : LD) (k : Nat) : Int32 := nI (bsm (fun j => (ngt (twn u0 n0).1 (ls0 u0 n0) (ddat u1 n1) all_ l).2.2.1 (18 * k + j)) 18)
noncomputable def ldv (u0 : Nat → Nat) (n0 : Nat) (u1 : Nat → Nat) (n1 : Nat) (l : LD) : Int32 := nbI (ldst (shr (ddat u1 n1) (twn u0 n0).1 (ls0 u0 n0)) (ngt (twn u0 n0).1 (ls0 u0 n0) (ddat u1 n1) all_ l).2.2.2.2.2 (ddat u1 n1).1)
noncomputable def nvv (u0 : Nat → Nat) (n0 : Nat) (u1 : Nat → Nat) (n1 : Nat) (l : LD) (e : ED) : Int32 := nI (bsm (nvB u0 n0 u1 n1 l e) (ddat u1 n1).1)
noncomputable def dg4 (u0 : Nat → Nat) (n0 : Nat) (u1 : Nat → Nat) (n1 : Nat) (l : LD) (e : ED) : Int64 := dgN u0 n0 u1 n1 l (dgD u0 n0 u1 n1 l e (mx_ (dgT u0 n0 (mx_ (mx_ (dgC u0 n0 u1 n1 l e 8) (flv u0 n0 u1 n1 0)) (flv u0 n0 u1 n1 1)) (twn u0 n0).1) (nbI (twn u0 n0).2.2.1)) (ddat u1 n1).1) 10
noncomputable def dg5 (u0 : Nat → Nat) (n0 : Nat) (u1 : Nat → Nat) (n1 : Nat) (l : LD) (e : ED) (h : Int64) : Int64 := mx_ (mx_ (ml_ (ml_ (mx_ (mx_ (mx_ (mx_ (mx_ (mx_ (mx_ (mx_ (mx_ h (nbI (ngt (twn u0 n0).1 (ls0 u0 n0) (ddat u1 n1) all_ l).1)) (exv u0 n0 u1 n1 l 0)) (exv u0 n0 u1 n1 l 1)) (ldv u0 n0 u1 n1 l)) (fev u0 n0 u1 n1 l none)) (fev u0 n0 u1 n1 l (some 0))) (lyv u0 n0 u1 n1 l 0)) (lyv u0 n0 u1 n1 l 1)) (nvv u0 n0 u1 n1 l e)) (slv u0 n0 u1 n1 l 5 0)) (slv u0 n0 u1 n1 l 5 1)) (dyv u0 n0 l 7 8 0)) (dyv u0 n0 l 7 8 1)
theorem q_digest (hI : IF u0 n0 u1 n1 l e s) : ∃ s', F_X8_digest s = some (dg5 u0 n0 u1 n1 l e (dg4 u0 n0 u1 n1 l e), s') ∧ IF u0 n0 u1 n1 l e s' ∧ KF s s' := by
  have e1 := q_dgC hI
  have e2 : F_X8_fault 0 s = some (flv u0 n0 u1 n1 0) := q_fault (k := 0) hI.1 (by omega)
  have e3 : F_X8_fault 1 s = some (flv u0 n0 u1 n1 1) := q_fault (k := 1) hI.1 (by omega)
  obtain ⟨s1, e4, k1⟩ := q_dgT (mx_ (mx_ (dgC u0 n0 u1 n1 l e 8) (flv u0 n0 u1 n1 0)) (flv u0 n0 u1 n1 1)) hI
  have i1 := hI.keep k1
  have e5 : F_X8_bed s1 = some (nbI (twn u0 n0).2.2.1) := by
    unfold F_X8_bed
    rw [i1.1.2.1.2.1]
  obtain ⟨s2, e6, k2⟩ := q_dgD (mx_ (dgT u0 n0 (mx_ (mx_ (dgC u0 n0 u1 n1 l e 8) (flv u0 n0 u1 n1 0)) (flv u0 n0 u1 n1 1)) (twn u0 n0).1) (nbI (twn u0 n0).2.2.1)) i1
  have i2 := i1.keep k2
  have e7 : xlp (F_X8_digest_L139 s2) 100000 (dgD u0 n0 u1 n1 l e (mx_ (dgT u0 n0 (mx_ (mx_ (dgC u0 n0 u1 n1 l e 8) (flv u0 n0 u1 n1 0)) (flv u0 n0 u1 n1 1)) (twn u0 n0).1) (nbI (twn u0 n0).2.2.1)) (ddat u1 n1).1, 0) = some (dg4 u0 n0 u1 n1 l e) := q_dgN _ i2.2.1
  have e8 := q_wakes i2.2.1
  have e9 : F_X8_exiled 0 s2 = some (exv u0 n0 u1 n1 l 0) := q_exiled (k := 0) i2.2.1 (by omega)
  have e10 : F_X8_exiled 1 s2 = some (exv u0 n0 u1 n1 l 1) := q_exiled (k := 1) i2.2.1 (by omega)
  have e11 : F_X8_loudest s2 = some (ldv u0 n0 u1 n1 l) := q_loudest i2.1 i2.2.1
  obtain ⟨s3, e12, i3, k3⟩ := q_felt (i := none) i2 (fun x q => by cases q)
  obtain ⟨s4, e13, i4, k4⟩ := q_felt (i := some 0) i3 (fun x q => by cases q; omega)
  obtain ⟨s5, e14, k5⟩ := q_lay (w := 0) i4 (by omega)
  have i5 := i4.keep k5
  obtain ⟨s6, e15, k6⟩ := q_lay (w := 1) i5 (by omega)
  have i6 := i5.keep k6
  obtain ⟨s7, e16, k7⟩ := q_never i6
  have i7 := i6.keep k7
  obtain ⟨s8, e17, k8⟩ := q_sleeps (c := 5) (w := 0) i7 (by omega) (by omega)
  have i8 := i7.keep k8
  obtain ⟨s9, e18, k9⟩ := q_sleeps (c := 5) (w := 1) i8 (by omega) (by omega)
  have i9 := i8.keep k9
  obtain ⟨s10, e19, k10⟩ := q_day (n := 8) (w := 0) 7 i9 (by omega) (by omega) (by omega)
  have i10 := i9.keep k10
  obtain ⟨s11, e20, k11⟩ := q_day (n := 8) (w := 1) 7 i10 (by omega) (by omega) (by omega)
  have g12 : F_X8_felt (-1) s2 = some (fev u0 n0 u1 n1 l none, s3) := e12
  have g13 : F_X8_felt 0 s3 = some (fev u0 n0 u1 n1 l (some 0), s4) := e13
  have g14 : F_X8_lay 0 s4 = some (lyv u0 n0 u1 n1 l 0, s5) := e14
  have g15 : F_X8_lay 1 s5 = some (lyv u0 n0 u1 n1 l 1, s6) := e15
  have g16 : F_X8_never s6 = some (nvv u0 n0 u1 n1 l e, s7) := e16
  have g17 : F_X8_sleeps 5 0 s7 = some (slv u0 n0 u1 n1 l 5 0, s8) := e17
  have g18 : F_X8_sleeps 5 1 s8 = some (slv u0 n0 u1 n1 l 5 1, s9) := e18
  have g19 : F_X8_day 7 8 0 s9 = some (dyv u0 n0 l 7 8 0, s10) := e19
  have g20 : F_X8_day 7 8 1 s10 = some (dyv u0 n0 l 7 8 1, s11) := e20
  refine ⟨s11, ?_, i10.keep k11, (((k1.trans k2).kf.trans k3).trans k4).trans (((((((k5.trans k6).trans k7).trans k8).trans k9).trans k10).trans k11).kf)⟩
  unfold F_X8_digest
  refine bnd e1 ?_
  refine bnd e2 ?_
  refine bnd (mixE _ _ _) ?_
  refine bnd e3 ?_
  refine bnd (mixE _ _ _) ?_
  refine bnd e4 ?_
  refine bnd e5 ?_
  refine bnd (mixE _ _ _) ?_
  refine bnd e6 ?_
  refine bnd e7 ?_
  refine bnd e8 ?_
  refine bnd (mixE _ _ _) ?_
  refine bnd e9 ?_
  refine bnd (mixE _ _ _) ?_
  refine bnd e10 ?_
  refine bnd (mixE _ _ _) ?_
  refine bnd e11 ?_
  refine bnd (mixE _ _ _) ?_
  refine bnd g12 ?_
  refine bnd (mixE _ _ _) ?_
  refine bnd g13 ?_
  refine bnd (mixE _ _ _) ?_
  refine bnd g14 ?_
  refine bnd (mixE _ _ _) ?_
  refine bnd g15 ?_
  refine bnd (mixE _ _ _) ?_
  refine bnd g16 ?_
  refine bnd (mixE _ _ _) ?_
  refine bnd g17 ?_
  refine bnd (mixL _ _ _) ?_
  refine bnd g18 ?_
  refine bnd (mixL _ _ _) ?_
  refine bnd g19 ?_
  refine bnd (mixE _ _ _) ?_
  refine bnd g20 ?_
  refine bnd (mixE _ _ _) ?_
  rfl
theorem m_digest (hM : IM u0 n0 u1 n1 l e s) (he : EaOk e) : ∃ s', F_X9_digest s = some (dg5 u0 n0 u1 n1 l e (dg4 u0 n0 u1 n1 l e), s') ∧ KR SM SR s s' := by
  have hok := twn_ok u0 n0
  obtain ⟨s1, e1, k1⟩ := m_dgC hM
  have j1 := hM.keep k1
  obtain ⟨s2, e2, k2, _, _⟩ := faultM j1.1 (nI 0)
  have k2w : KR SM SR s1 s2 := k2.wide (by decide) (by decide)
  obtain ⟨s3, e3, k3, t3, d3⟩ := faultM (j1.keep k2w).1 (nI 1)
  have k3w : KR SM SR s s3 := (k1.trans k2w).trans (k3.wide (by decide) (by decide))
  have r3 : RT u0 n0 u1 n1 l s s3 := ⟨k3w, BM_K hM.1 k3w, t3, d3⟩
  obtain ⟨s4, e4, r4⟩ := m_dgT (mx_ (mx_ (dgC u0 n0 u1 n1 l e 8) (flv u0 n0 u1 n1 0)) (flv u0 n0 u1 n1 1)) r3
  have e5 : F_X9_bedNow s4 = some (nbI (twn u0 n0).2.2.1) := bedM r4.2.2.1 (fun j hj => (hok.2.2.1 j hj).2) hok.2.2.2
  obtain ⟨s5, e6, r5⟩ := m_dgD (mx_ (dgT u0 n0 (mx_ (mx_ (dgC u0 n0 u1 n1 l e 8) (flv u0 n0 u1 n1 0)) (flv u0 n0 u1 n1 1)) (twn u0 n0).1) (nbI (twn u0 n0).2.2.1)) hM he r4
  obtain ⟨s6, e7, r6⟩ := m_dgN (dgD u0 n0 u1 n1 l e (mx_ (dgT u0 n0 (mx_ (mx_ (dgC u0 n0 u1 n1 l e 8) (flv u0 n0 u1 n1 0)) (flv u0 n0 u1 n1 1)) (twn u0 n0).1) (nbI (twn u0 n0).2.2.1)) (ddat u1 n1).1) r5
  obtain ⟨s7, e8, r7⟩ := m_wakes r6.2.1
  obtain ⟨s8, e9, r8⟩ := m_exiled (k := 0) r7.2.1 (by omega)
  obtain ⟨s9, e10, r9⟩ := m_exiled (k := 1) r8.2.1 (by omega)
  obtain ⟨s10, e11, r10⟩ := m_loudest r9.2.1
  obtain ⟨s11, e12, r11, rw11⟩ := m_felt r10.2.1
  have e13 := rw11 (some 0) (fun x q => by cases q; omega)
  obtain ⟨s12, e14, r12⟩ := m_lay (w := 0) r11.2.1 (by omega)
  obtain ⟨s13, e15, r13⟩ := m_lay (w := 1) r12.2.1 (by omega)
  have q13 := (((((((r6.tr r7).tr r8).tr r9).tr r10).tr r11).tr r12).tr r13)
  obtain ⟨s14, e16, r14⟩ := m_never (q13.im hM) he
  obtain ⟨s15, e17, r15⟩ := m_sleeps (c := 5) (w := 0) r14.2.1 (by omega) (by omega)
  obtain ⟨s16, e18, r16⟩ := m_sleeps (c := 5) (w := 1) r15.2.1 (by omega) (by omega)
  have q16 := ((q13.tr r14).tr r15).tr r16
  obtain ⟨s17, e19, k17⟩ := m_day (n := 8) (w := 0) 7 r16.2.1 (by omega) (by omega)
  have k17' := q16.1.trans k17
  obtain ⟨s18, e20, k18⟩ := m_day (n := 8) (w := 1) 7 (hM.keep k17').1 (by omega) (by omega)
  have g2 : F_X9_faultOf 0 s1 = some (flv u0 n0 u1 n1 0, s2) := e2
  have g3 : F_X9_faultOf 1 s2 = some (flv u0 n0 u1 n1 1, s3) := e3
  have g7 : xlp F_X9_digest_L154 100000 (dgD u0 n0 u1 n1 l e (mx_ (dgT u0 n0 (mx_ (mx_ (dgC u0 n0 u1 n1 l e 8) (flv u0 n0 u1 n1 0)) (flv u0 n0 u1 n1 1)) (twn u0 n0).1) (nbI (twn u0 n0).2.2.1)) (ddat u1 n1).1, 0, s5) = some (dg4 u0 n0 u1 n1 l e, s6) := e7
  have g9 : F_X9_exiledOf 0 s7 = some (exv u0 n0 u1 n1 l 0, s8) := e9
  have g10 : F_X9_exiledOf 1 s8 = some (exv u0 n0 u1 n1 l 1, s9) := e10
  have g11 : F_X9_loudestNow s9 = some (ldv u0 n0 u1 n1 l, s10) := e11
  have g12 : F_X9_feltBy s10 = some (fev u0 n0 u1 n1 l none, s11) := e12
  have g13 : F_X9_ofRow (fev u0 n0 u1 n1 l none) 0 s11 = some (fev u0 n0 u1 n1 l (some 0)) := e13
  have g14 : F_X9_layOf 0 s11 = some (lyv u0 n0 u1 n1 l 0, s12) := e14
  have g15 : F_X9_layOf 1 s12 = some (lyv u0 n0 u1 n1 l 1, s13) := e15
  have g16 : F_X9_neverNow s13 = some (nvv u0 n0 u1 n1 l e, s14) := e16
  have g17 : F_X9_sleepsBy 5 0 s14 = some (slv u0 n0 u1 n1 l 5 0, s15) := e17
  have g18 : F_X9_sleepsBy 5 1 s15 = some (slv u0 n0 u1 n1 l 5 1, s16) := e18
  have g19 : F_X9_dayOf 7 8 0 s16 = some (dyv u0 n0 l 7 8 0, s17) := e19
  have g20 : F_X9_dayOf 7 8 1 s17 = some (dyv u0 n0 l 7 8 1, s18) := e20
  have mixE : ∀ (h : Int64) (v : Int32), (31 : Int64) * h + v.toInt64 = mx_ h v := fun _ _ => rfl
  refine ⟨s18, ?_, k17'.trans k18⟩
  unfold F_X9_digest
  simp only [e1, g2, g3, mixE, e4, e5, e6, g7, e8, g9, g10, g11, g12, g13, g14, g15, g16, g17, g18, g19, g20, Option.bind_some]
  rfl
theorem c_digest : lh_digest Inv := by
  intro s1 s2 hI
  obtain ⟨u0, n0, u1, n1, l, e, hA⟩ := hI
  obtain ⟨t, et, it, kt⟩ := q_digest hA.iF
  obtain ⟨s', e', kr⟩ := m_digest hA.iM hA.iF.2.2.2.ok
  exact ⟨_, t, s', et, e', hA.mk2 it kt kr⟩
end SPEC
