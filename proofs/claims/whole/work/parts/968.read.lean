/-! ===== read ===== -/
def rds (g : Nat → Int32) (l : LD) : Nat → LD
  | 0 => l
  | n + 1 => lth (rds g l n) (g (2 * n)).toNatClampNeg (g (2 * n + 1)).toNatClampNeg
theorem rds_c (g : Nat → Int32) (l : LD) : ∀ n, (rds g l n).2.2.1 = l.2.2.1 + n
  | 0 => rfl
  | n + 1 => by
    show (rds g l n).2.2.1 + 1 = l.2.2.1 + (n + 1)
    rw [rds_c g l n]
    omega
def rvl (g : Nat → Int32) (n : Nat) : Prop := ∃ h v, h < 10 ∧ v < 9 ∧ g (2 * n) = nI h ∧ g (2 * n + 1) = nI (v + 1)
def rgo (g : Nat → Int32) (l : LD) (sz n : Nat) : Prop := 2 * n + 1 < sz ∧ (rds g l n).2.2.1 < 6 ∧ rvl g n
theorem rds_ok {g : Nat → Int32} {l : LD} {sz : Nat} (hl : LwOk l) : ∀ n, (∀ j, j < n → rgo g l sz j) → LwOk (rds g l n)
  | 0, _ => hl
  | n + 1, h => by
    obtain ⟨_, h6, x, v, hx, hv, e1, e2⟩ := h n (by omega)
    show LwOk (lth (rds g l n) (g (2 * n)).toNatClampNeg (g (2 * n + 1)).toNatClampNeg)
    rw [e1, e2, nI_val (by omega), nI_val (by omega)]
    exact lth_ok (rds_ok hl n (fun j hj => h j (by omega))) h6 hx hv
theorem rgo_uniq {g : Nat → Int32} {l : LD} {sz a b : Nat} (h1 : ∀ j, j < a → rgo g l sz j) (h2 : ¬ rgo g l sz a) (h3 : ∀ j, j < b → rgo g l sz j) (h4 : ¬ rgo g l sz b) : a = b := by
  rcases Nat.lt_trichotomy a b with c | c | c
  · exact absurd (h3 a c) h2
  · exact c
  · exact absurd (h1 b c) h4
theorem rvl_no {g : Nat → Int32} {n : Nat} (h : ¬ rvl g n) : (∀ k, k < 10 → g (2 * n) ≠ nI k) ∨ ∀ k, k < 9 → g (2 * n + 1) ≠ nI (k + 1) := by
  rcases arg_cases (g (2 * n)) 10 with ⟨x, hx, e1⟩ | hno
  · rcases loud_cases (g (2 * n + 1)) with ⟨v, hv, e2⟩ | hno
    · exact absurd ⟨x, v, hx, hv, e1, e2⟩ h
    · exact Or.inr hno
  · exact Or.inl hno
theorem noThF_no {x y : Int32} {s : xS} (h : (∀ k, k < 10 → x ≠ nI k) ∨ ∀ k, k < 9 → y ≠ nI (k + 1)) : F_X8_isNoThunder x y s = some (nI 1) := by
  rcases arg_cases x 10 with ⟨k, hk, rfl⟩ | hno
  · rcases h with h | h
    · exact absurd rfl (h k hk)
    · exact noThF_v hk h
  · exact noThF_h hno
theorem RsM_tr {m m' m'' : xS} (h : RsM m m') (h' : RsM m' m'') : RsM m m'' := by
  obtain ⟨a1, a2, a3, a4, a5, a6, a7, a8⟩ := h
  obtain ⟨b1, b2, b3, b4, b5, b6, b7, b8⟩ := h'
  exact ⟨b1.trans a1, b2.trans a2, b3.trans a3, b4.trans a4, b5.trans a5, b6.trans a6, b7.trans a7, b8.trans a8⟩
section SPEC
variable {u0 : Nat → Nat} {n0 : Nat} {u1 : Nat → Nat} {n1 : Nat} {l : LD} {e : ED} {s f f' m m' : xS}
def FSr (g : Nat → Int32) (l : LD) (s0 : xS) (n : Nat) (s : xS) : Prop := LwF (rds g l n) s ∧ s.1 13 2 = nI 6 ∧ ∀ q, q ≠ 12 → q ≠ 13 → q ≠ 14 → q ≠ 15 → s.1 q = s0.1 q
theorem readF2 {k sz : Nat} {g : Nat → Int32} {l2 : Int32} (hk : k < 4) (hs : sz ≤ 60) (h44 : s.1 44 k = nI sz) (hg : ∀ i, i < sz → s.1 45 (k * 60 + i) = g i) (hl : LwOk l) (hL : LwF l s) (h132 : s.1 13 2 = nI 6) : ∃ b, xlp (F_X8_read_L41 (nI k) l2) 100000 (0, s) = some b ∧ ∃ n, (∀ j, j < n → rgo g l sz j) ∧ ¬ rgo g l sz n ∧ FSr g l s n (Sum.elim id id b) := by
  refine xlp_cnt (f := F_X8_read_L41 (nI k) l2) (fun i a => a.1 = nI (2 * i) ∧ (∀ j, j < i → rgo g l sz j) ∧ FSr g l s i a.2) (fun b => ∃ n, (∀ j, j < n → rgo g l sz j) ∧ ¬ rgo g l sz n ∧ FSr g l s n (Sum.elim id id b)) 31 (by omega) ?_ ?_ (a := (0, s)) ⟨rfl, fun j hj => absurd hj (Nat.not_lt_zero j), hL, h132, fun _ _ _ _ _ => rfl⟩
  · intro i a hi ⟨ha, hgo, hL', h132', hr⟩
    obtain ⟨a1, s'⟩ := a
    dsimp only at ha hL' h132' hr
    subst ha
    have hok := rds_ok hl i hgo
    have h6 := hok.2.2.1
    have e44 : s'.1 44 k = nI sz := by rw [hr 44 (by omega) (by omega) (by omega) (by omega)]; exact h44
    unfold F_X8_read_L41
    by_cases c1 : 2 * i + 1 < sz
    · have i1 := itemF (s := s') hk hs e44 (show 2 * i < sz by omega)
      have i2 := itemF (s := s') hk hs e44 (show 2 * i + 1 < sz by omega)
      rw [hr 45 (by omega) (by omega) (by omega) (by omega), hg (2 * i) (by omega)] at i1
      rw [hr 45 (by omega) (by omega) (by omega) (by omega), hg (2 * i + 1) (by omega)] at i2
      by_cases c2 : (rds g l i).2.2.1 < 6
      · have ef : F_X2_isFull 13 s' = some (nI 0) := by unfold F_X2_isFull; simp (disch := omega) only [↓Lm1, L0, L1, L2, L3, L4, L5, L6, L7, L8, L9, L10, L11, L12, L13, L14, L15, L16, L17, L18, L19, L20, L27, L30, L31, L35, L36, L37, L38, L39, L40, L41, L46, L48, L51, L57, L59, L60, L82, L98, L99, L100, L102, L104, L107, L110, L119, L144, L240, L255, L256, L360, L999, L1000000, nI_val, n_lt_t, n_lt_f, n_le_t, n_le_f, n_eq_t, n_eq_f, k_le_f, m_lt_t, m_lt_f, m_le_t, m_le_f, m_eq_f, m_eq_f', nI_add, nI_mulE, nI_subE, if_true, if_false, ite_true, ite_false, or_false, false_or, or_true, true_or, or_self, and_true, true_and, and_false, false_and, not_true_eq_false, not_false_eq_true, Option.bind_some, Sum.elim_inl, Sum.elim_inr, xu_set, xset_same, xset_ne, xset_2, xset_set, upd_same, upd_ne, nbI_some, ne_eq, reduceCtorEq, reduceIte, Nat.reduceAdd, Nat.reduceMul, Nat.reduceSub, Nat.add_zero, Nat.zero_add, Nat.mul_zero, Nat.zero_mul, hL'.2.2.1, h132']
        by_cases c3 : rvl g i
        · have hgo' : rgo g l sz i := ⟨c1, c2, c3⟩
          obtain ⟨x, v, hx, hv, e1, e2⟩ := c3
          obtain ⟨g1, g2, g3⟩ := thF_ok (h := x) (v := v + 1) hok hL' h132' c2
          left
          refine ⟨(nI (2 * (i + 1)), thF (rds g l i) x (v + 1) s'), ?_, rfl, ?_, ?_, g3, ?_⟩
          · rw [e1] at i1
            rw [e2] at i2
            have e3 : 2 * i + 2 = 2 * (i + 1) := by omega
            simp (disch := omega) only [↓Lm1, L0, L1, L2, L3, L4, L5, L6, L7, L8, L9, L10, L11, L12, L13, L14, L15, L16, L17, L18, L19, L20, L27, L30, L31, L35, L36, L37, L38, L39, L40, L41, L46, L48, L51, L57, L59, L60, L82, L98, L99, L100, L102, L104, L107, L110, L119, L144, L240, L255, L256, L360, L999, L1000000, nI_val, n_lt_t, n_lt_f, n_le_t, n_le_f, n_eq_t, n_eq_f, k_le_f, m_lt_t, m_lt_f, m_le_t, m_le_f, m_eq_f, m_eq_f', nI_add, nI_mulE, nI_subE, if_true, if_false, ite_true, ite_false, or_false, false_or, or_true, true_or, or_self, and_true, true_and, and_false, false_and, not_true_eq_false, not_false_eq_true, Option.bind_some, Sum.elim_inl, Sum.elim_inr, xu_set, xset_same, xset_ne, xset_2, xset_set, upd_same, upd_ne, nbI_some, ne_eq, reduceCtorEq, reduceIte, Nat.reduceAdd, Nat.reduceMul, Nat.reduceSub, Nat.add_zero, Nat.zero_add, Nat.mul_zero, Nat.zero_mul, e44, ef, i1, i2, noThF_t hx hv, g1, e3]
          · intro j hj
            by_cases q : j = i
            · rw [q]; exact hgo'
            · exact hgo j (by omega)
          · show LwF (lth (rds g l i) (g (2 * i)).toNatClampNeg (g (2 * i + 1)).toNatClampNeg) _
            rw [e1, e2, nI_val (by omega), nI_val (by omega)]
            exact g2
          · intro q h1 h2 h3 h4
            show (thF (rds g l i) x (v + 1) s').1 q = _
            unfold thF
            rw [xset_ne _ _ h2, xset_ne _ _ h4, xset_ne _ _ h3]
            exact hr q h1 h2 h3 h4
        · right
          refine ⟨Sum.inl s', ?_, i, hgo, fun q => c3 q.2.2, hL', h132', hr⟩
          simp (disch := omega) only [↓Lm1, L0, L1, L2, L3, L4, L5, L6, L7, L8, L9, L10, L11, L12, L13, L14, L15, L16, L17, L18, L19, L20, L27, L30, L31, L35, L36, L37, L38, L39, L40, L41, L46, L48, L51, L57, L59, L60, L82, L98, L99, L100, L102, L104, L107, L110, L119, L144, L240, L255, L256, L360, L999, L1000000, nI_val, n_lt_t, n_lt_f, n_le_t, n_le_f, n_eq_t, n_eq_f, k_le_f, m_lt_t, m_lt_f, m_le_t, m_le_f, m_eq_f, m_eq_f', nI_add, nI_mulE, nI_subE, if_true, if_false, ite_true, ite_false, or_false, false_or, or_true, true_or, or_self, and_true, true_and, and_false, false_and, not_true_eq_false, not_false_eq_true, Option.bind_some, Sum.elim_inl, Sum.elim_inr, xu_set, xset_same, xset_ne, xset_2, xset_set, upd_same, upd_ne, nbI_some, ne_eq, reduceCtorEq, reduceIte, Nat.reduceAdd, Nat.reduceMul, Nat.reduceSub, Nat.add_zero, Nat.zero_add, Nat.mul_zero, Nat.zero_mul, e44, ef, i1, i2, noThF_no (rvl_no c3)]
      · right
        refine ⟨Sum.inr s', ?_, i, hgo, fun q => c2 q.2.1, hL', h132', hr⟩
        have ef : F_X2_isFull 13 s' = some (nI 1) := by unfold F_X2_isFull; simp (disch := omega) only [↓Lm1, L0, L1, L2, L3, L4, L5, L6, L7, L8, L9, L10, L11, L12, L13, L14, L15, L16, L17, L18, L19, L20, L27, L30, L31, L35, L36, L37, L38, L39, L40, L41, L46, L48, L51, L57, L59, L60, L82, L98, L99, L100, L102, L104, L107, L110, L119, L144, L240, L255, L256, L360, L999, L1000000, nI_val, n_lt_t, n_lt_f, n_le_t, n_le_f, n_eq_t, n_eq_f, k_le_f, m_lt_t, m_lt_f, m_le_t, m_le_f, m_eq_f, m_eq_f', nI_add, nI_mulE, nI_subE, if_true, if_false, ite_true, ite_false, or_false, false_or, or_true, true_or, or_self, and_true, true_and, and_false, false_and, not_true_eq_false, not_false_eq_true, Option.bind_some, Sum.elim_inl, Sum.elim_inr, xu_set, xset_same, xset_ne, xset_2, xset_set, upd_same, upd_ne, nbI_some, ne_eq, reduceCtorEq, reduceIte, Nat.reduceAdd, Nat.reduceMul, Nat.reduceSub, Nat.add_zero, Nat.zero_add, Nat.mul_zero, Nat.zero_mul, hL'.2.2.1, h132']
        simp (disch := omega) only [↓Lm1, L0, L1, L2, L3, L4, L5, L6, L7, L8, L9, L10, L11, L12, L13, L14, L15, L16, L17, L18, L19, L20, L27, L30, L31, L35, L36, L37, L38, L39, L40, L41, L46, L48, L51, L57, L59, L60, L82, L98, L99, L100, L102, L104, L107, L110, L119, L144, L240, L255, L256, L360, L999, L1000000, nI_val, n_lt_t, n_lt_f, n_le_t, n_le_f, n_eq_t, n_eq_f, k_le_f, m_lt_t, m_lt_f, m_le_t, m_le_f, m_eq_f, m_eq_f', nI_add, nI_mulE, nI_subE, if_true, if_false, ite_true, ite_false, or_false, false_or, or_true, true_or, or_self, and_true, true_and, and_false, false_and, not_true_eq_false, not_false_eq_true, Option.bind_some, Sum.elim_inl, Sum.elim_inr, xu_set, xset_same, xset_ne, xset_2, xset_set, upd_same, upd_ne, nbI_some, ne_eq, reduceCtorEq, reduceIte, Nat.reduceAdd, Nat.reduceMul, Nat.reduceSub, Nat.add_zero, Nat.zero_add, Nat.mul_zero, Nat.zero_mul, e44, ef]
    · right
      refine ⟨Sum.inr s', ?_, i, hgo, fun q => c1 q.1, hL', h132', hr⟩
      simp (disch := omega) only [↓Lm1, L0, L1, L2, L3, L4, L5, L6, L7, L8, L9, L10, L11, L12, L13, L14, L15, L16, L17, L18, L19, L20, L27, L30, L31, L35, L36, L37, L38, L39, L40, L41, L46, L48, L51, L57, L59, L60, L82, L98, L99, L100, L102, L104, L107, L110, L119, L144, L240, L255, L256, L360, L999, L1000000, nI_val, n_lt_t, n_lt_f, n_le_t, n_le_f, n_eq_t, n_eq_f, k_le_f, m_lt_t, m_lt_f, m_le_t, m_le_f, m_eq_f, m_eq_f', nI_add, nI_mulE, nI_subE, if_true, if_false, ite_true, ite_false, or_false, false_or, or_true, true_or, or_self, and_true, true_and, and_false, false_and, not_true_eq_false, not_false_eq_true, Option.bind_some, Sum.elim_inl, Sum.elim_inr, xu_set, xset_same, xset_ne, xset_2, xset_set, upd_same, upd_ne, nbI_some, ne_eq, reduceCtorEq, reduceIte, Nat.reduceAdd, Nat.reduceMul, Nat.reduceSub, Nat.add_zero, Nat.zero_add, Nat.mul_zero, Nat.zero_mul, e44]
  · intro a ⟨_, hgo, _⟩
    have := (hgo 30 (by omega)).1
    omega
theorem readM2 {k sz : Nat} {g : Nat → Int32} (hk : k < 4) (hs : sz ≤ 60) (h24 : s.1 24 k = nI sz) (hg : ∀ i, i < sz → s.1 25 (60 * k + i) = g i) (hb : BM u0 n0 u1 n1 l s) : ∃ b, xlp (F_X9_read_L27 (nI k)) 100000 (0, s) = some b ∧ ∃ n, (∀ j, j < n → rgo g l sz j) ∧ ¬ rgo g l sz n ∧ b.1 = nI n ∧ BM u0 n0 u1 n1 (rds g l n) b.2 ∧ RsM s b.2 := by
  have hl : LwOk l := hb.2.2.2.2.2.2.1
  refine xlp_cnt (f := F_X9_read_L27 (nI k)) (fun i a => a.1 = nI i ∧ (∀ j, j < i → rgo g l sz j) ∧ BM u0 n0 u1 n1 (rds g l i) a.2 ∧ RsM s a.2) (fun b => ∃ n, (∀ j, j < n → rgo g l sz j) ∧ ¬ rgo g l sz n ∧ b.1 = nI n ∧ BM u0 n0 u1 n1 (rds g l n) b.2 ∧ RsM s b.2) 31 (by omega) ?_ ?_ (a := (0, s)) ⟨rfl, fun j hj => absurd hj (Nat.not_lt_zero j), hb, rfl, rfl, rfl, rfl, rfl, rfl, rfl, rfl⟩
  · intro i a hi ⟨ha, hgo, hB, hR⟩
    obtain ⟨a1, s'⟩ := a
    dsimp only at ha hB hR
    subst ha
    have hok := rds_ok hl i hgo
    have h6 := hok.2.2.1
    have e24 : s'.1 24 k = nI sz := by rw [hR.2.2.2.2.1]; exact h24
    have e25 : ∀ j, j < sz → s'.1 25 (60 * k + j) = g j := fun j hj => by rw [hR.2.2.2.2.2.1]; exact hg j hj
    unfold F_X9_read_L27
    by_cases c1 : 2 * i + 1 < sz
    · have i1 := e25 (2 * i) (by omega)
      have i2 := e25 (2 * i + 1) (by omega)
      have i2' : s'.1 25 (60 * k + 2 * i + 1) = g (2 * i + 1) := by rw [← i2]; congr 1
      by_cases c3 : rvl g i
      · obtain ⟨x, v, hx, hv, e1, e2⟩ := c3
        have th := thunM hB hx hv
        by_cases c2 : (rds g l i).2.2.1 < 6
        · rw [if_pos c2] at th
          have hgo' : rgo g l sz i := ⟨c1, c2, x, v, hx, hv, e1, e2⟩
          left
          refine ⟨(nI (i + 1), thM (rds g l i) x (v + 1) s'), ?_, rfl, ?_, ?_, ?_⟩
          · simp (disch := omega) only [↓Lm1, L0, L1, L2, L3, L4, L5, L6, L7, L8, L9, L10, L11, L12, L13, L14, L15, L16, L17, L18, L19, L20, L27, L30, L31, L35, L36, L37, L38, L39, L40, L41, L46, L48, L51, L57, L59, L60, L82, L98, L99, L100, L102, L104, L107, L110, L119, L144, L240, L255, L256, L360, L999, L1000000, nI_val, n_lt_t, n_lt_f, n_le_t, n_le_f, n_eq_t, n_eq_f, k_le_f, m_lt_t, m_lt_f, m_le_t, m_le_f, m_eq_f, m_eq_f', nI_add, nI_mulE, nI_subE, if_true, if_false, ite_true, ite_false, or_false, false_or, or_true, true_or, or_self, and_true, true_and, and_false, false_and, not_true_eq_false, not_false_eq_true, Option.bind_some, Sum.elim_inl, Sum.elim_inr, xu_set, xset_same, xset_ne, xset_2, xset_set, upd_same, upd_ne, nbI_some, ne_eq, reduceCtorEq, reduceIte, Nat.reduceAdd, Nat.reduceMul, Nat.reduceSub, Nat.add_zero, Nat.zero_add, Nat.mul_zero, Nat.zero_mul, e24, i1, i2', e1, e2, th]
          · intro j hj
            by_cases q : j = i
            · rw [q]; exact hgo'
            · exact hgo j (by omega)
          · show BM u0 n0 u1 n1 (lth (rds g l i) (g (2 * i)).toNatClampNeg (g (2 * i + 1)).toNatClampNeg) _
            rw [e1, e2, nI_val (by omega), nI_val (by omega)]
            exact thM_BM hB (lth_ok hok c2 hx hv)
          · exact RsM_tr hR thM_R
        · rw [if_neg c2] at th
          right
          refine ⟨(nI i, s'), ?_, i, hgo, fun q => c2 q.2.1, rfl, hB, hR⟩
          have t4 : (-nI 4 ≤ nI 0) = True := eq_true (by decide)
          have th' : F_X9_thunder (nI x) (nI (v + 1)) s' = some (-nI 4, s') := th
          simp (disch := omega) only [↓Lm1, L0, L1, L2, L3, L4, L5, L6, L7, L8, L9, L10, L11, L12, L13, L14, L15, L16, L17, L18, L19, L20, L27, L30, L31, L35, L36, L37, L38, L39, L40, L41, L46, L48, L51, L57, L59, L60, L82, L98, L99, L100, L102, L104, L107, L110, L119, L144, L240, L255, L256, L360, L999, L1000000, nI_val, n_lt_t, n_lt_f, n_le_t, n_le_f, n_eq_t, n_eq_f, k_le_f, m_lt_t, m_lt_f, m_le_t, m_le_f, m_eq_f, m_eq_f', nI_add, nI_mulE, nI_subE, if_true, if_false, ite_true, ite_false, or_false, false_or, or_true, true_or, or_self, and_true, true_and, and_false, false_and, not_true_eq_false, not_false_eq_true, Option.bind_some, Sum.elim_inl, Sum.elim_inr, xu_set, xset_same, xset_ne, xset_2, xset_set, upd_same, upd_ne, nbI_some, ne_eq, reduceCtorEq, reduceIte, Nat.reduceAdd, Nat.reduceMul, Nat.reduceSub, Nat.add_zero, Nat.zero_add, Nat.mul_zero, Nat.zero_mul, e24, i1, i2', e1, e2, th', t4]
      · have th := thunM_no (s := s') (rvl_no c3)
        right
        refine ⟨(nI i, s'), ?_, i, hgo, fun q => c3 q.2.2, rfl, hB, hR⟩
        have t4 : (-nI 2 ≤ nI 0) = True := eq_true (by decide)
        have th' : F_X9_thunder (g (2 * i)) (g (2 * i + 1)) s' = some (-nI 2, s') := th
        simp (disch := omega) only [↓Lm1, L0, L1, L2, L3, L4, L5, L6, L7, L8, L9, L10, L11, L12, L13, L14, L15, L16, L17, L18, L19, L20, L27, L30, L31, L35, L36, L37, L38, L39, L40, L41, L46, L48, L51, L57, L59, L60, L82, L98, L99, L100, L102, L104, L107, L110, L119, L144, L240, L255, L256, L360, L999, L1000000, nI_val, n_lt_t, n_lt_f, n_le_t, n_le_f, n_eq_t, n_eq_f, k_le_f, m_lt_t, m_lt_f, m_le_t, m_le_f, m_eq_f, m_eq_f', nI_add, nI_mulE, nI_subE, if_true, if_false, ite_true, ite_false, or_false, false_or, or_true, true_or, or_self, and_true, true_and, and_false, false_and, not_true_eq_false, not_false_eq_true, Option.bind_some, Sum.elim_inl, Sum.elim_inr, xu_set, xset_same, xset_ne, xset_2, xset_set, upd_same, upd_ne, nbI_some, ne_eq, reduceCtorEq, reduceIte, Nat.reduceAdd, Nat.reduceMul, Nat.reduceSub, Nat.add_zero, Nat.zero_add, Nat.mul_zero, Nat.zero_mul, e24, i1, i2', th', t4]
    · right
      refine ⟨(nI i, s'), ?_, i, hgo, fun q => c1 q.1, rfl, hB, hR⟩
      simp (disch := omega) only [↓Lm1, L0, L1, L2, L3, L4, L5, L6, L7, L8, L9, L10, L11, L12, L13, L14, L15, L16, L17, L18, L19, L20, L27, L30, L31, L35, L36, L37, L38, L39, L40, L41, L46, L48, L51, L57, L59, L60, L82, L98, L99, L100, L102, L104, L107, L110, L119, L144, L240, L255, L256, L360, L999, L1000000, nI_val, n_lt_t, n_lt_f, n_le_t, n_le_f, n_eq_t, n_eq_f, k_le_f, m_lt_t, m_lt_f, m_le_t, m_le_f, m_eq_f, m_eq_f', nI_add, nI_mulE, nI_subE, if_true, if_false, ite_true, ite_false, or_false, false_or, or_true, true_or, or_self, and_true, true_and, and_false, false_and, not_true_eq_false, not_false_eq_true, Option.bind_some, Sum.elim_inl, Sum.elim_inr, xu_set, xset_same, xset_ne, xset_2, xset_set, upd_same, upd_ne, nbI_some, ne_eq, reduceCtorEq, reduceIte, Nat.reduceAdd, Nat.reduceMul, Nat.reduceSub, Nat.add_zero, Nat.zero_add, Nat.mul_zero, Nat.zero_mul, e24]
  · intro a ⟨_, hgo, _⟩
    have := (hgo 30 (by omega)).1
    omega
theorem c_read : lh_read Inv := by
  intro x s1 s2 hI
  have hI0 := hI
  obtain ⟨u0, n0, u1, n1, l, e, hA⟩ := hI
  have a7 := hA.2.2.2.2.2.2.1
  obtain ⟨hl, hL, h132⟩ := hA.1.2.2.2
  rcases arg_cases x 4 with ⟨k, hk, rfl⟩ | hno
  · rcases a7 k hk with ⟨p1, p2⟩ | ⟨fm, sz, q1, q2, q3, q4, q5, q6, q7, q8⟩
    · refine ⟨-10 - nI 1, _, _, ?_, ?_, hA.find (nI 1)⟩
      · unfold F_X8_read F_X8_find
        simp (disch := omega) only [↓Lm1, L0, L1, L2, L3, L4, L5, L6, L7, L8, L9, L10, L11, L12, L13, L14, L15, L16, L17, L18, L19, L20, L27, L30, L31, L35, L36, L37, L38, L39, L40, L41, L46, L48, L51, L57, L59, L60, L82, L98, L99, L100, L102, L104, L107, L110, L119, L144, L240, L255, L256, L360, L999, L1000000, nI_val, n_lt_t, n_lt_f, n_le_t, n_le_f, n_eq_t, n_eq_f, k_le_f, m_lt_t, m_lt_f, m_le_t, m_le_f, m_eq_f, m_eq_f', nI_add, nI_mulE, nI_subE, if_true, if_false, ite_true, ite_false, or_false, false_or, or_true, true_or, or_self, and_true, true_and, and_false, false_and, not_true_eq_false, not_false_eq_true, Option.bind_some, Sum.elim_inl, Sum.elim_inr, xu_set, xset_same, xset_ne, xset_2, xset_set, upd_same, upd_ne, nbI_some, ne_eq, reduceCtorEq, reduceIte, Nat.reduceAdd, Nat.reduceMul, Nat.reduceSub, Nat.add_zero, Nat.zero_add, Nat.mul_zero, Nat.zero_mul, out_in, lostF_t hk p2]
      · unfold F_X9_read F_X9_meets
        simp (disch := omega) only [↓Lm1, L0, L1, L2, L3, L4, L5, L6, L7, L8, L9, L10, L11, L12, L13, L14, L15, L16, L17, L18, L19, L20, L27, L30, L31, L35, L36, L37, L38, L39, L40, L41, L46, L48, L51, L57, L59, L60, L82, L98, L99, L100, L102, L104, L107, L110, L119, L144, L240, L255, L256, L360, L999, L1000000, nI_val, n_lt_t, n_lt_f, n_le_t, n_le_f, n_eq_t, n_eq_f, k_le_f, m_lt_t, m_lt_f, m_le_t, m_le_f, m_eq_f, m_eq_f', nI_add, nI_mulE, nI_subE, if_true, if_false, ite_true, ite_false, or_false, false_or, or_true, true_or, or_self, and_true, true_and, and_false, false_and, not_true_eq_false, not_false_eq_true, Option.bind_some, Sum.elim_inl, Sum.elim_inr, xu_set, xset_same, xset_ne, xset_2, xset_set, upd_same, upd_ne, nbI_some, ne_eq, reduceCtorEq, reduceIte, Nat.reduceAdd, Nat.reduceMul, Nat.reduceSub, Nat.add_zero, Nat.zero_add, Nat.mul_zero, Nat.zero_mul, isSheetM_t, p1]
    · obtain ⟨g, hg⟩ : ∃ g : Nat → Int32, g = fun i => s1.1 45 (k * 60 + i) := ⟨_, rfl⟩
      have g1 : ∀ i, i < sz → s1.1 45 (k * 60 + i) = g i := fun i hi => by rw [hg]
      have g2 : ∀ i, i < sz → s2.1 25 (60 * k + i) = g i := fun i hi => by rw [← g1 i hi, q8 i hi, show 60 * k + i = k * 60 + i by omega]
      obtain ⟨b, eb, n, v1, v2, w1, w2, w3⟩ := readF2 (l2 := s1.1 13 3) hk q2 q6 g1 hl hL h132
      obtain ⟨b', eb', n', v1', v2', y1, y2, y3⟩ := readM2 hk q2 q7 g2 hA.iM.1
      have en := rgo_uniq v1 v2 v1' v2'
      subst en
      obtain ⟨t, ht, c0, c1, c15, cR, c13⟩ := anewL hA.1 w3 (rds_ok hl n v1) w1 w2
      have e13 : t.1 13 3 = nI (l.2.2.1 + n) := by rw [c13, w1.2.2.1, rds_c]
      have l6 := hl.2.2.1
      have r6 := (rds_ok hl n v1).2.2.1
      rw [rds_c] at r6
      refine ⟨nI n, t, b'.2, ?_, ?_, hA.anew c0 c1 c15 cR y2 y3⟩
      · have e3 : l.2.2.1 + n - l.2.2.1 = n := by omega
        unfold F_X8_read
        have eb0 : xlp (F_X8_read_L41 (nI k) (nI l.2.2.1)) 100000 (nI 0, s1) = some b := by rw [← hL.2.2.1]; exact eb
        cases b with
        | inl b =>
          have ht' : F_X8_sleepAnew b = some t := ht
          simp (disch := omega) only [↓Lm1, L0, L1, L2, L3, L4, L5, L6, L7, L8, L9, L10, L11, L12, L13, L14, L15, L16, L17, L18, L19, L20, L27, L30, L31, L35, L36, L37, L38, L39, L40, L41, L46, L48, L51, L57, L59, L60, L82, L98, L99, L100, L102, L104, L107, L110, L119, L144, L240, L255, L256, L360, L999, L1000000, nI_val, n_lt_t, n_lt_f, n_le_t, n_le_f, n_eq_t, n_eq_f, k_le_f, m_lt_t, m_lt_f, m_le_t, m_le_f, m_eq_f, m_eq_f', nI_add, nI_mulE, nI_subE, if_true, if_false, ite_true, ite_false, or_false, false_or, or_true, true_or, or_self, and_true, true_and, and_false, false_and, not_true_eq_false, not_false_eq_true, Option.bind_some, Sum.elim_inl, Sum.elim_inr, xu_set, xset_same, xset_ne, xset_2, xset_set, upd_same, upd_ne, nbI_some, ne_eq, reduceCtorEq, reduceIte, Nat.reduceAdd, Nat.reduceMul, Nat.reduceSub, Nat.add_zero, Nat.zero_add, Nat.mul_zero, Nat.zero_mul, out_in, lostF_f hk q1 q4, hL.2.2.1, eb0, ht', e13, e3]
        | inr b =>
          have ht' : F_X8_sleepAnew b = some t := ht
          simp (disch := omega) only [↓Lm1, L0, L1, L2, L3, L4, L5, L6, L7, L8, L9, L10, L11, L12, L13, L14, L15, L16, L17, L18, L19, L20, L27, L30, L31, L35, L36, L37, L38, L39, L40, L41, L46, L48, L51, L57, L59, L60, L82, L98, L99, L100, L102, L104, L107, L110, L119, L144, L240, L255, L256, L360, L999, L1000000, nI_val, n_lt_t, n_lt_f, n_le_t, n_le_f, n_eq_t, n_eq_f, k_le_f, m_lt_t, m_lt_f, m_le_t, m_le_f, m_eq_f, m_eq_f', nI_add, nI_mulE, nI_subE, if_true, if_false, ite_true, ite_false, or_false, false_or, or_true, true_or, or_self, and_true, true_and, and_false, false_and, not_true_eq_false, not_false_eq_true, Option.bind_some, Sum.elim_inl, Sum.elim_inr, xu_set, xset_same, xset_ne, xset_2, xset_set, upd_same, upd_ne, nbI_some, ne_eq, reduceCtorEq, reduceIte, Nat.reduceAdd, Nat.reduceMul, Nat.reduceSub, Nat.add_zero, Nat.zero_add, Nat.mul_zero, Nat.zero_mul, out_in, lostF_f hk q1 q4, hL.2.2.1, eb0, ht', e13, e3]
      · have eb0 : xlp (F_X9_read_L27 (nI k)) 100000 (nI 0, s2) = some b' := eb'
        unfold F_X9_read
        simp (disch := omega) only [↓Lm1, L0, L1, L2, L3, L4, L5, L6, L7, L8, L9, L10, L11, L12, L13, L14, L15, L16, L17, L18, L19, L20, L27, L30, L31, L35, L36, L37, L38, L39, L40, L41, L46, L48, L51, L57, L59, L60, L82, L98, L99, L100, L102, L104, L107, L110, L119, L144, L240, L255, L256, L360, L999, L1000000, nI_val, n_lt_t, n_lt_f, n_le_t, n_le_f, n_eq_t, n_eq_f, k_le_f, m_lt_t, m_lt_f, m_le_t, m_le_f, m_eq_f, m_eq_f', nI_add, nI_mulE, nI_subE, if_true, if_false, ite_true, ite_false, or_false, false_or, or_true, true_or, or_self, and_true, true_and, and_false, false_and, not_true_eq_false, not_false_eq_true, Option.bind_some, Sum.elim_inl, Sum.elim_inr, xu_set, xset_same, xset_ne, xset_2, xset_set, upd_same, upd_ne, nbI_some, ne_eq, reduceCtorEq, reduceIte, Nat.reduceAdd, Nat.reduceMul, Nat.reduceSub, Nat.add_zero, Nat.zero_add, Nat.mul_zero, Nat.zero_mul, isSheetM_t, q3, eb0, y1]
  · refine ⟨-2, s1, s2, ?_, ?_, hI0⟩
    · unfold F_X8_read
      simp (disch := omega) only [↓Lm1, L0, L1, L2, L3, L4, L5, L6, L7, L8, L9, L10, L11, L12, L13, L14, L15, L16, L17, L18, L19, L20, L27, L30, L31, L35, L36, L37, L38, L39, L40, L41, L46, L48, L51, L57, L59, L60, L82, L98, L99, L100, L102, L104, L107, L110, L119, L144, L240, L255, L256, L360, L999, L1000000, nI_val, n_lt_t, n_lt_f, n_le_t, n_le_f, n_eq_t, n_eq_f, k_le_f, m_lt_t, m_lt_f, m_le_t, m_le_f, m_eq_f, m_eq_f', nI_add, nI_mulE, nI_subE, if_true, if_false, ite_true, ite_false, or_false, false_or, or_true, true_or, or_self, and_true, true_and, and_false, false_and, not_true_eq_false, not_false_eq_true, Option.bind_some, Sum.elim_inl, Sum.elim_inr, xu_set, xset_same, xset_ne, xset_2, xset_set, upd_same, upd_ne, nbI_some, ne_eq, reduceCtorEq, reduceIte, Nat.reduceAdd, Nat.reduceMul, Nat.reduceSub, Nat.add_zero, Nat.zero_add, Nat.mul_zero, Nat.zero_mul, out_no (x := x) (n := 4) (by omega) hno]
    · unfold F_X9_read
      simp (disch := omega) only [↓Lm1, L0, L1, L2, L3, L4, L5, L6, L7, L8, L9, L10, L11, L12, L13, L14, L15, L16, L17, L18, L19, L20, L27, L30, L31, L35, L36, L37, L38, L39, L40, L41, L46, L48, L51, L57, L59, L60, L82, L98, L99, L100, L102, L104, L107, L110, L119, L144, L240, L255, L256, L360, L999, L1000000, nI_val, n_lt_t, n_lt_f, n_le_t, n_le_f, n_eq_t, n_eq_f, k_le_f, m_lt_t, m_lt_f, m_le_t, m_le_f, m_eq_f, m_eq_f', nI_add, nI_mulE, nI_subE, if_true, if_false, ite_true, ite_false, or_false, false_or, or_true, true_or, or_self, and_true, true_and, and_false, false_and, not_true_eq_false, not_false_eq_true, Option.bind_some, Sum.elim_inl, Sum.elim_inr, xu_set, xset_same, xset_ne, xset_2, xset_set, upd_same, upd_ne, nbI_some, ne_eq, reduceCtorEq, reduceIte, Nat.reduceAdd, Nat.reduceMul, Nat.reduceSub, Nat.add_zero, Nat.zero_add, Nat.mul_zero, Nat.zero_mul, isSheetM_f hno]
end SPEC
