/-! ===== whence, ask ===== -/
def cnN (P : Nat → Bool) (i : Nat) : Nat := smN (fun j => b01 (P j)) i
theorem cnN_t {P : Nat → Bool} {i : Nat} (h : P i = true) : cnN P (i + 1) = cnN P i + 1 := by
  show cnN P i + b01 (P i) = _
  rw [h]; rfl
theorem cnN_f {P : Nat → Bool} {i : Nat} (h : P i = false) : cnN P (i + 1) = cnN P i := by
  show cnN P i + b01 (P i) = _
  rw [h]; rfl
theorem cnN_le (P : Nat → Bool) : ∀ i, cnN P i ≤ i
  | 0 => Nat.le_refl _
  | i + 1 => by
    have := cnN_le P i
    cases h : P i with
    | true => rw [cnN_t h]; omega
    | false => rw [cnN_f h]; omega
theorem cnN_mono {P : Nat → Bool} {i j : Nat} (h : i ≤ j) : cnN P i ≤ cnN P j := by
  induction h with
  | refl => exact Nat.le_refl _
  | @step m _ ih =>
    cases q : P m with
    | true => rw [cnN_t q]; omega
    | false => rw [cnN_f q]; exact ih
theorem cnN_lt {P : Nat → Bool} {i j : Nat} (h : i < j) (hp : P i = true) : cnN P i < cnN P j := by
  have := cnN_mono (P := P) (show i + 1 ≤ j from h)
  rw [cnN_t hp] at this
  omega
theorem cnN_inj {P : Nat → Bool} {i j : Nat} (hi : P i = true) (hj : P j = true) (h : cnN P i = cnN P j) : i = j := by
  rcases Nat.lt_trichotomy i j with c | c | c
  · have := cnN_lt c hi; omega
  · exact c
  · have := cnN_lt c hj; omega
theorem cnN_ex {P : Nat → Bool} {i : Nat} : ∀ {N : Nat}, i < cnN P N → ∃ c, c < N ∧ P c = true ∧ cnN P c = i
  | 0, h => absurd h (Nat.not_lt_zero i)
  | N + 1, h => by
    by_cases q : i < cnN P N
    · obtain ⟨c, h1, h2, h3⟩ := cnN_ex q
      exact ⟨c, by omega, h2, h3⟩
    · cases z : P N with
      | true => rw [cnN_t z] at h; exact ⟨N, by omega, z, by omega⟩
      | false => rw [cnN_f z] at h; exact absurd h q
theorem fst_some {Q : Nat → Bool} : ∀ {k a : Nat}, fst_ Q k = some a → a < k ∧ Q a = true
  | 0, a, h => by cases h
  | k + 1, a, h => by
    unfold fst_ at h
    split at h
    · rename_i b hb
      cases h
      obtain ⟨h1, h2⟩ := fst_some hb
      exact ⟨by omega, h2⟩
    · split at h
      · rename_i q
        cases h
        exact ⟨by omega, q⟩
      · cases h
theorem fst_none {Q : Nat → Bool} : ∀ {k : Nat}, fst_ Q k = none → ∀ c, c < k → Q c = false
  | 0, _, c, hc => absurd hc (Nat.not_lt_zero c)
  | k + 1, h, c, hc => by
    unfold fst_ at h
    split at h
    · cases h
    · rename_i hb
      split at h
      · cases h
      · rename_i q
        by_cases e : c = k
        · subst e; simpa using q
        · exact fst_none hb c (by omega)
/-- the i-th of those -/
def wnth (P : Nat → Bool) (N i : Nat) : Option Nat := fst_ (fun c => P c && decide (cnN P c = i)) N
theorem wnth_of {P : Nat → Bool} {N i c : Nat} (hc : c < N) (hp : P c = true) (hi : cnN P c = i) : wnth P N i = some c := by
  cases h : wnth P N i with
  | none =>
    have := fst_none h c hc
    rw [hp, hi] at this
    simp at this
  | some a =>
    obtain ⟨h1, h2⟩ := fst_some h
    simp only [Bool.and_eq_true, decide_eq_true_eq] at h2
    rw [cnN_inj h2.1 hp (by omega)]
theorem wnth_none {P : Nat → Bool} {N i : Nat} (h : cnN P N ≤ i) : wnth P N i = none := by
  cases q : wnth P N i with
  | none => rfl
  | some a =>
    obtain ⟨h1, h2⟩ := fst_some q
    simp only [Bool.and_eq_true, decide_eq_true_eq] at h2
    have := cnN_lt h1 h2.1
    omega
theorem arg_m_out {x : Int32} {n : Nat} (hn : n < 2 ^ 31) (h1 : x ≠ nbI none) (h2 : ∀ k, k < n → x ≠ nI k) (h : ¬ x < nbI none) : nI n ≤ x := by
  refine arg_out hn h2 ?_
  rw [i_lt, nI_toInt (by omega)]
  rw [nbI_none, i_lt, i_m1] at h
  have : x.toInt ≠ -1 := fun q => h1 (by rw [nbI_none, i_eq, i_m1]; exact q)
  omega
section SPEC
variable {u0 : Nat → Nat} {n0 : Nat} {u1 : Nat → Nat} {n1 : Nat} {l : LD} {e : ED} {s s4 a : xS}
noncomputable def wnS (u0 : Nat → Nat) (n0 : Nat) (u1 : Nat → Nat) (n1 : Nat) (l : LD) (k c : Nat) : Nat → Option Nat := (ngt (twn u0 n0).1 (ls0 u0 n0) (dup (ddat u1 n1) 4 k c) all_ l).2.2.2.1
noncomputable def wnB (u0 : Nat → Nat) (n0 : Nat) (u1 : Nat → Nat) (n1 : Nat) (l : LD) (e : ED) (k c : Nat) : Bool := agr e (wnS u0 n0 u1 n1 l k c) e.1
theorem passU2 {p k v : Nat} (hp : tri p) (h : IF u0 n0 u1 n1 l e s4) (hD : DdF 27 (ddat u1 n1) s4) (u : UF p k s4 a) (h4 : p = 4 → v < 40) (h5 : p = 5 → v ≤ 3) (h6 : p = 6 → v ≤ 9) : ∃ s', F_X3_pass 34 27 19 (nI 255) (xset a (24 + p) (upd (a.1 (24 + p)) k (nI v))) = some s' ∧ UF p k s4 s' ∧ Kp 28 38 a s' ∧ NtF 34 (dup (ddat u1 n1) p k v) (shr (dup (ddat u1 n1) p k v) (twn u0 n0).1 (ls0 u0 n0)) (ngt (twn u0 n0).1 (ls0 u0 n0) (dup (ddat u1 n1) p k v) all_ l) s' := by
  have u' := u.set (nI v) hp
  have h' := h.keep u'.1
  obtain ⟨⟨hx, _, _, hl, hL, _⟩, ⟨ls, _⟩, _, _⟩ := h'
  obtain ⟨s', e', k', n'⟩ := passF (p0 := 34) (p1 := 27) (p3 := 19) (N := (twn u0 n0).1) (ls := (ls0 u0 n0)) (Or.inr (Or.inl ⟨rfl, rfl⟩)) (Or.inl rfl) (dup_ok (dd_ok hx.2.1) h4 h5 h6) (DdF_up hp hD u) hl hL pr255 (twn_ok u0 n0).1.1 ls
  have hp' := hp
  unfold tri at hp'
  exact ⟨s', e', u'.kp (k'.wide (by omega) (by omega)) hp, ((Kp.refl 28 38 a).set _ (by omega) (by omega)).trans (k'.wide (by omega) (by omega)), n'⟩
theorem sleepU2 {p k v : Nat} (hp : tri p) (h : LT u0 n0 u1 n1 l s s4) (u : UK p k s4 a) (hn : n1 ≤ 39) (h4 : p = 4 → v < 40) (h5 : p = 5 → v ≤ 3) (h6 : p = 6 → v ≤ 9) : ∃ s', F_X9_sleepsOn (xset a p (upd (a.1 p) k (nI v))) = some s' ∧ UK p k s4 s' ∧ (∀ q, q = 20 ∨ q = 21 → s'.1 q = a.1 q) ∧ NtM (dup (ddat u1 n1) p k v) (shr (dup (ddat u1 n1) p k v) (twn u0 n0).1 (ls0 u0 n0)) (ngt (twn u0 n0).1 (ls0 u0 n0) (dup (ddat u1 n1) p k v) all_ l) 10 s' := by
  have u' := u.set (nI v) (tri_UL hp).1
  obtain ⟨s', e', k', n'⟩ := sleepT (a := xset a p (upd (a.1 p) k (nI v))) (d := dup (ddat u1 n1) p k v) (pr := all_) h (fun q hq => u'.1.1 q (by omega) (by unfold tri at hp; simp only [List.mem_cons, UL, List.not_mem_nil, or_false]; omega)) (fun q hq => u'.1.2 q (by simp only [List.mem_cons, List.not_mem_nil, or_false]; omega)) (dup_ok (dd_ok hn) h4 h5 h6) (DdM_up hp h.1.2.2.2 u) (by rw [u'.1.2 15 (by decide), h.2.2]; exact pr0)
  refine ⟨s', e', u'.kr (k'.wide (by decide) (by decide)) (tri_UL hp).1 (tri_UL hp).2, fun q hq => ?_, n'⟩
  unfold tri at hp
  rw [k'.1 q (by omega) (by simp only [List.mem_cons, List.not_mem_nil, or_false]; omega), xset_ne _ _ (by omega)]
/-- what findPlaces leaves -/
def FPl (P : Nat → Bool) (S : Nat → Nat → Option Nat) (i : Nat) (s : xS) : Prop := ∀ j, j < i → P j = true → s.1 39 (cnN P j) = nI j ∧ ∀ h, h < 10 → s.1 40 (cnN P j * 10 + h) = nbI (S j h)
def MPl (P : Nat → Bool) (S : Nat → Nat → Option Nat) (i : Nat) (s : xS) : Prop := ∀ j, j < i → s.1 20 j = nI (b01 (P j)) ∧ ∀ h, h < 10 → s.1 21 (10 * j + h) = nbI (S j h)
theorem findF {k : Nat} (hI : IF u0 n0 u1 n1 l e s) (hk : k < (ddat u1 n1).1) : ∃ s', F_X8_findPlaces (nI k) s = some (nI (cnN (wnB u0 n0 u1 n1 l e k) (twn u0 n0).1), s') ∧ Kp 27 40 s s' ∧ FPl (wnB u0 n0 u1 n1 l e k) (wnS u0 n0 u1 n1 l k) (twn u0 n0).1 s' := by
  have hok := dd_ok (u := u1) hI.1.1.2.1
  have h8 := hok.1
  have hl := hI.1.2.2.2.1
  have hD := hI.1.2.2.1.1
  have hN := (twn_ok u0 n0).1.1
  obtain ⟨s2, e2, k2, d2⟩ := takeF hok hD
  have kk := k2.wide (Nat.le_refl 27) (show 30 ≤ 40 by omega)
  have hI2 := hI.keep kk
  obtain ⟨S, hS⟩ : ∃ S : Nat → Nat → Option Nat, S = wnS u0 n0 u1 n1 l k := ⟨_, rfl⟩
  obtain ⟨P, hP⟩ : ∃ P : Nat → Bool, P = wnB u0 n0 u1 n1 l e k := ⟨_, rfl⟩
  rw [← hS, ← hP]
  have key : ∃ b, xlp (F_X8_findPlaces_L15 (nI k)) 100000 (nI 0, nI 0, s2) = some b ∧ b.1 = nI (cnN P (twn u0 n0).1) ∧ UF 4 k s2 b.2 ∧ FPl P S (twn u0 n0).1 b.2 := by
    refine xlp_cnt (f := F_X8_findPlaces_L15 (nI k)) (fun i a => a.1 = nI (cnN P i) ∧ a.2.1 = nI i ∧ UF 4 k s2 a.2.2 ∧ FPl P S i a.2.2) (fun b => b.1 = nI (cnN P (twn u0 n0).1) ∧ UF 4 k s2 b.2 ∧ FPl P S (twn u0 n0).1 b.2) (twn u0 n0).1 (by omega) ?_ ?_ (a := (nI 0, nI 0, s2)) ⟨rfl, rfl, UF.refl _ _ _, fun j hj => absurd hj (Nat.not_lt_zero j)⟩
    · intro i a hi ⟨h1, h2, h4, h5⟩
      obtain ⟨a1, a2, s'⟩ := a
      dsimp only at h1 h2 h4 h5
      subst h1; subst h2
      have h52 : s'.1 5 2 = nI (twn u0 n0).1 := by rw [(h4.1 5 (by omega)).1]; exact hI2.1.2.1.1.2.1
      obtain ⟨s'', e'', u'', kq, n''⟩ := passU2 (p := 4) (v := i) (Or.inl rfl) hI2 d2 h4 (fun _ => by omega) (fun q => by cases q) (fun q => by cases q)
      have e3 : F_X3_pass 34 27 19 (nI 255) (xset s' 28 (upd (s'.1 28) k (nI i))) = some s'' := e''
      have ea := agrF (hI2.keep u''.1).2.2.2 (fun h hh => (n''.2.1 h hh).1) (fun h v q => ngt_ns (show (dup (ddat u1 n1) 4 k i).1 ≤ 8 from h8) hl q)
      have hPi : P i = agr e (ngt (twn u0 n0).1 (ls0 u0 n0) (dup (ddat u1 n1) 4 k i) all_ l).2.2.2.1 e.1 := by rw [hP]; rfl
      have hSi : S i = (ngt (twn u0 n0).1 (ls0 u0 n0) (dup (ddat u1 n1) 4 k i) all_ l).2.2.2.1 := by rw [hS]; rfl
      rw [← hPi] at ea
      have n35 : ∀ h, h < 10 → s''.1 35 h = nbI (S i h) := fun h hh => by rw [hSi]; exact (n''.2.1 h hh).1
      have kp'' : FPl P S i s'' := by
        unfold FPl at h5 ⊢
        rw [(kq 39 (by omega)).1, (kq 40 (by omega)).1]
        exact h5
      have hle := cnN_le P i
      left
      unfold F_X8_findPlaces_L15
      cases c : P i with
      | true =>
        have q1 : (360 < cnN P i * 10 + 10) = False := eq_false (by omega)
        have q3 : (8 < xcat []) = False := eq_false (by decide)
        have ct := cnN_t c
        have ea' : F_X2_agreesWith s'' = some (nI 1) := by rw [ea, c]; rfl
        refine ⟨(nI (cnN P (i + 1)), nI (i + 1), xset (xset s'' 39 (upd (s''.1 39) (cnN P i) (nI i))) 40 (frw (cnN P i * 10) 10 (fun t => s''.1 35 (0 + t)) (s''.1 40))), ?_, rfl, rfl, ?_, ?_⟩
        · have ex : xcp (xset s'' 39 (upd (s''.1 39) (cnN P i) (nI i))) 35 0 40 (cnN P i * 10) 10 = xset (xset s'' 39 (upd (s''.1 39) (cnN P i) (nI i))) 40 (frw (cnN P i * 10) 10 (fun t => s''.1 35 (0 + t)) (s''.1 40)) := by
            show xset (xset s'' 39 (upd (s''.1 39) (cnN P i) (nI i))) 40 (frw (cnN P i * 10) 10 (fun t => (xset s'' 39 (upd (s''.1 39) (cnN P i) (nI i))).1 35 (0 + t)) ((xset s'' 39 (upd (s''.1 39) (cnN P i) (nI i))).1 40)) = _
            rw [xset_ne _ _ (show 35 ≠ 39 by omega), xset_ne _ _ (show 40 ≠ 39 by omega)]
          simp (disch := omega) only [↓Lm1, L0, L1, L2, L3, L4, L5, L6, L7, L8, L9, L10, L11, L12, L13, L14, L15, L16, L17, L18, L19, L20, L27, L30, L31, L35, L36, L37, L38, L39, L40, L41, L46, L48, L51, L57, L59, L60, L82, L98, L99, L100, L102, L104, L107, L110, L119, L144, L240, L255, L256, L360, L999, L1000000, nI_val, n_lt_t, n_lt_f, n_le_t, n_le_f, n_eq_t, n_eq_f, k_le_f, m_lt_t, m_lt_f, m_le_t, m_le_f, m_eq_f, m_eq_f', nI_add, nI_mulE, nI_subE, if_true, if_false, ite_true, ite_false, or_false, false_or, or_true, true_or, or_self, and_true, true_and, and_false, false_and, not_true_eq_false, not_false_eq_true, Option.bind_some, Sum.elim_inl, Sum.elim_inr, xu_set, xset_same, xset_ne, xset_2, xset_set, upd_same, upd_ne, nbI_some, ne_eq, reduceCtorEq, reduceIte, Nat.reduceAdd, Nat.reduceMul, Nat.reduceSub, Nat.add_zero, Nat.zero_add, Nat.mul_zero, Nat.zero_mul, h52, e3, ea', q1, q3, Nat.lt_irrefl, ct, ex]
        · exact (u''.kp ((Kp.refl 31 40 _).set _ (by omega) (by omega)) (Or.inl rfl)).kp ((Kp.refl 31 40 _).set _ (by omega) (by omega)) (Or.inl rfl)
        · intro j hj hp
          by_cases ej : j = i
          · subst ej
            refine ⟨?_, fun h hh => ?_⟩
            · simp (disch := omega) only [↓Lm1, L0, L1, L2, L3, L4, L5, L6, L7, L8, L9, L10, L11, L12, L13, L14, L15, L16, L17, L18, L19, L20, L27, L30, L31, L35, L36, L37, L38, L39, L40, L41, L46, L48, L51, L57, L59, L60, L82, L98, L99, L100, L102, L104, L107, L110, L119, L144, L240, L255, L256, L360, L999, L1000000, nI_val, n_lt_t, n_lt_f, n_le_t, n_le_f, n_eq_t, n_eq_f, k_le_f, m_lt_t, m_lt_f, m_le_t, m_le_f, m_eq_f, m_eq_f', nI_add, nI_mulE, nI_subE, if_true, if_false, ite_true, ite_false, or_false, false_or, or_true, true_or, or_self, and_true, true_and, and_false, false_and, not_true_eq_false, not_false_eq_true, Option.bind_some, Sum.elim_inl, Sum.elim_inr, xu_set, xset_same, xset_ne, xset_2, xset_set, upd_same, upd_ne, nbI_some, ne_eq, reduceCtorEq, reduceIte, Nat.reduceAdd, Nat.reduceMul, Nat.reduceSub, Nat.add_zero, Nat.zero_add, Nat.mul_zero, Nat.zero_mul]
            · rw [xset_same, frw_at (by omega)]
              rw [Nat.zero_add]
              exact n35 h hh
          · have lt := cnN_lt (show j < i by omega) hp
            obtain ⟨z1, z2⟩ := kp'' j (by omega) hp
            refine ⟨?_, fun h hh => ?_⟩
            · simp (disch := omega) only [↓Lm1, L0, L1, L2, L3, L4, L5, L6, L7, L8, L9, L10, L11, L12, L13, L14, L15, L16, L17, L18, L19, L20, L27, L30, L31, L35, L36, L37, L38, L39, L40, L41, L46, L48, L51, L57, L59, L60, L82, L98, L99, L100, L102, L104, L107, L110, L119, L144, L240, L255, L256, L360, L999, L1000000, nI_val, n_lt_t, n_lt_f, n_le_t, n_le_f, n_eq_t, n_eq_f, k_le_f, m_lt_t, m_lt_f, m_le_t, m_le_f, m_eq_f, m_eq_f', nI_add, nI_mulE, nI_subE, if_true, if_false, ite_true, ite_false, or_false, false_or, or_true, true_or, or_self, and_true, true_and, and_false, false_and, not_true_eq_false, not_false_eq_true, Option.bind_some, Sum.elim_inl, Sum.elim_inr, xu_set, xset_same, xset_ne, xset_2, xset_set, upd_same, upd_ne, nbI_some, ne_eq, reduceCtorEq, reduceIte, Nat.reduceAdd, Nat.reduceMul, Nat.reduceSub, Nat.add_zero, Nat.zero_add, Nat.mul_zero, Nat.zero_mul, z1]
            · rw [xset_same]
              unfold frw
              rw [if_neg (by omega)]
              exact z2 h hh
      | false =>
        have cf := cnN_f c
        have ea' : F_X2_agreesWith s'' = some (nI 0) := by rw [ea, c]; rfl
        refine ⟨(nI (cnN P (i + 1)), nI (i + 1), s''), ?_, rfl, rfl, u'', ?_⟩
        · simp (disch := omega) only [↓Lm1, L0, L1, L2, L3, L4, L5, L6, L7, L8, L9, L10, L11, L12, L13, L14, L15, L16, L17, L18, L19, L20, L27, L30, L31, L35, L36, L37, L38, L39, L40, L41, L46, L48, L51, L57, L59, L60, L82, L98, L99, L100, L102, L104, L107, L110, L119, L144, L240, L255, L256, L360, L999, L1000000, nI_val, n_lt_t, n_lt_f, n_le_t, n_le_f, n_eq_t, n_eq_f, k_le_f, m_lt_t, m_lt_f, m_le_t, m_le_f, m_eq_f, m_eq_f', nI_add, nI_mulE, nI_subE, if_true, if_false, ite_true, ite_false, or_false, false_or, or_true, true_or, or_self, and_true, true_and, and_false, false_and, not_true_eq_false, not_false_eq_true, Option.bind_some, Sum.elim_inl, Sum.elim_inr, xu_set, xset_same, xset_ne, xset_2, xset_set, upd_same, upd_ne, nbI_some, ne_eq, reduceCtorEq, reduceIte, Nat.reduceAdd, Nat.reduceMul, Nat.reduceSub, Nat.add_zero, Nat.zero_add, Nat.mul_zero, Nat.zero_mul, h52, e3, ea', cf]
        · intro j hj hp
          by_cases ej : j = i
          · subst ej; rw [c] at hp; cases hp
          · exact kp'' j (by omega) hp
    · intro a ⟨h1, h2, h4, h5⟩
      obtain ⟨a1, a2, s'⟩ := a
      dsimp only at h1 h2 h4 h5
      subst h1; subst h2
      have h52 : s'.1 5 2 = nI (twn u0 n0).1 := by rw [(h4.1 5 (by omega)).1]; exact hI2.1.2.1.1.2.1
      refine ⟨(nI (cnN P (twn u0 n0).1), s'), ?_, rfl, h4, h5⟩
      unfold F_X8_findPlaces_L15
      simp (disch := omega) only [↓Lm1, L0, L1, L2, L3, L4, L5, L6, L7, L8, L9, L10, L11, L12, L13, L14, L15, L16, L17, L18, L19, L20, L27, L30, L31, L35, L36, L37, L38, L39, L40, L41, L46, L48, L51, L57, L59, L60, L82, L98, L99, L100, L102, L104, L107, L110, L119, L144, L240, L255, L256, L360, L999, L1000000, nI_val, n_lt_t, n_lt_f, n_le_t, n_le_f, n_eq_t, n_eq_f, k_le_f, m_lt_t, m_lt_f, m_le_t, m_le_f, m_eq_f, m_eq_f', nI_add, nI_mulE, nI_subE, if_true, if_false, ite_true, ite_false, or_false, false_or, or_true, true_or, or_self, and_true, true_and, and_false, false_and, not_true_eq_false, not_false_eq_true, Option.bind_some, Sum.elim_inl, Sum.elim_inr, xu_set, xset_same, xset_ne, xset_2, xset_set, upd_same, upd_ne, nbI_some, ne_eq, reduceCtorEq, reduceIte, Nat.reduceAdd, Nat.reduceMul, Nat.reduceSub, Nat.add_zero, Nat.zero_add, Nat.mul_zero, Nat.zero_mul, h52]
  obtain ⟨b, eb, hb1, hb2, hb3⟩ := key
  refine ⟨b.2, ?_, kk.trans hb2.1, hb3⟩
  unfold F_X8_findPlaces
  simp (disch := omega) only [↓Lm1, L0, L1, L2, L3, L4, L5, L6, L7, L8, L9, L10, L11, L12, L13, L14, L15, L16, L17, L18, L19, L20, L27, L30, L31, L35, L36, L37, L38, L39, L40, L41, L46, L48, L51, L57, L59, L60, L82, L98, L99, L100, L102, L104, L107, L110, L119, L144, L240, L255, L256, L360, L999, L1000000, nI_val, n_lt_t, n_lt_f, n_le_t, n_le_f, n_eq_t, n_eq_f, k_le_f, m_lt_t, m_lt_f, m_le_t, m_le_f, m_eq_f, m_eq_f', nI_add, nI_mulE, nI_subE, if_true, if_false, ite_true, ite_false, or_false, false_or, or_true, true_or, or_self, and_true, true_and, and_false, false_and, not_true_eq_false, not_false_eq_true, Option.bind_some, Sum.elim_inl, Sum.elim_inr, xu_set, xset_same, xset_ne, xset_2, xset_set, upd_same, upd_ne, nbI_some, ne_eq, reduceCtorEq, reduceIte, Nat.reduceAdd, Nat.reduceMul, Nat.reduceSub, Nat.add_zero, Nat.zero_add, Nat.mul_zero, Nat.zero_mul, e2, eb, hb1]
theorem whencesM {k : Nat} (h : IM u0 n0 u1 n1 l e s) (he : EaOk e) (hk : k < (ddat u1 n1).1) : ∃ s', F_X9_whences (nI k) s = some (nI (cnN (wnB u0 n0 u1 n1 l e k) (twn u0 n0).1), s') ∧ RT u0 n0 u1 n1 l s s' ∧ MPl (wnB u0 n0 u1 n1 l e k) (wnS u0 n0 u1 n1 l k) (twn u0 n0).1 s' := by
  have h8 := (dd_ok (u := u1) h.1.2.1).1
  have hl := h.1.2.2.2.2.2.2.1
  have hN := (twn_ok u0 n0).1.1
  obtain ⟨s2, s4, e2, e4, lt⟩ := laysT h.1
  have hI4 := lt.1.im h
  obtain ⟨S, hS⟩ : ∃ S : Nat → Nat → Option Nat, S = wnS u0 n0 u1 n1 l k := ⟨_, rfl⟩
  obtain ⟨P, hP⟩ : ∃ P : Nat → Bool, P = wnB u0 n0 u1 n1 l e k := ⟨_, rfl⟩
  rw [← hS, ← hP]
  have key : ∃ b, xlp (F_X9_whences_L20 (nI k) (s4.1 4 k)) 100000 (nI 0, nI 0, s4) = some b ∧ b.1 = nI (cnN P (twn u0 n0).1) ∧ UK 4 k s4 b.2 ∧ MPl P S (twn u0 n0).1 b.2 := by
    refine xlp_cnt (f := F_X9_whences_L20 (nI k) (s4.1 4 k)) (fun i a => a.1 = nI (cnN P i) ∧ a.2.1 = nI i ∧ UK 4 k s4 a.2.2 ∧ MPl P S i a.2.2) (fun b => b.1 = nI (cnN P (twn u0 n0).1) ∧ UK 4 k s4 b.2 ∧ MPl P S (twn u0 n0).1 b.2) (twn u0 n0).1 (by omega) ?_ ?_ (a := (nI 0, nI 0, s4)) ⟨rfl, rfl, UK.refl _ _ _, fun j hj => absurd hj (Nat.not_lt_zero j)⟩
    · intro i a hi ⟨h1, h2, h4, h5⟩
      obtain ⟨a1, a2, s'⟩ := a
      dsimp only at h1 h2 h4 h5
      subst h1; subst h2
      have h03 : s'.1 0 3 = nI (twn u0 n0).1 := by rw [h4.1.2 3 (by decide)]; exact lt.1.2.2.1.2.1
      obtain ⟨s'', e'', u'', kq, n''⟩ := sleepU2 (p := 4) (v := i) (Or.inl rfl) lt h4 h.1.2.1 (fun _ => by omega) (fun q => by cases q) (fun q => by cases q)
      have ea := listM (L := []) he (EaM_K hI4.2 (u''.1.wide (by decide) (by decide))) hl (show (dup (ddat u1 n1) 4 k i).1 ≤ 8 from h8) e'' n''
      have hPi : P i = agr e (ngt (twn u0 n0).1 (ls0 u0 n0) (dup (ddat u1 n1) 4 k i) all_ l).2.2.2.1 e.1 := by rw [hP]; rfl
      have hSi : S i = (ngt (twn u0 n0).1 (ls0 u0 n0) (dup (ddat u1 n1) 4 k i) all_ l).2.2.2.1 := by rw [hS]; rfl
      rw [← hPi] at ea
      have n12 : ∀ h, h < 10 → s''.1 12 h = nbI (S i h) := fun h hh => by rw [hSi]; exact (n''.2.1 h hh).1
      obtain ⟨s5, hs5⟩ : ∃ s5, s5 = xset s'' 20 (upd (s''.1 20) i (nI (b01 (P i)))) := ⟨_, rfl⟩
      have e12 : s5.1 12 = s''.1 12 := by rw [hs5]; simp (disch := omega) only [↓Lm1, L0, L1, L2, L3, L4, L5, L6, L7, L8, L9, L10, L11, L12, L13, L14, L15, L16, L17, L18, L19, L20, L27, L30, L31, L35, L36, L37, L38, L39, L40, L41, L46, L48, L51, L57, L59, L60, L82, L98, L99, L100, L102, L104, L107, L110, L119, L144, L240, L255, L256, L360, L999, L1000000, nI_val, n_lt_t, n_lt_f, n_le_t, n_le_f, n_eq_t, n_eq_f, k_le_f, m_lt_t, m_lt_f, m_le_t, m_le_f, m_eq_f, m_eq_f', nI_add, nI_mulE, nI_subE, if_true, if_false, ite_true, ite_false, or_false, false_or, or_true, true_or, or_self, and_true, true_and, and_false, false_and, not_true_eq_false, not_false_eq_true, Option.bind_some, Sum.elim_inl, Sum.elim_inr, xu_set, xset_same, xset_ne, xset_2, xset_set, upd_same, upd_ne, nbI_some, ne_eq, reduceCtorEq, reduceIte, Nat.reduceAdd, Nat.reduceMul, Nat.reduceSub, Nat.add_zero, Nat.zero_add, Nat.mul_zero, Nat.zero_mul]
      have e21 : s5.1 21 = s'.1 21 := by rw [hs5, ← kq 21 (by omega)]; simp (disch := omega) only [↓Lm1, L0, L1, L2, L3, L4, L5, L6, L7, L8, L9, L10, L11, L12, L13, L14, L15, L16, L17, L18, L19, L20, L27, L30, L31, L35, L36, L37, L38, L39, L40, L41, L46, L48, L51, L57, L59, L60, L82, L98, L99, L100, L102, L104, L107, L110, L119, L144, L240, L255, L256, L360, L999, L1000000, nI_val, n_lt_t, n_lt_f, n_le_t, n_le_f, n_eq_t, n_eq_f, k_le_f, m_lt_t, m_lt_f, m_le_t, m_le_f, m_eq_f, m_eq_f', nI_add, nI_mulE, nI_subE, if_true, if_false, ite_true, ite_false, or_false, false_or, or_true, true_or, or_self, and_true, true_and, and_false, false_and, not_true_eq_false, not_false_eq_true, Option.bind_some, Sum.elim_inl, Sum.elim_inr, xu_set, xset_same, xset_ne, xset_2, xset_set, upd_same, upd_ne, nbI_some, ne_eq, reduceCtorEq, reduceIte, Nat.reduceAdd, Nat.reduceMul, Nat.reduceSub, Nat.add_zero, Nat.zero_add, Nat.mul_zero, Nat.zero_mul]
      have k20 := kq 20 (by omega)
      have inner : ∀ l3 : Int32, xlp (F_X9_whences_L69 (nI k) (s4.1 4 k) l3 (nI i)) 100000 (nI 0, s5) = some (xset s5 21 (frw (10 * i) 10 (fun t => nbI (S i t)) (s'.1 21))) := by
        intro l3
        refine xlp_at (f := F_X9_whences_L69 (nI k) (s4.1 4 k) l3 (nI i)) (a := (nI 0, s5)) (fun t => (nI t, xset s5 21 (frw (10 * i) t (fun t => nbI (S i t)) (s'.1 21)))) (b := xset s5 21 (frw (10 * i) 10 (fun t => nbI (S i t)) (s'.1 21))) 10 (by omega) ?_ ?_ ?_
        · rw [frw_0, ← e21, xset_self]
        · intro t ht
          have st := frw_s (10 * i) t (fun t => nbI (S i t)) (s'.1 21)
          have en : s5.1 12 t = nbI (S i t) := by rw [e12]; exact n12 t ht
          unfold F_X9_whences_L69
          simp (disch := omega) only [↓Lm1, L0, L1, L2, L3, L4, L5, L6, L7, L8, L9, L10, L11, L12, L13, L14, L15, L16, L17, L18, L19, L20, L27, L30, L31, L35, L36, L37, L38, L39, L40, L41, L46, L48, L51, L57, L59, L60, L82, L98, L99, L100, L102, L104, L107, L110, L119, L144, L240, L255, L256, L360, L999, L1000000, nI_val, n_lt_t, n_lt_f, n_le_t, n_le_f, n_eq_t, n_eq_f, k_le_f, m_lt_t, m_lt_f, m_le_t, m_le_f, m_eq_f, m_eq_f', nI_add, nI_mulE, nI_subE, if_true, if_false, ite_true, ite_false, or_false, false_or, or_true, true_or, or_self, and_true, true_and, and_false, false_and, not_true_eq_false, not_false_eq_true, Option.bind_some, Sum.elim_inl, Sum.elim_inr, xu_set, xset_same, xset_ne, xset_2, xset_set, upd_same, upd_ne, nbI_some, ne_eq, reduceCtorEq, reduceIte, Nat.reduceAdd, Nat.reduceMul, Nat.reduceSub, Nat.add_zero, Nat.zero_add, Nat.mul_zero, Nat.zero_mul, en, st]
        · unfold F_X9_whences_L69
          simp (disch := omega) only [↓Lm1, L0, L1, L2, L3, L4, L5, L6, L7, L8, L9, L10, L11, L12, L13, L14, L15, L16, L17, L18, L19, L20, L27, L30, L31, L35, L36, L37, L38, L39, L40, L41, L46, L48, L51, L57, L59, L60, L82, L98, L99, L100, L102, L104, L107, L110, L119, L144, L240, L255, L256, L360, L999, L1000000, nI_val, n_lt_t, n_lt_f, n_le_t, n_le_f, n_eq_t, n_eq_f, k_le_f, m_lt_t, m_lt_f, m_le_t, m_le_f, m_eq_f, m_eq_f', nI_add, nI_mulE, nI_subE, if_true, if_false, ite_true, ite_false, or_false, false_or, or_true, true_or, or_self, and_true, true_and, and_false, false_and, not_true_eq_false, not_false_eq_true, Option.bind_some, Sum.elim_inl, Sum.elim_inr, xu_set, xset_same, xset_ne, xset_2, xset_set, upd_same, upd_ne, nbI_some, ne_eq, reduceCtorEq, reduceIte, Nat.reduceAdd, Nat.reduceMul, Nat.reduceSub, Nat.add_zero, Nat.zero_add, Nat.mul_zero, Nat.zero_mul]
      have uf : UK 4 k s4 (xset s5 21 (frw (10 * i) 10 (fun t => nbI (S i t)) (s'.1 21))) := by
        rw [hs5]
        exact (u''.kr ((KR.refl _ _ _).set _ (by decide) (by decide)) (by omega) (by decide)).kr ((KR.refl _ _ _).set _ (by decide) (by decide)) (by omega) (by decide)
      have mf : MPl P S (i + 1) (xset s5 21 (frw (10 * i) 10 (fun t => nbI (S i t)) (s'.1 21))) := by
        intro j hj
        by_cases ej : j = i
        · subst ej
          refine ⟨?_, fun h hh => ?_⟩
          · rw [hs5]
            simp (disch := omega) only [↓Lm1, L0, L1, L2, L3, L4, L5, L6, L7, L8, L9, L10, L11, L12, L13, L14, L15, L16, L17, L18, L19, L20, L27, L30, L31, L35, L36, L37, L38, L39, L40, L41, L46, L48, L51, L57, L59, L60, L82, L98, L99, L100, L102, L104, L107, L110, L119, L144, L240, L255, L256, L360, L999, L1000000, nI_val, n_lt_t, n_lt_f, n_le_t, n_le_f, n_eq_t, n_eq_f, k_le_f, m_lt_t, m_lt_f, m_le_t, m_le_f, m_eq_f, m_eq_f', nI_add, nI_mulE, nI_subE, if_true, if_false, ite_true, ite_false, or_false, false_or, or_true, true_or, or_self, and_true, true_and, and_false, false_and, not_true_eq_false, not_false_eq_true, Option.bind_some, Sum.elim_inl, Sum.elim_inr, xu_set, xset_same, xset_ne, xset_2, xset_set, upd_same, upd_ne, nbI_some, ne_eq, reduceCtorEq, reduceIte, Nat.reduceAdd, Nat.reduceMul, Nat.reduceSub, Nat.add_zero, Nat.zero_add, Nat.mul_zero, Nat.zero_mul]
          · rw [xset_same, frw_at (by omega)]
        · obtain ⟨z1, z2⟩ := h5 j (by omega)
          refine ⟨?_, fun h hh => ?_⟩
          · rw [hs5]
            simp (disch := omega) only [↓Lm1, L0, L1, L2, L3, L4, L5, L6, L7, L8, L9, L10, L11, L12, L13, L14, L15, L16, L17, L18, L19, L20, L27, L30, L31, L35, L36, L37, L38, L39, L40, L41, L46, L48, L51, L57, L59, L60, L82, L98, L99, L100, L102, L104, L107, L110, L119, L144, L240, L255, L256, L360, L999, L1000000, nI_val, n_lt_t, n_lt_f, n_le_t, n_le_f, n_eq_t, n_eq_f, k_le_f, m_lt_t, m_lt_f, m_le_t, m_le_f, m_eq_f, m_eq_f', nI_add, nI_mulE, nI_subE, if_true, if_false, ite_true, ite_false, or_false, false_or, or_true, true_or, or_self, and_true, true_and, and_false, false_and, not_true_eq_false, not_false_eq_true, Option.bind_some, Sum.elim_inl, Sum.elim_inr, xu_set, xset_same, xset_ne, xset_2, xset_set, upd_same, upd_ne, nbI_some, ne_eq, reduceCtorEq, reduceIte, Nat.reduceAdd, Nat.reduceMul, Nat.reduceSub, Nat.add_zero, Nat.zero_add, Nat.mul_zero, Nat.zero_mul, k20, z1]
          · rw [xset_same]
            unfold frw
            rw [if_neg (by omega)]
            exact z2 h hh
      left
      unfold F_X9_whences_L20
      cases c : P i with
      | true =>
        have ct := cnN_t c
        rw [c] at ea hs5
        have ea' : F_X9_isListened (xset s' 4 (upd (s'.1 4) k (nI i))) = some (nI 1, s'') := ea
        have hs5' : s5 = xset s'' 20 (upd (s''.1 20) i (nI 1)) := hs5
        refine ⟨(nI (cnN P (i + 1)), nI (i + 1), xset s5 21 (frw (10 * i) 10 (fun t => nbI (S i t)) (s'.1 21))), ?_, rfl, rfl, uf, mf⟩
        simp (disch := omega) only [↓Lm1, L0, L1, L2, L3, L4, L5, L6, L7, L8, L9, L10, L11, L12, L13, L14, L15, L16, L17, L18, L19, L20, L27, L30, L31, L35, L36, L37, L38, L39, L40, L41, L46, L48, L51, L57, L59, L60, L82, L98, L99, L100, L102, L104, L107, L110, L119, L144, L240, L255, L256, L360, L999, L1000000, nI_val, n_lt_t, n_lt_f, n_le_t, n_le_f, n_eq_t, n_eq_f, k_le_f, m_lt_t, m_lt_f, m_le_t, m_le_f, m_eq_f, m_eq_f', nI_add, nI_mulE, nI_subE, if_true, if_false, ite_true, ite_false, or_false, false_or, or_true, true_or, or_self, and_true, true_and, and_false, false_and, not_true_eq_false, not_false_eq_true, Option.bind_some, Sum.elim_inl, Sum.elim_inr, xu_set, xset_same, xset_ne, xset_2, xset_set, upd_same, upd_ne, nbI_some, ne_eq, reduceCtorEq, reduceIte, Nat.reduceAdd, Nat.reduceMul, Nat.reduceSub, Nat.add_zero, Nat.zero_add, Nat.mul_zero, Nat.zero_mul, h03, ea', nar1, ← hs5', inner, ct]
      | false =>
        have cf := cnN_f c
        rw [c] at ea hs5
        have ea' : F_X9_isListened (xset s' 4 (upd (s'.1 4) k (nI i))) = some (nI 0, s'') := ea
        have hs5' : s5 = xset s'' 20 (upd (s''.1 20) i (nI 0)) := hs5
        refine ⟨(nI (cnN P (i + 1)), nI (i + 1), xset s5 21 (frw (10 * i) 10 (fun t => nbI (S i t)) (s'.1 21))), ?_, rfl, rfl, uf, mf⟩
        simp (disch := omega) only [↓Lm1, L0, L1, L2, L3, L4, L5, L6, L7, L8, L9, L10, L11, L12, L13, L14, L15, L16, L17, L18, L19, L20, L27, L30, L31, L35, L36, L37, L38, L39, L40, L41, L46, L48, L51, L57, L59, L60, L82, L98, L99, L100, L102, L104, L107, L110, L119, L144, L240, L255, L256, L360, L999, L1000000, nI_val, n_lt_t, n_lt_f, n_le_t, n_le_f, n_eq_t, n_eq_f, k_le_f, m_lt_t, m_lt_f, m_le_t, m_le_f, m_eq_f, m_eq_f', nI_add, nI_mulE, nI_subE, if_true, if_false, ite_true, ite_false, or_false, false_or, or_true, true_or, or_self, and_true, true_and, and_false, false_and, not_true_eq_false, not_false_eq_true, Option.bind_some, Sum.elim_inl, Sum.elim_inr, xu_set, xset_same, xset_ne, xset_2, xset_set, upd_same, upd_ne, nbI_some, ne_eq, reduceCtorEq, reduceIte, Nat.reduceAdd, Nat.reduceMul, Nat.reduceSub, Nat.add_zero, Nat.zero_add, Nat.mul_zero, Nat.zero_mul, h03, ea', nar0, ← hs5', inner, cf]
    · intro a ⟨h1, h2, h4, h5⟩
      obtain ⟨a1, a2, s'⟩ := a
      dsimp only at h1 h2 h4 h5
      subst h1; subst h2
      have h03 : s'.1 0 3 = nI (twn u0 n0).1 := by rw [h4.1.2 3 (by decide)]; exact lt.1.2.2.1.2.1
      refine ⟨(nI (cnN P (twn u0 n0).1), s'), ?_, rfl, h4, h5⟩
      unfold F_X9_whences_L20
      simp (disch := omega) only [↓Lm1, L0, L1, L2, L3, L4, L5, L6, L7, L8, L9, L10, L11, L12, L13, L14, L15, L16, L17, L18, L19, L20, L27, L30, L31, L35, L36, L37, L38, L39, L40, L41, L46, L48, L51, L57, L59, L60, L82, L98, L99, L100, L102, L104, L107, L110, L119, L144, L240, L255, L256, L360, L999, L1000000, nI_val, n_lt_t, n_lt_f, n_le_t, n_le_f, n_eq_t, n_eq_f, k_le_f, m_lt_t, m_lt_f, m_le_t, m_le_f, m_eq_f, m_eq_f', nI_add, nI_mulE, nI_subE, if_true, if_false, ite_true, ite_false, or_false, false_or, or_true, true_or, or_self, and_true, true_and, and_false, false_and, not_true_eq_false, not_false_eq_true, Option.bind_some, Sum.elim_inl, Sum.elim_inr, xu_set, xset_same, xset_ne, xset_2, xset_set, upd_same, upd_ne, nbI_some, ne_eq, reduceCtorEq, reduceIte, Nat.reduceAdd, Nat.reduceMul, Nat.reduceSub, Nat.add_zero, Nat.zero_add, Nat.mul_zero, Nat.zero_mul, h03]
  obtain ⟨b, eb, hb1, hb3, hb4⟩ := key
  have fk := hb3.fin (by omega)
  refine ⟨xset b.2 4 (upd (b.2.1 4) k (s4.1 4 k)), ?_, lt.1.keep (fk.wide (by decide) (by decide)), ?_⟩
  · unfold F_X9_whences
    simp (disch := omega) only [↓Lm1, L0, L1, L2, L3, L4, L5, L6, L7, L8, L9, L10, L11, L12, L13, L14, L15, L16, L17, L18, L19, L20, L27, L30, L31, L35, L36, L37, L38, L39, L40, L41, L46, L48, L51, L57, L59, L60, L82, L98, L99, L100, L102, L104, L107, L110, L119, L144, L240, L255, L256, L360, L999, L1000000, nI_val, n_lt_t, n_lt_f, n_le_t, n_le_f, n_eq_t, n_eq_f, k_le_f, m_lt_t, m_lt_f, m_le_t, m_le_f, m_eq_f, m_eq_f', nI_add, nI_mulE, nI_subE, if_true, if_false, ite_true, ite_false, or_false, false_or, or_true, true_or, or_self, and_true, true_and, and_false, false_and, not_true_eq_false, not_false_eq_true, Option.bind_some, Sum.elim_inl, Sum.elim_inr, xu_set, xset_same, xset_ne, xset_2, xset_set, upd_same, upd_ne, nbI_some, ne_eq, reduceCtorEq, reduceIte, Nat.reduceAdd, Nat.reduceMul, Nat.reduceSub, Nat.add_zero, Nat.zero_add, Nat.mul_zero, Nat.zero_mul, e2, e4, eb, hb1]
  · intro j hj
    rw [xset_ne _ _ (show 20 ≠ 4 by omega), xset_ne _ _ (show 21 ≠ 4 by omega)]
    exact hb4 j hj
/-- the answers of whence -/
noncomputable def wnv (u0 : Nat → Nat) (n0 : Nat) (u1 : Nat → Nat) (n1 : Nat) (l : LD) (e : ED) (k : Nat) (i : Option Nat) : Int32 := match i with
  | none => nI (cnN (wnB u0 n0 u1 n1 l e k) (twn u0 n0).1)
  | some i => nbI (wnth (wnB u0 n0 u1 n1 l e k) (twn u0 n0).1 i)
theorem q_whence {k : Nat} {i : Option Nat} (hI : IF u0 n0 u1 n1 l e s) (hk : k < (ddat u1 n1).1) (hi : ∀ x, i = some x → x < 36) : ∃ s', F_X8_whence (nI k) (nbI i) s = some (wnv u0 n0 u1 n1 l e k i, s') ∧ Kp 27 40 s s' := by
  have h8 := (dd_ok (u := u1) hI.1.1.2.1).1
  have hD := hI.1.2.2.1.1
  have hN := (twn_ok u0 n0).1.1
  obtain ⟨s', e', k', f'⟩ := findF hI hk
  refine ⟨s', ?_, k'⟩
  unfold F_X8_whence
  have hle := cnN_le (wnB u0 n0 u1 n1 l e k) (twn u0 n0).1
  cases i with
  | none =>
    have q0 : (nbI none < nbI none) = False := eq_false (by decide)
    have q1 : (nbI none < nI 36) = True := eq_true (by decide)
    simp (disch := omega) only [↓Lm1, L0, L1, L2, L3, L4, L5, L6, L7, L8, L9, L10, L11, L12, L13, L14, L15, L16, L17, L18, L19, L20, L27, L30, L31, L35, L36, L37, L38, L39, L40, L41, L46, L48, L51, L57, L59, L60, L82, L98, L99, L100, L102, L104, L107, L110, L119, L144, L240, L255, L256, L360, L999, L1000000, nI_val, n_lt_t, n_lt_f, n_le_t, n_le_f, n_eq_t, n_eq_f, k_le_f, m_lt_t, m_lt_f, m_le_t, m_le_f, m_eq_f, m_eq_f', nI_add, nI_mulE, nI_subE, if_true, if_false, ite_true, ite_false, or_false, false_or, or_true, true_or, or_self, and_true, true_and, and_false, false_and, not_true_eq_false, not_false_eq_true, Option.bind_some, Sum.elim_inl, Sum.elim_inr, xu_set, xset_same, xset_ne, xset_2, xset_set, upd_same, upd_ne, nbI_some, ne_eq, reduceCtorEq, reduceIte, Nat.reduceAdd, Nat.reduceMul, Nat.reduceSub, Nat.add_zero, Nat.zero_add, Nat.mul_zero, Nat.zero_mul, noDeedF_t hD.1 h8 hk, q0, q1, e']
    rfl
  | some i =>
    have := hi i rfl
    rw [nbI_some]
    by_cases c : i < cnN (wnB u0 n0 u1 n1 l e k) (twn u0 n0).1
    · obtain ⟨j, j1, j2, j3⟩ := cnN_ex c
      have hv : wnv u0 n0 u1 n1 l e k (some i) = nI j := by
        show nbI (wnth (wnB u0 n0 u1 n1 l e k) (twn u0 n0).1 i) = nI j
        rw [wnth_of j1 j2 j3]
        rfl
      have e39 := (f' j j1 j2).1
      rw [j3] at e39
      rw [hv]
      simp (disch := omega) only [↓Lm1, L0, L1, L2, L3, L4, L5, L6, L7, L8, L9, L10, L11, L12, L13, L14, L15, L16, L17, L18, L19, L20, L27, L30, L31, L35, L36, L37, L38, L39, L40, L41, L46, L48, L51, L57, L59, L60, L82, L98, L99, L100, L102, L104, L107, L110, L119, L144, L240, L255, L256, L360, L999, L1000000, nI_val, n_lt_t, n_lt_f, n_le_t, n_le_f, n_eq_t, n_eq_f, k_le_f, m_lt_t, m_lt_f, m_le_t, m_le_f, m_eq_f, m_eq_f', nI_add, nI_mulE, nI_subE, if_true, if_false, ite_true, ite_false, or_false, false_or, or_true, true_or, or_self, and_true, true_and, and_false, false_and, not_true_eq_false, not_false_eq_true, Option.bind_some, Sum.elim_inl, Sum.elim_inr, xu_set, xset_same, xset_ne, xset_2, xset_set, upd_same, upd_ne, nbI_some, ne_eq, reduceCtorEq, reduceIte, Nat.reduceAdd, Nat.reduceMul, Nat.reduceSub, Nat.add_zero, Nat.zero_add, Nat.mul_zero, Nat.zero_mul, noDeedF_t hD.1 h8 hk, e', e39]
    · have hv : wnv u0 n0 u1 n1 l e k (some i) = nbI none := by
        show nbI (wnth (wnB u0 n0 u1 n1 l e k) (twn u0 n0).1 i) = nbI none
        rw [wnth_none (by omega)]
      rw [hv]
      simp (disch := omega) only [↓Lm1, L0, L1, L2, L3, L4, L5, L6, L7, L8, L9, L10, L11, L12, L13, L14, L15, L16, L17, L18, L19, L20, L27, L30, L31, L35, L36, L37, L38, L39, L40, L41, L46, L48, L51, L57, L59, L60, L82, L98, L99, L100, L102, L104, L107, L110, L119, L144, L240, L255, L256, L360, L999, L1000000, nI_val, n_lt_t, n_lt_f, n_le_t, n_le_f, n_eq_t, n_eq_f, k_le_f, m_lt_t, m_lt_f, m_le_t, m_le_f, m_eq_f, m_eq_f', nI_add, nI_mulE, nI_subE, if_true, if_false, ite_true, ite_false, or_false, false_or, or_true, true_or, or_self, and_true, true_and, and_false, false_and, not_true_eq_false, not_false_eq_true, Option.bind_some, Sum.elim_inl, Sum.elim_inr, xu_set, xset_same, xset_ne, xset_2, xset_set, upd_same, upd_ne, nbI_some, ne_eq, reduceCtorEq, reduceIte, Nat.reduceAdd, Nat.reduceMul, Nat.reduceSub, Nat.add_zero, Nat.zero_add, Nat.mul_zero, Nat.zero_mul, noDeedF_t hD.1 h8 hk, e']
theorem m_whence {k : Nat} {i : Option Nat} (h : IM u0 n0 u1 n1 l e s) (he : EaOk e) (hk : k < (ddat u1 n1).1) (hi : ∀ x, i = some x → x < 36) : ∃ s', F_X9_whenceOf (nI k) (nbI i) s = some (wnv u0 n0 u1 n1 l e k i, s') ∧ RT u0 n0 u1 n1 l s s' := by
  have hN := (twn_ok u0 n0).1.1
  obtain ⟨s', e', rt, mp⟩ := whencesM h he hk
  refine ⟨s', ?_, rt⟩
  have h03 := rt.2.2.1.2.1
  unfold F_X9_whenceOf
  cases i with
  | none =>
    simp (disch := omega) only [↓Lm1, L0, L1, L2, L3, L4, L5, L6, L7, L8, L9, L10, L11, L12, L13, L14, L15, L16, L17, L18, L19, L20, L27, L30, L31, L35, L36, L37, L38, L39, L40, L41, L46, L48, L51, L57, L59, L60, L82, L98, L99, L100, L102, L104, L107, L110, L119, L144, L240, L255, L256, L360, L999, L1000000, nI_val, n_lt_t, n_lt_f, n_le_t, n_le_f, n_eq_t, n_eq_f, k_le_f, m_lt_t, m_lt_f, m_le_t, m_le_f, m_eq_f, m_eq_f', nI_add, nI_mulE, nI_subE, if_true, if_false, ite_true, ite_false, or_false, false_or, or_true, true_or, or_self, and_true, true_and, and_false, false_and, not_true_eq_false, not_false_eq_true, Option.bind_some, Sum.elim_inl, Sum.elim_inr, xu_set, xset_same, xset_ne, xset_2, xset_set, upd_same, upd_ne, nbI_some, ne_eq, reduceCtorEq, reduceIte, Nat.reduceAdd, Nat.reduceMul, Nat.reduceSub, Nat.add_zero, Nat.zero_add, Nat.mul_zero, Nat.zero_mul, e']
    rfl
  | some i =>
    have := hi i rfl
    rw [nbI_some]
    obtain ⟨P, hP⟩ : ∃ P : Nat → Bool, P = wnB u0 n0 u1 n1 l e k := ⟨_, rfl⟩
    have hv : wnv u0 n0 u1 n1 l e k (some i) = nbI (wnth P (twn u0 n0).1 i) := by rw [hP]; rfl
    rw [hv, e']
    rw [← hP] at mp
    refine Exists.elim (xlp_cnt (f := F_X9_whenceOf_L19 s') (fun c a => a.1 = nI (i - cnN P c) ∧ a.2 = nI c ∧ cnN P c ≤ i) (fun b => (∃ c, b = Sum.inl (nI c) ∧ wnth P (twn u0 n0).1 i = some c) ∨ (b = Sum.inr () ∧ wnth P (twn u0 n0).1 i = none)) (twn u0 n0).1 (by omega) ?_ ?_ (a := (nI i, nI 0)) ⟨rfl, rfl, Nat.zero_le _⟩) ?_
    · intro c a hc ⟨h1, h2, h4⟩
      obtain ⟨a1, a2⟩ := a
      dsimp only at h1 h2 h4
      subst h1; subst h2
      have e20 := (mp c hc).1
      unfold F_X9_whenceOf_L19
      cases q : P c with
      | true =>
        rw [q] at e20
        have e20' : s'.1 20 c = nI 1 := e20
        by_cases z : cnN P c = i
        · right
          have z0 : i - cnN P c = 0 := by omega
          refine ⟨Sum.inl (nI c), ?_, Or.inl ⟨c, rfl, wnth_of hc q z⟩⟩
          simp (disch := omega) only [↓Lm1, L0, L1, L2, L3, L4, L5, L6, L7, L8, L9, L10, L11, L12, L13, L14, L15, L16, L17, L18, L19, L20, L27, L30, L31, L35, L36, L37, L38, L39, L40, L41, L46, L48, L51, L57, L59, L60, L82, L98, L99, L100, L102, L104, L107, L110, L119, L144, L240, L255, L256, L360, L999, L1000000, nI_val, n_lt_t, n_lt_f, n_le_t, n_le_f, n_eq_t, n_eq_f, k_le_f, m_lt_t, m_lt_f, m_le_t, m_le_f, m_eq_f, m_eq_f', nI_add, nI_mulE, nI_subE, if_true, if_false, ite_true, ite_false, or_false, false_or, or_true, true_or, or_self, and_true, true_and, and_false, false_and, not_true_eq_false, not_false_eq_true, Option.bind_some, Sum.elim_inl, Sum.elim_inr, xu_set, xset_same, xset_ne, xset_2, xset_set, upd_same, upd_ne, nbI_some, ne_eq, reduceCtorEq, reduceIte, Nat.reduceAdd, Nat.reduceMul, Nat.reduceSub, Nat.add_zero, Nat.zero_add, Nat.mul_zero, Nat.zero_mul, h03, e20', z0]
        · left
          have ct := cnN_t q
          refine ⟨(nI (i - cnN P (c + 1)), nI (c + 1)), ?_, rfl, rfl, by omega⟩
          have z1 : i - cnN P c - 1 = i - (cnN P c + 1) := by omega
          simp (disch := omega) only [↓Lm1, L0, L1, L2, L3, L4, L5, L6, L7, L8, L9, L10, L11, L12, L13, L14, L15, L16, L17, L18, L19, L20, L27, L30, L31, L35, L36, L37, L38, L39, L40, L41, L46, L48, L51, L57, L59, L60, L82, L98, L99, L100, L102, L104, L107, L110, L119, L144, L240, L255, L256, L360, L999, L1000000, nI_val, n_lt_t, n_lt_f, n_le_t, n_le_f, n_eq_t, n_eq_f, k_le_f, m_lt_t, m_lt_f, m_le_t, m_le_f, m_eq_f, m_eq_f', nI_add, nI_mulE, nI_subE, if_true, if_false, ite_true, ite_false, or_false, false_or, or_true, true_or, or_self, and_true, true_and, and_false, false_and, not_true_eq_false, not_false_eq_true, Option.bind_some, Sum.elim_inl, Sum.elim_inr, xu_set, xset_same, xset_ne, xset_2, xset_set, upd_same, upd_ne, nbI_some, ne_eq, reduceCtorEq, reduceIte, Nat.reduceAdd, Nat.reduceMul, Nat.reduceSub, Nat.add_zero, Nat.zero_add, Nat.mul_zero, Nat.zero_mul, h03, e20', ct, z1]
      | false =>
        rw [q] at e20
        have e20' : s'.1 20 c = nI 0 := e20
        left
        have cf := cnN_f q
        refine ⟨(nI (i - cnN P (c + 1)), nI (c + 1)), ?_, rfl, rfl, by omega⟩
        simp (disch := omega) only [↓Lm1, L0, L1, L2, L3, L4, L5, L6, L7, L8, L9, L10, L11, L12, L13, L14, L15, L16, L17, L18, L19, L20, L27, L30, L31, L35, L36, L37, L38, L39, L40, L41, L46, L48, L51, L57, L59, L60, L82, L98, L99, L100, L102, L104, L107, L110, L119, L144, L240, L255, L256, L360, L999, L1000000, nI_val, n_lt_t, n_lt_f, n_le_t, n_le_f, n_eq_t, n_eq_f, k_le_f, m_lt_t, m_lt_f, m_le_t, m_le_f, m_eq_f, m_eq_f', nI_add, nI_mulE, nI_subE, if_true, if_false, ite_true, ite_false, or_false, false_or, or_true, true_or, or_self, and_true, true_and, and_false, false_and, not_true_eq_false, not_false_eq_true, Option.bind_some, Sum.elim_inl, Sum.elim_inr, xu_set, xset_same, xset_ne, xset_2, xset_set, upd_same, upd_ne, nbI_some, ne_eq, reduceCtorEq, reduceIte, Nat.reduceAdd, Nat.reduceMul, Nat.reduceSub, Nat.add_zero, Nat.zero_add, Nat.mul_zero, Nat.zero_mul, h03, e20', cf, Nat.sub_zero]
    · intro a ⟨h1, h2, h4⟩
      obtain ⟨a1, a2⟩ := a
      dsimp only at h1 h2 h4
      subst h1; subst h2
      refine ⟨Sum.inr (), ?_, Or.inr ⟨rfl, wnth_none h4⟩⟩
      unfold F_X9_whenceOf_L19
      simp (disch := omega) only [↓Lm1, L0, L1, L2, L3, L4, L5, L6, L7, L8, L9, L10, L11, L12, L13, L14, L15, L16, L17, L18, L19, L20, L27, L30, L31, L35, L36, L37, L38, L39, L40, L41, L46, L48, L51, L57, L59, L60, L82, L98, L99, L100, L102, L104, L107, L110, L119, L144, L240, L255, L256, L360, L999, L1000000, nI_val, n_lt_t, n_lt_f, n_le_t, n_le_f, n_eq_t, n_eq_f, k_le_f, m_lt_t, m_lt_f, m_le_t, m_le_f, m_eq_f, m_eq_f', nI_add, nI_mulE, nI_subE, if_true, if_false, ite_true, ite_false, or_false, false_or, or_true, true_or, or_self, and_true, true_and, and_false, false_and, not_true_eq_false, not_false_eq_true, Option.bind_some, Sum.elim_inl, Sum.elim_inr, xu_set, xset_same, xset_ne, xset_2, xset_set, upd_same, upd_ne, nbI_some, ne_eq, reduceCtorEq, reduceIte, Nat.reduceAdd, Nat.reduceMul, Nat.reduceSub, Nat.add_zero, Nat.zero_add, Nat.mul_zero, Nat.zero_mul, h03]
    · rintro b ⟨hx, q⟩
      rcases q with ⟨c, rfl, q⟩ | ⟨rfl, q⟩
      · rw [q]
        simp (disch := omega) only [↓Lm1, L0, L1, L2, L3, L4, L5, L6, L7, L8, L9, L10, L11, L12, L13, L14, L15, L16, L17, L18, L19, L20, L27, L30, L31, L35, L36, L37, L38, L39, L40, L41, L46, L48, L51, L57, L59, L60, L82, L98, L99, L100, L102, L104, L107, L110, L119, L144, L240, L255, L256, L360, L999, L1000000, nI_val, n_lt_t, n_lt_f, n_le_t, n_le_f, n_eq_t, n_eq_f, k_le_f, m_lt_t, m_lt_f, m_le_t, m_le_f, m_eq_f, m_eq_f', nI_add, nI_mulE, nI_subE, if_true, if_false, ite_true, ite_false, or_false, false_or, or_true, true_or, or_self, and_true, true_and, and_false, false_and, not_true_eq_false, not_false_eq_true, Option.bind_some, Sum.elim_inl, Sum.elim_inr, xu_set, xset_same, xset_ne, xset_2, xset_set, upd_same, upd_ne, nbI_some, ne_eq, reduceCtorEq, reduceIte, Nat.reduceAdd, Nat.reduceMul, Nat.reduceSub, Nat.add_zero, Nat.zero_add, Nat.mul_zero, Nat.zero_mul, hx]
      · rw [q]
        simp (disch := omega) only [↓Lm1, L0, L1, L2, L3, L4, L5, L6, L7, L8, L9, L10, L11, L12, L13, L14, L15, L16, L17, L18, L19, L20, L27, L30, L31, L35, L36, L37, L38, L39, L40, L41, L46, L48, L51, L57, L59, L60, L82, L98, L99, L100, L102, L104, L107, L110, L119, L144, L240, L255, L256, L360, L999, L1000000, nI_val, n_lt_t, n_lt_f, n_le_t, n_le_f, n_eq_t, n_eq_f, k_le_f, m_lt_t, m_lt_f, m_le_t, m_le_f, m_eq_f, m_eq_f', nI_add, nI_mulE, nI_subE, if_true, if_false, ite_true, ite_false, or_false, false_or, or_true, true_or, or_self, and_true, true_and, and_false, false_and, not_true_eq_false, not_false_eq_true, Option.bind_some, Sum.elim_inl, Sum.elim_inr, xu_set, xset_same, xset_ne, xset_2, xset_set, upd_same, upd_ne, nbI_some, ne_eq, reduceCtorEq, reduceIte, Nat.reduceAdd, Nat.reduceMul, Nat.reduceSub, Nat.add_zero, Nat.zero_add, Nat.mul_zero, Nat.zero_mul, hx]
theorem c_whence : lh_whence Inv := by
  intro x y s1 s2 hI
  obtain ⟨u0, n0, u1, n1, l, e, hA⟩ := hI
  have h8 := (dd_ok (u := u1) hA.1.1.2.1).1
  have hD := hA.1.2.2.1.1
  rcases arg_cases x (ddat u1 n1).1 with ⟨k, hk, rfl⟩ | hno
  · obtain ⟨s', e', rt⟩ := isDeedM_t hA.iM.1 hk
    have good : ∀ i : Option Nat, (∀ x, i = some x → x < 36) → F_X9_in (nbI i) (nbI none) (nI 35) s' = some (nI 1) → ∃ (r : Int32) (t1 t2 : xS), F_X8_whence (nI k) (nbI i) s1 = some (r, t1) ∧ F_X9_whence (nI k) (nbI i) s2 = some (r, t2) ∧ Inv t1 t2 := by
      intro i hi hin
      obtain ⟨s'', e'', rt'⟩ := m_whence (rt.im hA.iM) hA.iF.2.2.2.ok hk hi
      obtain ⟨t, et, kt⟩ := q_whence hA.iF hk hi
      refine ⟨_, t, s'', et, ?_, hA.mk2 (hA.iF.keep kt) kt.kf (rt.tr rt').1⟩
      unfold F_X9_whence
      simp (disch := omega) only [↓Lm1, L0, L1, L2, L3, L4, L5, L6, L7, L8, L9, L10, L11, L12, L13, L14, L15, L16, L17, L18, L19, L20, L27, L30, L31, L35, L36, L37, L38, L39, L40, L41, L46, L48, L51, L57, L59, L60, L82, L98, L99, L100, L102, L104, L107, L110, L119, L144, L240, L255, L256, L360, L999, L1000000, nI_val, n_lt_t, n_lt_f, n_le_t, n_le_f, n_eq_t, n_eq_f, k_le_f, m_lt_t, m_lt_f, m_le_t, m_le_f, m_eq_f, m_eq_f', nI_add, nI_mulE, nI_subE, if_true, if_false, ite_true, ite_false, or_false, false_or, or_true, true_or, or_self, and_true, true_and, and_false, false_and, not_true_eq_false, not_false_eq_true, Option.bind_some, Sum.elim_inl, Sum.elim_inr, xu_set, xset_same, xset_ne, xset_2, xset_set, upd_same, upd_ne, nbI_some, ne_eq, reduceCtorEq, reduceIte, Nat.reduceAdd, Nat.reduceMul, Nat.reduceSub, Nat.add_zero, Nat.zero_add, Nat.mul_zero, Nat.zero_mul, e', hin, e'']
    by_cases y1 : y = nbI none
    · subst y1
      exact good none (fun x q => by cases q) (in_yes (by decide) (by decide))
    · rcases arg_cases y 36 with ⟨i, hi, rfl⟩ | hno
      · refine good (some i) (fun x q => by cases q; exact hi) ?_
        refine in_yes ?_ ?_
        · rw [nbI_some, m_lt_f (by omega)]; exact id
        · rw [nbI_some]; exact nI_nlt (by omega) (by omega)
      · refine ⟨-2, s1, s', ?_, ?_, hA.mk2 hA.iF (KF.refl _) rt.1⟩
        · unfold F_X8_whence
          by_cases c : y < nbI none
          · have c' := eq_true c
            simp (disch := omega) only [↓Lm1, L0, L1, L2, L3, L4, L5, L6, L7, L8, L9, L10, L11, L12, L13, L14, L15, L16, L17, L18, L19, L20, L27, L30, L31, L35, L36, L37, L38, L39, L40, L41, L46, L48, L51, L57, L59, L60, L82, L98, L99, L100, L102, L104, L107, L110, L119, L144, L240, L255, L256, L360, L999, L1000000, nI_val, n_lt_t, n_lt_f, n_le_t, n_le_f, n_eq_t, n_eq_f, k_le_f, m_lt_t, m_lt_f, m_le_t, m_le_f, m_eq_f, m_eq_f', nI_add, nI_mulE, nI_subE, if_true, if_false, ite_true, ite_false, or_false, false_or, or_true, true_or, or_self, and_true, true_and, and_false, false_and, not_true_eq_false, not_false_eq_true, Option.bind_some, Sum.elim_inl, Sum.elim_inr, xu_set, xset_same, xset_ne, xset_2, xset_set, upd_same, upd_ne, nbI_some, ne_eq, reduceCtorEq, reduceIte, Nat.reduceAdd, Nat.reduceMul, Nat.reduceSub, Nat.add_zero, Nat.zero_add, Nat.mul_zero, Nat.zero_mul, noDeedF_t hD.1 h8 hk, c']
          · have c' := eq_false c
            have c2 := arg_m_out (by omega) y1 hno c
            have c3 : (y < nI 36) = False := eq_false (by rw [i_lt]; rw [i_le] at c2; omega)
            simp (disch := omega) only [↓Lm1, L0, L1, L2, L3, L4, L5, L6, L7, L8, L9, L10, L11, L12, L13, L14, L15, L16, L17, L18, L19, L20, L27, L30, L31, L35, L36, L37, L38, L39, L40, L41, L46, L48, L51, L57, L59, L60, L82, L98, L99, L100, L102, L104, L107, L110, L119, L144, L240, L255, L256, L360, L999, L1000000, nI_val, n_lt_t, n_lt_f, n_le_t, n_le_f, n_eq_t, n_eq_f, k_le_f, m_lt_t, m_lt_f, m_le_t, m_le_f, m_eq_f, m_eq_f', nI_add, nI_mulE, nI_subE, if_true, if_false, ite_true, ite_false, or_false, false_or, or_true, true_or, or_self, and_true, true_and, and_false, false_and, not_true_eq_false, not_false_eq_true, Option.bind_some, Sum.elim_inl, Sum.elim_inr, xu_set, xset_same, xset_ne, xset_2, xset_set, upd_same, upd_ne, nbI_some, ne_eq, reduceCtorEq, reduceIte, Nat.reduceAdd, Nat.reduceMul, Nat.reduceSub, Nat.add_zero, Nat.zero_add, Nat.mul_zero, Nat.zero_mul, noDeedF_t hD.1 h8 hk, c', c3]
        · have hin : F_X9_in y (nbI none) (nI 35) s' = some (nI 0) := by
            by_cases c : y < nbI none
            · exact in_lo c
            · refine in_hi c ?_
              have c2 := arg_m_out (by omega) y1 hno c
              rw [i_lt, nI_toInt (by omega)]
              rw [i_le, nI_toInt (by omega)] at c2
              omega
          unfold F_X9_whence
          simp (disch := omega) only [↓Lm1, L0, L1, L2, L3, L4, L5, L6, L7, L8, L9, L10, L11, L12, L13, L14, L15, L16, L17, L18, L19, L20, L27, L30, L31, L35, L36, L37, L38, L39, L40, L41, L46, L48, L51, L57, L59, L60, L82, L98, L99, L100, L102, L104, L107, L110, L119, L144, L240, L255, L256, L360, L999, L1000000, nI_val, n_lt_t, n_lt_f, n_le_t, n_le_f, n_eq_t, n_eq_f, k_le_f, m_lt_t, m_lt_f, m_le_t, m_le_f, m_eq_f, m_eq_f', nI_add, nI_mulE, nI_subE, if_true, if_false, ite_true, ite_false, or_false, false_or, or_true, true_or, or_self, and_true, true_and, and_false, false_and, not_true_eq_false, not_false_eq_true, Option.bind_some, Sum.elim_inl, Sum.elim_inr, xu_set, xset_same, xset_ne, xset_2, xset_set, upd_same, upd_ne, nbI_some, ne_eq, reduceCtorEq, reduceIte, Nat.reduceAdd, Nat.reduceMul, Nat.reduceSub, Nat.add_zero, Nat.zero_add, Nat.mul_zero, Nat.zero_mul, e', hin]
  · obtain ⟨s', e', rt⟩ := isDeedM_f hA.iM.1 hno
    refine ⟨-2, s1, s', ?_, ?_, hA.mk2 hA.iF (KF.refl _) rt.1⟩
    · unfold F_X8_whence
      simp (disch := omega) only [↓Lm1, L0, L1, L2, L3, L4, L5, L6, L7, L8, L9, L10, L11, L12, L13, L14, L15, L16, L17, L18, L19, L20, L27, L30, L31, L35, L36, L37, L38, L39, L40, L41, L46, L48, L51, L57, L59, L60, L82, L98, L99, L100, L102, L104, L107, L110, L119, L144, L240, L255, L256, L360, L999, L1000000, nI_val, n_lt_t, n_lt_f, n_le_t, n_le_f, n_eq_t, n_eq_f, k_le_f, m_lt_t, m_lt_f, m_le_t, m_le_f, m_eq_f, m_eq_f', nI_add, nI_mulE, nI_subE, if_true, if_false, ite_true, ite_false, or_false, false_or, or_true, true_or, or_self, and_true, true_and, and_false, false_and, not_true_eq_false, not_false_eq_true, Option.bind_some, Sum.elim_inl, Sum.elim_inr, xu_set, xset_same, xset_ne, xset_2, xset_set, upd_same, upd_ne, nbI_some, ne_eq, reduceCtorEq, reduceIte, Nat.reduceAdd, Nat.reduceMul, Nat.reduceSub, Nat.add_zero, Nat.zero_add, Nat.mul_zero, Nat.zero_mul, noDeedF_f hD.1 h8 hno]
    · unfold F_X9_whence
      simp (disch := omega) only [↓Lm1, L0, L1, L2, L3, L4, L5, L6, L7, L8, L9, L10, L11, L12, L13, L14, L15, L16, L17, L18, L19, L20, L27, L30, L31, L35, L36, L37, L38, L39, L40, L41, L46, L48, L51, L57, L59, L60, L82, L98, L99, L100, L102, L104, L107, L110, L119, L144, L240, L255, L256, L360, L999, L1000000, nI_val, n_lt_t, n_lt_f, n_le_t, n_le_f, n_eq_t, n_eq_f, k_le_f, m_lt_t, m_lt_f, m_le_t, m_le_f, m_eq_f, m_eq_f', nI_add, nI_mulE, nI_subE, if_true, if_false, ite_true, ite_false, or_false, false_or, or_true, true_or, or_self, and_true, true_and, and_false, false_and, not_true_eq_false, not_false_eq_true, Option.bind_some, Sum.elim_inl, Sum.elim_inr, xu_set, xset_same, xset_ne, xset_2, xset_set, upd_same, upd_ne, nbI_some, ne_eq, reduceCtorEq, reduceIte, Nat.reduceAdd, Nat.reduceMul, Nat.reduceSub, Nat.add_zero, Nat.zero_add, Nat.mul_zero, Nat.zero_mul, e']
end SPEC
