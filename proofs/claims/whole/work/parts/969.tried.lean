/-! ===== deeds that are tried; what was listened ===== -/
/-- a deed's place (4), what (5) or hour (6) is another -/
def dup (d : DD) (p k v : Nat) : DD := (d.1, (fun j => if p = 4 ∧ j = k then v else d.2.1 j), (fun j => if p = 5 ∧ j = k then v else d.2.2.1 j), fun j => if p = 6 ∧ j = k then v else d.2.2.2 j)
theorem dup_ok {d : DD} {p k v : Nat} (hd : DdOk d) (h4 : p = 4 → v < 40) (h5 : p = 5 → v ≤ 3) (h6 : p = 6 → v ≤ 9) : DdOk (dup d p k v) := by
  refine ⟨hd.1, fun i hi => ?_⟩
  obtain ⟨a, b, c⟩ := hd.2 i hi
  show (if p = 4 ∧ i = k then v else d.2.1 i) < 40 ∧ (if p = 5 ∧ i = k then v else d.2.2.1 i) ≤ 3 ∧ (if p = 6 ∧ i = k then v else d.2.2.2 i) ≤ 9
  refine ⟨?_, ?_, ?_⟩
  · split
    · rename_i q; exact h4 q.1
    · exact a
  · split
    · rename_i q; exact h5 q.1
    · exact b
  · split
    · rename_i q; exact h6 q.1
    · exact c
def UL : List Nat := [10, 11, 12, 13, 14, 20, 21]
def UK (p k : Nat) (s a : xS) : Prop := KR (p :: UL) [20] s a ∧ ∀ j, j ≠ k → a.1 p j = s.1 p j
theorem UK.refl (p k : Nat) (s : xS) : UK p k s s := ⟨KR.refl _ _ _, fun _ _ => rfl⟩
theorem UK.set {p k : Nat} {s a : xS} (h : UK p k s a) (v : Int32) (h0 : p ≠ 0) : UK p k s (xset a p (upd (a.1 p) k v)) := ⟨h.1.set _ h0 List.mem_cons_self, fun j hj => by rw [xset_same, upd_ne _ _ hj]; exact h.2 j hj⟩
theorem UK.kr {p k : Nat} {s a a' : xS} (h : UK p k s a) (hk : KR UL [20] a a') (h0 : p ≠ 0) (hp : p ∉ UL) : UK p k s a' := ⟨h.1.trans (hk.wide (fun x hx => List.mem_cons_of_mem _ hx) (fun x hx => hx)), fun j hj => by rw [hk.1 p h0 hp]; exact h.2 j hj⟩
theorem UK.fin {p k : Nat} {s a : xS} (h : UK p k s a) (h0 : p ≠ 0) : KR UL [20] s (xset a p (upd (a.1 p) k (s.1 p k))) := by
  refine ⟨fun q hq hL => ?_, fun j hj => ?_⟩
  · by_cases c : q = p
    · subst c
      rw [xset_same]
      funext j
      by_cases e : j = k
      · rw [e, upd_same]
      · rw [upd_ne _ _ e]
        exact h.2 j e
    · rw [xset_ne _ _ c]
      exact h.1.1 q hq (by simp [c, hL])
  · rw [xset_ne _ _ (Ne.symm h0)]
    exact h.1.2 j hj
def tri (p : Nat) : Prop := p = 4 ∨ p = 5 ∨ p = 6
theorem tri_UL {p : Nat} (h : tri p) : p ≠ 0 ∧ p ∉ UL := by
  rcases h with rfl | rfl | rfl <;> decide
theorem DdM_up {d : DD} {p k v : Nat} {s a : xS} (hp : tri p) (hD : DdM d s) (h : UK p k s a) : DdM (dup d p k v) (xset a p (upd (a.1 p) k (nI v))) := by
  have h5 : a.1 0 5 = s.1 0 5 := h.1.2 5 (by decide)
  refine ⟨?_, fun i hi => ?_⟩
  · show (xset a p (upd (a.1 p) k (nI v))).1 0 5 = nI d.1
    rw [xset_ne _ _ (Ne.symm (tri_UL hp).1), h5]
    exact hD.1
  · obtain ⟨r1, r2, r3⟩ := hD.2 i hi
    have hq : ∀ q, (q = 4 ∨ q = 5 ∨ q = 6) → q ≠ p → (xset a p (upd (a.1 p) k (nI v))).1 q i = s.1 q i := by
      intro q hq hne
      rw [xset_ne _ _ hne, h.1.1 q (by omega) (by simp only [List.mem_cons, UL, List.not_mem_nil, or_false]; omega)]
    have hpp : (xset a p (upd (a.1 p) k (nI v))).1 p i = if i = k then nI v else s.1 p i := by
      rw [xset_same]
      by_cases e : i = k
      · rw [if_pos e, e, upd_same]
      · rw [if_neg e, upd_ne _ _ e]
        exact h.2 i e
    show (xset a p (upd (a.1 p) k (nI v))).1 4 i = nI (if p = 4 ∧ i = k then v else d.2.1 i) ∧ (xset a p (upd (a.1 p) k (nI v))).1 5 i = nI (if p = 5 ∧ i = k then v else d.2.2.1 i) ∧ (xset a p (upd (a.1 p) k (nI v))).1 6 i = nI (if p = 6 ∧ i = k then v else d.2.2.2 i)
    rcases hp with rfl | rfl | rfl
    · refine ⟨?_, ?_, ?_⟩
      · rw [hpp, r1]
        by_cases e : i = k
        · simp [e]
        · simp [e]
      · rw [hq 5 (by omega) (by omega), r2]
        simp
      · rw [hq 6 (by omega) (by omega), r3]
        simp
    · refine ⟨?_, ?_, ?_⟩
      · rw [hq 4 (by omega) (by omega), r1]
        simp
      · rw [hpp, r2]
        by_cases e : i = k
        · simp [e]
        · simp [e]
      · rw [hq 6 (by omega) (by omega), r3]
        simp
    · refine ⟨?_, ?_, ?_⟩
      · rw [hq 4 (by omega) (by omega), r1]
        simp
      · rw [hq 5 (by omega) (by omega), r2]
        simp
      · rw [hpp, r3]
        by_cases e : i = k
        · simp [e]
        · simp [e]
/-! the tried deeds of FounderSleeps -/
def UF (p k : Nat) (s a : xS) : Prop := Kp 27 40 s a ∧ (∀ q, 27 ≤ q → q ≤ 30 → q ≠ 24 + p → a.1 q = s.1 q) ∧ ∀ j, j ≠ k → a.1 (24 + p) j = s.1 (24 + p) j
theorem UF.refl (p k : Nat) (s : xS) : UF p k s s := ⟨Kp.refl _ _ _, fun _ _ _ _ => rfl, fun _ _ => rfl⟩
theorem UF.set {p k : Nat} {s a : xS} (h : UF p k s a) (v : Int32) (hp : tri p) : UF p k s (xset a (24 + p) (upd (a.1 (24 + p)) k v)) := by
  unfold tri at hp
  exact ⟨h.1.set _ (by omega) (by omega), fun q a b c => by rw [xset_ne _ _ c]; exact h.2.1 q a b c, fun j hj => by rw [xset_same, upd_ne _ _ hj]; exact h.2.2 j hj⟩
theorem UF.kp {p k : Nat} {s a a' : xS} (h : UF p k s a) (hk : Kp 31 40 a a') (hp : tri p) : UF p k s a' := by
  unfold tri at hp
  exact ⟨h.1.trans (hk.wide (by omega) (by omega)), fun q x y z => by rw [(hk q (by omega)).1]; exact h.2.1 q x y z, fun j hj => by rw [(hk (24 + p) (by omega)).1]; exact h.2.2 j hj⟩
theorem DdF_up {d : DD} {p k v : Nat} {s a : xS} (hp : tri p) (hD : DdF 27 d s) (h : UF p k s a) : DdF 27 (dup d p k v) (xset a (24 + p) (upd (a.1 (24 + p)) k (nI v))) := by
  refine ⟨?_, fun i hi => ?_⟩
  · show (xset a (24 + p) (upd (a.1 (24 + p)) k (nI v))).1 27 3 = nI d.1
    have hp' := hp
    unfold tri at hp'
    rw [xset_ne _ _ (by omega), h.2.1 27 (by omega) (by omega) (by omega)]
    exact hD.1
  · obtain ⟨r1, r2, r3⟩ := hD.2 i hi
    have hq : ∀ q, 27 ≤ q → q ≤ 30 → q ≠ 24 + p → (xset a (24 + p) (upd (a.1 (24 + p)) k (nI v))).1 q i = s.1 q i := by
      intro q x y hne
      rw [xset_ne _ _ hne, h.2.1 q x y hne]
    have hpp : (xset a (24 + p) (upd (a.1 (24 + p)) k (nI v))).1 (24 + p) i = if i = k then nI v else s.1 (24 + p) i := by
      rw [xset_same]
      by_cases e : i = k
      · rw [if_pos e, e, upd_same]
      · rw [if_neg e, upd_ne _ _ e]
        exact h.2.2 i e
    show (xset a (24 + p) (upd (a.1 (24 + p)) k (nI v))).1 28 i = nI (if p = 4 ∧ i = k then v else d.2.1 i) ∧ (xset a (24 + p) (upd (a.1 (24 + p)) k (nI v))).1 29 i = nI (if p = 5 ∧ i = k then v else d.2.2.1 i) ∧ (xset a (24 + p) (upd (a.1 (24 + p)) k (nI v))).1 30 i = nI (if p = 6 ∧ i = k then v else d.2.2.2 i)
    have r1' : s.1 28 i = nI (d.2.1 i) := r1
    have r2' : s.1 29 i = nI (d.2.2.1 i) := r2
    have r3' : s.1 30 i = nI (d.2.2.2 i) := r3
    rcases hp with rfl | rfl | rfl
    · have hpp' : (xset a (24 + 4) (upd (a.1 (24 + 4)) k (nI v))).1 28 i = if i = k then nI v else s.1 28 i := hpp
      refine ⟨?_, ?_, ?_⟩
      · rw [hpp', r1']
        by_cases e : i = k
        · simp [e]
        · simp [e]
      · rw [hq 29 (by omega) (by omega) (by omega), r2']
        simp
      · rw [hq 30 (by omega) (by omega) (by omega), r3']
        simp
    · have hpp' : (xset a (24 + 5) (upd (a.1 (24 + 5)) k (nI v))).1 29 i = if i = k then nI v else s.1 29 i := hpp
      refine ⟨?_, ?_, ?_⟩
      · rw [hq 28 (by omega) (by omega) (by omega), r1']
        simp
      · rw [hpp', r2']
        by_cases e : i = k
        · simp [e]
        · simp [e]
      · rw [hq 30 (by omega) (by omega) (by omega), r3']
        simp
    · have hpp' : (xset a (24 + 6) (upd (a.1 (24 + 6)) k (nI v))).1 30 i = if i = k then nI v else s.1 30 i := hpp
      refine ⟨?_, ?_, ?_⟩
      · rw [hq 28 (by omega) (by omega) (by omega), r1']
        simp
      · rw [hq 29 (by omega) (by omega) (by omega), r2']
        simp
      · rw [hpp', r3']
        by_cases e : i = k
        · simp [e]
        · simp [e]
theorem takeF {d : DD} {s : xS} (hd : DdOk d) (hD : DdF 8 d s) : ∃ s', F_X0_takeFrom s = some s' ∧ Kp 27 30 s s' ∧ DdF 27 d s' := by
  have hn := hd.1
  have e83 : s.1 8 3 = nI d.1 := hD.1
  refine Exists.elim (xlp_cnt (f := F_X0_takeFrom_L10) (fun i a => a.1 = nI i ∧ Kp 27 30 s a.2 ∧ a.2.1 27 3 = nI d.1 ∧ ∀ j, j < i → a.2.1 28 j = nI (d.2.1 j) ∧ a.2.1 29 j = nI (d.2.2.1 j) ∧ a.2.1 30 j = nI (d.2.2.2 j)) (fun b => Kp 27 30 s b ∧ b.1 27 3 = nI d.1 ∧ ∀ j, j < d.1 → b.1 28 j = nI (d.2.1 j) ∧ b.1 29 j = nI (d.2.2.1 j) ∧ b.1 30 j = nI (d.2.2.2 j)) d.1 (by omega) ?_ ?_ (a := (nI 0, xset s 27 (upd (s.1 27) 3 (nI d.1)))) ⟨rfl, (Kp.refl _ _ _).set _ (by omega) (by omega), ?_, fun j hj => absurd hj (Nat.not_lt_zero j)⟩) ?_
  · intro i a hi ⟨ha, hK, h3, hr⟩
    obtain ⟨a1, s'⟩ := a
    dsimp only at ha hK h3 hr
    subst ha
    obtain ⟨r1, r2, r3⟩ := hD.2 i hi
    have r1' : s'.1 9 i = nI (d.2.1 i) := by rw [(hK 9 (by omega)).1]; exact r1
    have r2' : s'.1 10 i = nI (d.2.2.1 i) := by rw [(hK 10 (by omega)).1]; exact r2
    have r3' : s'.1 11 i = nI (d.2.2.2 i) := by rw [(hK 11 (by omega)).1]; exact r3
    left
    refine ⟨(nI (i + 1), xset (xset (xset s' 28 (upd (s'.1 28) i (nI (d.2.1 i)))) 29 (upd (s'.1 29) i (nI (d.2.2.1 i)))) 30 (upd (s'.1 30) i (nI (d.2.2.2 i)))), ?_, rfl, ((hK.set _ (by omega) (by omega)).set _ (by omega) (by omega)).set _ (by omega) (by omega), ?_, fun j hj => ?_⟩
    · unfold F_X0_takeFrom_L10
      simp (disch := omega) only [↓Lm1, L0, L1, L2, L3, L4, L5, L6, L7, L8, L9, L10, L11, L12, L13, L14, L15, L16, L17, L18, L19, L20, L27, L30, L31, L35, L36, L37, L38, L39, L40, L41, L46, L48, L51, L57, L59, L60, L82, L98, L99, L100, L102, L104, L107, L110, L119, L144, L240, L255, L256, L360, L999, L1000000, nI_val, n_lt_t, n_lt_f, n_le_t, n_le_f, n_eq_t, n_eq_f, k_le_f, m_lt_t, m_lt_f, m_le_t, m_le_f, m_eq_f, m_eq_f', nI_add, nI_mulE, nI_subE, if_true, if_false, ite_true, ite_false, or_false, false_or, or_true, true_or, or_self, and_true, true_and, and_false, false_and, not_true_eq_false, not_false_eq_true, Option.bind_some, Sum.elim_inl, Sum.elim_inr, xu_set, xset_same, xset_ne, xset_2, xset_set, upd_same, upd_ne, nbI_some, ne_eq, reduceCtorEq, reduceIte, Nat.reduceAdd, Nat.reduceMul, Nat.reduceSub, Nat.add_zero, Nat.zero_add, Nat.mul_zero, Nat.zero_mul, h3, r1', r2', r3']
    · simp (disch := omega) only [↓Lm1, L0, L1, L2, L3, L4, L5, L6, L7, L8, L9, L10, L11, L12, L13, L14, L15, L16, L17, L18, L19, L20, L27, L30, L31, L35, L36, L37, L38, L39, L40, L41, L46, L48, L51, L57, L59, L60, L82, L98, L99, L100, L102, L104, L107, L110, L119, L144, L240, L255, L256, L360, L999, L1000000, nI_val, n_lt_t, n_lt_f, n_le_t, n_le_f, n_eq_t, n_eq_f, k_le_f, m_lt_t, m_lt_f, m_le_t, m_le_f, m_eq_f, m_eq_f', nI_add, nI_mulE, nI_subE, if_true, if_false, ite_true, ite_false, or_false, false_or, or_true, true_or, or_self, and_true, true_and, and_false, false_and, not_true_eq_false, not_false_eq_true, Option.bind_some, Sum.elim_inl, Sum.elim_inr, xu_set, xset_same, xset_ne, xset_2, xset_set, upd_same, upd_ne, nbI_some, ne_eq, reduceCtorEq, reduceIte, Nat.reduceAdd, Nat.reduceMul, Nat.reduceSub, Nat.add_zero, Nat.zero_add, Nat.mul_zero, Nat.zero_mul, h3]
    · by_cases e : j = i
      · simp (disch := omega) only [↓Lm1, L0, L1, L2, L3, L4, L5, L6, L7, L8, L9, L10, L11, L12, L13, L14, L15, L16, L17, L18, L19, L20, L27, L30, L31, L35, L36, L37, L38, L39, L40, L41, L46, L48, L51, L57, L59, L60, L82, L98, L99, L100, L102, L104, L107, L110, L119, L144, L240, L255, L256, L360, L999, L1000000, nI_val, n_lt_t, n_lt_f, n_le_t, n_le_f, n_eq_t, n_eq_f, k_le_f, m_lt_t, m_lt_f, m_le_t, m_le_f, m_eq_f, m_eq_f', nI_add, nI_mulE, nI_subE, if_true, if_false, ite_true, ite_false, or_false, false_or, or_true, true_or, or_self, and_true, true_and, and_false, false_and, not_true_eq_false, not_false_eq_true, Option.bind_some, Sum.elim_inl, Sum.elim_inr, xu_set, xset_same, xset_ne, xset_2, xset_set, upd_same, upd_ne, nbI_some, ne_eq, reduceCtorEq, reduceIte, Nat.reduceAdd, Nat.reduceMul, Nat.reduceSub, Nat.add_zero, Nat.zero_add, Nat.mul_zero, Nat.zero_mul, e]
      · have := hr j (by omega)
        simp (disch := omega) only [↓Lm1, L0, L1, L2, L3, L4, L5, L6, L7, L8, L9, L10, L11, L12, L13, L14, L15, L16, L17, L18, L19, L20, L27, L30, L31, L35, L36, L37, L38, L39, L40, L41, L46, L48, L51, L57, L59, L60, L82, L98, L99, L100, L102, L104, L107, L110, L119, L144, L240, L255, L256, L360, L999, L1000000, nI_val, n_lt_t, n_lt_f, n_le_t, n_le_f, n_eq_t, n_eq_f, k_le_f, m_lt_t, m_lt_f, m_le_t, m_le_f, m_eq_f, m_eq_f', nI_add, nI_mulE, nI_subE, if_true, if_false, ite_true, ite_false, or_false, false_or, or_true, true_or, or_self, and_true, true_and, and_false, false_and, not_true_eq_false, not_false_eq_true, Option.bind_some, Sum.elim_inl, Sum.elim_inr, xu_set, xset_same, xset_ne, xset_2, xset_set, upd_same, upd_ne, nbI_some, ne_eq, reduceCtorEq, reduceIte, Nat.reduceAdd, Nat.reduceMul, Nat.reduceSub, Nat.add_zero, Nat.zero_add, Nat.mul_zero, Nat.zero_mul, e, this]
  · intro a ⟨ha, hK, h3, hr⟩
    obtain ⟨a1, s'⟩ := a
    dsimp only at ha hK h3 hr
    subst ha
    refine ⟨s', ?_, hK, h3, hr⟩
    unfold F_X0_takeFrom_L10
    simp (disch := omega) only [↓Lm1, L0, L1, L2, L3, L4, L5, L6, L7, L8, L9, L10, L11, L12, L13, L14, L15, L16, L17, L18, L19, L20, L27, L30, L31, L35, L36, L37, L38, L39, L40, L41, L46, L48, L51, L57, L59, L60, L82, L98, L99, L100, L102, L104, L107, L110, L119, L144, L240, L255, L256, L360, L999, L1000000, nI_val, n_lt_t, n_lt_f, n_le_t, n_le_f, n_eq_t, n_eq_f, k_le_f, m_lt_t, m_lt_f, m_le_t, m_le_f, m_eq_f, m_eq_f', nI_add, nI_mulE, nI_subE, if_true, if_false, ite_true, ite_false, or_false, false_or, or_true, true_or, or_self, and_true, true_and, and_false, false_and, not_true_eq_false, not_false_eq_true, Option.bind_some, Sum.elim_inl, Sum.elim_inr, xu_set, xset_same, xset_ne, xset_2, xset_set, upd_same, upd_ne, nbI_some, ne_eq, reduceCtorEq, reduceIte, Nat.reduceAdd, Nat.reduceMul, Nat.reduceSub, Nat.add_zero, Nat.zero_add, Nat.mul_zero, Nat.zero_mul, h3]
  · simp (disch := omega) only [↓Lm1, L0, L1, L2, L3, L4, L5, L6, L7, L8, L9, L10, L11, L12, L13, L14, L15, L16, L17, L18, L19, L20, L27, L30, L31, L35, L36, L37, L38, L39, L40, L41, L46, L48, L51, L57, L59, L60, L82, L98, L99, L100, L102, L104, L107, L110, L119, L144, L240, L255, L256, L360, L999, L1000000, nI_val, n_lt_t, n_lt_f, n_le_t, n_le_f, n_eq_t, n_eq_f, k_le_f, m_lt_t, m_lt_f, m_le_t, m_le_f, m_eq_f, m_eq_f', nI_add, nI_mulE, nI_subE, if_true, if_false, ite_true, ite_false, or_false, false_or, or_true, true_or, or_self, and_true, true_and, and_false, false_and, not_true_eq_false, not_false_eq_true, Option.bind_some, Sum.elim_inl, Sum.elim_inr, xu_set, xset_same, xset_ne, xset_2, xset_set, upd_same, upd_ne, nbI_some, ne_eq, reduceCtorEq, reduceIte, Nat.reduceAdd, Nat.reduceMul, Nat.reduceSub, Nat.add_zero, Nat.zero_add, Nat.mul_zero, Nat.zero_mul]
  · rintro b ⟨hx, h1, h2, h3⟩
    refine ⟨b, ?_, h1, h2, h3⟩
    unfold F_X0_takeFrom
    simp (disch := omega) only [↓Lm1, L0, L1, L2, L3, L4, L5, L6, L7, L8, L9, L10, L11, L12, L13, L14, L15, L16, L17, L18, L19, L20, L27, L30, L31, L35, L36, L37, L38, L39, L40, L41, L46, L48, L51, L57, L59, L60, L82, L98, L99, L100, L102, L104, L107, L110, L119, L144, L240, L255, L256, L360, L999, L1000000, nI_val, n_lt_t, n_lt_f, n_le_t, n_le_f, n_eq_t, n_eq_f, k_le_f, m_lt_t, m_lt_f, m_le_t, m_le_f, m_eq_f, m_eq_f', nI_add, nI_mulE, nI_subE, if_true, if_false, ite_true, ite_false, or_false, false_or, or_true, true_or, or_self, and_true, true_and, and_false, false_and, not_true_eq_false, not_false_eq_true, Option.bind_some, Sum.elim_inl, Sum.elim_inr, xu_set, xset_same, xset_ne, xset_2, xset_set, upd_same, upd_ne, nbI_some, ne_eq, reduceCtorEq, reduceIte, Nat.reduceAdd, Nat.reduceMul, Nat.reduceSub, Nat.add_zero, Nat.zero_add, Nat.mul_zero, Nat.zero_mul, e83, hx]
/-! what was listened -/
def agr (e : ED) (ns : Nat → Option Nat) : Nat → Bool
  | 0 => true
  | n + 1 => agr e ns n && decide (ns (e.2.1 n) = some (e.2.2 n))
theorem agr_s (e : ED) (ns : Nat → Option Nat) (n : Nat) : agr e ns (n + 1) = (agr e ns n && decide (ns (e.2.1 n) = some (e.2.2 n))) := rfl
theorem agr_f {e : ED} {ns : Nat → Option Nat} {i : Nat} (h : agr e ns i = false) : ∀ n, i ≤ n → agr e ns n = false := by
  intro n hn
  induction hn with
  | refl => exact h
  | step _ ih => rw [agr_s, ih]; rfl
def EaOk (e : ED) : Prop := e.1 ≤ 8 ∧ ∀ k, k < e.1 → e.2.1 k ≤ 9 ∧ e.2.2 k ≤ 99
theorem EaF.ok {e : ED} {s : xS} (h : EaF e s) : EaOk e := ⟨h.1, fun k hk => ⟨(h.2.2.2 k hk).1, (h.2.2.2 k hk).2.1⟩⟩
theorem nbI_eq {o : Option Nat} {m : Nat} (ho : ∀ j, o = some j → j ≤ 200) (hm : m ≤ 99) : (nbI o = nI m) = (o = some m) := by
  cases o with
  | none =>
    rw [m_eq_f' (by omega)]
    exact (eq_false (fun q => by cases q)).symm
  | some j =>
    have := ho j rfl
    rw [nbI_some, nI_eqE (by omega) (by omega)]
    exact propext ⟨fun q => by rw [q], fun q => Option.some.inj q⟩
theorem nst_ns {d : DD} {sh : Nat → Nat} {pr : Nat → Bool} {ch dp : Nat} {th : Nat → Nat} (hd : d.1 ≤ 8) (hs : ∀ i, sh i ≤ 14) (ht : ∀ h, th h ≤ 60) : ∀ k j v, (nst d sh pr ch dp th k).2.2.2.1 j = some v → v ≤ 200
  | 0, j, v, q => by cases q
  | k + 1, j, v, q => by
    have ih := nst_ns (pr := pr) (ch := ch) (dp := dp) hd hs ht k
    have q : (nstep d sh pr ch th k (nst d sh pr ch dp th k)).2.2.2.1 j = some v := q
    generalize nst d sh pr ch dp th k = s at ih q
    unfold nstep at q
    by_cases c : s.1 = none
    · rw [if_pos c] at q
      dsimp only at q
      split at q
      · cases q
        exact nloud_le hd (fun i _ => hs i) ht
      · exact ih j v q
    · rw [if_neg c] at q
      exact ih j v q
theorem ngt_ns {N : Nat} {ls : Nat → Nat} {d : DD} {pr : Nat → Bool} {l : LD} {j v : Nat} (hd : d.1 ≤ 8) (hl : LwOk l) (q : (ngt N ls d pr l).2.2.2.1 j = some v) : v ≤ 200 := nst_ns hd (shr_le _ _ _) (tsm_le hl) 10 j v q
theorem agrF {e : ED} {s : xS} {ns : Nat → Option Nat} (h : EaF e s) (hn : ∀ h, h < 10 → s.1 35 h = nbI (ns h)) (hb : ∀ h v, ns h = some v → v ≤ 200) : F_X2_agreesWith s = some (nI (b01 (agr e ns e.1))) := by
  obtain ⟨h8, _, h3, hr⟩ := h
  unfold F_X2_agreesWith
  refine Exists.elim (xlp_cnt (f := F_X2_agreesWith_L2 s) (fun i a => a = nI i ∧ agr e ns i = true) (fun b => (b = Sum.inl () ∧ agr e ns e.1 = false) ∨ (b = Sum.inr () ∧ agr e ns e.1 = true)) e.1 (by omega) ?_ ?_ (a := 0) ⟨rfl, rfl⟩) ?_
  · intro i a hi ⟨ha, hg⟩
    subst ha
    obtain ⟨b1, b2, b3, b4⟩ := hr i hi
    have n1 := hn (e.2.1 i) (by omega)
    have n2 := nbI_eq (m := e.2.2 i) (hb (e.2.1 i)) b2
    unfold F_X2_agreesWith_L2
    by_cases c : ns (e.2.1 i) = some (e.2.2 i)
    · left
      refine ⟨nI (i + 1), ?_, rfl, ?_⟩
      · have n2' : (nbI (ns (e.2.1 i)) = nI (e.2.2 i)) = True := by rw [n2]; exact eq_true c
        simp (disch := omega) only [↓Lm1, L0, L1, L2, L3, L4, L5, L6, L7, L8, L9, L10, L11, L12, L13, L14, L15, L16, L17, L18, L19, L20, L27, L30, L31, L35, L36, L37, L38, L39, L40, L41, L46, L48, L51, L57, L59, L60, L82, L98, L99, L100, L102, L104, L107, L110, L119, L144, L240, L255, L256, L360, L999, L1000000, nI_val, n_lt_t, n_lt_f, n_le_t, n_le_f, n_eq_t, n_eq_f, k_le_f, m_lt_t, m_lt_f, m_le_t, m_le_f, m_eq_f, m_eq_f', nI_add, nI_mulE, nI_subE, if_true, if_false, ite_true, ite_false, or_false, false_or, or_true, true_or, or_self, and_true, true_and, and_false, false_and, not_true_eq_false, not_false_eq_true, Option.bind_some, Sum.elim_inl, Sum.elim_inr, xu_set, xset_same, xset_ne, xset_2, xset_set, upd_same, upd_ne, nbI_some, ne_eq, reduceCtorEq, reduceIte, Nat.reduceAdd, Nat.reduceMul, Nat.reduceSub, Nat.add_zero, Nat.zero_add, Nat.mul_zero, Nat.zero_mul, h3, b3, b4, n1, n2']
      · rw [agr_s, hg]
        simp [c]
    · right
      refine ⟨Sum.inl (), ?_, Or.inl ⟨rfl, agr_f (i := i + 1) ?_ _ (by omega)⟩⟩
      · have n2' : (nbI (ns (e.2.1 i)) = nI (e.2.2 i)) = False := by rw [n2]; exact eq_false c
        simp (disch := omega) only [↓Lm1, L0, L1, L2, L3, L4, L5, L6, L7, L8, L9, L10, L11, L12, L13, L14, L15, L16, L17, L18, L19, L20, L27, L30, L31, L35, L36, L37, L38, L39, L40, L41, L46, L48, L51, L57, L59, L60, L82, L98, L99, L100, L102, L104, L107, L110, L119, L144, L240, L255, L256, L360, L999, L1000000, nI_val, n_lt_t, n_lt_f, n_le_t, n_le_f, n_eq_t, n_eq_f, k_le_f, m_lt_t, m_lt_f, m_le_t, m_le_f, m_eq_f, m_eq_f', nI_add, nI_mulE, nI_subE, if_true, if_false, ite_true, ite_false, or_false, false_or, or_true, true_or, or_self, and_true, true_and, and_false, false_and, not_true_eq_false, not_false_eq_true, Option.bind_some, Sum.elim_inl, Sum.elim_inr, xu_set, xset_same, xset_ne, xset_2, xset_set, upd_same, upd_ne, nbI_some, ne_eq, reduceCtorEq, reduceIte, Nat.reduceAdd, Nat.reduceMul, Nat.reduceSub, Nat.add_zero, Nat.zero_add, Nat.mul_zero, Nat.zero_mul, h3, b3, b4, n1, n2']
      · rw [agr_s, hg]
        simp [c]
  · intro a ⟨ha, hg⟩
    subst ha
    refine ⟨Sum.inr (), ?_, Or.inr ⟨rfl, hg⟩⟩
    unfold F_X2_agreesWith_L2
    simp (disch := omega) only [↓Lm1, L0, L1, L2, L3, L4, L5, L6, L7, L8, L9, L10, L11, L12, L13, L14, L15, L16, L17, L18, L19, L20, L27, L30, L31, L35, L36, L37, L38, L39, L40, L41, L46, L48, L51, L57, L59, L60, L82, L98, L99, L100, L102, L104, L107, L110, L119, L144, L240, L255, L256, L360, L999, L1000000, nI_val, n_lt_t, n_lt_f, n_le_t, n_le_f, n_eq_t, n_eq_f, k_le_f, m_lt_t, m_lt_f, m_le_t, m_le_f, m_eq_f, m_eq_f', nI_add, nI_mulE, nI_subE, if_true, if_false, ite_true, ite_false, or_false, false_or, or_true, true_or, or_self, and_true, true_and, and_false, false_and, not_true_eq_false, not_false_eq_true, Option.bind_some, Sum.elim_inl, Sum.elim_inr, xu_set, xset_same, xset_ne, xset_2, xset_set, upd_same, upd_ne, nbI_some, ne_eq, reduceCtorEq, reduceIte, Nat.reduceAdd, Nat.reduceMul, Nat.reduceSub, Nat.add_zero, Nat.zero_add, Nat.mul_zero, Nat.zero_mul, h3]
  · rintro b ⟨hx, q⟩
    have hx' : xlp (F_X2_agreesWith_L2 s) 100000 0 = some b := hx
    rw [hx']
    rcases q with ⟨rfl, q⟩ | ⟨rfl, q⟩
    · rw [q]; rfl
    · rw [q]; rfl
theorem agrM {e : ED} {s : xS} {ns : Nat → Option Nat} (he : EaOk e) (h : EaM e s) (hn : ∀ h, h < 10 → s.1 12 h = nbI (ns h)) (hb : ∀ h v, ns h = some v → v ≤ 200) : xlp (F_X9_isListened_L8 s) 100000 (1, 0) = some (nI (b01 (agr e ns e.1))) := by
  obtain ⟨h3, hr⟩ := h
  obtain ⟨h8, hok⟩ := he
  refine Exists.elim (xlp_cnt (f := F_X9_isListened_L8 s) (fun i a => a.1 = nI (b01 (agr e ns i)) ∧ a.2 = nI i) (fun b => b = nI (b01 (agr e ns e.1))) e.1 (by omega) ?_ ?_ (a := (1, 0)) ⟨rfl, rfl⟩) ?_
  · intro i a hi ⟨ha, ha2⟩
    obtain ⟨a1, a2⟩ := a
    dsimp only at ha ha2
    subst ha; subst ha2
    obtain ⟨b3, b4⟩ := hr i hi
    obtain ⟨b1, b2⟩ := hok i hi
    have n1 := hn (e.2.1 i) (by omega)
    have n2 := nbI_eq (m := e.2.2 i) (hb (e.2.1 i)) b2
    unfold F_X9_isListened_L8
    cases hg : agr e ns i with
    | false =>
      right
      refine ⟨nI 0, ?_, ?_⟩
      · simp (disch := omega) only [↓Lm1, L0, L1, L2, L3, L4, L5, L6, L7, L8, L9, L10, L11, L12, L13, L14, L15, L16, L17, L18, L19, L20, L27, L30, L31, L35, L36, L37, L38, L39, L40, L41, L46, L48, L51, L57, L59, L60, L82, L98, L99, L100, L102, L104, L107, L110, L119, L144, L240, L255, L256, L360, L999, L1000000, nI_val, n_lt_t, n_lt_f, n_le_t, n_le_f, n_eq_t, n_eq_f, k_le_f, m_lt_t, m_lt_f, m_le_t, m_le_f, m_eq_f, m_eq_f', nI_add, nI_mulE, nI_subE, if_true, if_false, ite_true, ite_false, or_false, false_or, or_true, true_or, or_self, and_true, true_and, and_false, false_and, not_true_eq_false, not_false_eq_true, Option.bind_some, Sum.elim_inl, Sum.elim_inr, xu_set, xset_same, xset_ne, xset_2, xset_set, upd_same, upd_ne, nbI_some, ne_eq, reduceCtorEq, reduceIte, Nat.reduceAdd, Nat.reduceMul, Nat.reduceSub, Nat.add_zero, Nat.zero_add, Nat.mul_zero, Nat.zero_mul, h3, b01, Bool.false_eq_true]
      · rw [agr_f hg e.1 (by omega)]; rfl
    | true =>
      left
      by_cases c : ns (e.2.1 i) = some (e.2.2 i)
      · refine ⟨(nI 1, nI (i + 1)), ?_, ?_, rfl⟩
        · have n2' : (nbI (ns (e.2.1 i)) = nI (e.2.2 i)) = True := by rw [n2]; exact eq_true c
          simp (disch := omega) only [↓Lm1, L0, L1, L2, L3, L4, L5, L6, L7, L8, L9, L10, L11, L12, L13, L14, L15, L16, L17, L18, L19, L20, L27, L30, L31, L35, L36, L37, L38, L39, L40, L41, L46, L48, L51, L57, L59, L60, L82, L98, L99, L100, L102, L104, L107, L110, L119, L144, L240, L255, L256, L360, L999, L1000000, nI_val, n_lt_t, n_lt_f, n_le_t, n_le_f, n_eq_t, n_eq_f, k_le_f, m_lt_t, m_lt_f, m_le_t, m_le_f, m_eq_f, m_eq_f', nI_add, nI_mulE, nI_subE, if_true, if_false, ite_true, ite_false, or_false, false_or, or_true, true_or, or_self, and_true, true_and, and_false, false_and, not_true_eq_false, not_false_eq_true, Option.bind_some, Sum.elim_inl, Sum.elim_inr, xu_set, xset_same, xset_ne, xset_2, xset_set, upd_same, upd_ne, nbI_some, ne_eq, reduceCtorEq, reduceIte, Nat.reduceAdd, Nat.reduceMul, Nat.reduceSub, Nat.add_zero, Nat.zero_add, Nat.mul_zero, Nat.zero_mul, h3, b3, b4, n1, n2', b01]
        · rw [agr_s, hg]
          simp [c, b01]
      · refine ⟨(nI 0, nI (i + 1)), ?_, ?_, rfl⟩
        · have n2' : (nbI (ns (e.2.1 i)) = nI (e.2.2 i)) = False := by rw [n2]; exact eq_false c
          simp (disch := omega) only [↓Lm1, L0, L1, L2, L3, L4, L5, L6, L7, L8, L9, L10, L11, L12, L13, L14, L15, L16, L17, L18, L19, L20, L27, L30, L31, L35, L36, L37, L38, L39, L40, L41, L46, L48, L51, L57, L59, L60, L82, L98, L99, L100, L102, L104, L107, L110, L119, L144, L240, L255, L256, L360, L999, L1000000, nI_val, n_lt_t, n_lt_f, n_le_t, n_le_f, n_eq_t, n_eq_f, k_le_f, m_lt_t, m_lt_f, m_le_t, m_le_f, m_eq_f, m_eq_f', nI_add, nI_mulE, nI_subE, if_true, if_false, ite_true, ite_false, or_false, false_or, or_true, true_or, or_self, and_true, true_and, and_false, false_and, not_true_eq_false, not_false_eq_true, Option.bind_some, Sum.elim_inl, Sum.elim_inr, xu_set, xset_same, xset_ne, xset_2, xset_set, upd_same, upd_ne, nbI_some, ne_eq, reduceCtorEq, reduceIte, Nat.reduceAdd, Nat.reduceMul, Nat.reduceSub, Nat.add_zero, Nat.zero_add, Nat.mul_zero, Nat.zero_mul, h3, b3, b4, n1, n2', b01]
        · rw [agr_s, hg]
          simp [c, b01]
  · intro a ⟨ha, ha2⟩
    obtain ⟨a1, a2⟩ := a
    dsimp only at ha ha2
    subst ha; subst ha2
    refine ⟨_, ?_, rfl⟩
    unfold F_X9_isListened_L8
    simp (disch := omega) only [↓Lm1, L0, L1, L2, L3, L4, L5, L6, L7, L8, L9, L10, L11, L12, L13, L14, L15, L16, L17, L18, L19, L20, L27, L30, L31, L35, L36, L37, L38, L39, L40, L41, L46, L48, L51, L57, L59, L60, L82, L98, L99, L100, L102, L104, L107, L110, L119, L144, L240, L255, L256, L360, L999, L1000000, nI_val, n_lt_t, n_lt_f, n_le_t, n_le_f, n_eq_t, n_eq_f, k_le_f, m_lt_t, m_lt_f, m_le_t, m_le_f, m_eq_f, m_eq_f', nI_add, nI_mulE, nI_subE, if_true, if_false, ite_true, ite_false, or_false, false_or, or_true, true_or, or_self, and_true, true_and, and_false, false_and, not_true_eq_false, not_false_eq_true, Option.bind_some, Sum.elim_inl, Sum.elim_inr, xu_set, xset_same, xset_ne, xset_2, xset_set, upd_same, upd_ne, nbI_some, ne_eq, reduceCtorEq, reduceIte, Nat.reduceAdd, Nat.reduceMul, Nat.reduceSub, Nat.add_zero, Nat.zero_add, Nat.mul_zero, Nat.zero_mul, h3]
  · rintro b ⟨hx, q⟩
    rw [q] at hx
    exact hx
section SPEC
variable {u0 : Nat → Nat} {n0 : Nat} {u1 : Nat → Nat} {n1 : Nat} {l : LD} {e : ED} {s s4 a : xS}
/-- as told, and laid -/
def LT (u0 : Nat → Nat) (n0 : Nat) (u1 : Nat → Nat) (n1 : Nat) (l : LD) (s s4 : xS) : Prop := RT u0 n0 u1 n1 l s s4 ∧ LsM (twn u0 n0).1 (ls0 u0 n0) s4 ∧ s4.1 0 15 = nI 0
theorem laysT (h : BM u0 n0 u1 n1 l s) : ∃ s2 s4, F_X9_asTold s = some s2 ∧ F_X9_lays s2 = some s4 ∧ LT u0 n0 u1 n1 l s s4 := by
  obtain ⟨s2, e2, rt, h15⟩ := asToldM h
  have hok := twn_ok u0 n0
  obtain ⟨s4, e4, k4, ls⟩ := laysM rt.2.2.1 (fun j hj => (hok.2.2.1 j hj).2) hok.2.2.2
  exact ⟨s2, s4, e2, e4, rt.keep (k4.wide (by decide) (by decide)), ls, by rw [k4.2 15 (by decide)]; exact h15⟩
/-- sleepsOn over deeds and a mask, where it is laid -/
theorem sleepT {d : DD} {pr : Nat → Bool} (h : LT u0 n0 u1 n1 l s s4) (ha : ∀ q, q = 3 ∨ q = 7 ∨ q = 8 ∨ q = 9 → a.1 q = s4.1 q) (ha0 : ∀ k, k = 3 ∨ k = 9 ∨ k = 10 ∨ k = 11 → a.1 0 k = s4.1 0 k) (hd : DdOk d) (hD : DdM d a) (hpr : PrM pr (a.1 0 15)) : ∃ s', F_X9_sleepsOn a = some s' ∧ KR [10, 11, 12, 13, 14] [20] a s' ∧ NtM d (shr d (twn u0 n0).1 (ls0 u0 n0)) (ngt (twn u0 n0).1 (ls0 u0 n0) d pr l) 10 s' := by
  obtain ⟨⟨_, hb, hT, _⟩, ls, _⟩ := h
  have hl := hb.2.2.2.2.2.2.1
  have hL := hb.2.2.2.2.2.2.2
  refine sleepM hd hD hl ?_ hpr hT.1.1 (by rw [ha0 3 (by omega)]; exact hT.2.1) (fun j hj => by rw [ha 9 (by omega)]; exact ls j hj)
  unfold LwM at hL ⊢
  rw [ha0 9 (by omega), ha0 10 (by omega), ha0 11 (by omega), ha 7 (by omega), ha 8 (by omega)]
  exact hL
theorem sleepU {p k v : Nat} (hp : tri p) (h : LT u0 n0 u1 n1 l s s4) (u : UK p k s4 a) (hn : n1 ≤ 39) (h4 : p = 4 → v < 40) (h5 : p = 5 → v ≤ 3) (h6 : p = 6 → v ≤ 9) : ∃ s', F_X9_sleepsOn (xset a p (upd (a.1 p) k (nI v))) = some s' ∧ UK p k s4 s' ∧ NtM (dup (ddat u1 n1) p k v) (shr (dup (ddat u1 n1) p k v) (twn u0 n0).1 (ls0 u0 n0)) (ngt (twn u0 n0).1 (ls0 u0 n0) (dup (ddat u1 n1) p k v) all_ l) 10 s' := by
  have u' := u.set (nI v) (tri_UL hp).1
  obtain ⟨s', e', k', n'⟩ := sleepT (a := xset a p (upd (a.1 p) k (nI v))) (d := dup (ddat u1 n1) p k v) (pr := all_) h (fun q hq => u'.1.1 q (by omega) (by unfold tri at hp; simp only [List.mem_cons, UL, List.not_mem_nil, or_false]; omega)) (fun q hq => u'.1.2 q (by simp only [List.mem_cons, List.not_mem_nil, or_false]; omega)) (dup_ok (dd_ok hn) h4 h5 h6) (DdM_up hp h.1.2.2.2 u) (by rw [u'.1.2 15 (by decide), h.2.2]; exact pr0)
  exact ⟨s', e', u'.kr (k'.wide (by decide) (by decide)) (tri_UL hp).1 (tri_UL hp).2, n'⟩
theorem listM {d : DD} {pr : Nat → Bool} {s' : xS} {L : List Nat} (he : EaOk e) (hE : EaM e s') (hl : LwOk l) (hd : d.1 ≤ 8) (es : F_X9_sleepsOn a = some s') (hn : NtM d (shr d (twn u0 n0).1 (ls0 u0 n0)) (ngt (twn u0 n0).1 (ls0 u0 n0) d pr l) 10 s') : F_X9_isListened a = some (nI (b01 (agr e (ngt (twn u0 n0).1 (ls0 u0 n0) d pr l).2.2.2.1 e.1)), s') := by
  have := agrM he hE (fun h hh => (hn.2.1 h hh).1) (fun h v q => ngt_ns hd hl q)
  unfold F_X9_isListened
  rw [es]
  dsimp only [Option.bind_some]
  rw [this]
  dsimp only [Option.bind_some]
  cases agr e (ngt (twn u0 n0).1 (ls0 u0 n0) d pr l).2.2.2.1 e.1 <;> rfl
/-- Night.pass over deeds that are tried -/
theorem passU {p k v : Nat} (hp : tri p) (h : IF u0 n0 u1 n1 l e s4) (hD : DdF 27 (ddat u1 n1) s4) (u : UF p k s4 a) (h4 : p = 4 → v < 40) (h5 : p = 5 → v ≤ 3) (h6 : p = 6 → v ≤ 9) : ∃ s', F_X3_pass 34 27 19 (nI 255) (xset a (24 + p) (upd (a.1 (24 + p)) k (nI v))) = some s' ∧ UF p k s4 s' ∧ NtF 34 (dup (ddat u1 n1) p k v) (shr (dup (ddat u1 n1) p k v) (twn u0 n0).1 (ls0 u0 n0)) (ngt (twn u0 n0).1 (ls0 u0 n0) (dup (ddat u1 n1) p k v) all_ l) s' := by
  have u' := u.set (nI v) hp
  have h' := h.keep u'.1
  obtain ⟨⟨hx, _, _, hl, hL, _⟩, ⟨ls, _⟩, _, _⟩ := h'
  obtain ⟨s', e', k', n'⟩ := passF (p0 := 34) (p1 := 27) (p3 := 19) (N := (twn u0 n0).1) (ls := (ls0 u0 n0)) (Or.inr (Or.inl ⟨rfl, rfl⟩)) (Or.inl rfl) (dup_ok (dd_ok hx.2.1) h4 h5 h6) (DdF_up hp hD u) hl hL pr255 (twn_ok u0 n0).1.1 ls
  exact ⟨s', e', u'.kp (k'.wide (by omega) (by omega)) hp, n'⟩
end SPEC
