/-! ===== Night.pass ===== -/
def ldk (k : Nat) : Nat := match k with
  | 0 => 3
  | 1 => 6
  | 2 => 9
  | _ => 14
theorem ldk_le (k : Nat) : ldk k ≤ 14 ∧ 3 ≤ ldk k := by unfold ldk; split <;> omega
/-- what of each deed comes to the bed -/
def shr (d : DD) (N : Nat) (ls : Nat → Nat) : Nat → Nat := fun i => if d.2.1 i < N then ldk (d.2.2.1 i) - ls (d.2.1 i) else 0
/-- the law: depth, charter, thunders, their hours, how loud -/
abbrev LD : Type := Nat × Nat × Nat × (Nat → Nat) × (Nat → Nat)
def LwOk (l : LD) : Prop := l.1 ≤ 30 ∧ l.2.1 ≤ 20 ∧ l.2.2.1 ≤ 6 ∧ ∀ k, k < l.2.2.1 → l.2.2.2.1 k ≤ 9 ∧ 1 ≤ l.2.2.2.2 k ∧ l.2.2.2.2 k ≤ 9
def tsm (l : LD) (h : Nat) : Nat := smN (fun k => if l.2.2.2.1 k = h then l.2.2.2.2 k else 0) l.2.2.1
theorem tsm_le {l : LD} (hl : LwOk l) (h : Nat) : tsm l h ≤ 60 := by
  have h1 : tsm l h ≤ l.2.2.1 * 9 := smN_le (F := 9) l.2.2.1 (fun j hj => by
    split
    · exact (hl.2.2.2 j hj).2.2
    · omega)
  have := hl.2.2.1
  omega
def LwF (l : LD) (s : xS) : Prop := s.1 12 1 = nI l.1 ∧ s.1 12 2 = nI l.2.1 ∧ s.1 13 3 = nI l.2.2.1 ∧ ∀ k, k < l.2.2.1 → s.1 14 k = nI (l.2.2.2.1 k) ∧ s.1 15 k = nI (l.2.2.2.2 k)
def plc (p0 p1 : Nat) : Prop := (p0 = 22 ∧ p1 = 8) ∨ (p0 = 34 ∧ p1 = 27) ∨ (p0 = 34 ∧ p1 = 8)
theorem sumF {l : LD} {s : xS} (hl : LwOk l) (hL : LwF l s) {h : Nat} (hh : h < 10) : F_X2_sumIn (nI h) s = some (nI (tsm l h)) := by
  unfold F_X2_sumIn
  rw [xlp_at (f := F_X2_sumIn_L4 (nI h) s) (a := (0, 0)) (fun i => (nI (smN (fun k => if l.2.2.2.1 k = h then l.2.2.2.2 k else 0) i), nI i)) (b := nI (tsm l h)) l.2.2.1 (by have := hl.2.2.1; omega) rfl]
  · rfl
  · intro i hi
    obtain ⟨a, b, c⟩ := hl.2.2.2 i hi
    obtain ⟨e1, e2⟩ := hL.2.2.2 i hi
    have := hl.2.2.1
    unfold F_X2_sumIn_L4
    by_cases q : l.2.2.2.1 i = h
    · simp (disch := omega) only [↓Lm1, L0, L1, L2, L3, L4, L5, L6, L7, L8, L9, L10, L11, L12, L13, L14, L15, L16, L17, L18, L19, L20, L27, L30, L31, L35, L36, L37, L38, L39, L40, L41, L46, L48, L51, L57, L59, L60, L82, L98, L99, L100, L102, L104, L107, L110, L119, L144, L240, L255, L256, L360, L999, L1000000, nI_val, n_lt_t, n_lt_f, n_le_t, n_le_f, n_eq_t, n_eq_f, k_le_f, m_lt_t, m_lt_f, m_le_t, m_le_f, m_eq_f, m_eq_f', nI_add, nI_mulE, nI_subE, if_true, if_false, ite_true, ite_false, or_false, false_or, or_true, true_or, or_self, and_true, true_and, and_false, false_and, not_true_eq_false, not_false_eq_true, Option.bind_some, Sum.elim_inl, Sum.elim_inr, xu_set, xset_same, xset_ne, xset_2, xset_set, upd_same, upd_ne, nbI_some, ne_eq, reduceCtorEq, reduceIte, Nat.reduceAdd, Nat.reduceMul, Nat.reduceSub, Nat.add_zero, Nat.zero_add, Nat.mul_zero, Nat.zero_mul, hL.2.2.1, e1, e2, q, smN]
    · simp (disch := omega) only [↓Lm1, L0, L1, L2, L3, L4, L5, L6, L7, L8, L9, L10, L11, L12, L13, L14, L15, L16, L17, L18, L19, L20, L27, L30, L31, L35, L36, L37, L38, L39, L40, L41, L46, L48, L51, L57, L59, L60, L82, L98, L99, L100, L102, L104, L107, L110, L119, L144, L240, L255, L256, L360, L999, L1000000, nI_val, n_lt_t, n_lt_f, n_le_t, n_le_f, n_eq_t, n_eq_f, k_le_f, m_lt_t, m_lt_f, m_le_t, m_le_f, m_eq_f, m_eq_f', nI_add, nI_mulE, nI_subE, if_true, if_false, ite_true, ite_false, or_false, false_or, or_true, true_or, or_self, and_true, true_and, and_false, false_and, not_true_eq_false, not_false_eq_true, Option.bind_some, Sum.elim_inl, Sum.elim_inr, xu_set, xset_same, xset_ne, xset_2, xset_set, upd_same, upd_ne, nbI_some, ne_eq, reduceCtorEq, reduceIte, Nat.reduceAdd, Nat.reduceMul, Nat.reduceSub, Nat.add_zero, Nat.zero_add, Nat.mul_zero, Nat.zero_mul, hL.2.2.1, e1, e2, q, smN]
  · have := hl.2.2.1
    unfold F_X2_sumIn_L4
    simp (disch := omega) only [↓Lm1, L0, L1, L2, L3, L4, L5, L6, L7, L8, L9, L10, L11, L12, L13, L14, L15, L16, L17, L18, L19, L20, L27, L30, L31, L35, L36, L37, L38, L39, L40, L41, L46, L48, L51, L57, L59, L60, L82, L98, L99, L100, L102, L104, L107, L110, L119, L144, L240, L255, L256, L360, L999, L1000000, nI_val, n_lt_t, n_lt_f, n_le_t, n_le_f, n_eq_t, n_eq_f, k_le_f, m_lt_t, m_lt_f, m_le_t, m_le_f, m_eq_f, m_eq_f', nI_add, nI_mulE, nI_subE, if_true, if_false, ite_true, ite_false, or_false, false_or, or_true, true_or, or_self, and_true, true_and, and_false, false_and, not_true_eq_false, not_false_eq_true, Option.bind_some, Sum.elim_inl, Sum.elim_inr, xu_set, xset_same, xset_ne, xset_2, xset_set, upd_same, upd_ne, nbI_some, ne_eq, reduceCtorEq, reduceIte, Nat.reduceAdd, Nat.reduceMul, Nat.reduceSub, Nat.add_zero, Nat.zero_add, Nat.mul_zero, Nat.zero_mul, hL.2.2.1]
    rfl
def PrB (pr : Nat → Bool) (x : Int32) : Prop := ∀ i, i < 8 → ((xshr x (nI i) &&& nI 1 = nI 1) = (pr i = true))
theorem doF {p0 p1 : Nat} {d : DD} {sh : Nat → Nat} {pr ex : Nat → Bool} {ft : Nat → Nat} {l2 : Int32} {h : Nat} {s : xS} (hp : plc p0 p1) (hd : DdOk d) (hD : DdF p1 d s) (hpr : PrB pr l2) (hh : h < 10) (hex : ExB ex (s.2 p0 6)) (hs : ∀ i, i < d.1 → s.1 (p0 + 3) i = nI (sh i)) (hf : ∀ i, i < d.1 → s.1 (p0 + 4) i = nI (ft i)) :
    ∃ s', F_X3_doDeeds p0 p1 l2 (nI h) s = some (nI (smN (fun i => if (dnn d pr h i && !ex (d.2.1 i)) = true then sh i else 0) d.1), s') ∧ Kp (p0 + 4) (p0 + 4) s s' ∧ s'.2 = s.2 ∧ ∀ i, i < d.1 → s'.1 (p0 + 4) i = nI (nft d pr ex h ft d.1 i) := by
  have hn := hd.1
  unfold plc at hp
  refine Exists.elim (xlp_cnt (f := F_X3_doDeeds_L6 p0 p1 l2 (nI h)) (fun k a => a.1 = nI (smN (fun i => if (dnn d pr h i && !ex (d.2.1 i)) = true then sh i else 0) k) ∧ a.2.1 = nI k ∧ Kp (p0 + 4) (p0 + 4) s a.2.2 ∧ a.2.2.2 = s.2 ∧ ∀ i, i < d.1 → a.2.2.1 (p0 + 4) i = nI (nft d pr ex h ft k i)) (fun b => b.1 = nI (smN (fun i => if (dnn d pr h i && !ex (d.2.1 i)) = true then sh i else 0) d.1) ∧ Kp (p0 + 4) (p0 + 4) s b.2 ∧ b.2.2 = s.2 ∧ ∀ i, i < d.1 → b.2.1 (p0 + 4) i = nI (nft d pr ex h ft d.1 i)) d.1 (by omega) ?_ ?_ (a := (0, 0, s)) ⟨rfl, rfl, Kp.refl _ _ _, rfl, ?_⟩) ?_
  · intro i a hi ⟨ha1, ha2, hK, h2, hr⟩
    obtain ⟨a1, a2, s'⟩ := a
    dsimp only at ha1 ha2 hK h2 hr
    subst ha1; subst ha2
    obtain ⟨r1, r2, r3⟩ := hD.2 i hi
    obtain ⟨o1, o2, o3⟩ := hd.2 i hi
    have e3 : s'.1 p1 3 = nI d.1 := by rw [(hK p1 (by omega)).1]; exact hD.1
    have eh : s'.1 (p1 + 3) i = nI (d.2.2.2 i) := by rw [(hK (p1 + 3) (by omega)).1]; exact r3
    have ep : s'.1 (p1 + 1) i = nI (d.2.1 i) := by rw [(hK (p1 + 1) (by omega)).1]; exact r1
    have es : s'.1 (p0 + 3) i = nI (sh i) := by rw [(hK (p0 + 3) (by omega)).1]; exact hs i hi
    have et : (lg_cmp ((xlshr (s'.2 p0 6) (nI (d.2.1 i))) &&& (1 : Int64)) (1 : Int64) = nI 0) = (ex (d.2.1 i) = true) := by rw [h2]; exact hex.test (by omega)
    have hnr : ∀ v : Nat, (∀ j, j < d.1 → nft d pr ex h ft (i + 1) j = if j = i then v else nft d pr ex h ft i j) → ∀ j, j < d.1 → (xset s' (p0 + 4) (upd (s'.1 (p0 + 4)) i (nI v))).1 (p0 + 4) j = nI (nft d pr ex h ft (i + 1) j) := by
      intro v hv j hj
      rw [hv j hj]
      by_cases e : j = i
      · simp (disch := omega) only [↓Lm1, L0, L1, L2, L3, L4, L5, L6, L7, L8, L9, L10, L11, L12, L13, L14, L15, L16, L17, L18, L19, L20, L27, L30, L31, L35, L36, L37, L38, L39, L40, L41, L46, L48, L51, L57, L59, L60, L82, L98, L99, L100, L102, L104, L107, L110, L119, L144, L240, L255, L256, L360, L999, L1000000, nI_val, n_lt_t, n_lt_f, n_le_t, n_le_f, n_eq_t, n_eq_f, k_le_f, m_lt_t, m_lt_f, m_le_t, m_le_f, m_eq_f, m_eq_f', nI_add, nI_mulE, nI_subE, if_true, if_false, ite_true, ite_false, or_false, false_or, or_true, true_or, or_self, and_true, true_and, and_false, false_and, not_true_eq_false, not_false_eq_true, Option.bind_some, Sum.elim_inl, Sum.elim_inr, xu_set, xset_same, xset_ne, xset_2, xset_set, upd_same, upd_ne, nbI_some, ne_eq, reduceCtorEq, reduceIte, Nat.reduceAdd, Nat.reduceMul, Nat.reduceSub, Nat.add_zero, Nat.zero_add, Nat.mul_zero, Nat.zero_mul, e]
      · simp (disch := omega) only [↓Lm1, L0, L1, L2, L3, L4, L5, L6, L7, L8, L9, L10, L11, L12, L13, L14, L15, L16, L17, L18, L19, L20, L27, L30, L31, L35, L36, L37, L38, L39, L40, L41, L46, L48, L51, L57, L59, L60, L82, L98, L99, L100, L102, L104, L107, L110, L119, L144, L240, L255, L256, L360, L999, L1000000, nI_val, n_lt_t, n_lt_f, n_le_t, n_le_f, n_eq_t, n_eq_f, k_le_f, m_lt_t, m_lt_f, m_le_t, m_le_f, m_eq_f, m_eq_f', nI_add, nI_mulE, nI_subE, if_true, if_false, ite_true, ite_false, or_false, false_or, or_true, true_or, or_self, and_true, true_and, and_false, false_and, not_true_eq_false, not_false_eq_true, Option.bind_some, Sum.elim_inl, Sum.elim_inr, xu_set, xset_same, xset_ne, xset_2, xset_set, upd_same, upd_ne, nbI_some, ne_eq, reduceCtorEq, reduceIte, Nat.reduceAdd, Nat.reduceMul, Nat.reduceSub, Nat.add_zero, Nat.zero_add, Nat.mul_zero, Nat.zero_mul, e]
        exact hr j hj
    left
    unfold F_X3_doDeeds_L6
    by_cases c1 : d.2.2.2 i = h
    · by_cases c2 : pr i = true
      · have hdn : dnn d pr h i = true := by simp [dnn, c1, c2]
        by_cases c3 : ex (d.2.1 i) = true
        · refine ⟨(nI (smN (fun i => if (dnn d pr h i && !ex (d.2.1 i)) = true then sh i else 0) (i + 1)), nI (i + 1), xset s' (p0 + 4) (upd (s'.1 (p0 + 4)) i (nI 1))), ?_, rfl, rfl, hK.set _ (by omega) (by omega), h2, hnr 1 ?_⟩
          · simp (disch := omega) only [↓Lm1, L0, L1, L2, L3, L4, L5, L6, L7, L8, L9, L10, L11, L12, L13, L14, L15, L16, L17, L18, L19, L20, L27, L30, L31, L35, L36, L37, L38, L39, L40, L41, L46, L48, L51, L57, L59, L60, L82, L98, L99, L100, L102, L104, L107, L110, L119, L144, L240, L255, L256, L360, L999, L1000000, nI_val, n_lt_t, n_lt_f, n_le_t, n_le_f, n_eq_t, n_eq_f, k_le_f, m_lt_t, m_lt_f, m_le_t, m_le_f, m_eq_f, m_eq_f', nI_add, nI_mulE, nI_subE, if_true, if_false, ite_true, ite_false, or_false, false_or, or_true, true_or, or_self, and_true, true_and, and_false, false_and, not_true_eq_false, not_false_eq_true, Option.bind_some, Sum.elim_inl, Sum.elim_inr, xu_set, xset_same, xset_ne, xset_2, xset_set, upd_same, upd_ne, nbI_some, ne_eq, reduceCtorEq, reduceIte, Nat.reduceAdd, Nat.reduceMul, Nat.reduceSub, Nat.add_zero, Nat.zero_add, Nat.mul_zero, Nat.zero_mul, e3, eh, ep, es, et, c1, c2, c3, hpr i (by omega), smN, hdn, Bool.not_true, Bool.and_false, Bool.false_eq_true]
          · intro j hj
            unfold nft
            by_cases e : j = i
            · simp [e, hdn, c3]
            · simp [e, show (j < i + 1) = (j < i) from propext ⟨fun _ => by omega, fun _ => by omega⟩]
        · refine ⟨(nI (smN (fun i => if (dnn d pr h i && !ex (d.2.1 i)) = true then sh i else 0) (i + 1)), nI (i + 1), xset s' (p0 + 4) (upd (s'.1 (p0 + 4)) i (nI 0))), ?_, rfl, rfl, hK.set _ (by omega) (by omega), h2, hnr 0 ?_⟩
          · have c3' : ex (d.2.1 i) = false := by simpa using c3
            simp (disch := omega) only [↓Lm1, L0, L1, L2, L3, L4, L5, L6, L7, L8, L9, L10, L11, L12, L13, L14, L15, L16, L17, L18, L19, L20, L27, L30, L31, L35, L36, L37, L38, L39, L40, L41, L46, L48, L51, L57, L59, L60, L82, L98, L99, L100, L102, L104, L107, L110, L119, L144, L240, L255, L256, L360, L999, L1000000, nI_val, n_lt_t, n_lt_f, n_le_t, n_le_f, n_eq_t, n_eq_f, k_le_f, m_lt_t, m_lt_f, m_le_t, m_le_f, m_eq_f, m_eq_f', nI_add, nI_mulE, nI_subE, if_true, if_false, ite_true, ite_false, or_false, false_or, or_true, true_or, or_self, and_true, true_and, and_false, false_and, not_true_eq_false, not_false_eq_true, Option.bind_some, Sum.elim_inl, Sum.elim_inr, xu_set, xset_same, xset_ne, xset_2, xset_set, upd_same, upd_ne, nbI_some, ne_eq, reduceCtorEq, reduceIte, Nat.reduceAdd, Nat.reduceMul, Nat.reduceSub, Nat.add_zero, Nat.zero_add, Nat.mul_zero, Nat.zero_mul, e3, eh, ep, es, et, c1, c2, c3', hpr i (by omega), smN, hdn, Bool.not_false, Bool.and_true, Bool.false_eq_true]
          · intro j hj
            unfold nft
            by_cases e : j = i
            · simp [e, hdn, c3]
            · simp [e, show (j < i + 1) = (j < i) from propext ⟨fun _ => by omega, fun _ => by omega⟩]
      · have hdn : dnn d pr h i = false := by simp [dnn, c2]
        have hsame : ∀ j, j < d.1 → nft d pr ex h ft (i + 1) j = nft d pr ex h ft i j := by
          intro j hj
          unfold nft
          by_cases e : j = i
          · simp [e, hdn]
          · simp [show (j < i + 1) = (j < i) from propext ⟨fun _ => by omega, fun _ => by omega⟩]
        refine ⟨(nI (smN (fun i => if (dnn d pr h i && !ex (d.2.1 i)) = true then sh i else 0) (i + 1)), nI (i + 1), s'), ?_, rfl, rfl, hK, h2, fun j hj => by rw [hsame j hj]; exact hr j hj⟩
        simp (disch := omega) only [↓Lm1, L0, L1, L2, L3, L4, L5, L6, L7, L8, L9, L10, L11, L12, L13, L14, L15, L16, L17, L18, L19, L20, L27, L30, L31, L35, L36, L37, L38, L39, L40, L41, L46, L48, L51, L57, L59, L60, L82, L98, L99, L100, L102, L104, L107, L110, L119, L144, L240, L255, L256, L360, L999, L1000000, nI_val, n_lt_t, n_lt_f, n_le_t, n_le_f, n_eq_t, n_eq_f, k_le_f, m_lt_t, m_lt_f, m_le_t, m_le_f, m_eq_f, m_eq_f', nI_add, nI_mulE, nI_subE, if_true, if_false, ite_true, ite_false, or_false, false_or, or_true, true_or, or_self, and_true, true_and, and_false, false_and, not_true_eq_false, not_false_eq_true, Option.bind_some, Sum.elim_inl, Sum.elim_inr, xu_set, xset_same, xset_ne, xset_2, xset_set, upd_same, upd_ne, nbI_some, ne_eq, reduceCtorEq, reduceIte, Nat.reduceAdd, Nat.reduceMul, Nat.reduceSub, Nat.add_zero, Nat.zero_add, Nat.mul_zero, Nat.zero_mul, e3, eh, ep, es, et, c1, c2, hpr i (by omega), smN, hdn, Bool.false_and, Bool.false_eq_true]
    · have hdn : dnn d pr h i = false := by simp [dnn, c1]
      have hsame : ∀ j, j < d.1 → nft d pr ex h ft (i + 1) j = nft d pr ex h ft i j := by
        intro j hj
        unfold nft
        by_cases e : j = i
        · simp [e, hdn]
        · simp [show (j < i + 1) = (j < i) from propext ⟨fun _ => by omega, fun _ => by omega⟩]
      refine ⟨(nI (smN (fun i => if (dnn d pr h i && !ex (d.2.1 i)) = true then sh i else 0) (i + 1)), nI (i + 1), s'), ?_, rfl, rfl, hK, h2, fun j hj => by rw [hsame j hj]; exact hr j hj⟩
      simp (disch := omega) only [↓Lm1, L0, L1, L2, L3, L4, L5, L6, L7, L8, L9, L10, L11, L12, L13, L14, L15, L16, L17, L18, L19, L20, L27, L30, L31, L35, L36, L37, L38, L39, L40, L41, L46, L48, L51, L57, L59, L60, L82, L98, L99, L100, L102, L104, L107, L110, L119, L144, L240, L255, L256, L360, L999, L1000000, nI_val, n_lt_t, n_lt_f, n_le_t, n_le_f, n_eq_t, n_eq_f, k_le_f, m_lt_t, m_lt_f, m_le_t, m_le_f, m_eq_f, m_eq_f', nI_add, nI_mulE, nI_subE, if_true, if_false, ite_true, ite_false, or_false, false_or, or_true, true_or, or_self, and_true, true_and, and_false, false_and, not_true_eq_false, not_false_eq_true, Option.bind_some, Sum.elim_inl, Sum.elim_inr, xu_set, xset_same, xset_ne, xset_2, xset_set, upd_same, upd_ne, nbI_some, ne_eq, reduceCtorEq, reduceIte, Nat.reduceAdd, Nat.reduceMul, Nat.reduceSub, Nat.add_zero, Nat.zero_add, Nat.mul_zero, Nat.zero_mul, e3, eh, ep, es, et, c1, smN, hdn, Bool.false_and, Bool.false_eq_true]
  · intro a ⟨ha1, ha2, hK, h2, hr⟩
    obtain ⟨a1, a2, s'⟩ := a
    dsimp only at ha1 ha2 hK h2 hr
    subst ha1; subst ha2
    have e3 : s'.1 p1 3 = nI d.1 := by rw [(hK p1 (by omega)).1]; exact hD.1
    refine ⟨(nI (smN (fun i => if (dnn d pr h i && !ex (d.2.1 i)) = true then sh i else 0) d.1), s'), ?_, rfl, hK, h2, hr⟩
    unfold F_X3_doDeeds_L6
    simp (disch := omega) only [↓Lm1, L0, L1, L2, L3, L4, L5, L6, L7, L8, L9, L10, L11, L12, L13, L14, L15, L16, L17, L18, L19, L20, L27, L30, L31, L35, L36, L37, L38, L39, L40, L41, L46, L48, L51, L57, L59, L60, L82, L98, L99, L100, L102, L104, L107, L110, L119, L144, L240, L255, L256, L360, L999, L1000000, nI_val, n_lt_t, n_lt_f, n_le_t, n_le_f, n_eq_t, n_eq_f, k_le_f, m_lt_t, m_lt_f, m_le_t, m_le_f, m_eq_f, m_eq_f', nI_add, nI_mulE, nI_subE, if_true, if_false, ite_true, ite_false, or_false, false_or, or_true, true_or, or_self, and_true, true_and, and_false, false_and, not_true_eq_false, not_false_eq_true, Option.bind_some, Sum.elim_inl, Sum.elim_inr, xu_set, xset_same, xset_ne, xset_2, xset_set, upd_same, upd_ne, nbI_some, ne_eq, reduceCtorEq, reduceIte, Nat.reduceAdd, Nat.reduceMul, Nat.reduceSub, Nat.add_zero, Nat.zero_add, Nat.mul_zero, Nat.zero_mul, e3]
  · intro i hi
    unfold nft
    rw [if_neg (fun q => absurd q.1 (Nat.not_lt_zero i))]
    exact hf i hi
  · rintro b ⟨hx, h1, h2, h3, h4⟩
    refine ⟨b.2, ?_, h2, h3, h4⟩
    unfold F_X3_doDeeds
    rw [hx]
    show some (b.1, b.2) = _
    rw [h1]
theorem exF {p0 p1 : Nat} {d : DD} {sh : Nat → Nat} {pr ex : Nat → Bool} {ft : Nat → Nat} {l2 : Int32} {h ch : Nat} {s : xS} (hp : plc p0 p1) (hd : DdOk d) (hD : DdF p1 d s) (hpr : PrB pr l2) (hh : h < 10) (hex : ExB ex (s.2 p0 6)) (hs : ∀ i, i < d.1 → sh i ≤ 14 ∧ s.1 (p0 + 3) i = nI (sh i)) (hf : ∀ i, i < d.1 → s.1 (p0 + 4) i = nI (nft d pr ex h ft d.1 i)) (hft : ∀ i, i < d.1 → ft i ≤ 2) (hch : ch ≤ 20) (h12 : s.1 12 2 = nI ch) :
    ∃ s', F_X3_exileBy p0 p1 l2 (nI h) s = some s' ∧ Kp p0 p0 s s' ∧ s'.1 = s.1 ∧ ExB (nexA d sh pr ch ex h d.1) (s'.2 p0 6) := by
  have hn := hd.1
  unfold plc at hp
  refine Exists.elim (xlp_cnt (f := F_X3_exileBy_L3 p0 p1 l2 (nI h)) (fun k a => a.1 = nI k ∧ Kp p0 p0 s a.2 ∧ a.2.1 = s.1 ∧ ExB (nexA d sh pr ch ex h k) (a.2.2 p0 6)) (fun b => Kp p0 p0 s b ∧ b.1 = s.1 ∧ ExB (nexA d sh pr ch ex h d.1) (b.2 p0 6)) d.1 (by omega) ?_ ?_ (a := (0, s)) ⟨rfl, Kp.refl _ _ _, rfl, hex⟩) ?_
  · intro i a hi ⟨ha1, hK, h1, hx⟩
    obtain ⟨a1, s'⟩ := a
    dsimp only at ha1 hK h1 hx
    subst ha1
    obtain ⟨r1, r2, r3⟩ := hD.2 i hi
    obtain ⟨o1, o2, o3⟩ := hd.2 i hi
    obtain ⟨s14, es⟩ := hs i hi
    have ef := hf i hi
    have hfl := hft i hi
    left
    unfold F_X3_exileBy_L3 F_X3_exileBy_L3_J47 F_X3_exileBy_L3_J48
    have hsame : (dnn d pr h i && !ex (d.2.1 i) && decide (ch < sh i)) = false → ExB (nexA d sh pr ch ex h (i + 1)) (s'.2 p0 6) := by
      intro q p hp
      rw [hx p hp, nexA_s, q, Bool.false_and, Bool.or_false]
    have hft2 : nft d pr ex h ft d.1 i = if dnn d pr h i = true then (if ex (d.2.1 i) = true then 1 else 0) else ft i := by
      unfold nft
      simp [hi]
    rw [hft2] at ef
    by_cases c1 : d.2.2.2 i = h
    · by_cases c2 : pr i = true
      · have hdn : dnn d pr h i = true := by simp [dnn, c1, c2]
        rw [if_pos hdn] at ef
        by_cases c3 : ex (d.2.1 i) = true
        · rw [if_pos c3] at ef
          refine ⟨(nI (i + 1), s'), ?_, rfl, hK, h1, hsame (by simp [c3])⟩
          simp (disch := omega) only [↓Lm1, L0, L1, L2, L3, L4, L5, L6, L7, L8, L9, L10, L11, L12, L13, L14, L15, L16, L17, L18, L19, L20, L27, L30, L31, L35, L36, L37, L38, L39, L40, L41, L46, L48, L51, L57, L59, L60, L82, L98, L99, L100, L102, L104, L107, L110, L119, L144, L240, L255, L256, L360, L999, L1000000, nI_val, n_lt_t, n_lt_f, n_le_t, n_le_f, n_eq_t, n_eq_f, k_le_f, m_lt_t, m_lt_f, m_le_t, m_le_f, m_eq_f, m_eq_f', nI_add, nI_mulE, nI_subE, if_true, if_false, ite_true, ite_false, or_false, false_or, or_true, true_or, or_self, and_true, true_and, and_false, false_and, not_true_eq_false, not_false_eq_true, Option.bind_some, Sum.elim_inl, Sum.elim_inr, xu_set, xset_same, xset_ne, xset_2, xset_set, upd_same, upd_ne, nbI_some, ne_eq, reduceCtorEq, reduceIte, Nat.reduceAdd, Nat.reduceMul, Nat.reduceSub, Nat.add_zero, Nat.zero_add, Nat.mul_zero, Nat.zero_mul, h1, hD.1, r3, c1, hpr i (by omega), c2, ef]
        · rw [if_neg c3] at ef
          by_cases c4 : ch < sh i
          · refine ⟨(nI (i + 1), xul s' p0 6 ((s'.2 p0 6) ||| xlshl (1 : Int64) (nI (d.2.1 i)))), ?_, rfl, Kp_long hK (by omega) (by omega), h1, ?_⟩
            · simp (disch := omega) only [↓Lm1, L0, L1, L2, L3, L4, L5, L6, L7, L8, L9, L10, L11, L12, L13, L14, L15, L16, L17, L18, L19, L20, L27, L30, L31, L35, L36, L37, L38, L39, L40, L41, L46, L48, L51, L57, L59, L60, L82, L98, L99, L100, L102, L104, L107, L110, L119, L144, L240, L255, L256, L360, L999, L1000000, nI_val, n_lt_t, n_lt_f, n_le_t, n_le_f, n_eq_t, n_eq_f, k_le_f, m_lt_t, m_lt_f, m_le_t, m_le_f, m_eq_f, m_eq_f', nI_add, nI_mulE, nI_subE, if_true, if_false, ite_true, ite_false, or_false, false_or, or_true, true_or, or_self, and_true, true_and, and_false, false_and, not_true_eq_false, not_false_eq_true, Option.bind_some, Sum.elim_inl, Sum.elim_inr, xu_set, xset_same, xset_ne, xset_2, xset_set, upd_same, upd_ne, nbI_some, ne_eq, reduceCtorEq, reduceIte, Nat.reduceAdd, Nat.reduceMul, Nat.reduceSub, Nat.add_zero, Nat.zero_add, Nat.mul_zero, Nat.zero_mul, h1, hD.1, r3, r1, es, h12, c1, hpr i (by omega), c2, ef]
            · have e : (xul s' p0 6 ((s'.2 p0 6) ||| xlshl (1 : Int64) (nI (d.2.1 i)))).2 p0 6 = (s'.2 p0 6) ||| xlshl (1 : Int64) (nI (d.2.1 i)) := by
                show va_up s'.2 p0 (vp_updL (s'.2 p0) 6 _) p0 6 = _
                rw [va_up_self]
                simp [vp_updL]
              dsimp only
              rw [e]
              intro p hp'
              rw [hx.or (show d.2.1 i < 64 by omega) p hp', nexA_s]
              have c3' : ex (d.2.1 i) = false := by simpa using c3
              simp [hdn, c3', c4]
          · refine ⟨(nI (i + 1), s'), ?_, rfl, hK, h1, hsame (by simp [c4])⟩
            simp (disch := omega) only [↓Lm1, L0, L1, L2, L3, L4, L5, L6, L7, L8, L9, L10, L11, L12, L13, L14, L15, L16, L17, L18, L19, L20, L27, L30, L31, L35, L36, L37, L38, L39, L40, L41, L46, L48, L51, L57, L59, L60, L82, L98, L99, L100, L102, L104, L107, L110, L119, L144, L240, L255, L256, L360, L999, L1000000, nI_val, n_lt_t, n_lt_f, n_le_t, n_le_f, n_eq_t, n_eq_f, k_le_f, m_lt_t, m_lt_f, m_le_t, m_le_f, m_eq_f, m_eq_f', nI_add, nI_mulE, nI_subE, if_true, if_false, ite_true, ite_false, or_false, false_or, or_true, true_or, or_self, and_true, true_and, and_false, false_and, not_true_eq_false, not_false_eq_true, Option.bind_some, Sum.elim_inl, Sum.elim_inr, xu_set, xset_same, xset_ne, xset_2, xset_set, upd_same, upd_ne, nbI_some, ne_eq, reduceCtorEq, reduceIte, Nat.reduceAdd, Nat.reduceMul, Nat.reduceSub, Nat.add_zero, Nat.zero_add, Nat.mul_zero, Nat.zero_mul, h1, hD.1, r3, es, h12, c1, hpr i (by omega), c2, ef]
      · have hdn : dnn d pr h i = false := by simp [dnn, c2]
        refine ⟨(nI (i + 1), s'), ?_, rfl, hK, h1, hsame (by simp [hdn])⟩
        simp (disch := omega) only [↓Lm1, L0, L1, L2, L3, L4, L5, L6, L7, L8, L9, L10, L11, L12, L13, L14, L15, L16, L17, L18, L19, L20, L27, L30, L31, L35, L36, L37, L38, L39, L40, L41, L46, L48, L51, L57, L59, L60, L82, L98, L99, L100, L102, L104, L107, L110, L119, L144, L240, L255, L256, L360, L999, L1000000, nI_val, n_lt_t, n_lt_f, n_le_t, n_le_f, n_eq_t, n_eq_f, k_le_f, m_lt_t, m_lt_f, m_le_t, m_le_f, m_eq_f, m_eq_f', nI_add, nI_mulE, nI_subE, if_true, if_false, ite_true, ite_false, or_false, false_or, or_true, true_or, or_self, and_true, true_and, and_false, false_and, not_true_eq_false, not_false_eq_true, Option.bind_some, Sum.elim_inl, Sum.elim_inr, xu_set, xset_same, xset_ne, xset_2, xset_set, upd_same, upd_ne, nbI_some, ne_eq, reduceCtorEq, reduceIte, Nat.reduceAdd, Nat.reduceMul, Nat.reduceSub, Nat.add_zero, Nat.zero_add, Nat.mul_zero, Nat.zero_mul, h1, hD.1, r3, c1, hpr i (by omega), c2, Bool.false_eq_true]
    · have hdn : dnn d pr h i = false := by simp [dnn, c1]
      refine ⟨(nI (i + 1), s'), ?_, rfl, hK, h1, hsame (by simp [hdn])⟩
      simp (disch := omega) only [↓Lm1, L0, L1, L2, L3, L4, L5, L6, L7, L8, L9, L10, L11, L12, L13, L14, L15, L16, L17, L18, L19, L20, L27, L30, L31, L35, L36, L37, L38, L39, L40, L41, L46, L48, L51, L57, L59, L60, L82, L98, L99, L100, L102, L104, L107, L110, L119, L144, L240, L255, L256, L360, L999, L1000000, nI_val, n_lt_t, n_lt_f, n_le_t, n_le_f, n_eq_t, n_eq_f, k_le_f, m_lt_t, m_lt_f, m_le_t, m_le_f, m_eq_f, m_eq_f', nI_add, nI_mulE, nI_subE, if_true, if_false, ite_true, ite_false, or_false, false_or, or_true, true_or, or_self, and_true, true_and, and_false, false_and, not_true_eq_false, not_false_eq_true, Option.bind_some, Sum.elim_inl, Sum.elim_inr, xu_set, xset_same, xset_ne, xset_2, xset_set, upd_same, upd_ne, nbI_some, ne_eq, reduceCtorEq, reduceIte, Nat.reduceAdd, Nat.reduceMul, Nat.reduceSub, Nat.add_zero, Nat.zero_add, Nat.mul_zero, Nat.zero_mul, h1, hD.1, r3, c1]
  · intro a ⟨ha1, hK, h1, hx⟩
    obtain ⟨a1, s'⟩ := a
    dsimp only at ha1 hK h1 hx
    subst ha1
    refine ⟨s', ?_, hK, h1, hx⟩
    unfold F_X3_exileBy_L3
    simp (disch := omega) only [↓Lm1, L0, L1, L2, L3, L4, L5, L6, L7, L8, L9, L10, L11, L12, L13, L14, L15, L16, L17, L18, L19, L20, L27, L30, L31, L35, L36, L37, L38, L39, L40, L41, L46, L48, L51, L57, L59, L60, L82, L98, L99, L100, L102, L104, L107, L110, L119, L144, L240, L255, L256, L360, L999, L1000000, nI_val, n_lt_t, n_lt_f, n_le_t, n_le_f, n_eq_t, n_eq_f, k_le_f, m_lt_t, m_lt_f, m_le_t, m_le_f, m_eq_f, m_eq_f', nI_add, nI_mulE, nI_subE, if_true, if_false, ite_true, ite_false, or_false, false_or, or_true, true_or, or_self, and_true, true_and, and_false, false_and, not_true_eq_false, not_false_eq_true, Option.bind_some, Sum.elim_inl, Sum.elim_inr, xu_set, xset_same, xset_ne, xset_2, xset_set, upd_same, upd_ne, nbI_some, ne_eq, reduceCtorEq, reduceIte, Nat.reduceAdd, Nat.reduceMul, Nat.reduceSub, Nat.add_zero, Nat.zero_add, Nat.mul_zero, Nat.zero_mul, h1, hD.1]
  · rintro b ⟨hx, h1, h2, h3⟩
    refine ⟨b, ?_, h1, h2, h3⟩
    unfold F_X3_exileBy
    rw [hx]
    rfl
