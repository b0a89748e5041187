/-! ===== tolls, what is left of a noise, signs ===== -/
theorem tolls_eq {p N W : Nat} {s : xS} {kd : Nat → Nat} (hp : 7 < p) (hT : TwF s N W kd) : F_X4_takeTolls p s = some (xset s (p + 1) (rowN N (fun j => tl (kd j)) (s.1 (p + 1)))) := by
  obtain ⟨hg, h2, h3, h4, h5, h6⟩ := hT
  have hN := hg.1
  unfold F_X4_takeTolls
  rw [xlp_for0 (fun i => (nI i, xset s (p + 1) (rowN i (fun j => tl (kd j)) (s.1 (p + 1))))) N (b := xset s (p + 1) (rowN N (fun j => tl (kd j)) (s.1 (p + 1)))) (by omega)]
  · rfl
  · intro i hi
    obtain ⟨k3, ek⟩ := h5 i hi
    have ho : ¬ (nI i < 0 ∨ 36 ≤ (nI i).toNatClampNeg) := nI_in' (by omega) (by omega)
    unfold F_X4_takeTolls_L2
    dsimp only
    rw [xset_ne _ _ (show (5 : Nat) ≠ p + 1 by omega), xset_ne _ _ (show (6 : Nat) ≠ p + 1 by omega), h2, if_neg (nI_ge hi (by omega)), if_neg ho, nI_val (show i < 2 ^ 31 by omega), ek]
    have ho2 : ¬ (nI i < 0 ∨ 36 ≤ i) := fun z => z.elim (fun q => nI_pos (by omega) q) (by omega)
    rw [if_neg (nI_in' (i := kd i) (n := 4) (by omega) (by omega)), if_neg ho2, nI_val (show kd i < 2 ^ 31 by omega)]
    have er : xra 1000 (kd i) = nI (tl (kd i)) := by
      match kd i, k3 with
      | 0, _ => rfl
      | 1, _ => rfl
      | 2, _ => rfl
      | 3, _ => rfl
    rw [er, xu_set, xset_same, xset_set, nI_1]
    congr 4
    funext j
    by_cases e : j = i
    · subst e; simp [upd, rowN]
    · simp only [upd, e, if_false, rowN]
      by_cases h : j < i
      · simp [h, show j < i + 1 by omega]
      · simp [h, show ¬ j < i + 1 by omega]
  · unfold F_X4_takeTolls_L2
    dsimp only
    rw [xset_ne _ _ (show (5 : Nat) ≠ p + 1 by omega), h2, if_pos (nI_le (Nat.le_refl _) (by omega))]
  · congr 1
    exact (xset_id s (p + 1) (by funext j; simp [rowN])).symm
/-- a sign of a cell -/
def kdOf (b : Int32) : Option Nat := if b = 46 then some 0 else if b = 104 then some 1 else if b = 102 then some 2 else if b = 98 then some 3 else none
/-- a sign of a deed -/
def acOf (b : Int32) : Option Nat := if b = 119 then some 0 else if b = 99 then some 1 else if b = 107 then some 2 else if b = 110 then some 3 else none
theorem idx_s (p : Nat) (b : Int32) (s : xS) : F_J0_indexOf_0f7a4 p b s = F_J0_indexOf_0f7a4 p b xM0 := rfl
set_option maxRecDepth 100000 in
theorem idx_town0 : ∀ n, n < 256 → F_J0_indexOf_0f7a4 1002 (((nI n)).toUInt32 % 65536).toInt32 xM0 = some (nbI (kdOf (nI n))) := by decide +kernel
set_option maxRecDepth 100000 in
theorem idx_deed0 : ∀ n, n < 256 → F_J0_indexOf_0f7a4 1003 (((nI n)).toUInt32 % 65536).toInt32 xM0 = some (nbI (acOf (nI n))) := by decide +kernel
theorem idx_town {b : Int32} {s : xS} (h : 0 ≤ b.toInt ∧ b.toInt < 256) : F_J0_indexOf_0f7a4 1002 ((b).toUInt32 % 65536).toInt32 s = some (nbI (kdOf b)) := by
  rw [idx_s, i_of h.1]
  exact idx_town0 _ (by omega)
theorem idx_deed {b : Int32} {s : xS} (h : 0 ≤ b.toInt ∧ b.toInt < 256) : F_J0_indexOf_0f7a4 1003 ((b).toUInt32 % 65536).toInt32 s = some (nbI (acOf b)) := by
  rw [idx_s, i_of h.1]
  exact idx_deed0 _ (by omega)
theorem kindOf_eq (b : Int32) (s : xS) : F_X9_kindOf b s = some (nbI (kdOf b)) := by
  unfold F_X9_kindOf kdOf
  by_cases h1 : b = 46
  · rw [if_pos h1, if_pos h1]; rfl
  · rw [if_neg h1, if_neg h1]
    by_cases h2 : b = 104
    · rw [if_pos h2, if_pos h2]; rfl
    · rw [if_neg h2, if_neg h2]
      by_cases h3 : b = 102
      · rw [if_pos h3, if_pos h3]; rfl
      · rw [if_neg h3, if_neg h3]
        by_cases h4 : b = 98
        · rw [if_pos h4, if_pos h4]; rfl
        · rw [if_neg h4, if_neg h4]; rfl
theorem kdOf_le {b : Int32} {k : Nat} (h : kdOf b = some k) : k ≤ 3 := by
  unfold kdOf at h
  split at h
  · cases h; omega
  · split at h
    · cases h; omega
    · split at h
      · cases h; omega
      · split at h
        · cases h; omega
        · cases h
/-! ===== a town's text, sign by sign ===== -/
/-- row, column, cells, width of the first row, bed, kinds -/
abbrev PS : Type := Nat × Nat × Nat × Nat × Option Nat × (Nat → Nat)
def pstep (b : Int32) (st : PS) : Option PS :=
  if st.1 = 6 then none
  else if b = 59 then (if st.2.1 = 0 ∨ (0 < st.1 ∧ st.2.1 < st.2.2.2.1) then none else some (st.1 + 1, 0, st.2.2.1, if st.1 = 0 then st.2.1 else st.2.2.2.1, st.2.2.2.2.1, st.2.2.2.2.2))
  else match kdOf b with
    | none => none
    | some k => if st.2.1 = (if st.1 = 0 then 6 else st.2.2.2.1) then none else if k = 3 ∧ st.2.2.2.2.1 ≠ none then none
      else some (st.1, st.2.1 + 1, st.2.2.1 + 1, st.2.2.2.1, if k = 3 then some st.2.2.1 else st.2.2.2.2.1, fun j => if j = st.2.2.1 then k else st.2.2.2.2.2 j)
def p0 : PS := (0, 0, 0, 0, none, fun _ => 0)
/-- behind i signs: a state, or the place of the first fault -/
def prun (t : Nat → Int32) : Nat → PS ⊕ Nat
  | 0 => .inl p0
  | i + 1 => match prun t i with
    | .inr k => .inr k
    | .inl st => match pstep (t i) st with
      | none => .inr i
      | some st' => .inl st'
def PInv (st : PS) : Prop := st.1 ≤ 6 ∧ (st.1 = 0 → st.2.2.1 = st.2.1 ∧ st.2.1 ≤ 6) ∧ (0 < st.1 → 1 ≤ st.2.2.2.1 ∧ st.2.2.2.1 ≤ 6 ∧ st.2.2.1 = st.1 * st.2.2.2.1 + st.2.1 ∧ st.2.1 ≤ st.2.2.2.1) ∧ (st.1 = 6 → st.2.1 = 0) ∧ (∀ j, j < st.2.2.1 → st.2.2.2.2.2 j ≤ 3 ∧ (st.2.2.2.2.2 j = 3 ↔ st.2.2.2.2.1 = some j)) ∧ (∀ j, st.2.2.2.2.1 = some j → j < st.2.2.1)
theorem PInv0 : PInv p0 := ⟨by decide, fun _ => ⟨rfl, by decide⟩, fun h => absurd h (by decide), fun h => absurd h (by decide), fun j h => absurd h (Nat.not_lt_zero j), fun j h => by cases h⟩
theorem PInv.n_le {st : PS} (h : PInv st) : st.2.2.1 ≤ 36 := by
  obtain ⟨h1, h2, h3, h4, -⟩ := h
  by_cases h0 : st.1 = 0
  · have := h2 h0; omega
  · obtain ⟨a, b, c, d⟩ := h3 (by omega)
    by_cases h6 : st.1 = 6
    · have e := h4 h6
      rw [h6, e] at c
      omega
    · have : st.1 * st.2.2.2.1 ≤ 5 * 6 := Nat.mul_le_mul (by omega) b
      omega
theorem PInv.step {st st' : PS} {b : Int32} (h : PInv st) (e : pstep b st = some st') : PInv st' := by
  obtain ⟨r, c, n, w, bd, kd⟩ := st
  obtain ⟨h1, h2, h3, h4, h5, h6⟩ := h
  unfold pstep at e
  dsimp only at e h1 h2 h3 h4 h5 h6
  split at e
  · cases e
  · rename_i hr6
    split at e
    · split at e
      · cases e
      · rename_i hc
        cases e
        refine ⟨by show r + 1 ≤ 6; omega, (fun h => absurd h (by show ¬ r + 1 = 0; omega)), fun _ => ?_, fun _ => rfl, h5, h6⟩
        show 1 ≤ (if r = 0 then c else w) ∧ (if r = 0 then c else w) ≤ 6 ∧ n = (r + 1) * (if r = 0 then c else w) + 0 ∧ 0 ≤ (if r = 0 then c else w)
        by_cases h0 : r = 0
        · have := h2 h0
          simp only [h0, if_true]
          omega
        · obtain ⟨a1, a2, a3, a4⟩ := h3 (by omega)
          simp only [h0, if_false]
          rw [Nat.succ_mul]
          omega
    · split at e
      · cases e
      · rename_i k hk
        by_cases hcm : c = (if r = 0 then 6 else w)
        · rw [if_pos hcm] at e
          cases e
        · rw [if_neg hcm] at e
          by_cases hbd : k = 3 ∧ bd ≠ none
          · rw [if_pos hbd] at e
            cases e
          · rw [if_neg hbd] at e
            cases e
            have hk3 := kdOf_le hk
            refine ⟨h1, fun h => ?_, fun h => ?_, fun h => absurd h hr6, fun j hj => ?_, fun j hj => ?_⟩
            · have h : r = 0 := h
              have := h2 h
              rw [if_pos h] at hcm
              show n + 1 = c + 1 ∧ c + 1 ≤ 6
              omega
            · have h : 0 < r := h
              obtain ⟨a1, a2, a3, a4⟩ := h3 h
              rw [if_neg (by omega)] at hcm
              show 1 ≤ w ∧ w ≤ 6 ∧ n + 1 = r * w + (c + 1) ∧ c + 1 ≤ w
              omega
            · have hj : j < n + 1 := hj
              show (if j = n then k else kd j) ≤ 3 ∧ ((if j = n then k else kd j) = 3 ↔ (if k = 3 then some n else bd) = some j)
              by_cases e1 : j = n
              · subst e1
                simp only [if_true]
                refine ⟨hk3, ?_⟩
                by_cases k3 : k = 3
                · simp [k3]
                · simp only [k3, if_false, false_iff]
                  intro q
                  have := h6 j q
                  omega
              · simp only [e1, if_false]
                have hj' : j < n := by omega
                obtain ⟨a1, a2⟩ := h5 j hj'
                refine ⟨a1, ?_⟩
                by_cases k3 : k = 3
                · have hb0 : bd = none := Classical.byContradiction fun q => hbd ⟨k3, q⟩
                  rw [if_pos k3]
                  constructor
                  · intro q
                    rw [hb0] at a2
                    exact absurd (a2.mp q) (by simp)
                  · intro q
                    exact absurd (Option.some.inj q).symm e1
                · rw [if_neg k3]
                  exact a2
            · have hj : (if k = 3 then some n else bd) = some j := hj
              show j < n + 1
              by_cases k3 : k = 3
              · rw [if_pos k3] at hj
                cases hj
                omega
              · rw [if_neg k3] at hj
                have := h6 j hj
                omega
theorem prun_inv {t : Nat → Int32} : ∀ (i : Nat) (st : PS), prun t i = .inl st → PInv st
  | 0, st, h => by cases h; exact PInv0
  | i + 1, st, h => by
    unfold prun at h
    split at h
    · cases h
    · rename_i st0 h0
      split at h
      · cases h
      · rename_i st' h1
        cases h
        exact (prun_inv i st0 h0).step h1
