/-! ===== the town as a graph ===== -/
/-- the neighbour on a side, of N cells in rows of W -/
def nbr (N W i : Nat) (k : Nat) : Option Nat := match k with
  | 0 => if W ≤ i then some (i - W) else none
  | 1 => if i % W + 1 < W then some (i + 1) else none
  | 2 => if i + W < N then some (i + W) else none
  | _ => if 0 < i % W then some (i - 1) else none
def adj (N W i j : Nat) : Prop := i < N ∧ ∃ k, k < 4 ∧ nbr N W i k = some j
/-- full rows -/
def tgrid (N W : Nat) : Prop := N ≤ 36 ∧ (0 < N → 0 < W) ∧ ∃ r, N = r * W
theorem nbr_lt {N W i k j : Nat} (hg : tgrid N W) (hi : i < N) (h : nbr N W i k = some j) : j < N := by
  obtain ⟨h1, h2, r, hr⟩ := hg
  have hW := h2 (by omega)
  unfold nbr at h
  split at h
  · split at h
    · cases h; omega
    · cases h
  · split at h
    · rename_i hm
      cases h
      have hd := Nat.div_add_mod i W
      have hq : i / W < r := by
        rw [Nat.div_lt_iff_lt_mul hW, ← hr]
        exact hi
      have : W * (i / W) + W ≤ W * r := by
        rw [← Nat.mul_succ]
        exact Nat.mul_le_mul_left W hq
      rw [Nat.mul_comm r W] at hr
      omega
    · cases h
  · split at h
    · cases h; omega
    · cases h
  · split at h
    · cases h; omega
    · cases h
theorem adj_lt {N W i j : Nat} (hg : tgrid N W) (h : adj N W i j) : j < N := by
  obtain ⟨hi, k, -, h⟩ := h
  exact nbr_lt hg hi h
/-- a neighbour as an int -/
def nbI (o : Option Nat) : Int32 := match o with
  | some j => nI j
  | none => -1
/-- the least that is lost by one of the neighbours, side by side -/
def lbs (N W : Nat) (f w : Nat → Nat) (F at_ : Nat) : Nat → Nat
  | 0 => F
  | k + 1 => match nbr N W at_ k with
    | none => lbs N W f w F at_ k
    | some n => if f n + w n < lbs N W f w F at_ k then f n + w n else lbs N W f w F at_ k
theorem lbs_none {N W : Nat} {f w : Nat → Nat} {F c k : Nat} (h : nbr N W c k = none) : lbs N W f w F c (k + 1) = lbs N W f w F c k := by
  show (match nbr N W c k with | none => lbs N W f w F c k | some n => if f n + w n < lbs N W f w F c k then f n + w n else lbs N W f w F c k) = _
  rw [h]
theorem lbs_some {N W : Nat} {f w : Nat → Nat} {F c k n : Nat} (h : nbr N W c k = some n) : lbs N W f w F c (k + 1) = if f n + w n < lbs N W f w F c k then f n + w n else lbs N W f w F c k := by
  show (match nbr N W c k with | none => lbs N W f w F c k | some n => if f n + w n < lbs N W f w F c k then f n + w n else lbs N W f w F c k) = _
  rw [h]
theorem nbI_some (n : Nat) : nbI (some n) = nI n := rfl
theorem nbI_none : nbI none = -1 := rfl
theorem lbs_le {N W : Nat} {f w : Nat → Nat} {F c : Nat} : ∀ k, lbs N W f w F c k ≤ F
  | 0 => Nat.le_refl _
  | k + 1 => by
    unfold lbs
    have := lbs_le (N := N) (W := W) (f := f) (w := w) (F := F) (c := c) k
    split
    · exact this
    · split <;> omega
theorem lbs_nb {N W : Nat} {f w : Nat → Nat} {F c : Nat} : ∀ (k j n : Nat), j < k → nbr N W c j = some n → lbs N W f w F c k ≤ f n + w n
  | 0, j, n, h, _ => by omega
  | k + 1, j, n, h, e => by
    unfold lbs
    by_cases hj : j = k
    · subst hj
      rw [e]
      simp only
      split <;> omega
    · have := lbs_nb (f := f) (w := w) (F := F) k j n (by omega) e
      split
      · exact this
      · split <;> omega
theorem lbs_is {N W : Nat} {f w : Nat → Nat} {F c : Nat} : ∀ (k : Nat), lbs N W f w F c k = F ∨ ∃ j n, j < k ∧ nbr N W c j = some n ∧ lbs N W f w F c k = f n + w n
  | 0 => Or.inl rfl
  | k + 1 => by
    unfold lbs
    rcases lbs_is (N := N) (W := W) (f := f) (w := w) (F := F) (c := c) k with h | ⟨j, n, h1, h2, h3⟩
    · split
      · exact Or.inl h
      · rename_i n hn
        split
        · exact Or.inr ⟨k, n, by omega, hn, rfl⟩
        · exact Or.inl h
    · split
      · exact Or.inr ⟨j, n, by omega, h2, h3⟩
      · rename_i m hm
        split
        · exact Or.inr ⟨k, m, by omega, hm, rfl⟩
        · exact Or.inr ⟨j, n, by omega, h2, h3⟩
/-- the class's town -/
def TwF (s : xS) (N W : Nat) (kd : Nat → Nat) : Prop := tgrid N W ∧ s.1 5 2 = nI N ∧ s.1 5 3 = nI W ∧ W ≤ 6 ∧ (∀ i, i < N → kd i ≤ 3 ∧ s.1 6 i = nI (kd i)) ∧ ∀ i k, i < N → k < 4 → s.1 7 (i * 4 + k) = nbI (nbr N W i k)
/-- a row that holds numbers up to N -/
def rowN (N : Nat) (g : Nat → Nat) (r : Nat → Int32) (j : Nat) : Int32 := if j < N then nI (g j) else r j
/-- least beside a cell -/
theorem leastBeside_eq {p : Nat} {s : xS} {N W : Nat} {kd : Nat → Nat} {f w : Nat → Nat} (hT : TwF s N W kd) (hf : ∀ j, j < N → f j ≤ 1000000 ∧ s.1 (p + 2) j = nI (f j)) (hw : ∀ j, j < N → w j ≤ 1000000 ∧ s.1 (p + 1) j = nI (w j)) {c : Nat} (hc : c < N) :
    F_X4_leastBeside p (nI c) s = some (nI (lbs N W f w 1000000 c 4)) := by
  obtain ⟨hg, -, -, -, -, hb⟩ := hT
  have hN := hg.1
  unfold F_X4_leastBeside
  rw [xlp_for0 (fun k => (nI (lbs N W f w 1000000 c k), nI k)) 4 (b := nI (lbs N W f w 1000000 c 4)) (by omega)]
  · rfl
  · intro k hk
    have hlk := lbs_le (N := N) (W := W) (f := f) (w := w) (F := 1000000) (c := c) k
    unfold F_X4_leastBeside_L6
    dsimp only
    have e4 : nI c * 4 + nI k = nI (c * 4 + k) := by rw [L4, pk_mul, nI_add]
    have ev : (nI (c * 4 + k)).toNatClampNeg = c * 4 + k := nI_val (by omega)
    rw [L4, if_neg (nI_ge hk (by omega)), ← L4, e4, if_neg (nI_in' (i := c * 4 + k) (n := 144) (by omega) (by omega)), ev, hb c k hc hk]
    cases hn : nbr N W c k with
    | none =>
      rw [nbI_none, if_pos rfl, nI_1, lbs_none hn]
    | some n =>
      have hnN := nbr_lt hg hc hn
      obtain ⟨f1, f2⟩ := hf n hnN
      obtain ⟨w1, w2⟩ := hw n hnN
      have ho : ¬ (nI n < 0 ∨ 36 ≤ (nI n).toNatClampNeg) := nI_in' (by omega) (by omega)
      rw [lbs_some hn, nbI_some, if_neg (nI_m1 (show n < 2 ^ 31 by omega)), if_neg ho, if_neg ho, nI_val (show n < 2 ^ 31 by omega), f2, w2, nI_add]
      by_cases h : f n + w n < lbs N W f w 1000000 c k
      · have ho2 : ¬ (nI n < 0 ∨ 36 ≤ n) := fun z => z.elim (fun q => nI_pos (by omega) q) (by omega)
        rw [if_neg (nI_ge h (by omega)), if_neg ho2, if_neg ho2, if_pos h, nI_1]
      · rw [if_pos (nI_le (by omega) (by omega)), if_neg h, nI_1]
  · rfl
  · rfl
