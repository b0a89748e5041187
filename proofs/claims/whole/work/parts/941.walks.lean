/-! ===== walks, and least costs ===== -/
/-- k steps from a to b, each paid for in the cell that is come into -/
def Wk (adj : Nat → Nat → Prop) (w : Nat → Nat) : Nat → Nat → Nat → Nat → Prop
  | 0, a, b, c => a = b ∧ c = 0
  | k + 1, a, b, c => ∃ n c', adj a n ∧ Wk adj w k n b c' ∧ c = c' + w n
/-- f is the least cost to t, cut at F -/
def Mn (adj : Nat → Nat → Prop) (w : Nat → Nat) (N t F : Nat) (f : Nat → Nat) : Prop := ∀ c, c < N → f c ≤ F ∧ (f c = F ∨ ∃ k, Wk adj w k c t (f c)) ∧ ∀ k x, Wk adj w k c t x → f c ≤ x
section WALKS
variable {adj : Nat → Nat → Prop} {w : Nat → Nat} {N t F : Nat} {f g : Nat → Nat}
theorem Mn.cap {F1 F2 : Nat} {f1 f2 : Nat → Nat} (h1 : Mn adj w N t F1 f1) (h2 : Mn adj w N t F2 f2) (hF : F1 ≤ F2) {c : Nat} (hc : c < N) : f1 c = min F1 (f2 c) := by
  obtain ⟨a1, a2, a3⟩ := h1 c hc
  obtain ⟨b1, b2, b3⟩ := h2 c hc
  have e1 : min F1 (f2 c) ≤ f1 c := by
    rcases a2 with q | ⟨k, q⟩
    · rw [q]; exact Nat.min_le_left _ _
    · exact Nat.le_trans (Nat.min_le_right _ _) (b3 k _ q)
  have e2 : f1 c ≤ min F1 (f2 c) := by
    refine Nat.le_min.mpr ⟨a1, ?_⟩
    rcases b2 with q | ⟨k, q⟩
    · omega
    · exact a3 k _ q
  omega
/-- what is relaxed lies below every walk -/
theorem Wk.below (ht : f t = 0) (hr : ∀ c n, c < N → adj c n → f c ≤ f n + w n) (hn : ∀ c n, adj c n → n < N) : ∀ (k c x : Nat), c < N → Wk adj w k c t x → f c ≤ x
  | 0, c, x, _, h => by rw [h.1, ht]; exact Nat.zero_le _
  | k + 1, c, x, hc, h => by
    obtain ⟨n, c', h1, h2, rfl⟩ := h
    have h3 := Wk.below ht hr hn k n c' (hn c n h1) h2
    have h4 := hr c n hc h1
    omega
theorem Wk.snoc : ∀ {k a b c : Nat} {n : Nat}, Wk adj w k a b c → adj b n → Wk adj w (k + 1) a n (c + w n)
  | 0, a, b, c, n, h, hb => by
    obtain ⟨rfl, rfl⟩ := h
    exact ⟨n, 0, hb, ⟨rfl, rfl⟩, rfl⟩
  | k + 1, a, b, c, n, h, hb => by
    obtain ⟨m, c', h1, h2, rfl⟩ := h
    exact ⟨m, c' + w n, h1, Wk.snoc h2 hb, by omega⟩
theorem Wk.app : ∀ {i j a m b c1 c2 : Nat}, Wk adj w i a m c1 → Wk adj w j m b c2 → Wk adj w (i + j) a b (c1 + c2)
  | 0, j, a, m, b, c1, c2, h1, h2 => by
    obtain ⟨rfl, rfl⟩ := h1
    rw [Nat.zero_add, Nat.zero_add]
    exact h2
  | i + 1, j, a, m, b, c1, c2, h1, h2 => by
    obtain ⟨n, c', g1, g2, rfl⟩ := h1
    rw [show i + 1 + j = (i + j) + 1 by omega]
    exact ⟨n, c' + c2, g1, Wk.app g2 h2, by omega⟩
/-- the costs along a row of cells -/
def wsm (w : Nat → Nat) (v : Nat → Nat) : Nat → Nat
  | 0 => 0
  | k + 1 => wsm w v k + w (v (k + 1))
theorem wsm_mono {v : Nat → Nat} {i j : Nat} (h : i ≤ j) : wsm w v i ≤ wsm w v j := by
  induction h with
  | refl => exact Nat.le_refl _
  | step _ ih => exact Nat.le_trans ih (Nat.le_add_right _ _)
theorem wsm_shift {v : Nat → Nat} (k : Nat) : wsm w v (k + 1) = wsm w (fun i => v (i + 1)) k + w (v 1) := by
  induction k with
  | zero => simp [wsm]
  | succ k ih =>
    show wsm w v (k + 1) + w (v (k + 1 + 1)) = _
    rw [ih]
    show _ = wsm w (fun i => v (i + 1)) k + w (v (k + 1 + 1)) + w (v 1)
    omega
theorem Wk.seq : ∀ {k a b c : Nat}, Wk adj w k a b c → ∃ v : Nat → Nat, v 0 = a ∧ v k = b ∧ (∀ i, i < k → adj (v i) (v (i + 1))) ∧ c = wsm w v k
  | 0, a, b, c, h => ⟨fun _ => a, rfl, h.1, fun i hi => by omega, h.2⟩
  | k + 1, a, b, c, h => by
    obtain ⟨n, c', h1, h2, rfl⟩ := h
    obtain ⟨v, e0, e1, e2, e3⟩ := Wk.seq h2
    refine ⟨fun i => if i = 0 then a else v (i - 1), rfl, ?_, ?_, ?_⟩
    · simp [e1]
    · intro i hi
      by_cases h0 : i = 0
      · subst h0
        simpa [e0] using h1
      · have := e2 (i - 1) (by omega)
        simp only [h0, if_false, Nat.add_eq_zero_iff, Nat.succ_ne_self, and_false, Nat.add_sub_cancel]
        rw [show i - 1 + 1 = i by omega] at this
        simpa using this
    · rw [wsm_shift]
      simp only [Nat.add_eq_zero_iff, Nat.succ_ne_self, and_false, if_false, Nat.add_sub_cancel]
      rw [e3]
      simp [e0]
theorem Wk.of_seq {v : Nat → Nat} : ∀ (k i : Nat), (∀ j, i ≤ j → j < i + k → adj (v j) (v (j + 1))) → Wk adj w k (v i) (v (i + k)) (wsm w v (i + k) - wsm w v i)
  | 0, i, _ => ⟨rfl, by simp⟩
  | k + 1, i, h => by
    have h1 := Wk.of_seq (v := v) k i (fun j a b => h j a (by omega))
    have h2 := Wk.snoc h1 (h (i + k) (by omega) (by omega))
    have h3 : wsm w v i ≤ wsm w v (i + k) := wsm_mono (by omega)
    have e : wsm w v (i + (k + 1)) - wsm w v i = wsm w v (i + k) - wsm w v i + w (v (i + k + 1)) := by
      show wsm w v (i + k) + w (v (i + k + 1)) - wsm w v i = _
      omega
    rw [e]
    exact h2
theorem pigeon : ∀ (N : Nat) (f : Nat → Nat) (m : Nat), (∀ j, j ≤ m → f j < N) → (∀ i j, i ≤ m → j ≤ m → f i = f j → i = j) → m < N
  | 0, f, m, h, _ => absurd (h 0 (Nat.zero_le m)) (by omega)
  | N + 1, f, m, h, hi => by
    cases m with
    | zero => omega
    | succ m =>
      have := pigeon N (fun j => if f j = N then f (m + 1) else f j) m (fun j hj => by
        show (if f j = N then f (m + 1) else f j) < N
        by_cases e : f j = N
        · rw [if_pos e]
          have h1 := h (m + 1) (Nat.le_refl _)
          have h2 : f (m + 1) ≠ N := fun z => absurd (hi j (m + 1) (by omega) (Nat.le_refl _) (e.trans z.symm)) (by omega)
          omega
        · rw [if_neg e]
          have := h j (by omega)
          omega) (fun i j h1 h2 (e : (if f i = N then f (m + 1) else f i) = (if f j = N then f (m + 1) else f j)) => by
        by_cases e1 : f i = N
        · by_cases e2 : f j = N
          · exact hi i j (by omega) (by omega) (e1.trans e2.symm)
          · rw [if_pos e1, if_neg e2] at e
            exact absurd (hi (m + 1) j (Nat.le_refl _) (by omega) e) (by omega)
        · by_cases e2 : f j = N
          · rw [if_neg e1, if_pos e2] at e
            exact absurd (hi i (m + 1) (by omega) (Nat.le_refl _) e) (by omega)
          · rw [if_neg e1, if_neg e2] at e
            exact hi i j (by omega) (by omega) e)
      omega
/-- every walk can be had in fewer steps than there are cells -/
theorem Wk.short (hn : ∀ c n, adj c n → n < N) : ∀ (k a b c : Nat), a < N → Wk adj w k a b c → ∃ j c', j < N ∧ c' ≤ c ∧ Wk adj w j a b c' := by
  intro k
  induction k using Nat.strongRecOn with
  | ind k ih =>
    intro a b c ha h
    by_cases hk : k < N
    · exact ⟨k, c, hk, Nat.le_refl _, h⟩
    · obtain ⟨v, e0, e1, e2, e3⟩ := Wk.seq h
      have hv : ∀ j, j ≤ k → v j < N := fun j hj => by
        cases j with
        | zero => rw [e0]; exact ha
        | succ j => exact hn _ _ (e2 j (by omega))
      have hd : ∃ i j, i ≤ k ∧ j ≤ k ∧ i < j ∧ v i = v j := by
        apply Classical.byContradiction
        intro hno
        refine hk (pigeon N v k hv (fun i j hi hj e => ?_))
        rcases Nat.lt_trichotomy i j with q | q | q
        · exact absurd ⟨i, j, hi, hj, q, e⟩ hno
        · exact q
        · exact absurd ⟨j, i, hj, hi, q, e.symm⟩ hno
      obtain ⟨i, j, hi, hj, hij, e⟩ := hd
      have h1 := Wk.of_seq (adj := adj) (w := w) (v := v) i 0 (fun m _ hm => e2 m (by omega))
      have h2 := Wk.of_seq (adj := adj) (w := w) (v := v) (k - j) j (fun m _ hm => e2 m (by omega))
      rw [Nat.zero_add, e0] at h1
      rw [show j + (k - j) = k by omega, e1, ← e] at h2
      have h3 := Wk.app h1 h2
      obtain ⟨m, c', g1, g2, g3⟩ := ih (i + (k - j)) (by omega) a b _ ha h3
      refine ⟨m, c', g1, ?_, g3⟩
      have m1 : wsm w v i ≤ wsm w v j := wsm_mono (by omega)
      have m2 : wsm w v j ≤ wsm w v k := wsm_mono hj
      have m0 : wsm w v 0 = 0 := rfl
      omega
end WALKS
