theorem Mn.of_snd {N W : Nat} {w : Nat → Nat} {t F : Nat} {f : Nat → Nat} (h : Snd N W w t F f) (hb : ∀ c, c < N → ∀ k x, Wk (adj N W) w k c t x → f c ≤ x) : Mn (adj N W) w N t F f := fun c hc => ⟨(h.2 c hc).1, (h.2 c hc).2, hb c hc⟩
section SPREAD2
variable {p : Nat} {s : xS} {N W : Nat} {kd w : Nat → Nat} {t : Nat}
theorem rounds_eq (hp : 7 < p) (hT : TwF s N W kd) (hw : ∀ j, j < N → w j ≤ 1000000 ∧ s.1 (p + 1) j = nI (w j)) {f : Nat → Nat} (hs : Snd N W w t 1000000 f) :
    ∃ g, xlp (F_X4_spread_L30 p) 100000 (1, 0, spS s p N f) = some (spS s p N g) ∧ Mn (adj N W) w N t 1000000 g := by
  have hN := hT.1.1
  have hg := hT.1
  obtain ⟨z, h1, h2⟩ := xlp_inv (f := F_X4_spread_L30 p)
    (fun a => ∃ (b : Int32) (r : Nat) (g : Nat → Nat), a = (b, nI r, spS s p N g) ∧ r ≤ 36 ∧ Snd N W w t 1000000 g ∧ (∀ c, c < N → ∀ k, k ≤ r → ∀ x, Wk (adj N W) w k c t x → g c ≤ x) ∧ (b = 0 → ∀ c n, c < N → adj N W c n → g c ≤ g n + w n))
    (fun z => ∃ g, z = spS s p N g ∧ Mn (adj N W) w N t 1000000 g)
    (fun a => 37 - a.2.1.toNatClampNeg) (by
      rintro a ⟨b, r, g, rfl, hr, hsg, hgd, hrl⟩
      by_cases hb : b = 0
      · right
        refine ⟨spS s p N g, ?_, g, rfl, Mn.of_snd hsg (fun c hc k x hx => ?_)⟩
        · unfold F_X4_spread_L30
          dsimp only
          rw [if_pos hb]
        · exact Wk.below hsg.1 (fun a n ha hn => hrl hb a n ha hn) (fun a n hn => adj_lt hg hn) k c x hc hx
      · by_cases hr36 : r = 36
        · right
          subst hr36
          refine ⟨spS s p N g, ?_, g, rfl, Mn.of_snd hsg (fun c hc k x hx => ?_)⟩
          · unfold F_X4_spread_L30
            dsimp only
            rw [if_neg hb, L36, if_pos (nI_le (Nat.le_refl _) (by omega))]
          · obtain ⟨j, c', j1, j2, j3⟩ := Wk.short (fun a n hn => adj_lt hg hn) k c t x hc hx
            have := hgd c hc j (by omega) c' j3
            omega
        · left
          obtain ⟨b', g', e1, e2, e3, e4, e5, e6⟩ := sweep_eq hp hT hw hsg (r := r) (by omega)
          refine ⟨(b', nI (r + 1), spS s p N g'), ?_, ⟨b', r + 1, g', rfl, by omega, e2, fun c hc k hk x hx => ?_, fun h0 c n hc ha => ?_⟩, ?_⟩
          · unfold F_X4_spread_L30
            dsimp only
            rw [if_neg hb, L36, if_neg (nI_ge (by omega) (by omega)), e1]
            simp only [Option.bind_some]
            rw [nI_1]
          · cases k with
            | zero => rw [hx.1, e2.1]; exact Nat.zero_le _
            | succ k =>
              obtain ⟨n, c', q1, q2, rfl⟩ := hx
              have := e4 c n hc q1
              have h3 := hgd n (adj_lt hg q1) k (by omega) c' q2
              omega
          · have h3 := e4 c n hc ha
            rw [← e6 h0 n (adj_lt hg ha)] at h3
            exact h3
          · show 37 - (nI (r + 1)).toNatClampNeg < 37 - (nI r).toNatClampNeg
            rw [nI_val (by omega), nI_val (by omega)]
            omega) 100000 (1, 0, spS s p N f) ⟨1, 0, f, rfl, by omega, hs, fun c hc k hk x hx => by
      have e : k = 0 := by omega
      subst e
      rw [hx.1, hs.1]
      exact Nat.zero_le _, fun h => absurd h (by decide)⟩ (by show 37 - _ < 100000; omega)
  obtain ⟨g, rfl, hm⟩ := h2
  exact ⟨g, h1, hm⟩
/-- Reach.spread, to a cell that is -/
theorem spread_eq (hp : p = 19 ∨ p = 31) (hT : TwF s N W kd) (hw : ∀ j, j < N → w j ≤ 1000000 ∧ s.1 (p + 1) j = nI (w j)) (ht : t < N) :
    ∃ f, Mn (adj N W) w N t 1000000 f ∧ F_X4_spread p (nI t) s = some (xset s (p + 2) (fun j => if j < N then nI (f j) else if j < 36 then 1000000 else s.1 (p + 2) j)) := by
  have hN := hT.1.1
  have hal : xal (p + 2) = 36 := by rcases hp with rfl | rfl <;> rfl
  have hp46 : p + 2 < 46 := by omega
  have hp7 : 7 < p := by omega
  generalize hrow : (fun j => if j < 36 then (1000000 : Int32) else s.1 (p + 2) j) = row
  have hsb : F_J7_fill_53178 (p + 2) 1000000 s = some (xset s (p + 2) row) := by rw [fill_eq hp46, hal, hrow]
  have hTb : TwF (xset s (p + 2) row) N W kd := by
    obtain ⟨h1, h2, h3, h4, h5, h6⟩ := hT
    refine ⟨h1, ?_, ?_, h4, ?_, ?_⟩
    · rw [xset_ne _ _ (by omega)]; exact h2
    · rw [xset_ne _ _ (by omega)]; exact h3
    · intro i hi; rw [xset_ne _ _ (by omega)]; exact h5 i hi
    · intro i k hi hk; rw [xset_ne _ _ (by omega)]; exact h6 i k hi hk
  have hwb : ∀ j, j < N → w j ≤ 1000000 ∧ (xset s (p + 2) row).1 (p + 1) j = nI (w j) := fun j hj => ⟨(hw j hj).1, by rw [xset_ne _ _ (by omega)]; exact (hw j hj).2⟩
  have hsnd : Snd N W w t 1000000 (fun j => if j = t then 0 else 1000000) := by
    refine ⟨by simp, fun c hc => ?_⟩
    by_cases e : c = t
    · subst e
      simp only [if_true]
      exact ⟨by omega, Or.inr ⟨0, rfl, rfl⟩⟩
    · simp [e]
  obtain ⟨g, e1, e2⟩ := rounds_eq hp7 hTb hwb hsnd
  refine ⟨g, e2, ?_⟩
  have hbase : xu (xset s (p + 2) row) (p + 2) t 0 = spS (xset s (p + 2) row) p N (fun j => if j = t then 0 else 1000000) := by
    have := spS_set (s := xset s (p + 2) row) (p := p) (N := N) (fun _ => 1000000) t 0 ht
    rw [show (nI 0) = (0 : Int32) from rfl] at this
    rw [← this]
    congr 1
    unfold spS
    rw [xset_set, xset_same]
    congr 1
    funext j
    unfold rowN
    by_cases hj : j < N
    · rw [if_pos hj, ← hrow]
      simp only
      rw [if_pos (by omega)]
      rfl
    · rw [if_neg hj]
  have hhas : F_X7_has (nI t) (xset s (p + 2) row) = some 1 := by
    unfold F_X7_has
    rw [hTb.2.1, if_neg (nI_pos (by omega)), if_neg (nI_ge ht (by omega))]
  unfold F_X4_spread
  rw [hsb]
  simp only [Option.bind_some]
  rw [hhas]
  simp only [Option.bind_some]
  rw [if_neg (by decide), if_neg (nI_in' (by omega) (by omega)), nI_val (show t < 2 ^ 31 by omega), hbase, e1]
  simp only [Option.bind_some]
  unfold spS
  rw [xset_same, xset_set]
  congr 2
  funext j
  unfold rowN
  by_cases hj : j < N
  · rw [if_pos hj, if_pos hj]
  · rw [if_neg hj, if_neg hj, ← hrow]
/-- and to none -/
theorem spread_no (hp : p = 19 ∨ p = 31) : F_X4_spread p (-1) s = some (xset s (p + 2) (fun j => if j < 36 then 1000000 else s.1 (p + 2) j)) := by
  have hal : xal (p + 2) = 36 := by rcases hp with rfl | rfl <;> rfl
  unfold F_X4_spread
  rw [fill_eq (by omega), hal]
  simp only [Option.bind_some]
  unfold F_X7_has
  rw [if_pos (by decide)]
  simp only [Option.bind_some]
  rw [if_pos trivial]
end SPREAD2
