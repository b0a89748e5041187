/-! ===== Reach.spread ===== -/
/-- what holds between sweeps: costs of walks, or F -/
def Snd (N W : Nat) (w : Nat → Nat) (t F : Nat) (g : Nat → Nat) : Prop := g t = 0 ∧ ∀ c, c < N → g c ≤ F ∧ (g c = F ∨ ∃ k, Wk (adj N W) w k c t (g c))
theorem Snd.relax {N W : Nat} {w : Nat → Nat} {t F : Nat} {g : Nat → Nat} (hg : tgrid N W) (h : Snd N W w t F g) {c : Nat} (hc : c < N) (hl : lbs N W g w F c 4 < g c) : Snd N W w t F (fun j => if j = c then lbs N W g w F c 4 else g j) := by
  refine ⟨?_, fun d hd => ?_⟩
  · have : t ≠ c := fun e => by rw [← e, h.1] at hl; omega
    simp [this, h.1]
  · by_cases e : d = c
    · subst e
      simp only [if_true]
      refine ⟨lbs_le 4, ?_⟩
      rcases lbs_is (N := N) (W := W) (f := g) (w := w) (F := F) (c := d) 4 with q | ⟨j, n, h1, h2, h3⟩
      · exact Or.inl q
      · rw [h3]
        rcases (h.2 n (nbr_lt hg hc h2)).2 with q | ⟨k, q⟩
        · have := (h.2 d hd).1
          omega
        · exact Or.inr ⟨k + 1, n, g n, ⟨hc, j, h1, h2⟩, q, rfl⟩
    · simp only [e, if_false]
      exact h.2 d hd
section SPREAD
variable {p : Nat} {s : xS} {N W : Nat} {kd w : Nat → Nat} {t : Nat}
/-- a state in which only the row of what is lost is another -/
def spS (s : xS) (p N : Nat) (g : Nat → Nat) : xS := xset s (p + 2) (rowN N g (s.1 (p + 2)))
theorem spS_set (g : Nat → Nat) (c v : Nat) (hc : c < N) : xu (spS s p N g) (p + 2) c (nI v) = spS s p N (fun j => if j = c then v else g j) := by
  unfold spS
  rw [xu_set, xset_same, xset_set]
  congr 1
  funext j
  by_cases e : j = c
  · subst e; simp [upd, rowN, hc]
  · simp [upd, rowN, e]
theorem spS_Tw (hp : 7 < p) (hT : TwF s N W kd) (g : Nat → Nat) : TwF (spS s p N g) N W kd := by
  obtain ⟨h1, h2, h3, h4, h5, h6⟩ := hT
  unfold spS
  refine ⟨h1, ?_, ?_, h4, ?_, ?_⟩
  · rw [xset_ne _ _ (by omega)]; exact h2
  · rw [xset_ne _ _ (by omega)]; exact h3
  · intro i hi; rw [xset_ne _ _ (by omega)]; exact h5 i hi
  · intro i k hi hk; rw [xset_ne _ _ (by omega)]; exact h6 i k hi hk
theorem spS_least (hp : 7 < p) (hT : TwF s N W kd) (hw : ∀ j, j < N → w j ≤ 1000000 ∧ s.1 (p + 1) j = nI (w j)) {g : Nat → Nat} (hb : ∀ j, j < N → g j ≤ 1000000) {c : Nat} (hc : c < N) : F_X4_leastBeside p (nI c) (spS s p N g) = some (nI (lbs N W g w 1000000 c 4)) := by
  refine leastBeside_eq (spS_Tw hp hT g) (fun j hj => ⟨hb j hj, ?_⟩) (fun j hj => ⟨(hw j hj).1, ?_⟩) hc
  · unfold spS
    rw [xset_same]
    simp [rowN, hj]
  · unfold spS
    rw [xset_ne _ _ (by omega)]
    exact (hw j hj).2
/-- one cell of a sweep -/
theorem sweep_J {g : Nat → Nat} (hp : 7 < p) (hT : TwF s N W kd) (hw : ∀ j, j < N → w j ≤ 1000000 ∧ s.1 (p + 1) j = nI (w j)) (hb : ∀ j, j < N → g j ≤ 1000000) {c i : Nat} (hc : c < N) (hi : i < N) (b l4 : Int32) :
    F_X4_spread_L46_J76 p l4 b (nI i) (nI c) (spS s p N g) = some (Sum.inl (if lbs N W g w 1000000 c 4 < g c then (1, nI (i + 1), spS s p N (fun j => if j = c then lbs N W g w 1000000 c 4 else g j)) else (b, nI (i + 1), spS s p N g))) := by
  have hN := hT.1.1
  have ho : ¬ (nI c < 0 ∨ 36 ≤ (nI c).toNatClampNeg) := nI_in' (by omega) (by omega)
  have hlb := lbs_le (N := N) (W := W) (f := g) (w := w) (F := 1000000) (c := c) 4
  have hgc := hb c hc
  unfold F_X4_spread_L46_J76
  rw [spS_least hp hT hw hb hc]
  simp only [Option.bind_some]
  rw [if_neg ho, nI_val (show c < 2 ^ 31 by omega)]
  have er : (spS s p N g).1 (p + 2) c = nI (g c) := by
    unfold spS
    rw [xset_same]
    simp [rowN, hc]
  rw [er]
  have ho2 : ¬ (nI c < 0 ∨ 36 ≤ c) := fun z => z.elim (fun q => nI_pos (by omega) q) (by omega)
  by_cases h : lbs N W g w 1000000 c 4 < g c
  · rw [if_neg (nI_ge h (by omega)), if_neg ho2, if_pos h, spS_set g c _ hc, nI_1]
  · rw [if_pos (nI_le (by omega) (by omega)), if_neg h, nI_1]
/-- the order of a sweep -/
def ordr (N r i : Nat) : Nat := if r % 2 = 0 then i else N - 1 - i
theorem sweep_step {g : Nat → Nat} (hp : 7 < p) (hT : TwF s N W kd) (hw : ∀ j, j < N → w j ≤ 1000000 ∧ s.1 (p + 1) j = nI (w j)) (hb : ∀ j, j < N → g j ≤ 1000000) {i r : Nat} (hi : i < N) (hr : r < 100) (b : Int32) :
    F_X4_spread_L46 p (nI r) (b, nI i, spS s p N g) = some (Sum.inl (if lbs N W g w 1000000 (ordr N r i) 4 < g (ordr N r i) then (1, nI (i + 1), spS s p N (fun j => if j = ordr N r i then lbs N W g w 1000000 (ordr N r i) 4 else g j)) else (b, nI (i + 1), spS s p N g))) := by
  have hN := hT.1.1
  have e1 : (spS s p N g).1 5 2 = nI N := (spS_Tw hp hT g).2.1
  unfold F_X4_spread_L46
  dsimp only
  rw [e1, if_neg (nI_ge hi (by omega))]
  have er : xrem (nI r) 2 = nI (r % 2) := by
    unfold xrem
    rw [L2, pk_rem (by omega) (by omega) (by omega)]
  have ec : (nI N - 1) - nI i = nI (N - 1 - i) := by
    rw [L1, pk_sub (by omega), pk_sub (by omega)]
  rw [er]
  by_cases h : r % 2 = 0
  · rw [if_pos (by rw [h]; rfl)]
    have eo : ordr N r i = i := by simp [ordr, h]
    rw [eo]
    exact sweep_J hp hT hw hb hi hi b _
  · rw [if_neg (nI_ne0 (by omega) (by omega)), ec]
    have eo : ordr N r i = N - 1 - i := by simp [ordr, h]
    rw [eo]
    exact sweep_J hp hT hw hb (by omega) hi b _
/-- a whole sweep -/
theorem sweep_eq (hp : 7 < p) (hT : TwF s N W kd) (hw : ∀ j, j < N → w j ≤ 1000000 ∧ s.1 (p + 1) j = nI (w j)) {f : Nat → Nat} (hs : Snd N W w t 1000000 f) {r : Nat} (hr : r < 100) :
    ∃ (b : Int32) (g : Nat → Nat), xlp (F_X4_spread_L46 p (nI r)) 100000 (0, 0, spS s p N f) = some (b, spS s p N g) ∧ Snd N W w t 1000000 g ∧ (∀ c, c < N → g c ≤ f c) ∧ (∀ c n, c < N → adj N W c n → g c ≤ f n + w n) ∧ (b = 0 ∨ b = 1) ∧ (b = 0 → ∀ c, c < N → g c = f c) := by
  have hN := hT.1.1
  have hg := hT.1
  obtain ⟨z, h1, h2⟩ := xlp_inv (f := F_X4_spread_L46 p (nI r))
    (fun a => ∃ (b : Int32) (i : Nat) (g : Nat → Nat), a = (b, nI i, spS s p N g) ∧ i ≤ N ∧ Snd N W w t 1000000 g ∧ (∀ c, c < N → g c ≤ f c) ∧ (∀ j n, j < i → adj N W (ordr N r j) n → g (ordr N r j) ≤ f n + w n) ∧ (b = 0 ∨ b = 1) ∧ (b = 0 → ∀ c, c < N → g c = f c))
    (fun z => ∃ (b : Int32) (g : Nat → Nat), z = (b, spS s p N g) ∧ Snd N W w t 1000000 g ∧ (∀ c, c < N → g c ≤ f c) ∧ (∀ j n, j < N → adj N W (ordr N r j) n → g (ordr N r j) ≤ f n + w n) ∧ (b = 0 ∨ b = 1) ∧ (b = 0 → ∀ c, c < N → g c = f c))
    (fun a => N - a.2.1.toNatClampNeg) (by
      rintro a ⟨b, i, g, rfl, hi, hsg, hle, hpr, hb01, hb0⟩
      by_cases hiN : i < N
      · left
        have hbd : ∀ j, j < N → g j ≤ 1000000 := fun j hj => (hsg.2 j hj).1
        have hoN : ordr N r i < N := by unfold ordr; split <;> omega
        have oinj : ∀ j, j < i → ordr N r j ≠ ordr N r i := by
          intro j hj
          unfold ordr
          split <;> omega
        have hm : N - (nI (i + 1)).toNatClampNeg < N - (nI i).toNatClampNeg := by
          rw [nI_val (by omega), nI_val (by omega)]
          omega
        rw [sweep_step hp hT hw hbd hiN hr]
        by_cases hl : lbs N W g w 1000000 (ordr N r i) 4 < g (ordr N r i)
        · rw [if_pos hl]
          refine ⟨_, rfl, ⟨1, i + 1, _, rfl, hiN, hsg.relax hg hoN hl, fun c hc => ?_, fun j n hj ha => ?_, Or.inr rfl, fun h => absurd h (by decide)⟩, hm⟩
          · by_cases e : c = ordr N r i
            · subst e
              simp only [if_true]
              have := hle _ hc
              omega
            · simp only [e, if_false]
              exact hle c hc
          · by_cases e : j = i
            · subst e
              simp only [if_true]
              obtain ⟨-, k, hk, hnb⟩ := ha
              have h3 := lbs_nb (f := g) (w := w) (F := 1000000) 4 k n hk hnb
              have h4 := hle n (nbr_lt hg hoN hnb)
              omega
            · have hj' : j < i := by omega
              simp only [oinj j hj', if_false]
              exact hpr j n hj' ha
        · rw [if_neg hl]
          refine ⟨_, rfl, ⟨b, i + 1, g, rfl, hiN, hsg, hle, fun j n hj ha => ?_, hb01, hb0⟩, hm⟩
          by_cases e : j = i
          · subst e
            obtain ⟨-, k, hk, hnb⟩ := ha
            have h3 := lbs_nb (f := g) (w := w) (F := 1000000) 4 k n hk hnb
            have h4 := hle n (nbr_lt hg hoN hnb)
            omega
          · exact hpr j n (by omega) ha
      · right
        have e : i = N := by omega
        subst e
        refine ⟨(b, spS s p i g), ?_, b, g, rfl, hsg, hle, hpr, hb01, hb0⟩
        unfold F_X4_spread_L46
        dsimp only
        rw [(spS_Tw hp hT g).2.1, if_pos (nI_le (Nat.le_refl _) (by omega))]) 100000 (0, 0, spS s p N f) ⟨0, 0, f, rfl, Nat.zero_le _, hs, fun _ _ => Nat.le_refl _, fun j n hj => by omega, Or.inl rfl, fun _ _ _ => rfl⟩ (by show N - _ < 100000; omega)
  obtain ⟨b, g, rfl, g1, g2, g3, g4, g5⟩ := h2
  refine ⟨b, g, h1, g1, g2, fun c n hc ha => ?_, g4, g5⟩
  by_cases h : r % 2 = 0
  · have := g3 c n hc
    have eo : ordr N r c = c := by simp [ordr, h]
    rw [eo] at this
    exact this ha
  · have := g3 (N - 1 - c) n (by omega)
    have eo : ordr N r (N - 1 - c) = c := by simp [ordr, h]; omega
    rw [eo] at this
    exact this ha
end SPREAD
