/-! ===== the reference's carriesTo ===== -/
/-- what is taken on the way into a cell -/
def tl (k : Nat) : Nat := match k with
  | 1 => 4
  | 2 => 3
  | _ => 1
theorem tl_le (k : Nat) : tl k ≤ 4 ∧ 1 ≤ tl k := by unfold tl; split <;> omega
/-- the reference's town -/
def TwM (s : xS) (N W : Nat) (kd : Nat → Nat) : Prop := tgrid N W ∧ s.1 0 3 = nI N ∧ (0 < N → s.1 0 2 = nI W) ∧ W ≤ 6 ∧ ∀ i, i < N → kd i ≤ 3 ∧ s.1 3 i = nI (kd i)
theorem in_yes {x a b : Int32} {s : xS} (h1 : ¬ x < a) (h2 : ¬ b < x) : F_X9_in x a b s = some 1 := by
  unfold F_X9_in
  rw [if_neg h1, if_neg h2]
theorem in_lo {x a b : Int32} {s : xS} (h1 : x < a) : F_X9_in x a b s = some 0 := by
  unfold F_X9_in
  rw [if_pos h1]
theorem in_hi {x a b : Int32} {s : xS} (h1 : ¬ x < a) (h2 : b < x) : F_X9_in x a b s = some 0 := by
  unfold F_X9_in
  rw [if_neg h1, if_pos h2]
section EASE
variable {s : xS} {N W : Nat} {kd : Nat → Nat}
theorem beside_eq (hT : TwM s N W kd) {c k : Nat} (hc : c < N) (hk : k < 4) : F_X9_beside (nI c) (nI k) s = some (nbI (nbr N W c k)) := by
  obtain ⟨hg, h3, h2, hW6, -⟩ := hT
  have hN := hg.1
  have hW : 0 < W := hg.2.1 (by omega)
  have h2 := h2 (by omega)
  have eN : nI N - 1 = nI (N - 1) := by rw [L1, pk_sub (by omega)]
  have er : xrem (nI c) (nI W) = nI (c % W) := by unfold xrem; rw [pk_rem (by omega) hW (by omega)]
  have hcw : c % W < W := Nat.mod_lt _ hW
  have m1 : F_X9_in (-1) 0 (nI (N - 1)) s = some 0 := in_lo (by decide)
  unfold F_X9_beside
  rw [h2, h3, eN, er]
  match k, hk with
  | 0, _ =>
    rw [if_pos (show nI 0 = 0 from rfl)]
    unfold nbr
    by_cases h : W ≤ c
    · rw [pk_sub h, in_yes (nI_pos (by omega)) (nI_nlt (by omega) (by omega))]
      simp only [Option.bind_some]
      rw [if_neg (by decide), if_pos h, nbI_some]
    · rw [in_lo (pk_sneg (by omega) (by omega))]
      simp only [Option.bind_some]
      rw [if_pos trivial, if_neg h, nbI_none]
  | 1, _ =>
    rw [if_neg (by decide), if_pos (show nI 1 = 1 from rfl), if_neg (nI_ne0 hW (by omega))]
    unfold nbr
    have e1 : nI W - 1 = nI (W - 1) := by rw [L1, pk_sub (by omega)]
    rw [e1, nI_1]
    by_cases h : c % W + 1 < W
    · have hlt : c + 1 < N := nbr_lt (k := 1) hg hc (show (if c % W + 1 < W then some (c + 1) else none) = some (c + 1) by rw [if_pos h])
      rw [if_neg (nI_ge (by omega) (by omega)), in_yes (nI_pos (by omega)) (nI_nlt (by omega) (by omega))]
      simp only [Option.bind_some]
      rw [if_neg (by decide), if_pos h, nbI_some]
    · rw [if_pos (nI_le (by omega) (by omega)), m1]
      simp only [Option.bind_some]
      rw [if_pos trivial, if_neg h, nbI_none]
  | 2, _ =>
    rw [if_neg (by decide), if_neg (by decide), if_pos (show nI 2 = 2 from rfl), nI_add]
    unfold nbr
    by_cases h : c + W < N
    · rw [in_yes (nI_pos (by omega)) (nI_nlt (by omega) (by omega))]
      simp only [Option.bind_some]
      rw [if_neg (by decide), if_pos h, nbI_some]
    · rw [in_hi (nI_pos (by omega)) (nI_lt (by omega) (by omega))]
      simp only [Option.bind_some]
      rw [if_pos trivial, if_neg h, nbI_none]
  | 3, _ =>
    rw [if_neg (by decide), if_neg (by decide), if_neg (by decide), if_neg (nI_ne0 hW (by omega))]
    unfold nbr
    by_cases h : 0 < c % W
    · have hc0 : 1 ≤ c := Nat.le_trans h (Nat.mod_le _ _)
      rw [if_neg (nI_nle h (by omega)), show nI c - 1 = nI (c - 1) by rw [L1, pk_sub hc0], in_yes (nI_pos (by omega)) (nI_nlt (by omega) (by omega))]
      simp only [Option.bind_some]
      rw [if_neg (by decide), if_pos h, nbI_some]
    · rw [if_pos (by rw [show c % W = 0 by omega]; decide), m1]
      simp only [Option.bind_some]
      rw [if_pos trivial, if_neg h, nbI_none]
theorem into_eq (hT : TwM s N W kd) {c : Nat} (hc : c < N) : F_X9_into (nI c) s = some (nI (tl (kd c))) := by
  obtain ⟨hg, h3, h2, hW6, h5⟩ := hT
  have hN := hg.1
  obtain ⟨k3, ek⟩ := h5 c hc
  unfold F_X9_into
  have ho : ¬ (nI c < 0 ∨ 37 ≤ (nI c).toNatClampNeg) := nI_in' (by omega) (by omega)
  rw [if_neg ho, if_neg ho, nI_val (show c < 2 ^ 31 by omega), ek]
  match kd c, k3 with
  | 0, _ => rfl
  | 1, _ => rfl
  | 2, _ => rfl
  | 3, _ => rfl
/-- a state in which only what is taken is another -/
def eaS (s : xS) (N : Nat) (g : Nat → Nat) : xS := xset s 9 (rowN N g (s.1 9))
theorem eaS_set (g : Nat → Nat) (c v : Nat) (hc : c < N) : xu (eaS s N g) 9 c (nI v) = eaS s N (fun j => if j = c then v else g j) := by
  unfold eaS
  rw [xu_set, xset_same, xset_set]
  congr 1
  funext j
  by_cases e : j = c
  · subst e; simp [upd, rowN, hc]
  · simp [upd, rowN, e]
theorem eaS_Tw (hT : TwM s N W kd) (g : Nat → Nat) : TwM (eaS s N g) N W kd := by
  obtain ⟨h1, h2, h3, h4, h5⟩ := hT
  unfold eaS
  refine ⟨h1, ?_, ?_, h4, ?_⟩
  · rw [xset_ne _ _ (by omega)]; exact h2
  · rw [xset_ne _ _ (by omega)]; exact h3
  · intro i hi; rw [xset_ne _ _ (by omega)]; exact h5 i hi
theorem eaS_at (g : Nat → Nat) {c : Nat} (hc : c < N) : (eaS s N g).1 9 c = nI (g c) := by
  unfold eaS
  rw [xset_same]
  simp [rowN, hc]
def smN (g : Nat → Nat) : Nat → Nat
  | 0 => 0
  | n + 1 => smN g n + g n
theorem smN_set {g : Nat → Nat} {c v : Nat} (hv : v < g c) : ∀ n, smN (fun j => if j = c then v else g j) n ≤ smN g n ∧ (c < n → smN (fun j => if j = c then v else g j) n < smN g n)
  | 0 => ⟨Nat.le_refl _, fun h => by omega⟩
  | n + 1 => by
    obtain ⟨h1, h2⟩ := smN_set (g := g) (c := c) hv n
    show smN _ n + (if n = c then v else g n) ≤ smN g n + g n ∧ (c < n + 1 → smN _ n + (if n = c then v else g n) < smN g n + g n)
    by_cases e : n = c
    · subst e
      simp only [if_true]
      exact ⟨by omega, fun _ => by omega⟩
    · simp only [e, if_false]
      exact ⟨by omega, fun h => by have := h2 (by omega); omega⟩
theorem smN_le {g : Nat → Nat} {F : Nat} : ∀ n, (∀ j, j < n → g j ≤ F) → smN g n ≤ n * F
  | 0, _ => by simp [smN]
  | n + 1, h => by
    have h1 := smN_le n (fun j hj => h j (by omega))
    have h2 := h n (by omega)
    show smN g n + g n ≤ (n + 1) * F
    rw [Nat.succ_mul]
    omega
theorem Snd.step {w : Nat → Nat} {t F : Nat} {g : Nat → Nat} (h : Snd N W w t F g) {c n : Nat} (ha : adj N W c n) (hn : n < N) (hl : g n + w n < g c) : Snd N W w t F (fun j => if j = c then g n + w n else g j) := by
  refine ⟨?_, fun d hd => ?_⟩
  · have : t ≠ c := fun e => by rw [← e, h.1] at hl; omega
    simp [this, h.1]
  · by_cases e : d = c
    · subst e
      simp only [if_true]
      have hd1 := (h.2 d hd).1
      refine ⟨by omega, ?_⟩
      rcases (h.2 n hn).2 with q | ⟨k, q⟩
      · omega
      · exact Or.inr ⟨k + 1, n, g n, ha, q, rfl⟩
    · simp only [e, if_false]
      exact h.2 d hd
/-- a cell eased by its four sides -/
theorem ease_cell (hT : TwM s N W kd) {t : Nat} {f : Nat → Nat} (hs : Snd N W (fun j => tl (kd j)) t 999 f) {c : Nat} (hc : c < N) {b0 : Int32} (hb0 : b0 = 0 ∨ b0 = 1) :
    ∃ (b : Int32) (g : Nat → Nat), xlp (F_X9_doesEase_L14 (nI c)) 100000 (b0, 0, eaS s N f) = some (b, eaS s N g) ∧ Snd N W (fun j => tl (kd j)) t 999 g ∧ (∀ d, d < N → g d ≤ f d) ∧ (∀ d, d ≠ c → g d = f d) ∧ (∀ n, adj N W c n → g c ≤ f n + tl (kd n)) ∧ (b = b0 ∧ g = f ∨ b = 1 ∧ smN g N < smN f N) := by
  have hN := hT.1.1
  have hg := hT.1
  obtain ⟨z, h1, h2⟩ := xlp_inv (f := F_X9_doesEase_L14 (nI c))
    (fun a => ∃ (b : Int32) (k : Nat) (g : Nat → Nat), a = (b, nI k, eaS s N g) ∧ k ≤ 4 ∧ Snd N W (fun j => tl (kd j)) t 999 g ∧ (∀ d, d < N → g d ≤ f d) ∧ (∀ d, d ≠ c → g d = f d) ∧ (∀ j n, j < k → nbr N W c j = some n → g c ≤ f n + tl (kd n)) ∧ (b = b0 ∧ g = f ∨ b = 1 ∧ smN g N < smN f N))
    (fun z => ∃ (b : Int32) (g : Nat → Nat), z = (b, eaS s N g) ∧ Snd N W (fun j => tl (kd j)) t 999 g ∧ (∀ d, d < N → g d ≤ f d) ∧ (∀ d, d ≠ c → g d = f d) ∧ (∀ j n, j < 4 → nbr N W c j = some n → g c ≤ f n + tl (kd n)) ∧ (b = b0 ∧ g = f ∨ b = 1 ∧ smN g N < smN f N))
    (fun a => 4 - a.2.1.toNatClampNeg) (by
      rintro a ⟨b, k, g, rfl, hk, hsg, hle, hoff, hpr, hbb⟩
      by_cases hk4 : k < 4
      · left
        have hm : 4 - (nI (k + 1)).toNatClampNeg < 4 - (nI k).toNatClampNeg := by
          rw [nI_val (by omega), nI_val (by omega)]
          omega
        have hTg := eaS_Tw hT g
        unfold F_X9_doesEase_L14
        dsimp only
        rw [L4, if_neg (nI_ge hk4 (by omega)), beside_eq hTg hc hk4]
        simp only [Option.bind_some]
        cases hnb : nbr N W c k with
        | none =>
          rw [nbI_none, if_pos rfl, nI_1]
          refine ⟨_, rfl, ⟨b, k + 1, g, rfl, hk4, hsg, hle, hoff, fun j n hj hn => ?_, hbb⟩, hm⟩
          by_cases e : j = k
          · subst e; rw [hnb] at hn; cases hn
          · exact hpr j n (by omega) hn
        | some n =>
          have hnN := nbr_lt hg hc hnb
          have ho : ¬ (nI n < 0 ∨ 36 ≤ (nI n).toNatClampNeg) := nI_in' (by omega) (by omega)
          have hoc : ¬ (nI c < 0 ∨ 36 ≤ (nI c).toNatClampNeg) := nI_in' (by omega) (by omega)
          have b1 := (hsg.2 n hnN).1
          have b2 := (hsg.2 c hc).1
          have b3 := (tl_le (kd n)).1
          rw [nbI_some, if_neg (nI_m1 (show n < 2 ^ 31 by omega)), if_neg ho, into_eq hTg hnN]
          simp only [Option.bind_some]
          rw [if_neg hoc, nI_val (show c < 2 ^ 31 by omega), nI_val (show n < 2 ^ 31 by omega), eaS_at g hc, eaS_at g hnN, nI_add]
          have hgn := hle n hnN
          by_cases h : g n + tl (kd n) < g c
          · have ho2 : ¬ (nI n < 0 ∨ 36 ≤ n) := fun z => z.elim (fun q => nI_pos (by omega) q) (by omega)
            have hoc2 : ¬ (nI c < 0 ∨ 36 ≤ c) := fun z => z.elim (fun q => nI_pos (by omega) q) (by omega)
            rw [if_neg (nI_ge h (by omega)), if_neg ho2, if_neg hoc2, eaS_set g c _ hc, nI_1]
            have hsm := (smN_set (g := g) (c := c) h N).2 hc
            refine ⟨_, rfl, ⟨1, k + 1, _, rfl, hk4, hsg.step ⟨hc, k, hk4, hnb⟩ hnN h, fun d hd => ?_, fun d hd => ?_, fun j m hj hm2 => ?_, Or.inr ⟨rfl, ?_⟩⟩, hm⟩
            · by_cases e : d = c
              · subst e
                simp only [if_true]
                have := hle d hd
                omega
              · simp only [e, if_false]
                exact hle d hd
            · simp only [hd, if_false]
              exact hoff d hd
            · simp only [if_true]
              by_cases e : j = k
              · subst e
                rw [hnb] at hm2
                cases hm2
                omega
              · have := hpr j m (by omega) hm2
                omega
            · rcases hbb with ⟨-, e⟩ | ⟨-, e⟩
              · rw [e] at hsm ⊢; exact hsm
              · omega
          · rw [if_pos (nI_le (by omega) (by omega)), nI_1]
            refine ⟨_, rfl, ⟨b, k + 1, g, rfl, hk4, hsg, hle, hoff, fun j m hj hm2 => ?_, hbb⟩, hm⟩
            by_cases e : j = k
            · subst e
              rw [hnb] at hm2
              cases hm2
              omega
            · exact hpr j m (by omega) hm2
      · right
        have e : k = 4 := by omega
        subst e
        refine ⟨(b, eaS s N g), ?_, b, g, rfl, hsg, hle, hoff, hpr, hbb⟩
        unfold F_X9_doesEase_L14
        dsimp only
        rw [L4, if_pos (nI_le (Nat.le_refl _) (by omega))]) 100000 (b0, 0, eaS s N f) ⟨b0, 0, f, rfl, by omega, hs, fun _ _ => Nat.le_refl _, fun _ _ => rfl, fun j n hj => by omega, Or.inl ⟨rfl, rfl⟩⟩ (by show 4 - _ < 100000; omega)
  obtain ⟨b, g, rfl, g1, g2, g3, g4, g5⟩ := h2
  exact ⟨b, g, h1, g1, g2, g3, fun n ⟨_, j, hj, hn⟩ => g4 j n hj hn, g5⟩
end EASE
