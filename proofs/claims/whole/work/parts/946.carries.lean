section EASE2
variable {s : xS} {N W : Nat} {kd : Nat → Nat} {t : Nat}
/-- doesEase -/
theorem ease_eq (hT : TwM s N W kd) {f : Nat → Nat} (hs : Snd N W (fun j => tl (kd j)) t 999 f) :
    ∃ (b : Int32) (g : Nat → Nat), F_X9_doesEase (eaS s N f) = some (b, eaS s N g) ∧ Snd N W (fun j => tl (kd j)) t 999 g ∧ (∀ c n, adj N W c n → g c ≤ f n + tl (kd n)) ∧ (b = 0 ∧ (∀ c, c < N → g c = f c) ∨ b = 1 ∧ smN g N < smN f N) := by
  have hN := hT.1.1
  have hg := hT.1
  obtain ⟨z, h1, h2⟩ := xlp_inv (f := F_X9_doesEase_L4)
    (fun a => ∃ (b : Int32) (i : Nat) (g : Nat → Nat), a = (b, nI i, eaS s N g) ∧ i ≤ N ∧ Snd N W (fun j => tl (kd j)) t 999 g ∧ (∀ d, d < N → g d ≤ f d) ∧ (∀ c n, c < i → adj N W c n → g c ≤ f n + tl (kd n)) ∧ (b = 0 ∧ (∀ c, c < N → g c = f c) ∨ b = 1 ∧ smN g N < smN f N) ∧ smN g N ≤ smN f N)
    (fun z => ∃ (b : Int32) (g : Nat → Nat), z = (b, eaS s N g) ∧ Snd N W (fun j => tl (kd j)) t 999 g ∧ (∀ c n, c < N → adj N W c n → g c ≤ f n + tl (kd n)) ∧ (b = 0 ∧ (∀ c, c < N → g c = f c) ∨ b = 1 ∧ smN g N < smN f N))
    (fun a => N - a.2.1.toNatClampNeg) (by
      rintro a ⟨b, i, g, rfl, hi, hsg, hle, hpr, hbb, hsm⟩
      have e3 : (eaS s N g).1 0 3 = nI N := (eaS_Tw hT g).2.1
      by_cases hiN : i < N
      · left
        have hb01 : b = 0 ∨ b = 1 := by
          rcases hbb with ⟨e, -⟩ | ⟨e, -⟩
          · exact Or.inl e
          · exact Or.inr e
        obtain ⟨b', g', q1, q2, q3, q4, q5, q6⟩ := ease_cell hT hsg hiN hb01
        refine ⟨(b', nI (i + 1), eaS s N g'), ?_, ⟨b', i + 1, g', rfl, hiN, q2, fun d hd => Nat.le_trans (q3 d hd) (hle d hd), fun c n hc ha => ?_, ?_, ?_⟩, ?_⟩
        · unfold F_X9_doesEase_L4
          dsimp only
          rw [e3, if_neg (nI_ge hiN (by omega)), show ((0 : Int32)) = 0 from rfl, q1]
          simp only [Option.bind_some]
          rw [nI_1]
        · have hn := adj_lt hg ha
          by_cases e : c = i
          · subst e
            have h3 := q5 n ha
            have h4 := hle n hn
            omega
          · rw [q4 c e]
            exact hpr c n (by omega) ha
        · rcases q6 with ⟨e1, e2⟩ | ⟨e1, e2⟩
          · rw [e1, e2]; exact hbb
          · exact Or.inr ⟨e1, by omega⟩
        · rcases q6 with ⟨e1, e2⟩ | ⟨e1, e2⟩
          · rw [e2]; exact hsm
          · omega
        · show N - (nI (i + 1)).toNatClampNeg < N - (nI i).toNatClampNeg
          rw [nI_val (by omega), nI_val (by omega)]
          omega
      · right
        have e : i = N := by omega
        subst e
        refine ⟨(b, eaS s i g), ?_, b, g, rfl, hsg, hpr, hbb⟩
        unfold F_X9_doesEase_L4
        dsimp only
        rw [e3, if_pos (nI_le (Nat.le_refl _) (by omega))]) 100000 (0, 0, eaS s N f) ⟨0, 0, f, rfl, Nat.zero_le _, hs, fun _ _ => Nat.le_refl _, fun c n hc => by omega, Or.inl ⟨rfl, fun _ _ => rfl⟩, Nat.le_refl _⟩ (by show N - _ < 100000; omega)
  obtain ⟨b, g, rfl, g1, g2, g3⟩ := h2
  refine ⟨b, g, ?_, g1, fun c n ha => g2 c n ha.1 ha, g3⟩
  unfold F_X9_doesEase
  rw [h1]
  simp only [Option.bind_some]
  rw [if_pos (by rcases g3 with ⟨e, -⟩ | ⟨e, -⟩ <;> rw [e] <;> decide)]
/-- eased until nothing eases -/
theorem eased_eq (hT : TwM s N W kd) {f : Nat → Nat} (hs : Snd N W (fun j => tl (kd j)) t 999 f) :
    ∃ g, xlp F_X9_carriesTo_L43 100000 (1, eaS s N f) = some (eaS s N g) ∧ Mn (adj N W) (fun j => tl (kd j)) N t 999 g := by
  have hN := hT.1.1
  have hg := hT.1
  have hbig : ∀ g : Nat → Nat, Snd N W (fun j => tl (kd j)) t 999 g → smN g N ≤ 36000 := fun g h => by
    have := smN_le (F := 999) N (fun j hj => (h.2 j hj).1)
    have h2 : N * 999 ≤ 36 * 999 := Nat.mul_le_mul_right _ hN
    omega
  obtain ⟨z, h1, h2⟩ := xlp_inv (f := F_X9_carriesTo_L43)
    (fun a => ∃ (b : Int32) (g : Nat → Nat), a = (b, eaS s N g) ∧ Snd N W (fun j => tl (kd j)) t 999 g ∧ (b = 1 ∨ b = 0 ∧ ∀ c n, adj N W c n → g c ≤ g n + tl (kd n)))
    (fun z => ∃ g, z = eaS s N g ∧ Mn (adj N W) (fun j => tl (kd j)) N t 999 g)
    (fun a => if a.1 = 0 then 0 else 1 + smN (fun j => (a.2.1 9 j).toNatClampNeg) N) (by
      have hsmr : ∀ g : Nat → Nat, Snd N W (fun j => tl (kd j)) t 999 g → smN (fun j => ((eaS s N g).1 9 j).toNatClampNeg) N = smN g N := by
        intro g hsg
        have : ∀ n, n ≤ N → smN (fun j => ((eaS s N g).1 9 j).toNatClampNeg) n = smN g n := by
          intro n
          induction n with
          | zero => intro _; rfl
          | succ n ih =>
            intro hn
            show smN _ n + ((eaS s N g).1 9 n).toNatClampNeg = smN g n + g n
            have := (hsg.2 n (by omega)).1
            rw [ih (by omega), eaS_at g (by omega), nI_val (by omega)]
        exact this N (Nat.le_refl _)
      rintro a ⟨b, g, rfl, hsg, hbb⟩
      rcases hbb with rfl | ⟨rfl, hrl⟩
      · left
        obtain ⟨b', g', q1, q2, q3, q4⟩ := ease_eq hT hsg
        refine ⟨(b', eaS s N g'), ?_, ⟨b', g', rfl, q2, ?_⟩, ?_⟩
        · unfold F_X9_carriesTo_L43
          dsimp only
          rw [if_neg (by decide), q1]
          rfl
        · rcases q4 with ⟨e1, e2⟩ | ⟨e1, -⟩
          · refine Or.inr ⟨e1, fun c n ha => ?_⟩
            have := q3 c n ha
            rw [← e2 n (adj_lt hg ha)] at this
            exact this
          · exact Or.inl e1
        · show (if b' = 0 then 0 else 1 + smN (fun j => ((eaS s N g').1 9 j).toNatClampNeg) N) < (if (1 : Int32) = 0 then 0 else 1 + smN (fun j => ((eaS s N g).1 9 j).toNatClampNeg) N)
          rw [hsmr g hsg, hsmr g' q2, if_neg (show ¬ (1 : Int32) = 0 by decide)]
          rcases q4 with ⟨e1, -⟩ | ⟨e1, e2⟩
          · rw [if_pos e1]; omega
          · rw [e1, if_neg (by decide)]; omega
      · right
        refine ⟨eaS s N g, ?_, g, rfl, Mn.of_snd hsg (fun c hc k x hx => ?_)⟩
        · unfold F_X9_carriesTo_L43
          dsimp only
          rw [if_pos rfl]
        · exact Wk.below (f := g) hsg.1 (fun a n _ hn => hrl a n hn) (fun a n hn => adj_lt hg hn) k c x hc hx) 100000 (1, eaS s N f) ⟨1, f, rfl, hs, Or.inl rfl⟩ (by
      show (if (1 : Int32) = 0 then 0 else 1 + smN (fun j => ((eaS s N f).1 9 j).toNatClampNeg) N) < 100000
      rw [if_neg (by decide)]
      have h3 := hbig f hs
      have h4 : smN (fun j => ((eaS s N f).1 9 j).toNatClampNeg) N ≤ N * 999 := smN_le N (fun j hj => by
        have := (hs.2 j hj).1
        show ((eaS s N f).1 9 j).toNatClampNeg ≤ 999
        rw [eaS_at f hj, nI_val (by omega)]
        exact this)
      have h5 : N * 999 ≤ 36 * 999 := Nat.mul_le_mul_right _ hN
      omega)
  obtain ⟨g, rfl, hm⟩ := h2
  exact ⟨g, h1, hm⟩
/-- the first laying of carriesTo -/
theorem carries_lay (l : Int32) (s : xS) : xlp (F_X9_carriesTo_L2 l) 100000 (0, s) = some (xset s 9 (fun j => if j < 36 then (if nI j = l then 0 else 999) else s.1 9 j)) := by
  rw [xlp_for0 (fun i => (nI i, xset s 9 (fun j => if j < i then (if nI j = l then 0 else 999) else s.1 9 j))) 36 (b := xset s 9 (fun j => if j < 36 then (if nI j = l then 0 else 999) else s.1 9 j)) (by omega)]
  · intro i hi
    have key : ∀ v : Int32, (if nI i = l then (0 : Int32) else 999) = v → xu (xset s 9 (fun j => if j < i then (if nI j = l then 0 else 999) else s.1 9 j)) 9 i v = xset s 9 (fun j => if j < i + 1 then (if nI j = l then 0 else 999) else s.1 9 j) := by
      intro v hv
      rw [xu_set, xset_same, xset_set]
      congr 1
      funext j
      by_cases e : j = i
      · subst e; simp [upd, hv]
      · simp only [upd, e, if_false]
        by_cases h2 : j < i
        · simp [h2, show j < i + 1 by omega]
        · simp [h2, show ¬ j < i + 1 by omega]
    have ho : ¬ (nI i < 0 ∨ 36 ≤ (nI i).toNatClampNeg) := nI_in' hi (by omega)
    unfold F_X9_carriesTo_L2
    dsimp only
    rw [L36, if_neg (nI_ge hi (by omega))]
    by_cases h : nI i = l
    · rw [if_pos h, if_neg ho, nI_val (show i < 2 ^ 31 by omega), key 0 (by rw [if_pos h]), nI_1]
    · rw [if_neg h, if_neg ho, nI_val (show i < 2 ^ 31 by omega), key 999 (by rw [if_neg h]), nI_1]
  · unfold F_X9_carriesTo_L2
    dsimp only
    rw [L36, if_pos (nI_le (Nat.le_refl _) (by omega))]
  · congr 1
    exact (xset_id s 9 (by funext j; simp)).symm
theorem carriesTo_eq (hT : TwM s N W kd) (ht : t < N) :
    ∃ f, Mn (adj N W) (fun j => tl (kd j)) N t 999 f ∧ F_X9_carriesTo (nI t) s = some (xset s 9 (fun j => if j < N then nI (f j) else if j < 36 then 999 else s.1 9 j)) := by
  have hN := hT.1.1
  generalize hrow : (fun j => if j < 36 then (if nI j = nI t then (0 : Int32) else 999) else s.1 9 j) = row
  have hTb : TwM (xset s 9 row) N W kd := by
    obtain ⟨h1, h2, h3, h4, h5⟩ := hT
    refine ⟨h1, ?_, ?_, h4, ?_⟩
    · rw [xset_ne _ _ (by omega)]; exact h2
    · rw [xset_ne _ _ (by omega)]; exact h3
    · intro i hi; rw [xset_ne _ _ (by omega)]; exact h5 i hi
  have hsnd : Snd N W (fun j => tl (kd j)) t 999 (fun j => if j = t then 0 else 999) := by
    refine ⟨by simp, fun c hc => ?_⟩
    by_cases e : c = t
    · subst e
      simp only [if_true]
      exact ⟨by omega, Or.inr ⟨0, rfl, rfl⟩⟩
    · simp [e]
  obtain ⟨g, e1, e2⟩ := eased_eq hTb hsnd
  refine ⟨g, e2, ?_⟩
  have hbase : xset s 9 row = eaS (xset s 9 row) N (fun j => if j = t then 0 else 999) := by
    unfold eaS
    rw [xset_set, xset_same]
    congr 1
    funext j
    unfold rowN
    by_cases hj : j < N
    · rw [if_pos hj, ← hrow]
      simp only
      rw [if_pos (by omega)]
      by_cases e : j = t
      · subst e; simp; rfl
      · rw [if_neg (fun q => e ((nI_eq (by omega) (by omega)).mp q)), if_neg e]; rfl
    · rw [if_neg hj]
  unfold F_X9_carriesTo
  rw [carries_lay, hrow]
  simp only [Option.bind_some]
  rw [if_neg (nI_m1 (by omega)), hbase, e1]
  simp only [Option.bind_some]
  unfold eaS
  rw [xset_same, xset_set]
  congr 2
  funext j
  unfold rowN
  by_cases hj : j < N
  · rw [if_pos hj, if_pos hj]
  · rw [if_neg hj, if_neg hj, ← hrow]
    simp only
    by_cases h36 : j < 36
    · rw [if_pos h36, if_pos h36, if_neg (fun q => hj (by rw [(nI_eq (by omega) (by omega)).mp q]; exact ht))]
    · rw [if_neg h36, if_neg h36]
theorem carriesTo_no (s : xS) : F_X9_carriesTo (-1) s = some (xset s 9 (fun j => if j < 36 then 999 else s.1 9 j)) := by
  unfold F_X9_carriesTo
  rw [carries_lay]
  simp only [Option.bind_some]
  rw [if_pos trivial]
  have : xlp F_X9_carriesTo_L43 100000 (0, xset s 9 (fun j => if j < 36 then (if nI j = -1 then 0 else 999) else s.1 9 j)) = some (xset s 9 (fun j => if j < 36 then (if nI j = -1 then 0 else 999) else s.1 9 j)) := rfl
  rw [this]
  simp only [Option.bind_some]
  congr 2
  funext j
  by_cases h : j < 36
  · rw [if_pos h, if_pos h, if_neg (nI_m1 (by omega))]
  · rw [if_neg h, if_neg h]
end EASE2
