/-! ===== way ===== -/
theorem adj_sym {N W i j : Nat} (hg : tgrid N W) (h : adj N W i j) : adj N W j i := by
  have hj := adj_lt hg h
  obtain ⟨hi, k, hk, h⟩ := h
  have hW := hg.2.1 (by omega)
  refine ⟨hj, ?_⟩
  have hk' : k = 0 ∨ k = 1 ∨ k = 2 ∨ k = 3 := by omega
  rcases hk' with rfl | rfl | rfl | rfl
  · have h : (if W ≤ i then some (i - W) else none) = some j := h
    split at h
    · cases h
      refine ⟨2, by omega, ?_⟩
      show (if i - W + W < N then some (i - W + W) else none) = some i
      rw [show i - W + W = i by omega, if_pos hi]
    · cases h
  · have h : (if i % W + 1 < W then some (i + 1) else none) = some j := h
    split at h
    · rename_i q
      cases h
      refine ⟨3, by omega, ?_⟩
      show (if 0 < (i + 1) % W then some (i + 1 - 1) else none) = some i
      rw [mod_next hW, if_pos q, if_pos (by omega), show i + 1 - 1 = i by omega]
    · cases h
  · have h : (if i + W < N then some (i + W) else none) = some j := h
    split at h
    · cases h
      refine ⟨0, by omega, ?_⟩
      show (if W ≤ i + W then some (i + W - W) else none) = some i
      rw [if_pos (by omega), show i + W - W = i by omega]
    · cases h
  · have h : (if 0 < i % W then some (i - 1) else none) = some j := h
    split at h
    · rename_i q
      cases h
      have i0 : 0 < i := by
        rcases Nat.eq_zero_or_pos i with z | z
        · rw [z, Nat.zero_mod] at q; omega
        · exact z
      refine ⟨1, by omega, ?_⟩
      have m := mod_next (i := i - 1) hW
      rw [show i - 1 + 1 = i by omega] at m
      show (if (i - 1) % W + 1 < W then some (i - 1 + 1) else none) = some i
      rw [show i - 1 + 1 = i by omega]
      by_cases c : (i - 1) % W + 1 < W
      · rw [if_pos c]
      · rw [if_neg c] at m; omega
    · cases h
/-- next to each other, and both open -/
def adjO (N W : Nat) (kd : Nat → Nat) (i j : Nat) : Prop := adj N W i j ∧ kd i = 0 ∧ kd j = 0
theorem Wk.rev {N W : Nat} {kd ct : Nat → Nat} (hg : tgrid N W) : ∀ {k a b x : Nat}, Wk (adjO N W kd) ct k a b x → ∃ y, Wk (adjO N W kd) ct k b a y ∧ y + ct b = x + ct a
  | 0, a, b, x, h => by
    obtain ⟨rfl, rfl⟩ := h
    exact ⟨0, ⟨rfl, rfl⟩, rfl⟩
  | k + 1, a, b, x, h => by
    obtain ⟨n, c', h1, h2, rfl⟩ := h
    obtain ⟨y, hy, e⟩ := Wk.rev hg h2
    exact ⟨y + ct a, hy.snoc ⟨adj_sym hg h1.1, h1.2.2, h1.2.1⟩, by omega⟩
theorem Wk.le9 {N W : Nat} {kd ct : Nat → Nat} (hc : ∀ j, ct j ≤ 9) : ∀ {k a b x : Nat}, Wk (adjO N W kd) ct k a b x → x ≤ 9 * k
  | 0, a, b, x, h => by rw [h.2]; omega
  | k + 1, a, b, x, h => by
    obtain ⟨n, c', h1, h2, rfl⟩ := h
    have := Wk.le9 hc h2
    have := hc n
    omega
theorem Wk.toO {N W : Nat} {kd ct w : Nat → Nat} (hw : ∀ j, w j = if kd j = 0 then ct j else 1000000) : ∀ {k a b x : Nat}, kd a = 0 → x < 1000000 → Wk (adj N W) w k a b x → Wk (adjO N W kd) ct k a b x
  | 0, a, b, x, _, _, h => h
  | k + 1, a, b, x, ha, hx, h => by
    obtain ⟨n, c', h1, h2, e⟩ := h
    have q := hw n
    by_cases c : kd n = 0
    · rw [if_pos c] at q
      exact ⟨n, c', ⟨h1, ha, c⟩, Wk.toO hw c (by omega) h2, by rw [← q]; exact e⟩
    · rw [if_neg c] at q
      omega
theorem Wk.ofO {N W : Nat} {kd ct w : Nat → Nat} (hw : ∀ j, w j = if kd j = 0 then ct j else 1000000) : ∀ {k a b x : Nat}, Wk (adjO N W kd) ct k a b x → Wk (adj N W) w k a b x
  | 0, a, b, x, h => h
  | k + 1, a, b, x, h => by
    obtain ⟨n, c', h1, h2, e⟩ := h
    have q := hw n
    rw [if_pos h1.2.2] at q
    exact ⟨n, c', h1.1, Wk.ofO hw h2, by rw [q]; exact e⟩
def SnW (N W : Nat) (kd ct : Nat → Nat) (t : Nat) (g : Nat → Nat) : Prop := g t = ct t ∧ ∀ c, c < N → g c ≤ 999 ∧ (g c = 999 ∨ ∃ k x, Wk (adjO N W kd) ct k c t x ∧ g c = x + ct c)
def MnW (N W : Nat) (kd ct : Nat → Nat) (t : Nat) (g : Nat → Nat) : Prop := ∀ c, c < N → (g c = 999 ∨ ∃ k x, Wk (adjO N W kd) ct k c t x ∧ g c = x + ct c) ∧ ∀ k x, Wk (adjO N W kd) ct k c t x → g c ≤ x + ct c
/-- the stillest way, from either end -/
theorem way_agree {N W : Nat} {kd ct w f g : Nat → Nat} {a b : Nat} (hg : tgrid N W) (hw : ∀ j, w j = if kd j = 0 then ct j else 1000000) (hc : ∀ j, ct j ≤ 9) (ha : a < N) (hb : b < N) (oa : kd a = 0) (hf : Mn (adj N W) w N b 1000000 f) (hG : MnW N W kd ct a g) : (f a < 1000000 → g b = f a + ct a ∧ g b < 999) ∧ (¬ f a < 1000000 → g b = 999) := by
  have hN := hg.1
  have hO : ∀ c n, adjO N W kd c n → n < N := fun c n h => adj_lt hg h.1
  have small : ∀ {k x : Nat}, Wk (adjO N W kd) ct k a b x → f a ≤ 315 ∧ f a ≤ x := by
    intro k x h
    obtain ⟨j, c', h1, h2, h3⟩ := Wk.short hO k a b x ha h
    have h4 := Wk.le9 hc h3
    have h5 := (hf a ha).2.2 j c' (Wk.ofO hw h3)
    omega
  have ca := hc a
  obtain ⟨q1, q2⟩ := hG b hb
  constructor
  · intro h
    rcases (hf a ha).2.1 with z | ⟨k, z⟩
    · omega
    · have z' := Wk.toO hw oa h z
      have s1 := small z'
      obtain ⟨y, hy, ey⟩ := Wk.rev hg z'
      have q3 := q2 k y hy
      rcases q1 with q1 | ⟨k2, x, hx, ex⟩
      · omega
      · obtain ⟨y2, hy2, ey2⟩ := Wk.rev hg hx
        have s2 := small hy2
        omega
  · intro h
    rcases q1 with q1 | ⟨k2, x, hx, ex⟩
    · exact q1
    · obtain ⟨y2, hy2, ey2⟩ := Wk.rev hg hx
      have s2 := small hy2
      omega
section WAYM
variable {s : xS} {N W : Nat} {kd ct : Nat → Nat} {t : Nat}
theorem SnW.step {g : Nat → Nat} (h : SnW N W kd ct t g) {c n : Nat} (ha : adjO N W kd c n) (hn : n < N) (hl : g n + ct c < g c) : SnW N W kd ct t (fun j => if j = c then g n + ct c else g j) := by
  refine ⟨?_, fun d hd => ?_⟩
  · have : t ≠ c := fun e => by rw [← e, h.1] at hl; omega
    simp [this, h.1]
  · by_cases e : d = c
    · subst e
      simp only [if_true]
      have hd1 := (h.2 d hd).1
      refine ⟨by omega, ?_⟩
      rcases (h.2 n hn).2 with q | ⟨k, x, q, ex⟩
      · omega
      · exact Or.inr ⟨k + 1, x + ct n, ⟨n, x, ha, q, rfl⟩, by omega⟩
    · simp only [e, if_false]
      exact h.2 d hd
def wyS (s : xS) (N : Nat) (g : Nat → Nat) : xS := xset s 17 (rowN N g (s.1 17))
theorem wyS_set (g : Nat → Nat) (c v : Nat) (hc : c < N) : xset (wyS s N g) 17 (upd ((wyS s N g).1 17) c (nI v)) = wyS s N (fun j => if j = c then v else g j) := by
  unfold wyS
  rw [xset_same, xset_set]
  congr 1
  funext j
  by_cases e : j = c
  · subst e; simp [upd, rowN, hc]
  · simp [upd, rowN, e]
theorem wyS_at (g : Nat → Nat) {c : Nat} (hc : c < N) : (wyS s N g).1 17 c = nI (g c) := by
  unfold wyS
  rw [xset_same]
  simp [rowN, hc]
theorem wyS_same (g : Nat → Nat) {c : Nat} (hc : c < N) : xset (wyS s N g) 17 (upd ((wyS s N g).1 17) c (nI (g c))) = wyS s N g := by
  rw [wyS_set g c _ hc]
  congr 1
  funext j
  by_cases e : j = c
  · rw [if_pos e, e]
  · rw [if_neg e]
theorem wyS_ne (g : Nat → Nat) {q : Nat} (hq : q ≠ 17) : (wyS s N g).1 q = s.1 q := xset_ne _ _ hq
theorem wyS_Tw (hT : TwM s N W kd) (g : Nat → Nat) : TwM (wyS s N g) N W kd := by
  obtain ⟨h1, h2, h3, h4, h5⟩ := hT
  refine ⟨h1, ?_, ?_, h4, ?_⟩
  · rw [wyS_ne g (by omega)]; exact h2
  · rw [wyS_ne g (by omega)]; exact h3
  · intro i hi; rw [wyS_ne g (by omega)]; exact h5 i hi
theorem J80_0 {g : Nat → Nat} {c k b : Nat} {v : Int32} (hc : c < N) (hN : N ≤ 36) (hb : b < 2) (hk : k < 4) : F_X9_doesShorten_L14_J80 (nI c) (nI b) (nI k) v (nI 0) (wyS s N g) = some (Sum.inl (nI b, nI (k + 1), wyS s N g)) := by
  have e17 := wyS_at (s := s) g hc
  have es := wyS_same (s := s) g hc
  rw [← e17] at es
  unfold F_X9_doesShorten_L14_J80
  rcases two_cases hb with rfl | rfl
  · simp (disch := omega) only [↓Lm1, L0, L1, L2, L3, L4, L5, L6, L7, L8, L9, L10, L11, L12, L13, L14, L15, L16, L17, L18, L19, L20, L27, L30, L31, L35, L36, L37, L38, L39, L40, L41, L46, L48, L51, L57, L59, L60, L82, L98, L99, L100, L102, L104, L107, L110, L119, L144, L240, L255, L256, L360, L999, L1000000, nI_val, n_lt_t, n_lt_f, n_le_t, n_le_f, n_eq_t, n_eq_f, k_le_f, m_lt_t, m_lt_f, m_le_t, m_le_f, m_eq_f, m_eq_f', nI_add, nI_mulE, nI_subE, if_true, if_false, ite_true, ite_false, or_false, false_or, or_true, true_or, or_self, and_true, true_and, and_false, false_and, not_true_eq_false, not_false_eq_true, Option.bind_some, Sum.elim_inl, Sum.elim_inr, xu_set, xset_same, xset_ne, xset_2, xset_set, upd_same, upd_ne, nbI_some, ne_eq, reduceCtorEq, reduceIte, Nat.reduceAdd, Nat.reduceMul, Nat.reduceSub, Nat.add_zero, Nat.zero_add, Nat.mul_zero, Nat.zero_mul, es]
  · simp (disch := omega) only [↓Lm1, L0, L1, L2, L3, L4, L5, L6, L7, L8, L9, L10, L11, L12, L13, L14, L15, L16, L17, L18, L19, L20, L27, L30, L31, L35, L36, L37, L38, L39, L40, L41, L46, L48, L51, L57, L59, L60, L82, L98, L99, L100, L102, L104, L107, L110, L119, L144, L240, L255, L256, L360, L999, L1000000, nI_val, n_lt_t, n_lt_f, n_le_t, n_le_f, n_eq_t, n_eq_f, k_le_f, m_lt_t, m_lt_f, m_le_t, m_le_f, m_eq_f, m_eq_f', nI_add, nI_mulE, nI_subE, if_true, if_false, ite_true, ite_false, or_false, false_or, or_true, true_or, or_self, and_true, true_and, and_false, false_and, not_true_eq_false, not_false_eq_true, Option.bind_some, Sum.elim_inl, Sum.elim_inr, xu_set, xset_same, xset_ne, xset_2, xset_set, upd_same, upd_ne, nbI_some, ne_eq, reduceCtorEq, reduceIte, Nat.reduceAdd, Nat.reduceMul, Nat.reduceSub, Nat.add_zero, Nat.zero_add, Nat.mul_zero, Nat.zero_mul, es]
theorem short_cell (hT : TwM s N W kd) (hct : ∀ j, j < N → ct j ≤ 9 ∧ s.1 16 j = nI (ct j)) {f : Nat → Nat} (hs : SnW N W kd ct t f) {c : Nat} (hc : c < N) {b0 : Nat} (hb0 : b0 < 2) :
    ∃ (b : Nat) (g : Nat → Nat), xlp (F_X9_doesShorten_L14 (nI c)) 100000 (nI b0, nI 0, wyS s N f) = some (nI b, wyS s N g) ∧ b < 2 ∧ SnW N W kd ct t g ∧ (∀ d, d < N → g d ≤ f d) ∧ (∀ d, d ≠ c → g d = f d) ∧ (∀ n, adjO N W kd c n → g c ≤ f n + ct c) ∧ (b = b0 ∧ g = f ∨ b = 1 ∧ smN g N < smN f N) := by
  have hN := hT.1.1
  have hg := hT.1
  obtain ⟨z, h1, h2⟩ := xlp_cnt (f := F_X9_doesShorten_L14 (nI c))
    (fun k a => ∃ (b : Nat) (g : Nat → Nat), a = (nI b, nI k, wyS s N g) ∧ b < 2 ∧ SnW N W kd ct t g ∧ (∀ d, d < N → g d ≤ f d) ∧ (∀ d, d ≠ c → g d = f d) ∧ (∀ j n, j < k → nbr N W c j = some n → kd c = 0 → kd n = 0 → g c ≤ f n + ct c) ∧ (b = b0 ∧ g = f ∨ b = 1 ∧ smN g N < smN f N))
    (fun z => ∃ (b : Nat) (g : Nat → Nat), z = (nI b, wyS s N g) ∧ b < 2 ∧ SnW N W kd ct t g ∧ (∀ d, d < N → g d ≤ f d) ∧ (∀ d, d ≠ c → g d = f d) ∧ (∀ j n, j < 4 → nbr N W c j = some n → kd c = 0 → kd n = 0 → g c ≤ f n + ct c) ∧ (b = b0 ∧ g = f ∨ b = 1 ∧ smN g N < smN f N))
    4 (by omega) (by
      intro k a hk4
      rintro ⟨b, g, rfl, hb, hsg, hle, hoff, hpr, hbb⟩
      left
      have hTg := wyS_Tw hT g
      have eb := beside_eq hTg hc hk4
      have j0 : ∀ v : Int32, F_X9_doesShorten_L14_J80 (nI c) (nI b) (nI k) v (nI 0) (wyS s N g) = some (Sum.inl (nI b, nI (k + 1), wyS s N g)) := fun v => J80_0 hc hN hb hk4
      unfold F_X9_doesShorten_L14 F_X9_doesShorten_L14_J79
      cases hnb : nbr N W c k with
      | none =>
        rw [hnb] at eb
        refine ⟨(nI b, nI (k + 1), wyS s N g), ?_, b, g, rfl, hb, hsg, hle, hoff, fun j n hj hn => ?_, hbb⟩
        · simp (disch := omega) only [↓Lm1, L0, L1, L2, L3, L4, L5, L6, L7, L8, L9, L10, L11, L12, L13, L14, L15, L16, L17, L18, L19, L20, L27, L30, L31, L35, L36, L37, L38, L39, L40, L41, L46, L48, L51, L57, L59, L60, L82, L98, L99, L100, L102, L104, L107, L110, L119, L144, L240, L255, L256, L360, L999, L1000000, nI_val, n_lt_t, n_lt_f, n_le_t, n_le_f, n_eq_t, n_eq_f, k_le_f, m_lt_t, m_lt_f, m_le_t, m_le_f, m_eq_f, m_eq_f', nI_add, nI_mulE, nI_subE, if_true, if_false, ite_true, ite_false, or_false, false_or, or_true, true_or, or_self, and_true, true_and, and_false, false_and, not_true_eq_false, not_false_eq_true, Option.bind_some, Sum.elim_inl, Sum.elim_inr, xu_set, xset_same, xset_ne, xset_2, xset_set, upd_same, upd_ne, nbI_some, ne_eq, reduceCtorEq, reduceIte, Nat.reduceAdd, Nat.reduceMul, Nat.reduceSub, Nat.add_zero, Nat.zero_add, Nat.mul_zero, Nat.zero_mul, eb, j0]
        · by_cases e : j = k
          · subst e; rw [hnb] at hn; cases hn
          · exact hpr j n (by omega) hn
      | some n =>
        rw [hnb] at eb
        have hnN := nbr_lt hg hc hnb
        have b1 := (hsg.2 n hnN).1
        have b2 := (hsg.2 c hc).1
        obtain ⟨b3, e16⟩ := hct c hc
        have e16' : (wyS s N g).1 16 c = nI (ct c) := by rw [wyS_ne g (by omega)]; exact e16
        have e17c := wyS_at (s := s) g hc
        have e17n := wyS_at (s := s) g hnN
        obtain ⟨k3c, e3c⟩ := hTg.2.2.2.2 c hc
        obtain ⟨k3n, e3n⟩ := hTg.2.2.2.2 n hnN
        have hgn := hle n hnN
        by_cases on : kd n = 0
        · by_cases oc : kd c = 0
          · by_cases h : g n + ct c < g c
            · have hsm := (smN_set (g := g) (c := c) h N).2 hc
              refine ⟨(nI 1, nI (k + 1), wyS s N (fun j => if j = c then g n + ct c else g j)), ?_, 1, _, rfl, by omega, hsg.step ⟨⟨hc, k, hk4, hnb⟩, oc, on⟩ hnN h, fun d hd => ?_, fun d hd => ?_, fun j m hj hm2 oc' om => ?_, Or.inr ⟨rfl, ?_⟩⟩
              · have es := wyS_set (s := s) g c (g n + ct c) hc
                unfold F_X9_doesShorten_L14_J80
                rcases two_cases hb with rfl | rfl
                · simp (disch := omega) only [↓Lm1, L0, L1, L2, L3, L4, L5, L6, L7, L8, L9, L10, L11, L12, L13, L14, L15, L16, L17, L18, L19, L20, L27, L30, L31, L35, L36, L37, L38, L39, L40, L41, L46, L48, L51, L57, L59, L60, L82, L98, L99, L100, L102, L104, L107, L110, L119, L144, L240, L255, L256, L360, L999, L1000000, nI_val, n_lt_t, n_lt_f, n_le_t, n_le_f, n_eq_t, n_eq_f, k_le_f, m_lt_t, m_lt_f, m_le_t, m_le_f, m_eq_f, m_eq_f', nI_add, nI_mulE, nI_subE, if_true, if_false, ite_true, ite_false, or_false, false_or, or_true, true_or, or_self, and_true, true_and, and_false, false_and, not_true_eq_false, not_false_eq_true, Option.bind_some, Sum.elim_inl, Sum.elim_inr, xu_set, xset_same, xset_ne, xset_2, xset_set, upd_same, upd_ne, nbI_some, ne_eq, reduceCtorEq, reduceIte, Nat.reduceAdd, Nat.reduceMul, Nat.reduceSub, Nat.add_zero, Nat.zero_add, Nat.mul_zero, Nat.zero_mul, eb, e3n, on, e3c, oc, e17c, e17n, e16', es]
                · simp (disch := omega) only [↓Lm1, L0, L1, L2, L3, L4, L5, L6, L7, L8, L9, L10, L11, L12, L13, L14, L15, L16, L17, L18, L19, L20, L27, L30, L31, L35, L36, L37, L38, L39, L40, L41, L46, L48, L51, L57, L59, L60, L82, L98, L99, L100, L102, L104, L107, L110, L119, L144, L240, L255, L256, L360, L999, L1000000, nI_val, n_lt_t, n_lt_f, n_le_t, n_le_f, n_eq_t, n_eq_f, k_le_f, m_lt_t, m_lt_f, m_le_t, m_le_f, m_eq_f, m_eq_f', nI_add, nI_mulE, nI_subE, if_true, if_false, ite_true, ite_false, or_false, false_or, or_true, true_or, or_self, and_true, true_and, and_false, false_and, not_true_eq_false, not_false_eq_true, Option.bind_some, Sum.elim_inl, Sum.elim_inr, xu_set, xset_same, xset_ne, xset_2, xset_set, upd_same, upd_ne, nbI_some, ne_eq, reduceCtorEq, reduceIte, Nat.reduceAdd, Nat.reduceMul, Nat.reduceSub, Nat.add_zero, Nat.zero_add, Nat.mul_zero, Nat.zero_mul, eb, e3n, on, e3c, oc, e17c, e17n, e16', es]
              · by_cases e : d = c
                · subst e
                  simp only [if_true]
                  have := hle d hd
                  omega
                · simp only [e, if_false]
                  exact hle d hd
              · simp only [hd, if_false]
                exact hoff d hd
              · simp only [if_true]
                by_cases e : j = k
                · subst e
                  rw [hnb] at hm2
                  cases hm2
                  omega
                · have := hpr j m (by omega) hm2 oc' om
                  omega
              · rcases hbb with ⟨-, e⟩ | ⟨-, e⟩
                · rw [e] at hsm ⊢; exact hsm
                · omega
            · refine ⟨(nI b, nI (k + 1), wyS s N g), ?_, b, g, rfl, hb, hsg, hle, hoff, fun j m hj hm2 oc' om => ?_, hbb⟩
              · simp (disch := omega) only [↓Lm1, L0, L1, L2, L3, L4, L5, L6, L7, L8, L9, L10, L11, L12, L13, L14, L15, L16, L17, L18, L19, L20, L27, L30, L31, L35, L36, L37, L38, L39, L40, L41, L46, L48, L51, L57, L59, L60, L82, L98, L99, L100, L102, L104, L107, L110, L119, L144, L240, L255, L256, L360, L999, L1000000, nI_val, n_lt_t, n_lt_f, n_le_t, n_le_f, n_eq_t, n_eq_f, k_le_f, m_lt_t, m_lt_f, m_le_t, m_le_f, m_eq_f, m_eq_f', nI_add, nI_mulE, nI_subE, if_true, if_false, ite_true, ite_false, or_false, false_or, or_true, true_or, or_self, and_true, true_and, and_false, false_and, not_true_eq_false, not_false_eq_true, Option.bind_some, Sum.elim_inl, Sum.elim_inr, xu_set, xset_same, xset_ne, xset_2, xset_set, upd_same, upd_ne, nbI_some, ne_eq, reduceCtorEq, reduceIte, Nat.reduceAdd, Nat.reduceMul, Nat.reduceSub, Nat.add_zero, Nat.zero_add, Nat.mul_zero, Nat.zero_mul, eb, e3n, on, e3c, oc, e17c, e17n, e16', j0]
              · by_cases e : j = k
                · subst e
                  rw [hnb] at hm2
                  cases hm2
                  omega
                · exact hpr j m (by omega) hm2 oc' om
          · refine ⟨(nI b, nI (k + 1), wyS s N g), ?_, b, g, rfl, hb, hsg, hle, hoff, fun j m hj hm2 oc' om => absurd oc' oc, hbb⟩
            simp (disch := omega) only [↓Lm1, L0, L1, L2, L3, L4, L5, L6, L7, L8, L9, L10, L11, L12, L13, L14, L15, L16, L17, L18, L19, L20, L27, L30, L31, L35, L36, L37, L38, L39, L40, L41, L46, L48, L51, L57, L59, L60, L82, L98, L99, L100, L102, L104, L107, L110, L119, L144, L240, L255, L256, L360, L999, L1000000, nI_val, n_lt_t, n_lt_f, n_le_t, n_le_f, n_eq_t, n_eq_f, k_le_f, m_lt_t, m_lt_f, m_le_t, m_le_f, m_eq_f, m_eq_f', nI_add, nI_mulE, nI_subE, if_true, if_false, ite_true, ite_false, or_false, false_or, or_true, true_or, or_self, and_true, true_and, and_false, false_and, not_true_eq_false, not_false_eq_true, Option.bind_some, Sum.elim_inl, Sum.elim_inr, xu_set, xset_same, xset_ne, xset_2, xset_set, upd_same, upd_ne, nbI_some, ne_eq, reduceCtorEq, reduceIte, Nat.reduceAdd, Nat.reduceMul, Nat.reduceSub, Nat.add_zero, Nat.zero_add, Nat.mul_zero, Nat.zero_mul, eb, e3n, on, e3c, oc, j0]
        · refine ⟨(nI b, nI (k + 1), wyS s N g), ?_, b, g, rfl, hb, hsg, hle, hoff, fun j m hj hm2 oc' om => ?_, hbb⟩
          · simp (disch := omega) only [↓Lm1, L0, L1, L2, L3, L4, L5, L6, L7, L8, L9, L10, L11, L12, L13, L14, L15, L16, L17, L18, L19, L20, L27, L30, L31, L35, L36, L37, L38, L39, L40, L41, L46, L48, L51, L57, L59, L60, L82, L98, L99, L100, L102, L104, L107, L110, L119, L144, L240, L255, L256, L360, L999, L1000000, nI_val, n_lt_t, n_lt_f, n_le_t, n_le_f, n_eq_t, n_eq_f, k_le_f, m_lt_t, m_lt_f, m_le_t, m_le_f, m_eq_f, m_eq_f', nI_add, nI_mulE, nI_subE, if_true, if_false, ite_true, ite_false, or_false, false_or, or_true, true_or, or_self, and_true, true_and, and_false, false_and, not_true_eq_false, not_false_eq_true, Option.bind_some, Sum.elim_inl, Sum.elim_inr, xu_set, xset_same, xset_ne, xset_2, xset_set, upd_same, upd_ne, nbI_some, ne_eq, reduceCtorEq, reduceIte, Nat.reduceAdd, Nat.reduceMul, Nat.reduceSub, Nat.add_zero, Nat.zero_add, Nat.mul_zero, Nat.zero_mul, eb, e3n, on, j0]
          · by_cases e : j = k
            · subst e
              rw [hnb] at hm2
              cases hm2
              exact absurd om on
            · exact hpr j m (by omega) hm2 oc' om) (by
      rintro a ⟨b, g, rfl, hb, hsg, hle, hoff, hpr, hbb⟩
      refine ⟨(nI b, wyS s N g), ?_, b, g, rfl, hb, hsg, hle, hoff, hpr, hbb⟩
      unfold F_X9_doesShorten_L14
      simp (disch := omega) only [↓Lm1, L0, L1, L2, L3, L4, L5, L6, L7, L8, L9, L10, L11, L12, L13, L14, L15, L16, L17, L18, L19, L20, L27, L30, L31, L35, L36, L37, L38, L39, L40, L41, L46, L48, L51, L57, L59, L60, L82, L98, L99, L100, L102, L104, L107, L110, L119, L144, L240, L255, L256, L360, L999, L1000000, nI_val, n_lt_t, n_lt_f, n_le_t, n_le_f, n_eq_t, n_eq_f, k_le_f, m_lt_t, m_lt_f, m_le_t, m_le_f, m_eq_f, m_eq_f', nI_add, nI_mulE, nI_subE, if_true, if_false, ite_true, ite_false, or_false, false_or, or_true, true_or, or_self, and_true, true_and, and_false, false_and, not_true_eq_false, not_false_eq_true, Option.bind_some, Sum.elim_inl, Sum.elim_inr, xu_set, xset_same, xset_ne, xset_2, xset_set, upd_same, upd_ne, nbI_some, ne_eq, reduceCtorEq, reduceIte, Nat.reduceAdd, Nat.reduceMul, Nat.reduceSub, Nat.add_zero, Nat.zero_add, Nat.mul_zero, Nat.zero_mul]) (a := (nI b0, nI 0, wyS s N f)) ⟨b0, f, rfl, hb0, hs, fun _ _ => Nat.le_refl _, fun _ _ => rfl, fun j n hj => absurd hj (Nat.not_lt_zero j), Or.inl ⟨rfl, rfl⟩⟩
  obtain ⟨b, g, rfl, g1, g2, g3, g4, g5, g6⟩ := h2
  exact ⟨b, g, h1, g1, g2, g3, g4, fun n ha => by
    obtain ⟨⟨_, k, hk, hn⟩, oc, on⟩ := ha
    exact g5 k n hk hn oc on, g6⟩
theorem short_eq (hT : TwM s N W kd) (hct : ∀ j, j < N → ct j ≤ 9 ∧ s.1 16 j = nI (ct j)) {f : Nat → Nat} (hs : SnW N W kd ct t f) :
    ∃ (b : Nat) (g : Nat → Nat), F_X9_doesShorten (wyS s N f) = some (nI b, wyS s N g) ∧ SnW N W kd ct t g ∧ (∀ c n, adjO N W kd c n → g c ≤ f n + ct c) ∧ (b = 0 ∧ (∀ c, c < N → g c = f c) ∨ b = 1 ∧ smN g N < smN f N) := by
  have hN := hT.1.1
  have hg := hT.1
  obtain ⟨z, h1, h2⟩ := xlp_cnt (f := F_X9_doesShorten_L4)
    (fun i a => ∃ (b : Nat) (g : Nat → Nat), a = (nI b, nI i, wyS s N g) ∧ b < 2 ∧ SnW N W kd ct t g ∧ (∀ d, d < N → g d ≤ f d) ∧ (∀ c n, c < i → adjO N W kd c n → g c ≤ f n + ct c) ∧ (b = 0 ∧ (∀ c, c < N → g c = f c) ∨ b = 1 ∧ smN g N < smN f N) ∧ smN g N ≤ smN f N)
    (fun z => ∃ (b : Nat) (g : Nat → Nat), z = (nI b, wyS s N g) ∧ b < 2 ∧ SnW N W kd ct t g ∧ (∀ c n, c < N → adjO N W kd c n → g c ≤ f n + ct c) ∧ (b = 0 ∧ (∀ c, c < N → g c = f c) ∨ b = 1 ∧ smN g N < smN f N))
    N (by omega) (by
      intro i a hiN
      rintro ⟨b, g, rfl, hb, hsg, hle, hpr, hbb, hsm⟩
      have e3 : (wyS s N g).1 0 3 = nI N := (wyS_Tw hT g).2.1
      left
      obtain ⟨b', g', q1, q0, q2, q3, q4, q5, q6⟩ := short_cell hT hct hsg hiN hb
      refine ⟨(nI b', nI (i + 1), wyS s N g'), ?_, b', g', rfl, q0, q2, fun d hd => Nat.le_trans (q3 d hd) (hle d hd), fun c n hc ha => ?_, ?_, ?_⟩
      · unfold F_X9_doesShorten_L4
        simp (disch := omega) only [↓Lm1, L0, L1, L2, L3, L4, L5, L6, L7, L8, L9, L10, L11, L12, L13, L14, L15, L16, L17, L18, L19, L20, L27, L30, L31, L35, L36, L37, L38, L39, L40, L41, L46, L48, L51, L57, L59, L60, L82, L98, L99, L100, L102, L104, L107, L110, L119, L144, L240, L255, L256, L360, L999, L1000000, nI_val, n_lt_t, n_lt_f, n_le_t, n_le_f, n_eq_t, n_eq_f, k_le_f, m_lt_t, m_lt_f, m_le_t, m_le_f, m_eq_f, m_eq_f', nI_add, nI_mulE, nI_subE, if_true, if_false, ite_true, ite_false, or_false, false_or, or_true, true_or, or_self, and_true, true_and, and_false, false_and, not_true_eq_false, not_false_eq_true, Option.bind_some, Sum.elim_inl, Sum.elim_inr, xu_set, xset_same, xset_ne, xset_2, xset_set, upd_same, upd_ne, nbI_some, ne_eq, reduceCtorEq, reduceIte, Nat.reduceAdd, Nat.reduceMul, Nat.reduceSub, Nat.add_zero, Nat.zero_add, Nat.mul_zero, Nat.zero_mul, e3, q1]
      · have hn := adj_lt hg ha.1
        by_cases e : c = i
        · subst e
          have h3 := q5 n ha
          have h4 := hle n hn
          omega
        · rw [q4 c e]
          exact hpr c n (by omega) ha
      · rcases q6 with ⟨e1, e2⟩ | ⟨e1, e2⟩
        · rw [e1, e2]; exact hbb
        · exact Or.inr ⟨e1, by omega⟩
      · rcases q6 with ⟨e1, e2⟩ | ⟨e1, e2⟩
        · rw [e2]; exact hsm
        · omega) (by
      rintro a ⟨b, g, rfl, hb, hsg, hle, hpr, hbb, hsm⟩
      have e3 : (wyS s N g).1 0 3 = nI N := (wyS_Tw hT g).2.1
      refine ⟨(nI b, wyS s N g), ?_, b, g, rfl, hb, hsg, hpr, hbb⟩
      unfold F_X9_doesShorten_L4
      simp (disch := omega) only [↓Lm1, L0, L1, L2, L3, L4, L5, L6, L7, L8, L9, L10, L11, L12, L13, L14, L15, L16, L17, L18, L19, L20, L27, L30, L31, L35, L36, L37, L38, L39, L40, L41, L46, L48, L51, L57, L59, L60, L82, L98, L99, L100, L102, L104, L107, L110, L119, L144, L240, L255, L256, L360, L999, L1000000, nI_val, n_lt_t, n_lt_f, n_le_t, n_le_f, n_eq_t, n_eq_f, k_le_f, m_lt_t, m_lt_f, m_le_t, m_le_f, m_eq_f, m_eq_f', nI_add, nI_mulE, nI_subE, if_true, if_false, ite_true, ite_false, or_false, false_or, or_true, true_or, or_self, and_true, true_and, and_false, false_and, not_true_eq_false, not_false_eq_true, Option.bind_some, Sum.elim_inl, Sum.elim_inr, xu_set, xset_same, xset_ne, xset_2, xset_set, upd_same, upd_ne, nbI_some, ne_eq, reduceCtorEq, reduceIte, Nat.reduceAdd, Nat.reduceMul, Nat.reduceSub, Nat.add_zero, Nat.zero_add, Nat.mul_zero, Nat.zero_mul, e3]) (a := (nI 0, nI 0, wyS s N f)) ⟨0, f, rfl, by omega, hs, fun _ _ => Nat.le_refl _, fun c n hc => absurd hc (Nat.not_lt_zero c), Or.inl ⟨rfl, fun _ _ => rfl⟩, Nat.le_refl _⟩
  obtain ⟨b, g, rfl, g0, g1, g2, g3⟩ := h2
  refine ⟨b, g, ?_, g1, fun c n ha => g2 c n ha.1.1 ha, g3⟩
  unfold F_X9_doesShorten
  rcases two_cases g0 with rfl | rfl
  · simp (disch := omega) only [↓Lm1, L0, L1, L2, L3, L4, L5, L6, L7, L8, L9, L10, L11, L12, L13, L14, L15, L16, L17, L18, L19, L20, L27, L30, L31, L35, L36, L37, L38, L39, L40, L41, L46, L48, L51, L57, L59, L60, L82, L98, L99, L100, L102, L104, L107, L110, L119, L144, L240, L255, L256, L360, L999, L1000000, nI_val, n_lt_t, n_lt_f, n_le_t, n_le_f, n_eq_t, n_eq_f, k_le_f, m_lt_t, m_lt_f, m_le_t, m_le_f, m_eq_f, m_eq_f', nI_add, nI_mulE, nI_subE, if_true, if_false, ite_true, ite_false, or_false, false_or, or_true, true_or, or_self, and_true, true_and, and_false, false_and, not_true_eq_false, not_false_eq_true, Option.bind_some, Sum.elim_inl, Sum.elim_inr, xu_set, xset_same, xset_ne, xset_2, xset_set, upd_same, upd_ne, nbI_some, ne_eq, reduceCtorEq, reduceIte, Nat.reduceAdd, Nat.reduceMul, Nat.reduceSub, Nat.add_zero, Nat.zero_add, Nat.mul_zero, Nat.zero_mul, h1]
  · simp (disch := omega) only [↓Lm1, L0, L1, L2, L3, L4, L5, L6, L7, L8, L9, L10, L11, L12, L13, L14, L15, L16, L17, L18, L19, L20, L27, L30, L31, L35, L36, L37, L38, L39, L40, L41, L46, L48, L51, L57, L59, L60, L82, L98, L99, L100, L102, L104, L107, L110, L119, L144, L240, L255, L256, L360, L999, L1000000, nI_val, n_lt_t, n_lt_f, n_le_t, n_le_f, n_eq_t, n_eq_f, k_le_f, m_lt_t, m_lt_f, m_le_t, m_le_f, m_eq_f, m_eq_f', nI_add, nI_mulE, nI_subE, if_true, if_false, ite_true, ite_false, or_false, false_or, or_true, true_or, or_self, and_true, true_and, and_false, false_and, not_true_eq_false, not_false_eq_true, Option.bind_some, Sum.elim_inl, Sum.elim_inr, xu_set, xset_same, xset_ne, xset_2, xset_set, upd_same, upd_ne, nbI_some, ne_eq, reduceCtorEq, reduceIte, Nat.reduceAdd, Nat.reduceMul, Nat.reduceSub, Nat.add_zero, Nat.zero_add, Nat.mul_zero, Nat.zero_mul, h1]
theorem SnW.below {g : Nat → Nat} (hg : tgrid N W) (h : SnW N W kd ct t g) (hr : ∀ c n, adjO N W kd c n → g c ≤ g n + ct c) : ∀ {k c x : Nat}, Wk (adjO N W kd) ct k c t x → g c ≤ x + ct c
  | 0, c, x, q => by
    obtain ⟨rfl, rfl⟩ := q
    rw [h.1]
    omega
  | k + 1, c, x, q => by
    obtain ⟨n, c', h1, h2, rfl⟩ := q
    have h3 := SnW.below hg h hr h2
    have h4 := hr c n h1
    omega
theorem shorts_eq (l2 : Int32) (hT : TwM s N W kd) (hct : ∀ j, j < N → ct j ≤ 9 ∧ s.1 16 j = nI (ct j)) {f : Nat → Nat} (hs : SnW N W kd ct t f) :
    ∃ g, xlp (F_X9_wayOf_L97 l2) 100000 (nI 1, wyS s N f) = some (wyS s N g) ∧ MnW N W kd ct t g ∧ ∀ c, c < N → g c ≤ 999 := by
  have hN := hT.1.1
  have hg := hT.1
  have hsmr : ∀ g : Nat → Nat, SnW N W kd ct t g → smN (fun j => ((wyS s N g).1 17 j).toNatClampNeg) N = smN g N := fun g hsg => smN_ext N (fun j hj => by
    have := (hsg.2 j hj).1
    rw [wyS_at g hj, nI_val (by omega)])
  obtain ⟨z, h1, h2⟩ := xlp_inv (f := F_X9_wayOf_L97 l2)
    (fun a => ∃ (b : Nat) (g : Nat → Nat), a = (nI b, wyS s N g) ∧ SnW N W kd ct t g ∧ (b = 1 ∨ b = 0 ∧ ∀ c n, adjO N W kd c n → g c ≤ g n + ct c))
    (fun z => ∃ g, z = wyS s N g ∧ MnW N W kd ct t g ∧ ∀ c, c < N → g c ≤ 999)
    (fun a => if a.1 = nI 0 then 0 else 1 + smN (fun j => (a.2.1 17 j).toNatClampNeg) N) (by
      rintro a ⟨b, g, rfl, hsg, hbb⟩
      rcases hbb with rfl | ⟨rfl, hrl⟩
      · left
        obtain ⟨b', g', q1, q2, q3, q4⟩ := short_eq hT hct hsg
        refine ⟨(nI b', wyS s N g'), ?_, ⟨b', g', rfl, q2, ?_⟩, ?_⟩
        · unfold F_X9_wayOf_L97
          simp (disch := omega) only [↓Lm1, L0, L1, L2, L3, L4, L5, L6, L7, L8, L9, L10, L11, L12, L13, L14, L15, L16, L17, L18, L19, L20, L27, L30, L31, L35, L36, L37, L38, L39, L40, L41, L46, L48, L51, L57, L59, L60, L82, L98, L99, L100, L102, L104, L107, L110, L119, L144, L240, L255, L256, L360, L999, L1000000, nI_val, n_lt_t, n_lt_f, n_le_t, n_le_f, n_eq_t, n_eq_f, k_le_f, m_lt_t, m_lt_f, m_le_t, m_le_f, m_eq_f, m_eq_f', nI_add, nI_mulE, nI_subE, if_true, if_false, ite_true, ite_false, or_false, false_or, or_true, true_or, or_self, and_true, true_and, and_false, false_and, not_true_eq_false, not_false_eq_true, Option.bind_some, Sum.elim_inl, Sum.elim_inr, xu_set, xset_same, xset_ne, xset_2, xset_set, upd_same, upd_ne, nbI_some, ne_eq, reduceCtorEq, reduceIte, Nat.reduceAdd, Nat.reduceMul, Nat.reduceSub, Nat.add_zero, Nat.zero_add, Nat.mul_zero, Nat.zero_mul, q1]
        · rcases q4 with ⟨e1, e2⟩ | ⟨e1, -⟩
          · refine Or.inr ⟨e1, fun c n ha => ?_⟩
            have := q3 c n ha
            rw [← e2 n (adj_lt hg ha.1)] at this
            exact this
          · exact Or.inl e1
        · show (if nI b' = nI 0 then 0 else 1 + smN (fun j => ((wyS s N g').1 17 j).toNatClampNeg) N) < (if nI 1 = nI 0 then 0 else 1 + smN (fun j => ((wyS s N g).1 17 j).toNatClampNeg) N)
          rw [hsmr g hsg, hsmr g' q2, if_neg (show ¬ nI 1 = nI 0 by decide)]
          rcases q4 with ⟨e1, -⟩ | ⟨e1, e2⟩
          · rw [if_pos (by rw [e1])]; omega
          · rw [e1, if_neg (by decide)]; omega
      · right
        refine ⟨wyS s N g, ?_, g, rfl, fun c hc => ⟨(hsg.2 c hc).2, fun k x hx => hsg.below hg hrl hx⟩, fun c hc => (hsg.2 c hc).1⟩
        unfold F_X9_wayOf_L97
        simp (disch := omega) only [↓Lm1, L0, L1, L2, L3, L4, L5, L6, L7, L8, L9, L10, L11, L12, L13, L14, L15, L16, L17, L18, L19, L20, L27, L30, L31, L35, L36, L37, L38, L39, L40, L41, L46, L48, L51, L57, L59, L60, L82, L98, L99, L100, L102, L104, L107, L110, L119, L144, L240, L255, L256, L360, L999, L1000000, nI_val, n_lt_t, n_lt_f, n_le_t, n_le_f, n_eq_t, n_eq_f, k_le_f, m_lt_t, m_lt_f, m_le_t, m_le_f, m_eq_f, m_eq_f', nI_add, nI_mulE, nI_subE, if_true, if_false, ite_true, ite_false, or_false, false_or, or_true, true_or, or_self, and_true, true_and, and_false, false_and, not_true_eq_false, not_false_eq_true, Option.bind_some, Sum.elim_inl, Sum.elim_inr, xu_set, xset_same, xset_ne, xset_2, xset_set, upd_same, upd_ne, nbI_some, ne_eq, reduceCtorEq, reduceIte, Nat.reduceAdd, Nat.reduceMul, Nat.reduceSub, Nat.add_zero, Nat.zero_add, Nat.mul_zero, Nat.zero_mul]) 100000 (nI 1, wyS s N f) ⟨1, f, rfl, hs, Or.inl rfl⟩ (by
      show (if nI 1 = nI 0 then 0 else 1 + smN (fun j => ((wyS s N f).1 17 j).toNatClampNeg) N) < 100000
      rw [if_neg (by decide), hsmr f hs]
      have := smN_le (F := 999) N (fun j hj => (hs.2 j hj).1)
      have h5 : N * 999 ≤ 36 * 999 := Nat.mul_le_mul_right _ hN
      omega)
  obtain ⟨g, rfl, hm⟩ := h2
  exact ⟨g, h1, hm⟩
end WAYM
