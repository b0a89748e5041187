/-! ===== numbers and loops, for long use ===== -/
theorem Lm1 : (-1 : Int32) = nbI none := rfl
theorem n_lt_t {a b : Nat} (h : a < b) (hb : b < 2 ^ 31) : (nI a < nI b) = True := eq_true (nI_lt h hb)
theorem n_lt_f {a b : Nat} (h : b ≤ a) (ha : a < 2 ^ 31) : (nI a < nI b) = False := eq_false (nI_nlt h ha)
theorem n_le_t {a b : Nat} (h : a ≤ b) (hb : b < 2 ^ 31) : (nI a ≤ nI b) = True := eq_true (nI_le h hb)
theorem n_le_f {a b : Nat} (h : b < a) (ha : a < 2 ^ 31) : (nI a ≤ nI b) = False := eq_false (nI_ge h ha)
theorem n_eq_t {a b : Nat} (h : a = b) : (nI a = nI b) = True := eq_true (by rw [h])
theorem n_eq_f {a b : Nat} (h : a ≠ b) (ha : a < 2 ^ 31) (hb : b < 2 ^ 31) : (nI a = nI b) = False := eq_false fun q => h ((nI_eq ha hb).mp q)
theorem k_le_f {a b : Nat} (h : b < a) : (a ≤ b) = False := eq_false (by omega)
theorem m_lt_t {a : Nat} (h : a < 2 ^ 31) : (nbI none < nI a) = True := by
  rw [nbI_none, i_lt, nI_toInt h, i_m1]; exact eq_true (by omega)
theorem m_lt_f {a : Nat} (h : a < 2 ^ 31) : (nI a < nbI none) = False := by
  rw [nbI_none, i_lt, nI_toInt h, i_m1]; exact eq_false (by omega)
theorem m_le_t {a : Nat} (h : a < 2 ^ 31) : (nbI none ≤ nI a) = True := by
  rw [nbI_none, i_le, nI_toInt h, i_m1]; exact eq_true (by omega)
theorem m_le_f {a : Nat} (h : a < 2 ^ 31) : (nI a ≤ nbI none) = False := by
  rw [nbI_none, i_le, nI_toInt h, i_m1]; exact eq_false (by omega)
theorem m_eq_f {a : Nat} (h : a < 2 ^ 31) : (nI a = nbI none) = False := eq_false (nI_m1 h)
theorem m_eq_f' {a : Nat} (h : a < 2 ^ 31) : (nbI none = nI a) = False := eq_false fun q => nI_m1 h q.symm
theorem nI_mulE (a b : Nat) : nI a * nI b = nI (a * b) := (Int32.ofNat_mul a b).symm
theorem nI_subE {a b : Nat} (h : b ≤ a) : nI a - nI b = nI (a - b) := by
  have e : nI a = nI (a - b) + nI b := by rw [nI_add]; congr 1; omega
  rw [e]
  exact Int32.add_sub_cancel _ _
/-- a loop that counts; it may end early -/
theorem xlp_cnt {α β : Type} {f : α → Option (α ⊕ β)} (I : Nat → α → Prop) (Q : β → Prop) (n : Nat) (hn : n < 100000) (hs : ∀ i a, i < n → I i a → (∃ a', f a = some (.inl a') ∧ I (i + 1) a') ∨ ∃ b, f a = some (.inr b) ∧ Q b) (he : ∀ a, I n a → ∃ b, f a = some (.inr b) ∧ Q b) {a : α} (h0 : I 0 a) : ∃ b, xlp f 100000 a = some b ∧ Q b := by
  have key : ∀ N k a, k ≤ n → n - k < N → I k a → ∃ b, xlp f N a = some b ∧ Q b := by
    intro N
    induction N with
    | zero => intro k a h1 h2; omega
    | succ N ih =>
      intro k a h1 h2 h3
      unfold xlp
      by_cases e : k = n
      · subst e
        obtain ⟨b, hb, hq⟩ := he a h3
        rw [hb]
        exact ⟨b, rfl, hq⟩
      · rcases hs k a (by omega) h3 with ⟨a', h4, h5⟩ | ⟨b, hb, hq⟩
        · rw [h4]
          exact ih (k + 1) a' (by omega) (by omega) h5
        · rw [hb]
          exact ⟨b, rfl, hq⟩
  exact key 100000 0 a (Nat.zero_le n) (by omega) h0
/-- a loop over a pure number, known one by one -/
theorem xlp_at {α β : Type} {f : α → Option (α ⊕ β)} (st : Nat → α) {b : β} (n : Nat) (hn : n < 100000) {a : α} (ha : a = st 0) (hs : ∀ i, i < n → f (st i) = some (.inl (st (i + 1)))) (he : f (st n) = some (.inr b)) : xlp f 100000 a = some b := xlp_for0 st n hn hs he ha
/-- all but the places from lo to hi is kept -/
def Kp (lo hi : Nat) (s s' : xS) : Prop := ∀ q, q < lo ∨ hi < q → s'.1 q = s.1 q ∧ s'.2 q = s.2 q
theorem Kp.refl (lo hi : Nat) (s : xS) : Kp lo hi s s := fun _ _ => ⟨rfl, rfl⟩
theorem Kp.trans {lo hi : Nat} {s s' s'' : xS} (h : Kp lo hi s s') (h' : Kp lo hi s' s'') : Kp lo hi s s'' := fun q hq => ⟨(h' q hq).1.trans (h q hq).1, (h' q hq).2.trans (h q hq).2⟩
theorem Kp.wide {lo hi lo' hi' : Nat} {s s' : xS} (h : Kp lo hi s s') (h1 : lo' ≤ lo) (h2 : hi ≤ hi') : Kp lo' hi' s s' := fun q hq => h q (by omega)
theorem Kp.set {lo hi p : Nat} {s s' : xS} (h : Kp lo hi s s') (g : Nat → Int32) (h1 : lo ≤ p) (h2 : p ≤ hi) : Kp lo hi s (xset s' p g) := fun q hq => ⟨by rw [xset_ne _ _ (by omega)]; exact (h q hq).1, (h q hq).2⟩
theorem Kp_long {lo hi p k : Nat} {v : Int64} {s s' : xS} (h : Kp lo hi s s') (h1 : lo ≤ p) (h2 : p ≤ hi) : Kp lo hi s (xul s' p k v) := fun q hq => ⟨(h q hq).1, by
  have e : (xul s' p k v).2 q = s'.2 q := va_up_ne _ _ (by omega)
  exact e.trans (h q hq).2⟩
/-- the least of what is -/
theorem least_ex {P : Nat → Prop} : ∀ (n : Nat), P n → ∃ m, P m ∧ ∀ k, P k → m ≤ k := by
  intro n
  induction n using Nat.strongRecOn with
  | ind n ih =>
    intro h
    by_cases e : ∃ m, m < n ∧ P m
    · obtain ⟨m, h1, h2⟩ := e
      exact ih m h1 h2
    · exact ⟨n, h, fun k hk => Nat.le_of_not_lt fun q => e ⟨k, q, hk⟩⟩
theorem Mn_ex (adj : Nat → Nat → Prop) (w : Nat → Nat) (N t F : Nat) : ∃ f, Mn adj w N t F f := by
  have h : ∀ c, ∃ v, v ≤ F ∧ (v = F ∨ ∃ k, Wk adj w k c t v) ∧ ∀ k x, Wk adj w k c t x → v ≤ x := by
    intro c
    by_cases e : ∃ x, ∃ k, Wk adj w k c t x
    · obtain ⟨x, hx⟩ := e
      obtain ⟨m, hm, hl⟩ := least_ex (P := fun x => ∃ k, Wk adj w k c t x) x hx
      by_cases hF : m ≤ F
      · exact ⟨m, hF, Or.inr hm, fun k y hy => hl y ⟨k, hy⟩⟩
      · exact ⟨F, Nat.le_refl F, Or.inl rfl, fun k y hy => by have := hl y ⟨k, hy⟩; omega⟩
    · exact ⟨F, Nat.le_refl F, Or.inl rfl, fun k y hy => absurd ⟨y, k, hy⟩ e⟩
  exact ⟨fun c => Classical.choose (h c), fun c _ => Classical.choose_spec (h c)⟩
/-- what is lost from each cell to t, of walks over cells with tolls w -/
noncomputable def lo (N W : Nat) (w : Nat → Nat) (t : Option Nat) : Nat → Nat := match t with
  | none => fun _ => 1000000
  | some t => Classical.choose (Mn_ex (adj N W) w N t 1000000)
theorem lo_mn (N W : Nat) (w : Nat → Nat) (t : Nat) : Mn (adj N W) w N t 1000000 (lo N W w (some t)) := Classical.choose_spec (Mn_ex (adj N W) w N t 1000000)
theorem lo_le {N W : Nat} {w : Nat → Nat} {t : Option Nat} {c : Nat} (hc : c < N) : lo N W w t c ≤ 1000000 := by
  cases t with
  | none => exact Nat.le_refl _
  | some t => exact (lo_mn N W w t c hc).1
theorem lo_is {N W : Nat} {w : Nat → Nat} {t : Nat} {f : Nat → Nat} (h : Mn (adj N W) w N t 1000000 f) {c : Nat} (hc : c < N) : f c = lo N W w (some t) c := by
  rw [Mn.cap h (lo_mn N W w t) (Nat.le_refl _) hc]
  exact Nat.min_eq_right (lo_le hc)
theorem lo_cap {N W : Nat} {w : Nat → Nat} {t : Nat} {f : Nat → Nat} (h : Mn (adj N W) w N t 999 f) {c : Nat} (hc : c < N) : f c = min 999 (lo N W w (some t) c) := Mn.cap h (lo_mn N W w t) (by omega) hc
