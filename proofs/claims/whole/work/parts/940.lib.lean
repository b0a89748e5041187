/-! ===== THE PURE PART: rows of a state, loops, numbers ===== -/
/-- a row of ints is another -/
def xset (s : xS) (p : Nat) (g : Nat → Int32) : xS := (va_up s.1 p g, s.2)
theorem xu_set (s : xS) (p k : Nat) (v : Int32) : xu s p k v = xset s p (upd (s.1 p) k v) := rfl
theorem xset_same (s : xS) (p : Nat) (g : Nat → Int32) : (xset s p g).1 p = g := va_up_self _ _ _
theorem xset_ne (s : xS) {p q : Nat} (g : Nat → Int32) (h : q ≠ p) : (xset s p g).1 q = s.1 q := va_up_ne _ _ h
theorem xset_2 (s : xS) (p : Nat) (g : Nat → Int32) : (xset s p g).2 = s.2 := rfl
theorem xset_set (s : xS) (p : Nat) (g h : Nat → Int32) : xset (xset s p g) p h = xset s p h := by
  unfold xset
  congr 1
  funext j
  by_cases e : j = p
  · subst e; simp [va_up]
  · simp [va_up, e]
theorem xset_self (s : xS) (p : Nat) : xset s p (s.1 p) = s := by
  unfold xset
  rw [xup_self]
theorem xset_id (s : xS) (p : Nat) {g : Nat → Int32} (h : g = s.1 p) : xset s p g = s := by rw [h, xset_self]
theorem xset_comm (s : xS) {p q : Nat} (g h : Nat → Int32) (e : p ≠ q) : xset (xset s p g) q h = xset (xset s q h) p g := by
  unfold xset
  congr 1
  funext j
  by_cases e1 : j = p
  · subst e1; simp [va_up, e]
  · by_cases e2 : j = q
    · subst e2; simp [va_up, e1]
    · simp [va_up, e1, e2]
theorem xul_1 (s : xS) (p k : Nat) (v : Int64) : (xul s p k v).1 = s.1 := rfl
theorem upd_same (f : Nat → Int32) (k : Nat) (x : Int32) : upd f k x k = x := by simp [upd]
theorem upd_ne (f : Nat → Int32) {k j : Nat} (x : Int32) (h : j ≠ k) : upd f k x j = f j := by simp [upd, h]
/-- a loop whose states are known one by one -/
theorem xlp_for {α β : Type} {f : α → Option (α ⊕ β)} (st : Nat → α) {b : β} : ∀ (n : Nat), (∀ i, i < n → f (st i) = some (.inl (st (i + 1)))) → f (st n) = some (.inr b) → ∀ (k : Nat), k ≤ n → ∀ N, n - k < N → xlp f N (st k) = some b := by
  intro n hs he k hk N hN
  induction N generalizing k with
  | zero => omega
  | succ N ih =>
    unfold xlp
    by_cases hkn : k = n
    · subst hkn
      rw [he]
    · rw [hs k (by omega)]
      exact ih (k + 1) (by omega) (by omega)
theorem xlp_for0 {α β : Type} {f : α → Option (α ⊕ β)} (st : Nat → α) {b : β} (n : Nat) (hn : n < 100000) (hs : ∀ i, i < n → f (st i) = some (.inl (st (i + 1)))) (he : f (st n) = some (.inr b)) {a : α} (ha : a = st 0) : xlp f 100000 a = some b := by
  rw [ha]
  exact xlp_for st n hs he 0 (Nat.zero_le n) 100000 (by omega)
/-- a loop with an invariant and a measure -/
theorem xlp_inv {α β : Type} {f : α → Option (α ⊕ β)} (I : α → Prop) (Q : β → Prop) (μ : α → Nat) (h : ∀ a, I a → (∃ a', f a = some (.inl a') ∧ I a' ∧ μ a' < μ a) ∨ ∃ b, f a = some (.inr b) ∧ Q b) : ∀ (N : Nat) (a : α), I a → μ a < N → ∃ b, xlp f N a = some b ∧ Q b := by
  intro N
  induction N with
  | zero => intro a _ h2; omega
  | succ N ih =>
    intro a hI hm
    unfold xlp
    rcases h a hI with ⟨a', h1, h2, h3⟩ | ⟨b, h1, h2⟩
    · rw [h1]
      exact ih a' h2 (by omega)
    · rw [h1]
      exact ⟨b, rfl, h2⟩
/-! numbers -/
theorem n32_lit (n : Nat) : (OfNat.ofNat n : Int32) = nI n := rfl
theorem ofNat_nI (n : Nat) : Int32.ofNat n = nI n := rfl
theorem L0 : (0 : Int32) = nI 0 := rfl
theorem L1 : (1 : Int32) = nI 1 := rfl
theorem L2 : (2 : Int32) = nI 2 := rfl
theorem L3 : (3 : Int32) = nI 3 := rfl
theorem L4 : (4 : Int32) = nI 4 := rfl
theorem L5 : (5 : Int32) = nI 5 := rfl
theorem L6 : (6 : Int32) = nI 6 := rfl
theorem L7 : (7 : Int32) = nI 7 := rfl
theorem L8 : (8 : Int32) = nI 8 := rfl
theorem L9 : (9 : Int32) = nI 9 := rfl
theorem L10 : (10 : Int32) = nI 10 := rfl
theorem L11 : (11 : Int32) = nI 11 := rfl
theorem L12 : (12 : Int32) = nI 12 := rfl
theorem L13 : (13 : Int32) = nI 13 := rfl
theorem L14 : (14 : Int32) = nI 14 := rfl
theorem L15 : (15 : Int32) = nI 15 := rfl
theorem L16 : (16 : Int32) = nI 16 := rfl
theorem L17 : (17 : Int32) = nI 17 := rfl
theorem L18 : (18 : Int32) = nI 18 := rfl
theorem L19 : (19 : Int32) = nI 19 := rfl
theorem L20 : (20 : Int32) = nI 20 := rfl
theorem L27 : (27 : Int32) = nI 27 := rfl
theorem L30 : (30 : Int32) = nI 30 := rfl
theorem L31 : (31 : Int32) = nI 31 := rfl
theorem L35 : (35 : Int32) = nI 35 := rfl
theorem L36 : (36 : Int32) = nI 36 := rfl
theorem L37 : (37 : Int32) = nI 37 := rfl
theorem L38 : (38 : Int32) = nI 38 := rfl
theorem L39 : (39 : Int32) = nI 39 := rfl
theorem L40 : (40 : Int32) = nI 40 := rfl
theorem L41 : (41 : Int32) = nI 41 := rfl
theorem L46 : (46 : Int32) = nI 46 := rfl
theorem L48 : (48 : Int32) = nI 48 := rfl
theorem L51 : (51 : Int32) = nI 51 := rfl
theorem L57 : (57 : Int32) = nI 57 := rfl
theorem L59 : (59 : Int32) = nI 59 := rfl
theorem L60 : (60 : Int32) = nI 60 := rfl
theorem L82 : (82 : Int32) = nI 82 := rfl
theorem L98 : (98 : Int32) = nI 98 := rfl
theorem L99 : (99 : Int32) = nI 99 := rfl
theorem L100 : (100 : Int32) = nI 100 := rfl
theorem L102 : (102 : Int32) = nI 102 := rfl
theorem L104 : (104 : Int32) = nI 104 := rfl
theorem L107 : (107 : Int32) = nI 107 := rfl
theorem L110 : (110 : Int32) = nI 110 := rfl
theorem L119 : (119 : Int32) = nI 119 := rfl
theorem L144 : (144 : Int32) = nI 144 := rfl
theorem L240 : (240 : Int32) = nI 240 := rfl
theorem L255 : (255 : Int32) = nI 255 := rfl
theorem L256 : (256 : Int32) = nI 256 := rfl
theorem L360 : (360 : Int32) = nI 360 := rfl
theorem L999 : (999 : Int32) = nI 999 := rfl
theorem L1000000 : (1000000 : Int32) = nI 1000000 := rfl
theorem nI_out {i n : Nat} (h : i < 2 ^ 31) : (nI i < 0 ∨ n ≤ (nI i).toNatClampNeg) = (n ≤ i) := by
  rw [nI_clamp h]
  exact propext ⟨fun q => q.elim (fun z => absurd z (nI_pos h)) id, Or.inr⟩
theorem nI_ltE {a b : Nat} (ha : a < 2 ^ 31) (hb : b < 2 ^ 31) : (nI a < nI b) = (a < b) := propext (nI_ltI ha hb)
theorem nI_leE {a b : Nat} (ha : a < 2 ^ 31) (hb : b < 2 ^ 31) : (nI a ≤ nI b) = (a ≤ b) := propext (nI_leI ha hb)
theorem nI_eqE {a b : Nat} (ha : a < 2 ^ 31) (hb : b < 2 ^ 31) : (nI a = nI b) = (a = b) := propext (nI_eq ha hb)
theorem nI_val {n : Nat} (h : n < 2 ^ 31) : (nI n).toNatClampNeg = n := nI_clamp h
theorem nI_in' {i n : Nat} (h : i < n) (hn : n < 2 ^ 31) : ¬ (nI i < 0 ∨ n ≤ (nI i).toNatClampNeg) := vp_in_nI h hn
theorem i_add {a b : Int32} (h1 : -2147483648 ≤ a.toInt + b.toInt) (h2 : a.toInt + b.toInt < 2147483648) : (a + b).toInt = a.toInt + b.toInt := by
  rw [Int32.toInt_add]
  exact Int.bmod_eq_of_le (by omega) (by omega)
theorem i_sub {a b : Int32} (h1 : -2147483648 ≤ a.toInt - b.toInt) (h2 : a.toInt - b.toInt < 2147483648) : (a - b).toInt = a.toInt - b.toInt := by
  rw [Int32.toInt_sub]
  exact Int.bmod_eq_of_le (by omega) (by omega)
theorem i_of {x : Int32} (h : 0 ≤ x.toInt) : x = nI x.toInt.toNat := by
  apply Int32.toInt_inj.mp
  have h2 := Int32.toInt_lt x
  rw [nI_toInt (by omega)]
  omega
theorem i_nn {x : Int32} (h : 0 ≤ x.toInt) : ∃ n : Nat, n < 2 ^ 31 ∧ x = nI n := ⟨x.toInt.toNat, by have := Int32.toInt_lt x; omega, i_of h⟩
theorem i_lt {x y : Int32} : x < y ↔ x.toInt < y.toInt := Int32.lt_iff_toInt_lt
theorem i_le {x y : Int32} : x ≤ y ↔ x.toInt ≤ y.toInt := Int32.le_iff_toInt_le
theorem i_eq {x y : Int32} : x = y ↔ x.toInt = y.toInt := Int32.toInt_inj.symm
theorem i_m1 : (-1 : Int32).toInt = -1 := by decide
theorem nI_m1 {n : Nat} (h : n < 2 ^ 31) : ¬ nI n = -1 := by
  rw [i_eq, nI_toInt h, i_m1]
  omega
/-! filling -/
theorem xal_lt : ∀ p, p < 46 → xal p < 400 := by decide
theorem fill_eq {p : Nat} (hp : p < 46) (v : Int32) (s : xS) : F_J7_fill_53178 p v s = some (xset s p (fun j => if j < xal p then v else s.1 p j)) := by
  have hl := xal_lt p hp
  unfold F_J7_fill_53178
  rw [xlp_for0 (fun i => (nI i, xset s p (fun j => if j < i then v else s.1 p j))) (xal p) (b := xset s p (fun j => if j < xal p then v else s.1 p j)) (by omega)]
  · rfl
  · intro i hi
    unfold F_J7_fill_53178_L5
    dsimp only
    rw [ofNat_nI, if_neg (nI_ge hi (by omega)), if_neg (nI_in' hi (by omega)), nI_val (show i < 2 ^ 31 by omega), xu_set, xset_same, xset_set, nI_1]
    congr 4
    funext j
    by_cases hj : j = i
    · subst hj; simp [upd]
    · simp only [upd, hj, if_false]
      by_cases h2 : j < i
      · simp [h2, show j < i + 1 by omega]
      · simp [h2, show ¬ j < i + 1 by omega]
  · unfold F_J7_fill_53178_L5
    dsimp only
    rw [ofNat_nI, if_pos (nI_le (Nat.le_refl _) (by omega))]
  · congr 1
    exact (xset_id s p (by funext j; simp)).symm
