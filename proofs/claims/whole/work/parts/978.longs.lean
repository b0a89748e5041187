/-! ===== longs that are numbers; a fraction in its lowest terms; sums over what is present ===== -/
def lI (n : Nat) : Int64 := Int64.ofNat n
theorem LL0 : (0 : Int64) = lI 0 := rfl
theorem LL1 : (1 : Int64) = lI 1 := rfl
theorem LL2 : (2 : Int64) = lI 2 := rfl
theorem LL16 : (16 : Int64) = lI 16 := rfl
theorem lI_add (a b : Nat) : lI a + lI b = lI (a + b) := (Int64.ofNat_add a b).symm
theorem lI_mul (a b : Nat) : lI a * lI b = lI (a * b) := (Int64.ofNat_mul a b).symm
theorem lI_sub {a b : Nat} (h : b ≤ a) : lI a - lI b = lI (a - b) := (Int64.ofNat_sub a b h).symm
theorem lI_toInt {n : Nat} (h : n < 2 ^ 63) : (lI n).toInt = (n : Int) := Int64.toInt_ofNat_of_lt h
theorem lI_inj {a b : Nat} (ha : a < 2 ^ 63) (hb : b < 2 ^ 63) : (lI a = lI b) = (a = b) := by
  apply propext
  rw [← Int64.toInt_inj, lI_toInt ha, lI_toInt hb]
  omega
theorem lI_of {n : Nat} (h : n < 2 ^ 31) : (nI n).toInt64 = lI n := Int64.toInt_inj.mp (by rw [Int32.toInt_toInt64, nI_toInt h, lI_toInt (by omega)])
theorem lI_div {a b : Nat} (ha : a < 2 ^ 63) (hb : b < 2 ^ 63) : lI a / lI b = lI (a / b) := by
  apply Int64.toInt_inj.mp
  have h1 : a / b ≤ a := Nat.div_le_self a b
  have ne : lI a ≠ Int64.minValue := fun q => by
    have q := congrArg Int64.toInt q
    rw [lI_toInt ha] at q
    have e : Int64.minValue.toInt = -9223372036854775808 := by decide
    omega
  rw [Int64.toInt_div_of_ne_left _ _ ne, lI_toInt ha, lI_toInt hb, lI_toInt (by omega)]
  exact (Int.ofNat_tdiv a b).symm
theorem lI_rem {a b : Nat} (ha : a < 2 ^ 63) (hb : b < 2 ^ 63) : xlrem (lI a) (lI b) = lI (a % b) := by
  unfold xlrem
  have h1 : a / b * b ≤ a := Nat.div_mul_le_self a b
  rw [lI_div ha hb, lI_mul, lI_sub h1]
  congr 1
  have h2 := Nat.div_add_mod a b
  rw [Nat.mul_comm] at h2
  omega
/-! a fraction in its lowest terms -/
theorem cop2 {x : Nat} (h : x % 2 = 1) : Nat.gcd x 2 = 1 := by
  have q : Nat.gcd x 2 = Nat.gcd 1 2 := by rw [Nat.gcd_comm x 2, Nat.gcd_rec 2 x, h]
  exact q.trans (by decide)
theorem gcd_fin {S x i m : Nat} (hx : x * 2 ^ i = S) (hi : i ≤ m) (h : x % 2 = 1 ∨ i = m) : Nat.gcd S (2 ^ m) = 2 ^ i := by
  have e : 2 ^ m = 2 ^ (m - i) * 2 ^ i := by rw [← Nat.pow_add]; congr 1; omega
  have c : Nat.gcd x (2 ^ (m - i)) = 1 := by
    rcases h with h | h
    · exact Nat.Coprime.pow_right (m - i) (cop2 h)
    · rw [h, Nat.sub_self]
      exact Nat.gcd_one_right x
  rw [← hx, e, Nat.gcd_mul_right, c, Nat.one_mul]
theorem low_fin {S x i m : Nat} (hx : x * 2 ^ i = S) (hi : i ≤ m) (h : x % 2 = 1 ∨ i = m) : S / Nat.gcd S (2 ^ m) = x ∧ 2 ^ m / Nat.gcd S (2 ^ m) = 2 ^ (m - i) := by
  have p : 0 < 2 ^ i := Nat.two_pow_pos i
  rw [gcd_fin hx hi h]
  constructor
  · rw [← hx]
    exact Nat.mul_div_cancel x p
  · have e : 2 ^ m = 2 ^ (m - i) * 2 ^ i := by rw [← Nat.pow_add]; congr 1; omega
    rw [e]
    exact Nat.mul_div_cancel _ p
theorem halfF {S m : Nat} (l2 : Int32) (s : xS) (hS : S < 2 ^ 62) (hm : m ≤ 40) : xlp (F_X8_sleeps_L62 l2 s) 100000 (lI S, lI (2 ^ m), 0) = some (lI (S / Nat.gcd S (2 ^ m)), lI (2 ^ m / Nat.gcd S (2 ^ m))) := by
  refine Exists.elim (xlp_cnt (f := F_X8_sleeps_L62 l2 s) (fun i a => ∃ x, a = (lI x, lI (2 ^ (m - i)), nI i) ∧ x * 2 ^ i = S) (fun b => b = (lI (S / Nat.gcd S (2 ^ m)), lI (2 ^ m / Nat.gcd S (2 ^ m)))) m (by omega) ?_ ?_ (a := (lI S, lI (2 ^ m), 0)) ⟨S, rfl, by rw [Nat.pow_zero, Nat.mul_one]⟩) ?_
  · rintro i a hi ⟨x, rfl, hx⟩
    have p : 1 ≤ 2 ^ i := Nat.two_pow_pos i
    have hx1 : x ≤ S := by rw [← hx]; exact Nat.le_mul_of_pos_right x p
    have hb : 2 ^ (m - i) ≤ 2 ^ 40 := Nat.pow_le_pow_right (by omega) (by omega)
    have e2 : 2 ^ (m - i) = 2 * 2 ^ (m - (i + 1)) := by
      rw [← Nat.pow_succ']; congr 1; omega
    unfold F_X8_sleeps_L62
    have r1 : xlrem (lI x) (2 : Int64) = lI (x % 2) := lI_rem (b := 2) (by omega) (by omega)
    have r2 : xlrem (lI (2 ^ (m - i))) (2 : Int64) = lI 0 := by
      have := lI_rem (a := 2 ^ (m - i)) (b := 2) (by omega) (by omega)
      rw [show 2 ^ (m - i) % 2 = 0 by omega] at this
      exact this
    have d1 : lI x / (2 : Int64) = lI (x / 2) := lI_div (b := 2) (by omega) (by omega)
    have d2 : lI (2 ^ (m - i)) / (2 : Int64) = lI (2 ^ (m - (i + 1))) := by
      have := lI_div (a := 2 ^ (m - i)) (b := 2) (by omega) (by omega)
      rw [show 2 ^ (m - i) / 2 = 2 ^ (m - (i + 1)) by omega] at this
      exact this
    have n64 : ((64 : Int32) ≤ nI i) = False := by
      show (nI 64 ≤ nI i) = False
      exact n_le_f (by omega) (by omega)
    by_cases c : x % 2 = 0
    · have q : (lI (x % 2) = lI 0) = True := eq_true (by rw [c])
      left
      refine ⟨(lI (x / 2), lI (2 ^ (m - (i + 1))), nI (i + 1)), ?_, x / 2, rfl, ?_⟩
      · simp only [n64, lg_cmp0, r1, r2, LL0, d1, d2, q, if_true, if_false, L1, nI_add]
      · rw [Nat.pow_succ', ← Nat.mul_assoc, show x / 2 * 2 = x by omega]
        exact hx
    · right
      have c1 : x % 2 = 1 := by omega
      have q : (lI (x % 2) = lI 0) = False := by rw [lI_inj (by omega) (by omega)]; exact eq_false c
      obtain ⟨z1, z2⟩ := low_fin (m := m) hx (by omega) (Or.inl c1)
      refine ⟨(lI x, lI (2 ^ (m - i))), ?_, ?_⟩
      · simp only [n64, lg_cmp0, r1, r2, LL0, d1, d2, q, if_true, if_false]
      · rw [z1, z2]
  · rintro a ⟨x, rfl, hx⟩
    have p : 1 ≤ 2 ^ m := Nat.two_pow_pos m
    have hx1 : x ≤ S := by rw [← hx]; exact Nat.le_mul_of_pos_right x p
    obtain ⟨z1, z2⟩ := low_fin hx (Nat.le_refl m) (Or.inr rfl)
    have r1 : xlrem (lI x) (2 : Int64) = lI (x % 2) := lI_rem (b := 2) (by omega) (by omega)
    have r2 : xlrem (lI (2 ^ (m - m))) (2 : Int64) = lI 1 := by
      rw [Nat.sub_self]
      exact lI_rem (a := 1) (b := 2) (by omega) (by omega)
    have n64 : ((64 : Int32) ≤ nI m) = False := by
      show (nI 64 ≤ nI m) = False
      exact n_le_f (by omega) (by omega)
    have n1 : (lI 1 = lI 0) = False := by rw [lI_inj (by omega) (by omega)]; exact eq_false (by omega)
    refine ⟨(lI x, lI (2 ^ (m - m))), ?_, by rw [z1, z2]⟩
    unfold F_X8_sleeps_L62
    simp only [n64, if_false, lg_cmp0, r1, r2, LL0, n1, ite_self]
  · rintro b ⟨hx, q⟩
    rw [hx, q]
theorem lowM {S B w : Nat} {s : xS} (hw : w < 2) (hS : S < 2 ^ 62) (hB : 0 < B) (hB2 : B ≤ 2 ^ 32) : F_X9_lowest (lI S) (lI B) (nI w) s = some (lI ((if w = 0 then S else B) / Nat.gcd S B)) := by
  have key : xlp (F_X9_lowest_L6 (lI S) (lI B) (nI w) s) 100000 (lI S, lI B) = some (lI (Nat.gcd S B)) := by
    refine Exists.elim (xlp_cnt (f := F_X9_lowest_L6 (lI S) (lI B) (nI w) s) (fun i a => ∃ x y, a = (lI x, lI y) ∧ Nat.gcd x y = Nat.gcd S B ∧ x < 2 ^ 62 ∧ y < 2 ^ 62 ∧ (i = 0 → y ≤ 2 ^ 32) ∧ (0 < i → y ≤ x ∧ x * y < 2 ^ (65 - i))) (fun b => b = lI (Nat.gcd S B)) 65 (by omega) ?_ ?_ (a := (lI S, lI B)) ⟨S, B, rfl, rfl, hS, by omega, fun _ => hB2, fun z => absurd z (by omega)⟩) ?_
    · rintro i a hi ⟨x, y, rfl, hg, hx, hy, h0, h1⟩
      have z0 : (lg_cmp (lI y) (0 : Int64) = 0) = (y = 0) := by
        rw [lg_cmp0]
        exact lI_inj (b := 0) (by omega) (by omega)
      have z1 : (lI y = (0 : Int64)) = (y = 0) := lI_inj (b := 0) (by omega) (by omega)
      unfold F_X9_lowest_L6
      by_cases c : y = 0
      · right
        refine ⟨lI x, ?_, ?_⟩
        · have z2 := z0.trans (eq_true c)
          simp only [z2, if_true]
        · rw [← hg, c, Nat.gcd_zero_right]
      · left
        have r := Nat.mod_lt x (Nat.pos_of_ne_zero c)
        have rr := lI_rem (a := x) (b := y) (by omega) (by omega)
        refine ⟨(lI y, lI (x % y)), ?_, y, x % y, rfl, ?_, hy, by omega, fun z => absurd z (by omega), fun _ => ⟨by omega, ?_⟩⟩
        · have z2 := z0.trans (eq_false c)
          have z3 := z1.trans (eq_false c)
          simp only [z2, z3, if_false, rr]
        · rw [Nat.gcd_comm y (x % y), ← Nat.gcd_rec y x, Nat.gcd_comm y x]
          exact hg
        · by_cases ci : i = 0
          · subst ci
            have hy2 := h0 rfl
            have m1 : y * (x % y) < y * y := Nat.mul_lt_mul_of_pos_left r (by omega)
            have m2 : y * y ≤ 2 ^ 32 * 2 ^ 32 := Nat.mul_le_mul hy2 hy2
            have m3 : (2 : Nat) ^ (65 - (0 + 1)) = 2 ^ 32 * 2 ^ 32 := by decide
            omega
          · obtain ⟨a1, a2⟩ := h1 (by omega)
            have m0 : 2 * (x % y) ≤ x := by
              have q1 := Nat.div_add_mod x y
              have q2 : 1 ≤ x / y := (Nat.le_div_iff_mul_le (by omega)).mpr (by omega)
              have q3 : y * 1 ≤ y * (x / y) := Nat.mul_le_mul_left y q2
              omega
            have m1 : y * (2 * (x % y)) ≤ y * x := Nat.mul_le_mul_left y m0
            have m2 : y * (2 * (x % y)) = 2 * (y * (x % y)) := by
              rw [← Nat.mul_assoc, Nat.mul_comm y 2, Nat.mul_assoc]
            have m3 : (2 : Nat) ^ (65 - i) = 2 * 2 ^ (65 - (i + 1)) := by rw [← Nat.pow_succ']; congr 1; omega
            rw [Nat.mul_comm x y] at a2
            omega
    · rintro a ⟨x, y, rfl, hg, hx, hy, h0, h1⟩
      obtain ⟨a1, a2⟩ := h1 (by omega)
      have y0 : y = 0 := by
        by_cases c : y = 0
        · exact c
        · have : 1 * 1 ≤ x * y := Nat.mul_le_mul (by omega) (by omega)
          have e : (2 : Nat) ^ (65 - 65) = 1 := rfl
          omega
      subst y0
      have z0 : (lg_cmp (lI 0) (0 : Int64) = 0) = True := by
        rw [lg_cmp0]
        exact eq_true rfl
      refine ⟨lI x, ?_, ?_⟩
      · unfold F_X9_lowest_L6
        dsimp only
        rw [if_pos (of_eq_true z0)]
      · rw [← hg, Nat.gcd_zero_right]
    · rintro b ⟨hx, q⟩
      rw [hx, q]
  have gp : 0 < Nat.gcd S B := Nat.gcd_pos_of_pos_right S hB
  have gl : Nat.gcd S B ≤ B := Nat.gcd_le_right S hB
  have z1 : (lI (Nat.gcd S B) = (0 : Int64)) = False := by
    have := lI_inj (a := Nat.gcd S B) (b := 0) (by omega) (by omega)
    show (lI (Nat.gcd S B) = lI 0) = False
    rw [this]
    exact eq_false (by omega)
  have d1 := lI_div (a := S) (b := Nat.gcd S B) (by omega) (by omega)
  have d2 := lI_div (a := B) (b := Nat.gcd S B) (by omega) (by omega)
  unfold F_X9_lowest
  rw [key]
  rcases two_cases hw with rfl | rfl
  · simp (disch := omega) only [↓Lm1, L0, L1, L2, L3, L4, L5, L6, L7, L8, L9, L10, L11, L12, L13, L14, L15, L16, L17, L18, L19, L20, L27, L30, L31, L35, L36, L37, L38, L39, L40, L41, L46, L48, L51, L57, L59, L60, L82, L98, L99, L100, L102, L104, L107, L110, L119, L144, L240, L255, L256, L360, L999, L1000000, nI_val, n_lt_t, n_lt_f, n_le_t, n_le_f, n_eq_t, n_eq_f, k_le_f, m_lt_t, m_lt_f, m_le_t, m_le_f, m_eq_f, m_eq_f', nI_add, nI_mulE, nI_subE, if_true, if_false, ite_true, ite_false, or_false, false_or, or_true, true_or, or_self, and_true, true_and, and_false, false_and, not_true_eq_false, not_false_eq_true, Option.bind_some, Sum.elim_inl, Sum.elim_inr, xu_set, xset_same, xset_ne, xset_2, xset_set, upd_same, upd_ne, nbI_some, ne_eq, reduceCtorEq, reduceIte, Nat.reduceAdd, Nat.reduceMul, Nat.reduceSub, Nat.add_zero, Nat.zero_add, Nat.mul_zero, Nat.zero_mul, z1, d1]
  · simp (disch := omega) only [↓Lm1, L0, L1, L2, L3, L4, L5, L6, L7, L8, L9, L10, L11, L12, L13, L14, L15, L16, L17, L18, L19, L20, L27, L30, L31, L35, L36, L37, L38, L39, L40, L41, L46, L48, L51, L57, L59, L60, L82, L98, L99, L100, L102, L104, L107, L110, L119, L144, L240, L255, L256, L360, L999, L1000000, nI_val, n_lt_t, n_lt_f, n_le_t, n_le_f, n_eq_t, n_eq_f, k_le_f, m_lt_t, m_lt_f, m_le_t, m_le_f, m_eq_f, m_eq_f', nI_add, nI_mulE, nI_subE, if_true, if_false, ite_true, ite_false, or_false, false_or, or_true, true_or, or_self, and_true, true_and, and_false, false_and, not_true_eq_false, not_false_eq_true, Option.bind_some, Sum.elim_inl, Sum.elim_inr, xu_set, xset_same, xset_ne, xset_2, xset_set, upd_same, upd_ne, nbI_some, ne_eq, reduceCtorEq, reduceIte, Nat.reduceAdd, Nat.reduceMul, Nat.reduceSub, Nat.add_zero, Nat.zero_add, Nat.mul_zero, Nat.zero_mul, z1, d2]
/-! sums over what is present -/
theorem smN_head (f : Nat → Nat) (n : Nat) : smN f (n + 1) = f 0 + smN (fun j => f (j + 1)) n := by
  have := smN_add f 1 n
  rw [Nat.add_comm n 1, this]
  have e : smN f 1 = f 0 := by show 0 + f 0 = f 0; omega
  rw [e]
  congr 1
  exact smN_ext n (fun j _ => by show f (1 + j) = f (j + 1); rw [Nat.add_comm 1 j])
theorem smN_rev (f : Nat → Nat) : ∀ n, smN f n = smN (fun j => f (n - (j + 1))) n
  | 0 => rfl
  | n + 1 => by
    have ih := smN_rev f n
    have e1 : smN (fun j => f (n + 1 - (j + 1 + 1))) n = smN (fun j => f (n - (j + 1))) n := smN_ext n (fun j _ => by show f (n + 1 - (j + 1 + 1)) = f (n - (j + 1)); rw [show n + 1 - (j + 1 + 1) = n - (j + 1) by omega])
    have e2 : f (n + 1 - (0 + 1)) = f n := by rw [show n + 1 - (0 + 1) = n by omega]
    have e3 := smN_head (fun j => f (n + 1 - (j + 1))) n
    have e4 : smN (fun j => f (n + 1 - (j + 1))) (n + 1) = f (n + 1 - (0 + 1)) + smN (fun j => f (n + 1 - (j + 1 + 1))) n := e3
    rw [e4, e1, e2, ← ih]
    exact Nat.add_comm _ _
def wgt (c : Nat) (pr : Nat → Bool) : Nat → Nat
  | 0 => 1
  | n + 1 => wgt c pr n * (if pr n = true then c else 16 - c)
theorem wgt_t {c n : Nat} {pr : Nat → Bool} (h : pr n = true) : wgt c pr (n + 1) = wgt c pr n * c := by
  show wgt c pr n * (if pr n = true then c else 16 - c) = _
  rw [if_pos h]
theorem wgt_f {c n : Nat} {pr : Nat → Bool} (h : pr n = false) : wgt c pr (n + 1) = wgt c pr n * (16 - c) := by
  show wgt c pr n * (if pr n = true then c else 16 - c) = _
  rw [if_neg (by rw [h]; decide)]
theorem wgt_le {c : Nat} {pr : Nat → Bool} (hc : c ≤ 16) : ∀ n, wgt c pr n ≤ 16 ^ n
  | 0 => Nat.le_refl 1
  | n + 1 => by
    have ih := wgt_le (pr := pr) hc n
    show wgt c pr n * (if pr n = true then c else 16 - c) ≤ 16 ^ (n + 1)
    rw [Nat.pow_succ]
    exact Nat.mul_le_mul ih (by split <;> omega)
theorem wgt_ext {c : Nat} {p q : Nat → Bool} : ∀ n, (∀ i, i < n → p i = q i) → wgt c p n = wgt c q n
  | 0, _ => rfl
  | n + 1, h => by
    show wgt c p n * (if p n = true then c else 16 - c) = wgt c q n * (if q n = true then c else 16 - c)
    rw [wgt_ext n (fun i hi => h i (by omega)), h n (by omega)]
/-- a night asks only which of its deeds are present -/
theorem nst_pr {d : DD} {sh : Nat → Nat} {p q : Nat → Bool} {ch dp : Nat} {th : Nat → Nat} (h : ∀ i, i < d.1 → p i = q i) : ∀ k, nst d sh p ch dp th k = nst d sh q ch dp th k
  | 0 => rfl
  | k + 1 => by
    have ih := nst_pr (sh := sh) (ch := ch) (dp := dp) (th := th) h k
    have e0 : ∀ x i, i < d.1 → dnn d p x i = dnn d q x i := fun x i hi => by
      unfold dnn
      rw [h i hi]
    have e1 : ∀ ex x, nloud d sh p th ex x = nloud d sh q th ex x := fun ex x => by
      unfold nloud
      congr 1
      exact smN_ext d.1 (fun j hj => by rw [e0 x j hj])
    have e2 : ∀ ex x n, n ≤ d.1 → nexA d sh p ch ex x n = nexA d sh q ch ex x n := fun ex x n => by
      induction n with
      | zero => intro _; rfl
      | succ n ihn =>
        intro hn
        funext y
        rw [nexA_s, nexA_s, ihn (by omega), e0 x n (by omega)]
    have e3 : ∀ ex x ft, nft d p ex x ft d.1 = nft d q ex x ft d.1 := fun ex x ft => by
      funext i
      unfold nft
      by_cases c : i < d.1
      · rw [e0 x i c]
      · rw [if_neg (fun z => c z.1), if_neg (fun z => c z.1)]
    show nstep d sh p ch th k (nst d sh p ch dp th k) = nstep d sh q ch th k (nst d sh q ch dp th k)
    rw [ih]
    unfold nstep
    rw [e1, e2 _ _ d.1 (Nat.le_refl _), e3]
theorem prK : ∀ k, k < 256 → PrB (fun i => k.testBit i) (nI k) := by
  intro k hk i hi
  have : ∀ i, i < 8 → ∀ k, k < 256 → decide (xshr (nI k) (nI i) &&& nI 1 = nI 1) = k.testBit i := by decide +kernel
  have := this i hi k hk
  apply propext
  show xshr (nI k) (nI i) &&& nI 1 = nI 1 ↔ k.testBit i = true
  rw [← this]
  exact decide_eq_true_iff.symm
theorem prKM {k : Nat} (hk : k < 256) : PrM (fun i => !k.testBit i) (nI k) := by
  intro i hi
  have := prK k hk i hi
  rw [this]
  show (k.testBit i = true) = ((!k.testBit i) = false)
  cases k.testBit i <;> simp
