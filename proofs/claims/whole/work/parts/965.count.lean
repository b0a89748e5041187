/-! ===== Long.bitCount; count ===== -/
def vaL : List Nat → Nat
  | [] => 0
  | b :: r => 2 ^ 8 * vaL r + b
def mkL (m : Nat) : Nat → Nat
  | 0 => 0
  | n + 1 => 2 ^ 8 * mkL m n + m
theorem and_byte {h b M m : Nat} (hb : b < 2 ^ 8) (hm : m < 2 ^ 8) : (2 ^ 8 * h + b) &&& (2 ^ 8 * M + m) = 2 ^ 8 * (h &&& M) + (b &&& m) := by
  have hbm : b &&& m < 2 ^ 8 := Nat.lt_of_le_of_lt Nat.and_le_left hb
  apply Nat.eq_of_testBit_eq
  intro i
  rw [Nat.testBit_and, Nat.testBit_two_pow_mul_add _ hb, Nat.testBit_two_pow_mul_add _ hm, Nat.testBit_two_pow_mul_add _ hbm]
  by_cases c : i < 8
  · rw [if_pos c, if_pos c, if_pos c, Nat.testBit_and]
  · rw [if_neg c, if_neg c, if_neg c, Nat.testBit_and]
def bs1 (b : Nat) : Nat := b - ((b / 2) &&& 85)
def bs2 (b : Nat) : Nat := (b &&& 51) + ((b / 4) &&& 51)
def bs3 (b : Nat) : Nat := (b + b / 16) &&& 15
theorem bk1 : ∀ t, t < 2 → ∀ b, b < 256 → (128 * t + b / 2) &&& 85 = (b / 2) &&& 85 := by decide +kernel
theorem bk2 : ∀ t, t < 4 → ∀ b, b < 256 → (64 * t + b / 4) &&& 51 = (b / 4) &&& 51 := by decide +kernel
theorem bk3 : ∀ t, t < 5 → ∀ b, b < 80 → (16 * t + b + b / 16) &&& 15 = (b + b / 16) &&& 15 := by decide +kernel
def pcN (b : Nat) : Nat := smN (fun j => b01 (b.testBit j)) 8
theorem bk4 : ∀ b, b < 256 → bs1 b < 256 ∧ bs2 (bs1 b) % 16 ≤ 4 ∧ bs2 (bs1 b) / 16 ≤ 4 ∧ bs3 (bs2 (bs1 b)) = pcN b ∧ pcN b ≤ 8 := by decide +kernel
theorem bL1 : ∀ (bs : List Nat) (n : Nat), (∀ b, b ∈ bs → b < 256) → bs.length ≤ n → vaL bs - ((vaL bs / 2) &&& mkL 85 n) = vaL (bs.map bs1)
  | [], n, _, _ => by
    show 0 - _ = 0
    omega
  | b :: r, 0, _, hl => absurd hl (by simp)
  | b :: r, n + 1, hb, hl => by
    have ih := bL1 r n (fun x hx => hb x (List.mem_cons_of_mem _ hx)) (by simpa using hl)
    have h1 := hb b List.mem_cons_self
    have e : (2 ^ 8 * vaL r + b) / 2 = 2 ^ 8 * (vaL r / 2) + (128 * (vaL r % 2) + b / 2) := by omega
    show (2 ^ 8 * vaL r + b) - (((2 ^ 8 * vaL r + b) / 2) &&& (2 ^ 8 * mkL 85 n + 85)) = 2 ^ 8 * vaL (r.map bs1) + bs1 b
    rw [e, and_byte (by omega) (by omega), bk1 _ (by omega) b h1, ← ih]
    have l1 : (vaL r / 2) &&& mkL 85 n ≤ vaL r / 2 := Nat.and_le_left
    have l2 : (b / 2) &&& 85 ≤ b / 2 := Nat.and_le_left
    unfold bs1
    omega
theorem bL2 : ∀ (bs : List Nat) (n : Nat), (∀ b, b ∈ bs → b < 256) → bs.length ≤ n → (vaL bs &&& mkL 51 n) + ((vaL bs / 4) &&& mkL 51 n) = vaL (bs.map bs2)
  | [], n, _, _ => by
    show (0 &&& _) + ((0 / 4) &&& _) = 0
    simp
  | b :: r, 0, _, hl => absurd hl (by simp)
  | b :: r, n + 1, hb, hl => by
    have ih := bL2 r n (fun x hx => hb x (List.mem_cons_of_mem _ hx)) (by simpa using hl)
    have h1 := hb b List.mem_cons_self
    have e : (2 ^ 8 * vaL r + b) / 4 = 2 ^ 8 * (vaL r / 4) + (64 * (vaL r % 4) + b / 4) := by omega
    show ((2 ^ 8 * vaL r + b) &&& (2 ^ 8 * mkL 51 n + 51)) + (((2 ^ 8 * vaL r + b) / 4) &&& (2 ^ 8 * mkL 51 n + 51)) = 2 ^ 8 * vaL (r.map bs2) + bs2 b
    rw [e, and_byte (by omega) (by omega), and_byte (by omega) (by omega), bk2 _ (by omega) b h1, ← ih]
    unfold bs2
    omega
theorem vaL_mod : ∀ (bs : List Nat), (∀ b, b ∈ bs → b % 16 ≤ 4 ∧ b / 16 ≤ 4) → vaL bs % 16 ≤ 4
  | [], _ => by decide
  | b :: r, hb => by
    have := (hb b List.mem_cons_self).1
    show (2 ^ 8 * vaL r + b) % 16 ≤ 4
    omega
theorem bL3 : ∀ (bs : List Nat) (n : Nat), (∀ b, b ∈ bs → b % 16 ≤ 4 ∧ b / 16 ≤ 4) → bs.length ≤ n → (vaL bs + vaL bs / 16) &&& mkL 15 n = vaL (bs.map bs3)
  | [], n, _, _ => by
    show (0 + 0 / 16) &&& _ = 0
    simp
  | b :: r, 0, _, hl => absurd hl (by simp)
  | b :: r, n + 1, hb, hl => by
    have ih := bL3 r n (fun x hx => hb x (List.mem_cons_of_mem _ hx)) (by simpa using hl)
    have h1 := hb b List.mem_cons_self
    have h2 := vaL_mod r (fun x hx => hb x (List.mem_cons_of_mem _ hx))
    have e : (2 ^ 8 * vaL r + b) + (2 ^ 8 * vaL r + b) / 16 = 2 ^ 8 * (vaL r + vaL r / 16) + (16 * (vaL r % 16) + b + b / 16) := by omega
    show ((2 ^ 8 * vaL r + b) + (2 ^ 8 * vaL r + b) / 16) &&& (2 ^ 8 * mkL 15 n + 15) = 2 ^ 8 * vaL (r.map bs3) + bs3 b
    rw [e, and_byte (by omega) (by omega), bk3 _ (by omega) b (by omega), ← ih]
    rfl
theorem bsm_split (f : Nat → Bool) : ∀ n, bsm f (8 + n) = 2 ^ 8 * bsm (fun j => f (8 + j)) n + bsm f 8
  | 0 => by
    show bsm f 8 = 2 ^ 8 * 0 + bsm f 8
    omega
  | n + 1 => by
    have ih := bsm_split f n
    show bsm f (8 + n) + (if f (8 + n) = true then 2 ^ (8 + n) else 0) = 2 ^ 8 * (bsm (fun j => f (8 + j)) n + (if f (8 + n) = true then 2 ^ n else 0)) + bsm f 8
    rw [ih, Nat.pow_add]
    split <;> omega
theorem pc_bsm (f : Nat → Bool) : pcN (bsm f 8) = smN (fun j => b01 (f j)) 8 := by
  unfold pcN
  refine smN_ext 8 (fun j hj => ?_)
  rw [bsm_bit]
  simp [hj]
/-! longs as numbers -/
def nL (x : Int64) : Nat := x.toBitVec.toNat
theorem nL_and (x y : Int64) : nL (x &&& y) = nL x &&& nL y := by
  unfold nL
  rw [Int64.toBitVec_and, BitVec.toNat_and]
theorem nL_sub {x y : Int64} (h : nL y ≤ nL x) : nL (x - y) = nL x - nL y := by
  unfold nL at h ⊢
  rw [Int64.toBitVec_sub]
  exact BitVec.toNat_sub_of_le (by rw [BitVec.le_def]; exact h)
theorem nL_add {x y : Int64} (h : nL x + nL y < 2 ^ 64) : nL (x + y) = nL x + nL y := by
  unfold nL at h ⊢
  rw [Int64.toBitVec_add]
  exact BitVec.toNat_add_of_lt h
theorem ush_amt : ∀ p, p < 64 → ((nI p).toInt64.toUInt64 &&& Int64.toUInt64 63).toBitVec % 64#64 = BitVec.ofNat 64 p := by decide +kernel
theorem nL_shr {x : Int64} {p : Nat} (hp : p < 64) : nL (xlushr x (nI p)) = nL x / 2 ^ p := by
  unfold nL xlushr
  show (x.toUInt64 >>> ((nI p).toInt64.toUInt64 &&& Int64.toUInt64 63)).toBitVec.toNat = _
  rw [UInt64.toBitVec_shiftRight]
  show (x.toUInt64.toBitVec >>> (((nI p).toInt64.toUInt64 &&& Int64.toUInt64 63).toBitVec % 64#64)).toNat = _
  rw [ush_amt p hp]
  show (x.toBitVec >>> (BitVec.ofNat 64 p)).toNat = _
  rw [BitVec.ushiftRight_eq', BitVec.toNat_ushiftRight, BitVec.toNat_ofNat, Nat.mod_eq_of_lt (by omega), Nat.shiftRight_eq_div_pow]
def bc1 (x : Int64) : Int64 := x - ((xlushr x 1) &&& 6148914691236517205)
def bc2 (x : Int64) : Int64 := (x &&& 3689348814741910323) + ((xlushr x 2) &&& 3689348814741910323)
def bc3 (x : Int64) : Int64 := (x + xlushr x 4) &&& 1085102592571150095
def bc4 (x : Int64) : Int64 := x + xlushr x 8
def bc5 (x : Int64) : Int64 := x + xlushr x 16
def bc6 (x : Int64) : Int64 := x + xlushr x 32
theorem bc_eq (x : Int64) (s : xS) : F_J13_bitCount_95d88 x s = some ((bc6 (bc5 (bc4 (bc3 (bc2 (bc1 x)))))).toInt32 &&& 127) := rfl
theorem bc_end (x : Int64) : x.toInt32 &&& 127 = nI (nL x % 128) := by
  apply Int32.toBitVec_inj.mp
  show x.toBitVec.signExtend 32 &&& 127#32 = BitVec.ofNat 32 (nL x % 128)
  apply BitVec.eq_of_getLsbD_eq
  intro i hi
  have e2 : (128 : Nat) = 2 ^ 7 := rfl
  have e : (127#32).getLsbD i = decide (i < 7) := by
    rw [BitVec.getLsbD_ofNat]
    have := Nat.testBit_two_pow_sub_one 7 i
    have e3 : (127 : Nat) = 2 ^ 7 - 1 := rfl
    rw [e3, this]
    simp [hi]
  rw [BitVec.getLsbD_and, BitVec.getLsbD_signExtend, e, BitVec.getLsbD_ofNat, e2, Nat.testBit_mod_two_pow, if_pos (show i < 64 by omega)]
  show (decide (i < 32) && x.toBitVec.getLsbD i && decide (i < 7)) = (decide (i < 32) && (decide (i < 7) && x.toBitVec.getLsbD i))
  cases x.toBitVec.getLsbD i <;> cases decide (i < 7) <;> cases decide (i < 32) <;> rfl
theorem vaL5 (a b c d e : Nat) : vaL [a, b, c, d, e] = a + 256 * b + 65536 * c + 16777216 * d + 4294967296 * e := by
  show 2 ^ 8 * (2 ^ 8 * (2 ^ 8 * (2 ^ 8 * (2 ^ 8 * 0 + e) + d) + c) + b) + a = _
  omega
theorem bitc_5 {x : Int64} {a b c d e : Nat} (h : nL x = vaL [a, b, c, d, e]) (ha : a < 256) (hb : b < 256) (hc : c < 256) (hd : d < 256) (he : e < 256) (s : xS) : F_J13_bitCount_95d88 x s = some (nI (pcN a + pcN b + pcN c + pcN d + pcN e)) := by
  have hall : ∀ y, y ∈ [a, b, c, d, e] → y < 256 := by
    intro y hy
    simp only [List.mem_cons, List.not_mem_nil, or_false] at hy
    rcases hy with rfl | rfl | rfl | rfl | rfl <;> assumption
  obtain ⟨a1, a2, a3, a4, a5⟩ := bk4 a ha
  obtain ⟨b1, b2, b3, b4, b5⟩ := bk4 b hb
  obtain ⟨c1, c2, c3, c4, c5⟩ := bk4 c hc
  obtain ⟨d1, d2, d3, d4, d5⟩ := bk4 d hd
  obtain ⟨e1, e2, e3, e4, e5⟩ := bk4 e he
  have m1 : nL 6148914691236517205 = mkL 85 8 := by decide +kernel
  have m2 : nL 3689348814741910323 = mkL 51 8 := by decide +kernel
  have m3 : nL 1085102592571150095 = mkL 15 8 := by decide +kernel
  have s1 : nL (bc1 x) = vaL [bs1 a, bs1 b, bs1 c, bs1 d, bs1 e] := by
    have q := bL1 [a, b, c, d, e] 8 hall (by simp)
    have t : nL (xlushr x 1 &&& 6148914691236517205) = (vaL [a, b, c, d, e] / 2) &&& mkL 85 8 := by
      rw [nL_and, m1, ← h]
      have t0 : nL (xlushr x 1) = nL x / 2 := nL_shr (p := 1) (by omega)
      rw [t0]
    have t2 : (vaL [a, b, c, d, e] / 2) &&& mkL 85 8 ≤ vaL [a, b, c, d, e] / 2 := Nat.and_le_left
    unfold bc1
    rw [nL_sub (by rw [t, h]; omega), t, h, q]
    rfl
  have s2 : nL (bc2 (bc1 x)) = vaL [bs2 (bs1 a), bs2 (bs1 b), bs2 (bs1 c), bs2 (bs1 d), bs2 (bs1 e)] := by
    generalize bc1 x = y at s1
    have q := bL2 [bs1 a, bs1 b, bs1 c, bs1 d, bs1 e] 8 (by
      intro y hy
      simp only [List.mem_cons, List.not_mem_nil, or_false] at hy
      rcases hy with rfl | rfl | rfl | rfl | rfl <;> assumption) (by simp)
    have t : nL (xlushr y 2) = nL y / 4 := nL_shr (p := 2) (by omega)
    have t1 : nL (y &&& 3689348814741910323) ≤ nL y := by rw [nL_and]; exact Nat.and_le_left
    have t2 : nL (xlushr y 2 &&& 3689348814741910323) ≤ nL y / 4 := by rw [nL_and, t]; exact Nat.and_le_left
    have t3 : nL y < 2 ^ 40 := by rw [s1, vaL5]; omega
    unfold bc2
    rw [nL_add (by omega), nL_and, nL_and, t, m2, s1, q]
    rfl
  have s3 : nL (bc3 (bc2 (bc1 x))) = vaL [pcN a, pcN b, pcN c, pcN d, pcN e] := by
    generalize bc2 (bc1 x) = y at s2
    have q := bL3 [bs2 (bs1 a), bs2 (bs1 b), bs2 (bs1 c), bs2 (bs1 d), bs2 (bs1 e)] 8 (by
      intro y hy
      simp only [List.mem_cons, List.not_mem_nil, or_false] at hy
      rcases hy with rfl | rfl | rfl | rfl | rfl
      · exact ⟨a2, a3⟩
      · exact ⟨b2, b3⟩
      · exact ⟨c2, c3⟩
      · exact ⟨d2, d3⟩
      · exact ⟨e2, e3⟩) (by simp)
    have t : nL (xlushr y 4) = nL y / 16 := nL_shr (p := 4) (by omega)
    have t3 : nL y < 2 ^ 40 := by rw [s2, vaL5]; omega
    unfold bc3
    rw [nL_and, nL_add (by omega), t, m3, s2, q]
    show vaL [bs3 (bs2 (bs1 a)), bs3 (bs2 (bs1 b)), bs3 (bs2 (bs1 c)), bs3 (bs2 (bs1 d)), bs3 (bs2 (bs1 e))] = _
    rw [a4, b4, c4, d4, e4]
  rw [vaL5] at s3
  rw [bc_eq, bc_end]
  generalize bc3 (bc2 (bc1 x)) = y at s3
  generalize pcN a = A at *
  generalize pcN b = B at *
  generalize pcN c = C at *
  generalize pcN d = D at *
  generalize pcN e = E at *
  have t4 : nL (bc4 y) = nL y + nL y / 256 := by
    have t : nL (xlushr y 8) = nL y / 256 := nL_shr (p := 8) (by omega)
    unfold bc4
    rw [nL_add (by omega), t]
  have t5 : nL (bc5 (bc4 y)) = nL (bc4 y) + nL (bc4 y) / 65536 := by
    have t : nL (xlushr (bc4 y) 16) = nL (bc4 y) / 65536 := nL_shr (p := 16) (by omega)
    unfold bc5
    rw [nL_add (by omega), t]
  have t6 : nL (bc6 (bc5 (bc4 y))) = nL (bc5 (bc4 y)) + nL (bc5 (bc4 y)) / 4294967296 := by
    have t : nL (xlushr (bc5 (bc4 y)) 32) = nL (bc5 (bc4 y)) / 4294967296 := nL_shr (p := 32) (by omega)
    unfold bc6
    rw [nL_add (by omega), t]
  have v1 : nL y / 256 = B + 256 * C + 65536 * D + 16777216 * E := by omega
  have v2 : nL (bc4 y) = (A + B) + 256 * (B + C) + 65536 * (C + D) + 16777216 * (D + E) + 4294967296 * E := by omega
  have v3 : nL (bc4 y) / 65536 = (C + D) + 256 * (D + E) + 65536 * E := by omega
  have v4 : nL (bc5 (bc4 y)) = (A + B + C + D) + 256 * (B + C + D + E) + 65536 * (C + D + E) + 16777216 * (D + E) + 4294967296 * E := by omega
  have v5 : nL (bc5 (bc4 y)) / 4294967296 = E := by omega
  have v6 : nL (bc6 (bc5 (bc4 y))) = 128 * (2 * (B + C + D + E) + 512 * (C + D + E) + 131072 * (D + E) + 33554432 * E) + (A + B + C + D + E) := by omega
  rw [v6, Nat.mul_add_mod, Nat.mod_eq_of_lt (by omega)]
theorem bitc {ex : Nat → Bool} {x : Int64} {N : Nat} (h : ExB ex x) (hx : ∀ p, ex p = true → p < N) (hN : N ≤ 36) (s : xS) : F_J13_bitCount_95d88 x s = some (nI (smN (fun j => b01 (ex j)) N)) := by
  have e0 : nL x = bsm ex 40 := by
    apply Nat.eq_of_testBit_eq
    intro i
    rw [bsm_bit]
    show x.toBitVec.getLsbD i = _
    by_cases c : i < 64
    · rw [h i c]
      by_cases c2 : i < 40
      · simp [c2]
      · have : ¬ ex i = true := fun q => by have := hx i q; omega
        simp [c2, this]
    · rw [BitVec.getLsbD_of_ge _ _ (by omega)]
      simp [show ¬ i < 40 by omega]
  have e1 : bsm ex 40 = vaL [bsm ex 8, bsm (fun j => ex (8 + j)) 8, bsm (fun j => ex (8 + (8 + j))) 8, bsm (fun j => ex (8 + (8 + (8 + j)))) 8, bsm (fun j => ex (8 + (8 + (8 + (8 + j))))) 8] := by
    rw [bsm_split ex 32, bsm_split (fun j => ex (8 + j)) 24, bsm_split (fun j => ex (8 + (8 + j))) 16, bsm_split (fun j => ex (8 + (8 + (8 + j)))) 8]
    show _ = 2 ^ 8 * (2 ^ 8 * (2 ^ 8 * (2 ^ 8 * (2 ^ 8 * 0 + _) + _) + _) + _) + _
    rw [Nat.mul_zero, Nat.zero_add]
  rw [bitc_5 (e0.trans e1) (bsm_lt _ 8) (bsm_lt _ 8) (bsm_lt _ 8) (bsm_lt _ 8) (bsm_lt _ 8) s]
  congr 2
  rw [pc_bsm, pc_bsm, pc_bsm, pc_bsm, pc_bsm]
  have k1 := smN_add (fun j => b01 (ex j)) 8 32
  have k2 := smN_add (fun j => b01 (ex (8 + j))) 8 24
  have k3 := smN_add (fun j => b01 (ex (8 + (8 + j)))) 8 16
  have k4 := smN_add (fun j => b01 (ex (8 + (8 + (8 + j))))) 8 8
  have k5 := smN_add (fun j => b01 (ex j)) N (40 - N)
  have k6 : smN (fun j => b01 (ex (N + j))) (40 - N) = 0 := smN_zero _ (fun j _ => by
    have : ¬ ex (N + j) = true := fun q => by have := hx _ q; omega
    unfold b01
    rw [if_neg this])
  rw [show N + (40 - N) = 40 by omega] at k5
  have k1 : smN (fun j => b01 (ex j)) 40 = _ := k1
  have k2 : smN (fun j => b01 (ex (8 + j))) 32 = _ := k2
  have k3 : smN (fun j => b01 (ex (8 + (8 + j)))) 24 = _ := k3
  have k4 : smN (fun j => b01 (ex (8 + (8 + (8 + j))))) 16 = _ := k4
  omega
section SPEC
variable {u0 : Nat → Nat} {n0 : Nat} {u1 : Nat → Nat} {n1 : Nat} {l : LD} {e : ED} {s : xS}
/-- what count answers below 8 -/
noncomputable def cnt (u0 : Nat → Nat) (n0 : Nat) (u1 : Nat → Nat) (n1 : Nat) (l : LD) (e : ED) (k : Nat) : Nat := match k with
  | 0 => (twn u0 n0).1
  | 1 => (ddat u1 n1).1
  | 2 => n0
  | 3 => n1
  | 4 => l.2.2.1
  | 5 => smN (fun j => if (ngt (twn u0 n0).1 (ls0 u0 n0) (ddat u1 n1) all_ l).2.2.2.2.2 j = 0 then 1 else 0) (ddat u1 n1).1
  | 6 => smN (fun j => b01 ((ngt (twn u0 n0).1 (ls0 u0 n0) (ddat u1 n1) all_ l).2.2.1 j)) (twn u0 n0).1
  | _ => e.1
theorem q_count {k : Nat} (h : IF u0 n0 u1 n1 l e s) (hk : k < 8) : F_X8_count (nI k) s = some (nI (cnt u0 n0 u1 n1 l e k)) := by
  obtain ⟨a1, a2, a3, a4⟩ := h
  have h8 := (dd_ok (u := u1) a1.1.2.1).1
  have hN := (twn_ok u0 n0).1.1
  have hk' : k = 0 ∨ k = 1 ∨ k = 2 ∨ k = 3 ∨ k = 4 ∨ k = 5 ∨ k = 6 ∨ k = 7 := by omega
  unfold F_X8_count
  rcases hk' with rfl | rfl | rfl | rfl | rfl | rfl | rfl | rfl
  · simp (disch := omega) only [↓Lm1, L0, L1, L2, L3, L4, L5, L6, L7, L8, L9, L10, L11, L12, L13, L14, L15, L16, L17, L18, L19, L20, L27, L30, L31, L35, L36, L37, L38, L39, L40, L41, L46, L48, L51, L57, L59, L60, L82, L98, L99, L100, L102, L104, L107, L110, L119, L144, L240, L255, L256, L360, L999, L1000000, nI_val, n_lt_t, n_lt_f, n_le_t, n_le_f, n_eq_t, n_eq_f, k_le_f, m_lt_t, m_lt_f, m_le_t, m_le_f, m_eq_f, m_eq_f', nI_add, nI_mulE, nI_subE, if_true, if_false, ite_true, ite_false, or_false, false_or, or_true, true_or, or_self, and_true, true_and, and_false, false_and, not_true_eq_false, not_false_eq_true, Option.bind_some, Sum.elim_inl, Sum.elim_inr, xu_set, xset_same, xset_ne, xset_2, xset_set, upd_same, upd_ne, nbI_some, ne_eq, reduceCtorEq, reduceIte, Nat.reduceAdd, Nat.reduceMul, Nat.reduceSub, Nat.add_zero, Nat.zero_add, Nat.mul_zero, Nat.zero_mul, a1.2.1.1.2.1]
    rfl
  · simp (disch := omega) only [↓Lm1, L0, L1, L2, L3, L4, L5, L6, L7, L8, L9, L10, L11, L12, L13, L14, L15, L16, L17, L18, L19, L20, L27, L30, L31, L35, L36, L37, L38, L39, L40, L41, L46, L48, L51, L57, L59, L60, L82, L98, L99, L100, L102, L104, L107, L110, L119, L144, L240, L255, L256, L360, L999, L1000000, nI_val, n_lt_t, n_lt_f, n_le_t, n_le_f, n_eq_t, n_eq_f, k_le_f, m_lt_t, m_lt_f, m_le_t, m_le_f, m_eq_f, m_eq_f', nI_add, nI_mulE, nI_subE, if_true, if_false, ite_true, ite_false, or_false, false_or, or_true, true_or, or_self, and_true, true_and, and_false, false_and, not_true_eq_false, not_false_eq_true, Option.bind_some, Sum.elim_inl, Sum.elim_inr, xu_set, xset_same, xset_ne, xset_2, xset_set, upd_same, upd_ne, nbI_some, ne_eq, reduceCtorEq, reduceIte, Nat.reduceAdd, Nat.reduceMul, Nat.reduceSub, Nat.add_zero, Nat.zero_add, Nat.mul_zero, Nat.zero_mul, a1.2.2.1.1.1]
    rfl
  · simp (disch := omega) only [↓Lm1, L0, L1, L2, L3, L4, L5, L6, L7, L8, L9, L10, L11, L12, L13, L14, L15, L16, L17, L18, L19, L20, L27, L30, L31, L35, L36, L37, L38, L39, L40, L41, L46, L48, L51, L57, L59, L60, L82, L98, L99, L100, L102, L104, L107, L110, L119, L144, L240, L255, L256, L360, L999, L1000000, nI_val, n_lt_t, n_lt_f, n_le_t, n_le_f, n_eq_t, n_eq_f, k_le_f, m_lt_t, m_lt_f, m_le_t, m_le_f, m_eq_f, m_eq_f', nI_add, nI_mulE, nI_subE, if_true, if_false, ite_true, ite_false, or_false, false_or, or_true, true_or, or_self, and_true, true_and, and_false, false_and, not_true_eq_false, not_false_eq_true, Option.bind_some, Sum.elim_inl, Sum.elim_inr, xu_set, xset_same, xset_ne, xset_2, xset_set, upd_same, upd_ne, nbI_some, ne_eq, reduceCtorEq, reduceIte, Nat.reduceAdd, Nat.reduceMul, Nat.reduceSub, Nat.add_zero, Nat.zero_add, Nat.mul_zero, Nat.zero_mul, a1.1.2.2.2.1]
    rfl
  · simp (disch := omega) only [↓Lm1, L0, L1, L2, L3, L4, L5, L6, L7, L8, L9, L10, L11, L12, L13, L14, L15, L16, L17, L18, L19, L20, L27, L30, L31, L35, L36, L37, L38, L39, L40, L41, L46, L48, L51, L57, L59, L60, L82, L98, L99, L100, L102, L104, L107, L110, L119, L144, L240, L255, L256, L360, L999, L1000000, nI_val, n_lt_t, n_lt_f, n_le_t, n_le_f, n_eq_t, n_eq_f, k_le_f, m_lt_t, m_lt_f, m_le_t, m_le_f, m_eq_f, m_eq_f', nI_add, nI_mulE, nI_subE, if_true, if_false, ite_true, ite_false, or_false, false_or, or_true, true_or, or_self, and_true, true_and, and_false, false_and, not_true_eq_false, not_false_eq_true, Option.bind_some, Sum.elim_inl, Sum.elim_inr, xu_set, xset_same, xset_ne, xset_2, xset_set, upd_same, upd_ne, nbI_some, ne_eq, reduceCtorEq, reduceIte, Nat.reduceAdd, Nat.reduceMul, Nat.reduceSub, Nat.add_zero, Nat.zero_add, Nat.mul_zero, Nat.zero_mul, a1.1.2.2.2.2.2.1]
    rfl
  · simp (disch := omega) only [↓Lm1, L0, L1, L2, L3, L4, L5, L6, L7, L8, L9, L10, L11, L12, L13, L14, L15, L16, L17, L18, L19, L20, L27, L30, L31, L35, L36, L37, L38, L39, L40, L41, L46, L48, L51, L57, L59, L60, L82, L98, L99, L100, L102, L104, L107, L110, L119, L144, L240, L255, L256, L360, L999, L1000000, nI_val, n_lt_t, n_lt_f, n_le_t, n_le_f, n_eq_t, n_eq_f, k_le_f, m_lt_t, m_lt_f, m_le_t, m_le_f, m_eq_f, m_eq_f', nI_add, nI_mulE, nI_subE, if_true, if_false, ite_true, ite_false, or_false, false_or, or_true, true_or, or_self, and_true, true_and, and_false, false_and, not_true_eq_false, not_false_eq_true, Option.bind_some, Sum.elim_inl, Sum.elim_inr, xu_set, xset_same, xset_ne, xset_2, xset_set, upd_same, upd_ne, nbI_some, ne_eq, reduceCtorEq, reduceIte, Nat.reduceAdd, Nat.reduceMul, Nat.reduceSub, Nat.add_zero, Nat.zero_add, Nat.mul_zero, Nat.zero_mul, a1.2.2.2.2.1.2.2.1]
    rfl
  · have := doneF h8 a1.2.2.1.1.1 (fun i hi => (a2.2.2.2.1 i hi).2) (nst_ft 10)
    simp (disch := omega) only [↓Lm1, L0, L1, L2, L3, L4, L5, L6, L7, L8, L9, L10, L11, L12, L13, L14, L15, L16, L17, L18, L19, L20, L27, L30, L31, L35, L36, L37, L38, L39, L40, L41, L46, L48, L51, L57, L59, L60, L82, L98, L99, L100, L102, L104, L107, L110, L119, L144, L240, L255, L256, L360, L999, L1000000, nI_val, n_lt_t, n_lt_f, n_le_t, n_le_f, n_eq_t, n_eq_f, k_le_f, m_lt_t, m_lt_f, m_le_t, m_le_f, m_eq_f, m_eq_f', nI_add, nI_mulE, nI_subE, if_true, if_false, ite_true, ite_false, or_false, false_or, or_true, true_or, or_self, and_true, true_and, and_false, false_and, not_true_eq_false, not_false_eq_true, Option.bind_some, Sum.elim_inl, Sum.elim_inr, xu_set, xset_same, xset_ne, xset_2, xset_set, upd_same, upd_ne, nbI_some, ne_eq, reduceCtorEq, reduceIte, Nat.reduceAdd, Nat.reduceMul, Nat.reduceSub, Nat.add_zero, Nat.zero_add, Nat.mul_zero, Nat.zero_mul, this]
    rfl
  · have := bitc (x := s.2 22 6) (N := (twn u0 n0).1) a2.2.2.2.2 (fun p q => ngt_ex q) hN s
    simp (disch := omega) only [↓Lm1, L0, L1, L2, L3, L4, L5, L6, L7, L8, L9, L10, L11, L12, L13, L14, L15, L16, L17, L18, L19, L20, L27, L30, L31, L35, L36, L37, L38, L39, L40, L41, L46, L48, L51, L57, L59, L60, L82, L98, L99, L100, L102, L104, L107, L110, L119, L144, L240, L255, L256, L360, L999, L1000000, nI_val, n_lt_t, n_lt_f, n_le_t, n_le_f, n_eq_t, n_eq_f, k_le_f, m_lt_t, m_lt_f, m_le_t, m_le_f, m_eq_f, m_eq_f', nI_add, nI_mulE, nI_subE, if_true, if_false, ite_true, ite_false, or_false, false_or, or_true, true_or, or_self, and_true, true_and, and_false, false_and, not_true_eq_false, not_false_eq_true, Option.bind_some, Sum.elim_inl, Sum.elim_inr, xu_set, xset_same, xset_ne, xset_2, xset_set, upd_same, upd_ne, nbI_some, ne_eq, reduceCtorEq, reduceIte, Nat.reduceAdd, Nat.reduceMul, Nat.reduceSub, Nat.add_zero, Nat.zero_add, Nat.mul_zero, Nat.zero_mul, this]
    rfl
  · simp (disch := omega) only [↓Lm1, L0, L1, L2, L3, L4, L5, L6, L7, L8, L9, L10, L11, L12, L13, L14, L15, L16, L17, L18, L19, L20, L27, L30, L31, L35, L36, L37, L38, L39, L40, L41, L46, L48, L51, L57, L59, L60, L82, L98, L99, L100, L102, L104, L107, L110, L119, L144, L240, L255, L256, L360, L999, L1000000, nI_val, n_lt_t, n_lt_f, n_le_t, n_le_f, n_eq_t, n_eq_f, k_le_f, m_lt_t, m_lt_f, m_le_t, m_le_f, m_eq_f, m_eq_f', nI_add, nI_mulE, nI_subE, if_true, if_false, ite_true, ite_false, or_false, false_or, or_true, true_or, or_self, and_true, true_and, and_false, false_and, not_true_eq_false, not_false_eq_true, Option.bind_some, Sum.elim_inl, Sum.elim_inr, xu_set, xset_same, xset_ne, xset_2, xset_set, upd_same, upd_ne, nbI_some, ne_eq, reduceCtorEq, reduceIte, Nat.reduceAdd, Nat.reduceMul, Nat.reduceSub, Nat.add_zero, Nat.zero_add, Nat.mul_zero, Nat.zero_mul, a4.2.2.1]
    rfl
theorem m_count {k : Nat} (h : IM u0 n0 u1 n1 l e s) (hk : k < 8) : ∃ s', F_X9_count (nI k) s = some (nI (cnt u0 n0 u1 n1 l e k), s') ∧ KR SM SR s s' := by
  have h8 := (dd_ok (u := u1) h.1.2.1).1
  have hN := (twn_ok u0 n0).1.1
  obtain ⟨s', e', rt, nt⟩ := runsToldM h.1
  have hk' : k = 0 ∨ k = 1 ∨ k = 2 ∨ k = 3 ∨ k = 4 ∨ k = 5 ∨ k = 6 ∨ k = 7 := by omega
  rcases hk' with rfl | rfl | rfl | rfl | rfl | rfl | rfl | rfl
  · refine ⟨s', ?_, rt.1⟩
    unfold F_X9_count F_X9_sumOf
    simp (disch := omega) only [↓Lm1, L0, L1, L2, L3, L4, L5, L6, L7, L8, L9, L10, L11, L12, L13, L14, L15, L16, L17, L18, L19, L20, L27, L30, L31, L35, L36, L37, L38, L39, L40, L41, L46, L48, L51, L57, L59, L60, L82, L98, L99, L100, L102, L104, L107, L110, L119, L144, L240, L255, L256, L360, L999, L1000000, nI_val, n_lt_t, n_lt_f, n_le_t, n_le_f, n_eq_t, n_eq_f, k_le_f, m_lt_t, m_lt_f, m_le_t, m_le_f, m_eq_f, m_eq_f', nI_add, nI_mulE, nI_subE, if_true, if_false, ite_true, ite_false, or_false, false_or, or_true, true_or, or_self, and_true, true_and, and_false, false_and, not_true_eq_false, not_false_eq_true, Option.bind_some, Sum.elim_inl, Sum.elim_inr, xu_set, xset_same, xset_ne, xset_2, xset_set, upd_same, upd_ne, nbI_some, ne_eq, reduceCtorEq, reduceIte, Nat.reduceAdd, Nat.reduceMul, Nat.reduceSub, Nat.add_zero, Nat.zero_add, Nat.mul_zero, Nat.zero_mul, e', rt.2.2.1.2.1]
    rfl
  · refine ⟨s', ?_, rt.1⟩
    unfold F_X9_count F_X9_sumOf
    simp (disch := omega) only [↓Lm1, L0, L1, L2, L3, L4, L5, L6, L7, L8, L9, L10, L11, L12, L13, L14, L15, L16, L17, L18, L19, L20, L27, L30, L31, L35, L36, L37, L38, L39, L40, L41, L46, L48, L51, L57, L59, L60, L82, L98, L99, L100, L102, L104, L107, L110, L119, L144, L240, L255, L256, L360, L999, L1000000, nI_val, n_lt_t, n_lt_f, n_le_t, n_le_f, n_eq_t, n_eq_f, k_le_f, m_lt_t, m_lt_f, m_le_t, m_le_f, m_eq_f, m_eq_f', nI_add, nI_mulE, nI_subE, if_true, if_false, ite_true, ite_false, or_false, false_or, or_true, true_or, or_self, and_true, true_and, and_false, false_and, not_true_eq_false, not_false_eq_true, Option.bind_some, Sum.elim_inl, Sum.elim_inr, xu_set, xset_same, xset_ne, xset_2, xset_set, upd_same, upd_ne, nbI_some, ne_eq, reduceCtorEq, reduceIte, Nat.reduceAdd, Nat.reduceMul, Nat.reduceSub, Nat.add_zero, Nat.zero_add, Nat.mul_zero, Nat.zero_mul, e', rt.2.2.2.1]
    rfl
  · refine ⟨s, ?_, KR.refl _ _ _⟩
    unfold F_X9_count
    simp (disch := omega) only [↓Lm1, L0, L1, L2, L3, L4, L5, L6, L7, L8, L9, L10, L11, L12, L13, L14, L15, L16, L17, L18, L19, L20, L27, L30, L31, L35, L36, L37, L38, L39, L40, L41, L46, L48, L51, L57, L59, L60, L82, L98, L99, L100, L102, L104, L107, L110, L119, L144, L240, L255, L256, L360, L999, L1000000, nI_val, n_lt_t, n_lt_f, n_le_t, n_le_f, n_eq_t, n_eq_f, k_le_f, m_lt_t, m_lt_f, m_le_t, m_le_f, m_eq_f, m_eq_f', nI_add, nI_mulE, nI_subE, if_true, if_false, ite_true, ite_false, or_false, false_or, or_true, true_or, or_self, and_true, true_and, and_false, false_and, not_true_eq_false, not_false_eq_true, Option.bind_some, Sum.elim_inl, Sum.elim_inr, xu_set, xset_same, xset_ne, xset_2, xset_set, upd_same, upd_ne, nbI_some, ne_eq, reduceCtorEq, reduceIte, Nat.reduceAdd, Nat.reduceMul, Nat.reduceSub, Nat.add_zero, Nat.zero_add, Nat.mul_zero, Nat.zero_mul, h.1.2.2.1]
    rfl
  · refine ⟨s, ?_, KR.refl _ _ _⟩
    unfold F_X9_count
    simp (disch := omega) only [↓Lm1, L0, L1, L2, L3, L4, L5, L6, L7, L8, L9, L10, L11, L12, L13, L14, L15, L16, L17, L18, L19, L20, L27, L30, L31, L35, L36, L37, L38, L39, L40, L41, L46, L48, L51, L57, L59, L60, L82, L98, L99, L100, L102, L104, L107, L110, L119, L144, L240, L255, L256, L360, L999, L1000000, nI_val, n_lt_t, n_lt_f, n_le_t, n_le_f, n_eq_t, n_eq_f, k_le_f, m_lt_t, m_lt_f, m_le_t, m_le_f, m_eq_f, m_eq_f', nI_add, nI_mulE, nI_subE, if_true, if_false, ite_true, ite_false, or_false, false_or, or_true, true_or, or_self, and_true, true_and, and_false, false_and, not_true_eq_false, not_false_eq_true, Option.bind_some, Sum.elim_inl, Sum.elim_inr, xu_set, xset_same, xset_ne, xset_2, xset_set, upd_same, upd_ne, nbI_some, ne_eq, reduceCtorEq, reduceIte, Nat.reduceAdd, Nat.reduceMul, Nat.reduceSub, Nat.add_zero, Nat.zero_add, Nat.mul_zero, Nat.zero_mul, h.1.2.2.2.1]
    rfl
  · refine ⟨s, ?_, KR.refl _ _ _⟩
    unfold F_X9_count
    simp (disch := omega) only [↓Lm1, L0, L1, L2, L3, L4, L5, L6, L7, L8, L9, L10, L11, L12, L13, L14, L15, L16, L17, L18, L19, L20, L27, L30, L31, L35, L36, L37, L38, L39, L40, L41, L46, L48, L51, L57, L59, L60, L82, L98, L99, L100, L102, L104, L107, L110, L119, L144, L240, L255, L256, L360, L999, L1000000, nI_val, n_lt_t, n_lt_f, n_le_t, n_le_f, n_eq_t, n_eq_f, k_le_f, m_lt_t, m_lt_f, m_le_t, m_le_f, m_eq_f, m_eq_f', nI_add, nI_mulE, nI_subE, if_true, if_false, ite_true, ite_false, or_false, false_or, or_true, true_or, or_self, and_true, true_and, and_false, false_and, not_true_eq_false, not_false_eq_true, Option.bind_some, Sum.elim_inl, Sum.elim_inr, xu_set, xset_same, xset_ne, xset_2, xset_set, upd_same, upd_ne, nbI_some, ne_eq, reduceCtorEq, reduceIte, Nat.reduceAdd, Nat.reduceMul, Nat.reduceSub, Nat.add_zero, Nat.zero_add, Nat.mul_zero, Nat.zero_mul, h.1.2.2.2.2.2.2.2.2.2.1]
    rfl
  · refine ⟨s', ?_, rt.1⟩
    have := doneM h8 rt.2.2.2.1 (fun i hi => (nt.2.2.1 i hi).2) (nst_ft 10)
    unfold F_X9_count F_X9_sumOf
    simp (disch := omega) only [↓Lm1, L0, L1, L2, L3, L4, L5, L6, L7, L8, L9, L10, L11, L12, L13, L14, L15, L16, L17, L18, L19, L20, L27, L30, L31, L35, L36, L37, L38, L39, L40, L41, L46, L48, L51, L57, L59, L60, L82, L98, L99, L100, L102, L104, L107, L110, L119, L144, L240, L255, L256, L360, L999, L1000000, nI_val, n_lt_t, n_lt_f, n_le_t, n_le_f, n_eq_t, n_eq_f, k_le_f, m_lt_t, m_lt_f, m_le_t, m_le_f, m_eq_f, m_eq_f', nI_add, nI_mulE, nI_subE, if_true, if_false, ite_true, ite_false, or_false, false_or, or_true, true_or, or_self, and_true, true_and, and_false, false_and, not_true_eq_false, not_false_eq_true, Option.bind_some, Sum.elim_inl, Sum.elim_inr, xu_set, xset_same, xset_ne, xset_2, xset_set, upd_same, upd_ne, nbI_some, ne_eq, reduceCtorEq, reduceIte, Nat.reduceAdd, Nat.reduceMul, Nat.reduceSub, Nat.add_zero, Nat.zero_add, Nat.mul_zero, Nat.zero_mul, e', this]
    rfl
  · refine ⟨s', ?_, rt.1⟩
    have := exManyM hN rt.2.2.1.2.1 nt.2.2.2
    unfold F_X9_count F_X9_sumOf
    simp (disch := omega) only [↓Lm1, L0, L1, L2, L3, L4, L5, L6, L7, L8, L9, L10, L11, L12, L13, L14, L15, L16, L17, L18, L19, L20, L27, L30, L31, L35, L36, L37, L38, L39, L40, L41, L46, L48, L51, L57, L59, L60, L82, L98, L99, L100, L102, L104, L107, L110, L119, L144, L240, L255, L256, L360, L999, L1000000, nI_val, n_lt_t, n_lt_f, n_le_t, n_le_f, n_eq_t, n_eq_f, k_le_f, m_lt_t, m_lt_f, m_le_t, m_le_f, m_eq_f, m_eq_f', nI_add, nI_mulE, nI_subE, if_true, if_false, ite_true, ite_false, or_false, false_or, or_true, true_or, or_self, and_true, true_and, and_false, false_and, not_true_eq_false, not_false_eq_true, Option.bind_some, Sum.elim_inl, Sum.elim_inr, xu_set, xset_same, xset_ne, xset_2, xset_set, upd_same, upd_ne, nbI_some, ne_eq, reduceCtorEq, reduceIte, Nat.reduceAdd, Nat.reduceMul, Nat.reduceSub, Nat.add_zero, Nat.zero_add, Nat.mul_zero, Nat.zero_mul, e', this]
    rfl
  · refine ⟨s, ?_, KR.refl _ _ _⟩
    unfold F_X9_count
    simp (disch := omega) only [↓Lm1, L0, L1, L2, L3, L4, L5, L6, L7, L8, L9, L10, L11, L12, L13, L14, L15, L16, L17, L18, L19, L20, L27, L30, L31, L35, L36, L37, L38, L39, L40, L41, L46, L48, L51, L57, L59, L60, L82, L98, L99, L100, L102, L104, L107, L110, L119, L144, L240, L255, L256, L360, L999, L1000000, nI_val, n_lt_t, n_lt_f, n_le_t, n_le_f, n_eq_t, n_eq_f, k_le_f, m_lt_t, m_lt_f, m_le_t, m_le_f, m_eq_f, m_eq_f', nI_add, nI_mulE, nI_subE, if_true, if_false, ite_true, ite_false, or_false, false_or, or_true, true_or, or_self, and_true, true_and, and_false, false_and, not_true_eq_false, not_false_eq_true, Option.bind_some, Sum.elim_inl, Sum.elim_inr, xu_set, xset_same, xset_ne, xset_2, xset_set, upd_same, upd_ne, nbI_some, ne_eq, reduceCtorEq, reduceIte, Nat.reduceAdd, Nat.reduceMul, Nat.reduceSub, Nat.add_zero, Nat.zero_add, Nat.mul_zero, Nat.zero_mul, h.2.1]
    rfl
end SPEC
theorem c_count : lh_count Inv := by
  intro x s1 s2 hI
  have hI0 := hI
  obtain ⟨u0, n0, u1, n1, l, e, hA⟩ := hI
  rcases arg_cases x 9 with ⟨k, hk, rfl⟩ | hno
  · by_cases c : k < 8
    · obtain ⟨s', e', kr⟩ := m_count hA.iM c
      exact ⟨_, s', q_count hA.iF c, e', hA.mk2 hA.iF (KF.refl _) kr⟩
    · have : k = 8 := by omega
      subst this
      refine ⟨s1.1 0 17, s2, ?_, ?_, hI0⟩
      · unfold F_X8_count
        simp (disch := omega) only [↓Lm1, L0, L1, L2, L3, L4, L5, L6, L7, L8, L9, L10, L11, L12, L13, L14, L15, L16, L17, L18, L19, L20, L27, L30, L31, L35, L36, L37, L38, L39, L40, L41, L46, L48, L51, L57, L59, L60, L82, L98, L99, L100, L102, L104, L107, L110, L119, L144, L240, L255, L256, L360, L999, L1000000, nI_val, n_lt_t, n_lt_f, n_le_t, n_le_f, n_eq_t, n_eq_f, k_le_f, m_lt_t, m_lt_f, m_le_t, m_le_f, m_eq_f, m_eq_f', nI_add, nI_mulE, nI_subE, if_true, if_false, ite_true, ite_false, or_false, false_or, or_true, true_or, or_self, and_true, true_and, and_false, false_and, not_true_eq_false, not_false_eq_true, Option.bind_some, Sum.elim_inl, Sum.elim_inr, xu_set, xset_same, xset_ne, xset_2, xset_set, upd_same, upd_ne, nbI_some, ne_eq, reduceCtorEq, reduceIte, Nat.reduceAdd, Nat.reduceMul, Nat.reduceSub, Nat.add_zero, Nat.zero_add, Nat.mul_zero, Nat.zero_mul]
      · unfold F_X9_count
        simp (disch := omega) only [↓Lm1, L0, L1, L2, L3, L4, L5, L6, L7, L8, L9, L10, L11, L12, L13, L14, L15, L16, L17, L18, L19, L20, L27, L30, L31, L35, L36, L37, L38, L39, L40, L41, L46, L48, L51, L57, L59, L60, L82, L98, L99, L100, L102, L104, L107, L110, L119, L144, L240, L255, L256, L360, L999, L1000000, nI_val, n_lt_t, n_lt_f, n_le_t, n_le_f, n_eq_t, n_eq_f, k_le_f, m_lt_t, m_lt_f, m_le_t, m_le_f, m_eq_f, m_eq_f', nI_add, nI_mulE, nI_subE, if_true, if_false, ite_true, ite_false, or_false, false_or, or_true, true_or, or_self, and_true, true_and, and_false, false_and, not_true_eq_false, not_false_eq_true, Option.bind_some, Sum.elim_inl, Sum.elim_inr, xu_set, xset_same, xset_ne, xset_2, xset_set, upd_same, upd_ne, nbI_some, ne_eq, reduceCtorEq, reduceIte, Nat.reduceAdd, Nat.reduceMul, Nat.reduceSub, Nat.add_zero, Nat.zero_add, Nat.mul_zero, Nat.zero_mul, hA.2.2.2.2.2.2.2]
  · have q : ∀ k, k < 9 → (x = nI k) = False := fun k hk => eq_false (hno k hk)
    refine ⟨-2, s2, ?_, ?_, hI0⟩
    · unfold F_X8_count
      simp (disch := omega) only [↓Lm1, L0, L1, L2, L3, L4, L5, L6, L7, L8, L9, L10, L11, L12, L13, L14, L15, L16, L17, L18, L19, L20, L27, L30, L31, L35, L36, L37, L38, L39, L40, L41, L46, L48, L51, L57, L59, L60, L82, L98, L99, L100, L102, L104, L107, L110, L119, L144, L240, L255, L256, L360, L999, L1000000, nI_val, n_lt_t, n_lt_f, n_le_t, n_le_f, n_eq_t, n_eq_f, k_le_f, m_lt_t, m_lt_f, m_le_t, m_le_f, m_eq_f, m_eq_f', nI_add, nI_mulE, nI_subE, if_true, if_false, ite_true, ite_false, or_false, false_or, or_true, true_or, or_self, and_true, true_and, and_false, false_and, not_true_eq_false, not_false_eq_true, Option.bind_some, Sum.elim_inl, Sum.elim_inr, xu_set, xset_same, xset_ne, xset_2, xset_set, upd_same, upd_ne, nbI_some, ne_eq, reduceCtorEq, reduceIte, Nat.reduceAdd, Nat.reduceMul, Nat.reduceSub, Nat.add_zero, Nat.zero_add, Nat.mul_zero, Nat.zero_mul, q 0 (by omega), q 1 (by omega), q 2 (by omega), q 3 (by omega), q 4 (by omega), q 5 (by omega), q 6 (by omega), q 7 (by omega), q 8 (by omega)]
    · unfold F_X9_count
      simp (disch := omega) only [↓Lm1, L0, L1, L2, L3, L4, L5, L6, L7, L8, L9, L10, L11, L12, L13, L14, L15, L16, L17, L18, L19, L20, L27, L30, L31, L35, L36, L37, L38, L39, L40, L41, L46, L48, L51, L57, L59, L60, L82, L98, L99, L100, L102, L104, L107, L110, L119, L144, L240, L255, L256, L360, L999, L1000000, nI_val, n_lt_t, n_lt_f, n_le_t, n_le_f, n_eq_t, n_eq_f, k_le_f, m_lt_t, m_lt_f, m_le_t, m_le_f, m_eq_f, m_eq_f', nI_add, nI_mulE, nI_subE, if_true, if_false, ite_true, ite_false, or_false, false_or, or_true, true_or, or_self, and_true, true_and, and_false, false_and, not_true_eq_false, not_false_eq_true, Option.bind_some, Sum.elim_inl, Sum.elim_inr, xu_set, xset_same, xset_ne, xset_2, xset_set, upd_same, upd_ne, nbI_some, ne_eq, reduceCtorEq, reduceIte, Nat.reduceAdd, Nat.reduceMul, Nat.reduceSub, Nat.add_zero, Nat.zero_add, Nat.mul_zero, Nat.zero_mul, q 0 (by omega), q 1 (by omega), q 2 (by omega), q 3 (by omega), q 4 (by omega), q 5 (by omega), q 6 (by omega), q 7 (by omega), q 8 (by omega)]
