/-! ===== a night, told by numbers; bits ===== -/
def dnn (d : DD) (pr : Nat → Bool) (h i : Nat) : Bool := decide (d.2.2.2 i = h) && pr i
def nloud (d : DD) (sh : Nat → Nat) (pr : Nat → Bool) (th : Nat → Nat) (ex : Nat → Bool) (h : Nat) : Nat := smN (fun i => if (dnn d pr h i && !ex (d.2.1 i)) = true then sh i else 0) d.1 + th h
def nexA (d : DD) (sh : Nat → Nat) (pr : Nat → Bool) (ch : Nat) (ex : Nat → Bool) (h : Nat) : Nat → Nat → Bool
  | 0 => ex
  | k + 1 => fun p => nexA d sh pr ch ex h k p || (dnn d pr h k && !ex (d.2.1 k) && decide (ch < sh k) && decide (d.2.1 k = p))
theorem nexA_s (d : DD) (sh : Nat → Nat) (pr : Nat → Bool) (ch : Nat) (ex : Nat → Bool) (h k p : Nat) : nexA d sh pr ch ex h (k + 1) p = (nexA d sh pr ch ex h k p || (dnn d pr h k && !ex (d.2.1 k) && decide (ch < sh k) && decide (d.2.1 k = p))) := rfl
def nft (d : DD) (pr : Nat → Bool) (ex : Nat → Bool) (h : Nat) (ft : Nat → Nat) (k : Nat) : Nat → Nat := fun i => if i < k ∧ dnn d pr h i = true then (if ex (d.2.1 i) = true then 1 else 0) else ft i
/-- hour in which he wakes, depth, exiled, noises, depths, what came of each -/
abbrev NT : Type := Option Nat × Nat × (Nat → Bool) × (Nat → Option Nat) × (Nat → Option Nat) × (Nat → Nat)
def nstep (d : DD) (sh : Nat → Nat) (pr : Nat → Bool) (ch : Nat) (th : Nat → Nat) (h : Nat) (s : NT) : NT :=
  if s.1 = none then
    (if s.2.1 < nloud d sh pr th s.2.2.1 h then some h else none,
     if nloud d sh pr th s.2.2.1 h = 0 then (if s.2.1 ≤ 27 then s.2.1 + 3 else 30) else s.2.1 - nloud d sh pr th s.2.2.1 h / 2,
     if s.2.1 < nloud d sh pr th s.2.2.1 h then s.2.2.1 else nexA d sh pr ch s.2.2.1 h d.1,
     fun j => if j = h then some (nloud d sh pr th s.2.2.1 h) else s.2.2.2.1 j,
     fun j => if j = h then some s.2.1 else s.2.2.2.2.1 j,
     nft d pr s.2.2.1 h s.2.2.2.2.2 d.1)
  else s
def nst (d : DD) (sh : Nat → Nat) (pr : Nat → Bool) (ch dp : Nat) (th : Nat → Nat) : Nat → NT
  | 0 => (none, dp, fun _ => false, fun _ => none, fun _ => none, fun _ => 2)
  | h + 1 => nstep d sh pr ch th h (nst d sh pr ch dp th h)
theorem nst_awake {d : DD} {sh : Nat → Nat} {pr : Nat → Bool} {ch dp : Nat} {th : Nat → Nat} {k : Nat} (h : (nst d sh pr ch dp th k).1 ≠ none) : ∀ m, k ≤ m → nst d sh pr ch dp th m = nst d sh pr ch dp th k := by
  intro m hm
  induction hm with
  | refl => rfl
  | step _ ih =>
    show nstep d sh pr ch th _ (nst d sh pr ch dp th _) = _
    rw [ih]
    unfold nstep
    exact if_neg h
theorem nloud_le {d : DD} {sh : Nat → Nat} {pr : Nat → Bool} {th : Nat → Nat} {ex : Nat → Bool} {h : Nat} (hd : d.1 ≤ 8) (hs : ∀ i, i < d.1 → sh i ≤ 14) (ht : ∀ h, th h ≤ 60) : nloud d sh pr th ex h ≤ 200 := by
  have h1 : smN (fun i => if (dnn d pr h i && !ex (d.2.1 i)) = true then sh i else 0) d.1 ≤ d.1 * 14 := smN_le (F := 14) d.1 (fun j hj => by
    split
    · exact hs j hj
    · omega)
  have := ht h
  unfold nloud
  omega
/-- the depth stays small while he sleeps; he wakes in an hour that was; nobody is exiled from where no deed is -/
theorem nst_ok {d : DD} {sh : Nat → Nat} {pr : Nat → Bool} {ch dp : Nat} {th : Nat → Nat} (hdp : dp ≤ 30) : ∀ k, (nst d sh pr ch dp th k).2.1 ≤ 30 ∧ (∀ h, (nst d sh pr ch dp th k).1 = some h → h < k)
  | 0 => ⟨hdp, fun h q => by cases q⟩
  | k + 1 => by
    obtain ⟨h1, h2⟩ := nst_ok (d := d) (sh := sh) (pr := pr) (ch := ch) (th := th) hdp k
    show (nstep d sh pr ch th k (nst d sh pr ch dp th k)).2.1 ≤ 30 ∧ ∀ h, (nstep d sh pr ch th k (nst d sh pr ch dp th k)).1 = some h → h < k + 1
    generalize nst d sh pr ch dp th k = s at h1 h2
    unfold nstep
    by_cases c : s.1 = none
    · rw [if_pos c]
      constructor
      · dsimp only
        split
        · split <;> omega
        · omega
      · intro h q
        dsimp only at q
        split at q
        · cases q; omega
        · cases q
    · rw [if_neg c]
      exact ⟨h1, fun h q => by have := h2 h q; omega⟩
theorem nexA_lt {d : DD} {sh : Nat → Nat} {pr : Nat → Bool} {ch : Nat} {ex : Nat → Bool} {h : Nat} {M : Nat} (hex : ∀ p, ex p = true → p < M) : ∀ k, (∀ i, i < k → d.2.1 i < M) → ∀ p, nexA d sh pr ch ex h k p = true → p < M
  | 0, _, p, q => hex p q
  | k + 1, hd, p, q => by
    unfold nexA at q
    rw [Bool.or_eq_true] at q
    rcases q with q | q
    · exact nexA_lt hex k (fun i hi => hd i (by omega)) p q
    · simp only [Bool.and_eq_true, decide_eq_true_eq] at q
      rw [← q.2]
      exact hd k (by omega)
theorem nst_ex {d : DD} {sh : Nat → Nat} {pr : Nat → Bool} {ch dp : Nat} {th : Nat → Nat} {M : Nat} (hd : ∀ i, i < d.1 → d.2.1 i < M) : ∀ k p, (nst d sh pr ch dp th k).2.2.1 p = true → p < M
  | 0, p, q => by cases q
  | k + 1, p, q => by
    have ih := nst_ex (sh := sh) (pr := pr) (ch := ch) (dp := dp) (th := th) hd k
    have q : (nstep d sh pr ch th k (nst d sh pr ch dp th k)).2.2.1 p = true := q
    generalize nst d sh pr ch dp th k = s at ih q
    unfold nstep at q
    by_cases c : s.1 = none
    · rw [if_pos c] at q
      dsimp only at q
      split at q
      · exact ih p q
      · exact nexA_lt ih d.1 hd p q
    · rw [if_neg c] at q
      exact ih p q
/-! bits of a long -/
def ExB (ex : Nat → Bool) (x : Int64) : Prop := ∀ p, p < 64 → x.toBitVec.getLsbD p = ex p
theorem sh_amt : ∀ p, p < 64 → ((nI p).toInt64 &&& 63).toBitVec.smod 64#64 = BitVec.ofNat 64 p := by decide +kernel
theorem one_bit : ∀ p, p < 64 → ∀ i, i < 64 → (xlshl (1 : Int64) (nI p)).toBitVec.getLsbD i = decide (i = p) := by decide +kernel
theorem bit_get {x : Int64} {p : Nat} (hp : p < 64) : ((xlshr x (nI p)) &&& 1 = 1) = (x.toBitVec.getLsbD p = true) := by
  have e : (xlshr x (nI p)).toBitVec = x.toBitVec.sshiftRight p := by
    unfold xlshr
    rw [Int64.toBitVec_shiftRight]
    show x.toBitVec.sshiftRight' (((nI p).toInt64 &&& 63).toBitVec.smod 64#64) = _
    rw [sh_amt p hp]
    show x.toBitVec.sshiftRight (BitVec.ofNat 64 p).toNat = _
    rw [BitVec.toNat_ofNat, Nat.mod_eq_of_lt (by omega)]
  have e1 : (x.toBitVec.sshiftRight p).getLsbD 0 = x.toBitVec.getLsbD p := by
    rw [BitVec.getLsbD_sshiftRight]
    simp [hp]
  apply propext
  rw [← Int64.toBitVec_inj, Int64.toBitVec_and, e]
  show x.toBitVec.sshiftRight p &&& 1#64 = 1#64 ↔ _
  rw [BitVec.and_one_eq_setWidth_ofBool_getLsbD, e1]
  cases x.toBitVec.getLsbD p <;> decide
theorem lg_cmp0 {x y : Int64} : (lg_cmp x y = 0) = (x = y) := by
  unfold lg_cmp
  apply propext
  by_cases h1 : x > y
  · rw [if_pos h1]
    constructor
    · intro q; exact absurd q (by decide)
    · intro q; subst q; exact absurd h1 (Int64.lt_irrefl)
  · rw [if_neg h1]
    by_cases h2 : x = y
    · rw [if_pos h2]; exact ⟨fun _ => h2, fun _ => rfl⟩
    · rw [if_neg h2]
      constructor
      · intro q; exact absurd q (by decide)
      · intro q; exact absurd q h2
theorem ExB.test {ex : Nat → Bool} {x : Int64} (h : ExB ex x) {p : Nat} (hp : p < 64) : (lg_cmp ((xlshr x (nI p)) &&& (1 : Int64)) (1 : Int64) = nI 0) = (ex p = true) := by
  rw [← h p hp, ← bit_get hp]
  exact lg_cmp0
theorem ExB.or {ex : Nat → Bool} {x : Int64} (h : ExB ex x) {p : Nat} (hp : p < 64) : ExB (fun i => ex i || decide (p = i)) (x ||| xlshl (1 : Int64) (nI p)) := by
  intro i hi
  rw [Int64.toBitVec_or, BitVec.getLsbD_or, h i hi, one_bit p hp i hi]
  congr 1
  by_cases e : i = p
  · simp [e]
  · simp [e, Ne.symm e]
theorem ExB.zero : ExB (fun _ => false) 0 := by
  intro p hp
  exact BitVec.getLsbD_zero
