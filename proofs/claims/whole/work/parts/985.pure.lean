/-! ===== the start; all together ===== -/
def l0_ : LD := (12, 4, 0, fun _ => 0, fun _ => 0)
def e0_ : ED := (0, fun _ => 0, fun _ => 0)
def u0_ : Nat → Nat := fun _ => 0
theorem twn0 : (twn u0_ 0).1 = 0 ∧ (twn u0_ 0).2.1 = 0 ∧ (twn u0_ 0).2.2.1 = none := ⟨rfl, rfl, rfl⟩
theorem dd0 : (ddat u0_ 0).1 = 0 ∧ dflt u0_ 0 = none := ⟨rfl, rfl⟩
theorem start_BF0 : BF0 u0_ 0 u0_ 0 l0_ xF00 := by
  obtain ⟨t1, t2, t3⟩ := twn0
  obtain ⟨d1, d2⟩ := dd0
  refine ⟨⟨by omega, by omega, rfl, rfl, rfl, rfl, fun j hj => absurd hj (Nat.not_lt_zero j), fun j hj => absurd hj (Nat.not_lt_zero j)⟩, ⟨⟨(twn_ok u0_ 0).1, ?_, ?_, (twn_ok u0_ 0).2.1, fun i hi => ?_, fun i k hi => ?_⟩, ?_, ?_⟩, ⟨⟨?_, fun i hi => ?_⟩, ?_⟩, ⟨?_, ?_⟩⟩
  · rw [t1]; rfl
  · rw [t2]; rfl
  · rw [t1] at hi; exact absurd hi (Nat.not_lt_zero i)
  · rw [t1] at hi; exact absurd hi (Nat.not_lt_zero i)
  · rw [t3]; rfl
  · rfl
  · rw [d1]; rfl
  · rw [d1] at hi; exact absurd hi (Nat.not_lt_zero i)
  · rw [d2]; rfl
  · exact ⟨by decide, by decide, by decide, fun k hk => absurd hk (Nat.not_lt_zero k)⟩
  · exact ⟨⟨rfl, rfl, rfl, fun k hk => absurd hk (Nat.not_lt_zero k)⟩, rfl⟩
theorem start_BM : BM u0_ 0 u0_ 0 l0_ xM0 := by
  refine ⟨by omega, by omega, rfl, rfl, fun j hj => absurd hj (Nat.not_lt_zero j), fun j hj => absurd hj (Nat.not_lt_zero j), ?_, ?_⟩
  · exact ⟨by decide, by decide, by decide, fun k hk => absurd hk (Nat.not_lt_zero k)⟩
  · exact ⟨rfl, rfl, rfl, fun k hk => absurd hk (Nat.not_lt_zero k)⟩
theorem start_all : F_X8_sleepAnew xF00 = some xF0 ∧ Inv xF0 xM0 := by
  obtain ⟨s', e', b0, b1, kq, k0, k15⟩ := anewF start_BF0
  have ex : xF0 = s' := by
    show (F_X8_sleepAnew xF00).getD xF00 = s'
    simp only [e', Option.getD_some]
  rw [ex]
  refine ⟨e', u0_, 0, u0_, 0, l0_, e0_, b0, b1, Or.inl k15, ?_, start_BM, ?_, ?_, ?_⟩
  · refine ⟨by decide, ?_, ?_, fun k hk => absurd hk (Nat.not_lt_zero k)⟩
    · rw [kq 16 (by omega) (by omega)]; rfl
    · rw [kq 16 (by omega) (by omega)]; rfl
  · exact ⟨rfl, fun k hk => absurd hk (Nat.not_lt_zero k)⟩
  · intro q hq
    left
    refine ⟨rfl, ?_⟩
    rw [kq 43 (by omega) (by omega)]
    have : ∀ q, q < 4 → xF00.1 43 q = nbI none := by decide
    exact this q hq
  · rw [k0 17 (by omega)]
    rfl
theorem pure_all : ∃ Inv : xS → xS → Prop, lh_all Inv ∧ F_X8_sleepAnew xF00 = some xF0 ∧ Inv xF0 xM0 :=
  ⟨Inv, ⟨c_type, c_wipe, c_undo, c_fault, c_cell, c_bed, c_deed, c_set, c_thunder, c_back, c_read, c_carry, c_heard, c_noise, c_depth, c_wakes, c_exiled, c_loudest, c_hour, c_felt, c_lay, c_way, c_listened, c_forget, c_never, c_whence, c_what, c_ask, c_sleeps, c_day, c_sheet, c_lose, c_put, c_get, c_copy, c_write, c_count, c_digest⟩, start_all.1, start_all.2⟩
