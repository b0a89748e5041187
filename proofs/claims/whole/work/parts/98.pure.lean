theorem pure_all : ∃ Inv : xS → xS → Prop, lh_all Inv ∧ F_X8_sleepAnew xF00 = some xF0 ∧ Inv xF0 xM0 := by
  sorry
