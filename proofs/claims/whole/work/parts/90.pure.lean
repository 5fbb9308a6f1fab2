theorem law_pure : gPure := by
  sorry
