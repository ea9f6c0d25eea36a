theorem MM_abs : ev_abs MM := by sorry
