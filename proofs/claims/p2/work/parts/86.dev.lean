theorem MM_val : ev_val MM := by sorry
theorem MM_abs : ev_abs MM := by sorry
