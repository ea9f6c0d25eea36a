theorem MM_val : ev_val MM := by sorry
