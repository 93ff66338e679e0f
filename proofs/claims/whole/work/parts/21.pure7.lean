theorem cl_s (f : Nat → Int32) (node : Int32) (k : Nat) : g_cl f node k + (if f k = node then 1 else 0) = g_cl f node (k + 1) := by
  rw [g_cl]
  by_cases h : f k = node
  · rw [if_pos h, if_pos h]
  · rw [if_neg h, if_neg h, Int32.add_zero]
