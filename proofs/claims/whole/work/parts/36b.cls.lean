
theorem bc_eq {x : Int32} (h : 0 ≤ x) : s_J6_bitCount_0f7a4 x = s_X11_bitsOf x := by
  sorry
