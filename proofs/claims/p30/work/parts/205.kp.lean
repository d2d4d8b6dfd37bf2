/-! the kept paths, one more -/
theorem kpL_t {P : PL} {lim t : Nat} (h : rk P t < lim) : kpL P lim (t + 1) = kpL P lim t ++ [atL P t] := if_pos h
theorem kpL_f {P : PL} {lim t : Nat} (h : ¬ rk P t < lim) : kpL P lim (t + 1) = kpL P lim t := if_neg h
