theorem nI_ite3 (a : Nat) (c : Prop) [Decidable c] : nI a + (if ¬ c then 1 else 0) = nI (a + (if c then 0 else 1)) := by
  by_cases h : c
  · rw [if_neg (fun h2 => h2 h), if_pos h, Int32.add_zero, Nat.add_zero]
  · rw [if_pos h, if_neg h]; exact nI_add a 1
