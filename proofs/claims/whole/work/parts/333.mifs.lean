theorem nI_ite4 (a : Nat) (c d : Prop) [Decidable c] [Decidable d] (h1 : c → d) (h2 : d → c) : nI a + (if ¬ c then 1 else 0) = nI (a + (if d then 0 else 1)) := by
  by_cases h : c
  · rw [if_neg (fun z => z h), if_pos (h1 h), Int32.add_zero, Nat.add_zero]
  · rw [if_pos h, if_neg (fun z => h (h2 z))]; exact nI_add a 1
