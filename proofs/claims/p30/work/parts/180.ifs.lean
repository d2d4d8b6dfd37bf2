/-! IFS: one road of an if, as a term -/
theorem g_ip {α : Sort _} {c : Prop} [Decidable c] {a b x : α} (h : c) (e : x = a) : x = (if c then a else b) := e.trans (if_pos h).symm
theorem g_in {α : Sort _} {c : Prop} [Decidable c] {a b x : α} (h : ¬ c) (e : x = b) : x = (if c then a else b) := e.trans (if_neg h).symm
theorem g_tp {α : Sort _} {c : Prop} [Decidable c] {a b x : α} (h : c) (e : a = x) : (if c then a else b) = x := (if_pos h).trans e
theorem g_tn {α : Sort _} {c : Prop} [Decidable c] {a b x : α} (h : ¬ c) (e : b = x) : (if c then a else b) = x := (if_neg h).trans e
theorem g_ap {c : Prop} [Decidable c] {y a b x : Nat} (h : c) (e : x = y + a) : x = y + (if c then a else b) := by rw [if_pos h]; exact e
theorem g_an {c : Prop} [Decidable c] {y a b x : Nat} (h : ¬ c) (e : x = y + b) : x = y + (if c then a else b) := by rw [if_neg h]; exact e
theorem g_iff {α : Sort _} {A B : Prop} [Decidable A] [Decidable B] (h : A ↔ B) (x y : α) : (if A then x else y) = (if B then x else y) := by
  by_cases q : A
  · rw [if_pos q, if_pos (h.mp q)]
  · rw [if_neg q, if_neg (fun z => q (h.mpr z))]
