/-! THE MODEL: what a new one holds -/
theorem mst_new : ∀ i, i < 22 → upd (upd (upd (upd (fun _ => (0 : Int32)) 0 8) 2 500) 3 1) 5 10 i = mst 8 0 (fun _ => 0) set0 i := by
  intro i hi
  rcases (show i = 0 ∨ i = 1 ∨ i = 2 ∨ i = 3 ∨ i = 4 ∨ i = 5 ∨ 6 ≤ i by omega) with rfl | rfl | rfl | rfl | rfl | rfl | h
  · rfl
  · rfl
  · rfl
  · rfl
  · rfl
  · rfl
  · unfold upd mst
    rw [if_neg (by omega), if_neg (by omega), if_neg (by omega), if_neg (by omega), if_neg (by omega), if_neg (by omega), if_neg (by omega)]
theorem msv_new : ∀ i, i < 132 → (fun _ => (0 : Int32)) i = msv (fun _ => ((0, 0, fun _ => 0, fun _ => 0) : Wd)) i := by
  intro i _
  show (0 : Int32) = mst 0 0 (fun _ => 0) (fun _ => 0) (i % 22)
  unfold mst
  by_cases h : i % 22 = 0
  · rw [if_pos h]; rfl
  · rw [if_neg h]
    by_cases h1 : i % 22 = 1
    · rw [if_pos h1]
    · rw [if_neg h1]
      by_cases h6 : i % 22 < 6
      · rw [if_pos h6]
      · rw [if_neg h6]
