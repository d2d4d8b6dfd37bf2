/-! THE MODEL: facts for what changes -/
theorem mst_ext {n : Nat} {mask : Int32} {vf vg sf : Nat → Int32} (h : ∀ i, i < 16 → vf i = vg i) : ∀ i, i < 22 → mst n mask vf sf i = mst n mask vg sf i := by
  intro i hi
  unfold mst
  by_cases h0 : i = 0
  · rw [if_pos h0, if_pos h0]
  · rw [if_neg h0, if_neg h0]
    by_cases h1 : i = 1
    · rw [if_pos h1, if_pos h1]
    · rw [if_neg h1, if_neg h1]
      by_cases h6 : i < 6
      · rw [if_pos h6, if_pos h6]
      · rw [if_neg h6, if_neg h6, h (i - 6) (by omega)]
theorem or_if2 (x a : Int32) (c d : Prop) [Decidable c] [Decidable d] (h : c ↔ ¬ d) : (x ||| (if c then 0 else a)) = (if d then x ||| a else x) := by
  by_cases q : d
  · rw [if_pos q, if_neg (fun z => h.mp z q)]
  · rw [if_neg q, if_pos (h.mpr q), Int32.or_zero]
theorem sw_3 {q : Int32} (h : 0 ≤ q ∧ q ≤ 3) (h0 : ¬ q = 0) (h1 : ¬ q = 1) (h2 : ¬ q = 2) : q = 3 := by
  obtain ⟨j, hj, rfl⟩ := sw_of (k := 3) (by decide) h
  match j, hj with
  | 0, _ => exact absurd rfl h0
  | 1, _ => exact absurd rfl h1
  | 2, _ => exact absurd rfl h2
  | 3, _ => rfl
def sgnI (v : Int32) : Int32 := if 0 < v then 1 else if v < 0 then -1 else 0
theorem sgn_1 {v : Int32} (h : 0 < v) : 1 = sgnI v := by unfold sgnI; rw [if_pos h]
theorem sgn_2 {v : Int32} (h : ¬ 0 < v) (h2 : v < 0) : -1 = sgnI v := by unfold sgnI; rw [if_neg h, if_pos h2]
theorem sgn_3 {v : Int32} (h : ¬ 0 < v) (h2 : ¬ v < 0) : 0 = sgnI v := by unfold sgnI; rw [if_neg h, if_neg h2]
theorem sgn_iff (a v : Int32) : sgnI a = sgnI v ↔ ((0 < a ↔ 0 < v) ∧ (a < 0 ↔ v < 0)) := by
  have key : ∀ x : Int32, (0 < x ∧ ¬ x < 0 ∧ sgnI x = 1) ∨ (¬ 0 < x ∧ x < 0 ∧ sgnI x = -1) ∨ (¬ 0 < x ∧ ¬ x < 0 ∧ sgnI x = 0) := by
    intro x
    by_cases h1 : 0 < x
    · left
      refine ⟨h1, fun h2 => ?_, (sgn_1 h1).symm⟩
      rw [i_0lt] at h1
      rw [i_lt0] at h2
      omega
    · right
      by_cases h2 : x < 0
      · exact Or.inl ⟨h1, h2, (sgn_2 h1 h2).symm⟩
      · exact Or.inr ⟨h1, h2, (sgn_3 h1 h2).symm⟩
  rcases key a with ⟨a1, a2, a3⟩ | ⟨a1, a2, a3⟩ | ⟨a1, a2, a3⟩ <;> rcases key v with ⟨b1, b2, b3⟩ | ⟨b1, b2, b3⟩ | ⟨b1, b2, b3⟩ <;> rw [a3, b3]
  · exact ⟨fun _ => ⟨iff_of_true a1 b1, iff_of_false a2 b2⟩, fun _ => rfl⟩
  · exact ⟨fun h => absurd h (by decide), fun h => absurd (h.1.mp a1) b1⟩
  · exact ⟨fun h => absurd h (by decide), fun h => absurd (h.1.mp a1) b1⟩
  · exact ⟨fun h => absurd h (by decide), fun h => absurd (h.1.mpr b1) a1⟩
  · exact ⟨fun _ => ⟨iff_of_false a1 b1, iff_of_true a2 b2⟩, fun _ => rfl⟩
  · exact ⟨fun h => absurd h (by decide), fun h => absurd (h.2.mp a2) b2⟩
  · exact ⟨fun h => absurd h (by decide), fun h => absurd (h.1.mpr b1) a1⟩
  · exact ⟨fun h => absurd h (by decide), fun h => absurd (h.2.mpr b2) a2⟩
  · exact ⟨fun _ => ⟨iff_of_false a1 b1, iff_of_false a2 b2⟩, fun _ => rfl⟩
theorem sgn_eq (a v : Int32) : (if ¬ (sgnI a = sgnI v) then (1 : Int32) else 0) = (if (0 < a ↔ 0 < v) ∧ (a < 0 ↔ v < 0) then 0 else 1) := by
  by_cases h : sgnI a = sgnI v
  · rw [if_neg (fun z => z h), if_pos ((sgn_iff a v).mp h)]
  · rw [if_pos h, if_neg (fun z => h ((sgn_iff a v).mpr z))]
theorem le_pl {n : Nat} (h1 : 1 ≤ n) (h2 : n ≤ 16) {k : Int32} (h : 0 ≤ k ∧ k ≤ nI (n - 1)) : 0 ≤ k ∧ k < nI n := by
  have e1 : (nI (n - 1)).toInt = ((n - 1 : Nat) : Int) := nI_toInt (by omega)
  have e2 : (nI n).toInt = (n : Int) := nI_toInt (by omega)
  refine ⟨h.1, ?_⟩
  have h3 := h.2
  rw [Int32.le_iff_toInt_le, e1] at h3
  rw [Int32.lt_iff_toInt_lt, e2]
  omega
theorem pl_le {n : Nat} (h1 : 1 ≤ n) (h2 : n ≤ 16) {k : Int32} (h : 0 ≤ k ∧ k < nI n) : 0 ≤ k ∧ k ≤ nI (n - 1) := by
  have e1 : (nI (n - 1)).toInt = ((n - 1 : Nat) : Int) := nI_toInt (by omega)
  have e2 : (nI n).toInt = (n : Int) := nI_toInt (by omega)
  refine ⟨h.1, ?_⟩
  have h3 := h.2
  rw [Int32.lt_iff_toInt_lt, e2] at h3
  rw [Int32.le_iff_toInt_le, e1]
  omega
