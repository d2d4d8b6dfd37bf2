/-! THE MODEL: its saved states, six rows of 22 -/
def mrw (w : Wd) : Nat → Int32 := mst w.1 w.2.1 w.2.2.1 w.2.2.2
def msv (z : Nat → Wd) : Nat → Int32 := fun i => mrw (z (i / 22)) (i % 22)
def shZ (z : Nat → Wd) : Nat → Wd := fun j => if j < 5 then z (j + 1) else z j
def mzS (z : Nat → Wd) (c : Nat) (w : Wd) : Nat → Wd := if c < 6 then upW z c w else upW (shZ z) 5 w
theorem msv_sh (z : Nat → Wd) {i : Nat} (hi : i < 132) : (if i < 110 then msv z (i + 22) else msv z i) = msv (shZ z) i := by
  unfold msv shZ
  by_cases h : i < 110
  · rw [if_pos h, if_pos (show i / 22 < 5 by omega), show (i + 22) / 22 = i / 22 + 1 by omega, show (i + 22) % 22 = i % 22 by omega]
  · rw [if_neg h, if_neg (show ¬ i / 22 < 5 by omega)]
theorem msv_up (z : Nat → Wd) (c : Nat) (w : Wd) (i : Nat) : (if 22 * c ≤ i ∧ i < 22 * c + 22 then mrw w (i - 22 * c) else msv z i) = msv (upW z c w) i := by
  unfold msv upW
  by_cases h : 22 * c ≤ i ∧ i < 22 * c + 22
  · rw [if_pos h, if_pos (show i / 22 = c by omega), show i - 22 * c = i % 22 by omega]
  · rw [if_neg h, if_neg (show ¬ i / 22 = c by omega)]
theorem msv_at (z : Nat → Wd) (c : Nat) {k : Nat} (hk : k < 22) : msv z (22 * c + k) = mrw (z c) k := by
  unfold msv
  rw [show (22 * c + k) / 22 = c by omega, show (22 * c + k) % 22 = k by omega]
theorem mzS_6 {z : Nat → Wd} {c : Nat} {w : Wd} (h : c = 6) : upW (shZ z) (c - 1) w = mzS z c w := by
  unfold mzS
  rw [if_neg (by omega), show c - 1 = 5 by omega]
theorem mzS_t {z : Nat → Wd} {c : Nat} {w : Wd} (h : c < 6) : upW z c w = mzS z c w := by
  unfold mzS
  rw [if_pos h]
theorem svC_6 {c : Nat} (h : c = 6) : c - 1 + 1 = svC c := by
  unfold svC
  rw [if_neg (by omega)]
  omega
/-- the model's rows and the class's ring -/
def ring (z sw : Nat → Wd) (o c : Nat) : Prop := ∀ j, j < c → z j = sw ((o + j) % 6)
theorem ring_save {z sw : Nat → Wd} {o c : Nat} (ho : o < 6) (hc : c ≤ 6) (h : ring z sw o c) (w : Wd) : ring (mzS z c w) (upW sw ((o + c) % 6) w) (svO o c) (svC c) := by
  intro j hj
  unfold mzS svO svC at *
  by_cases h6 : c < 6
  · rw [if_pos h6] at hj
    rw [if_pos h6, if_pos h6]
    unfold upW
    by_cases e : j = c
    · subst e
      rw [if_pos rfl, if_pos rfl]
    · rw [if_neg e, if_neg (by omega)]
      exact h j (by omega)
  · rw [if_neg h6] at hj
    rw [if_neg h6, if_neg h6]
    have e6 : c = 6 := by omega
    subst e6
    unfold upW shZ
    by_cases e : j = 5
    · subst e
      rw [if_pos rfl, if_pos (by omega)]
    · rw [if_neg e, if_pos (by omega), if_neg (by omega), h (j + 1) (by omega)]
      congr 1
      omega
