/-! THE MODEL: facts for its readings -/
theorem min_I (x : Int32) (h : absI x ≤ 0) : x = 0 ∨ x = -2147483648 := by
  by_cases e : x = -2147483648
  · exact Or.inr e
  · left
    have hx := x.toInt_lt
    have hx2 := x.le_toInt
    have e2 : x.toInt ≠ -2147483648 := fun h9 => e (Int32.toInt_inj.mp (by rw [h9]; decide))
    have h0 : (0 : Int32).toInt = 0 := by decide
    refine Int32.toInt_inj.mp ?_
    rw [h0]
    unfold absI at h
    by_cases q : x < 0
    · rw [if_pos q, Int32.le_iff_toInt_le, Int32.toInt_neg, h0] at h
      rw [i_lt0] at q
      rw [Int.bmod_eq_of_le (by simp; omega) (by simp; omega)] at h
      omega
    · rw [if_neg q, Int32.le_iff_toInt_le, h0] at h
      rw [i_lt0] at q
      omega
theorem min_0 (b : Int32) : -(if (0 : Int32) < absI b then (0 : Int32) else absI b) = (if (0 : Int32) < absI b then (0 : Int32) else absI b) := by
  by_cases h : (0 : Int32) < absI b
  · rw [if_pos h]; decide
  · rw [if_neg h]
    rcases min_I b (Int32.not_lt.mp h) with rfl | rfl <;> decide
theorem min_1 (a : Int32) : -(if absI a < (0 : Int32) then absI a else (0 : Int32)) = (if absI a < (0 : Int32) then absI a else (0 : Int32)) := by
  by_cases h : absI a < (0 : Int32)
  · rw [if_pos h]
    rcases min_I a (by rw [Int32.le_iff_toInt_le]; rw [Int32.lt_iff_toInt_lt] at h; omega) with rfl | rfl <;> decide
  · rw [if_neg h]; decide
theorem pu_eq2 (a b : Int32) : (if (if ¬ (a ≤ 0) then (1 : Int32) else 0) = (if ¬ (b ≤ 0) then 1 else 0) then (if absI a < absI b then absI a else absI b) else (-(if absI a < absI b then absI a else absI b))) = pu a b := by
  have e : ((if ¬ (a ≤ 0) then (1 : Int32) else 0) = (if ¬ (b ≤ 0) then 1 else 0)) ↔ (0 < a ↔ 0 < b) := by
    rw [b01, Int32.not_le, Int32.not_le]
  have hz : absI 0 = 0 := by decide
  unfold pu
  by_cases ha : a = 0
  · subst ha
    rw [hz]
    rw [min_0 b]
    simp only [ite_self]
  · by_cases hb : b = 0
    · subst hb
      rw [hz]
      rw [min_1 a]
      simp only [ite_self]
    · have ha2 : a.toInt ≠ 0 := fun h => ha (Int32.toInt_inj.mp (by rw [h]; rfl))
      have hb2 : b.toInt ≠ 0 := fun h => hb (Int32.toInt_inj.mp (by rw [h]; rfl))
      have e2 : (0 < a ↔ 0 < b) ↔ (a < 0 ↔ b < 0) := by
        rw [i_0lt, i_0lt, i_lt0, i_lt0]
        omega
      by_cases h : (a < 0 ↔ b < 0)
      · rw [if_pos (e.mpr (e2.mpr h)), if_pos h]
      · rw [if_neg (fun h2 => h (e2.mp (e.mp h2))), if_neg h]
theorem add_if (x y : Int32) (c : Prop) [Decidable c] : x + (if c then -y else y) = (if c then x - y else x + y) := by
  by_cases h : c
  · rw [if_pos h, if_pos h, Int32.sub_eq_add_neg]
  · rw [if_neg h, if_neg h]
theorem hearF_cong (b : Int32) (pl : Nat) : ∀ (k rs : Nat) (r1 r2 : Nat → Int32), (∀ j, j < 2 ^ k → r1 j = r2 j) → hearF b pl k rs r1 = hearF b pl k rs r2 := by
  intro k
  induction k with
  | zero => intro rs r1 r2 h; exact h 0 (by decide)
  | succ k ih =>
    intro rs r1 r2 h
    have hn2 : 2 ^ (k + 1) = 2 ^ k + 2 ^ k := by rw [Nat.pow_succ]; omega
    show (if rs < 2 ^ k then hearF b pl k rs (puR (2 ^ k) r1 (2 ^ k)) else hearF b pl k (rs - 2 ^ k) (prR (2 ^ k) (cod (b >>> (nI (pl - rs) &&& 31)) (2 ^ k)) r1 (2 ^ k))) = (if rs < 2 ^ k then hearF b pl k rs (puR (2 ^ k) r2 (2 ^ k)) else hearF b pl k (rs - 2 ^ k) (prR (2 ^ k) (cod (b >>> (nI (pl - rs) &&& 31)) (2 ^ k)) r2 (2 ^ k)))
    by_cases q : rs < 2 ^ k
    · rw [if_pos q, if_pos q]
      refine ih rs _ _ fun j hj => ?_
      unfold puR
      rw [if_pos hj, if_pos hj, h j (by omega), h (j + 2 ^ k) (by omega)]
    · rw [if_neg q, if_neg q]
      refine ih _ _ _ fun j hj => ?_
      unfold prR
      rw [if_pos hj, if_pos hj, h j (by omega), h (j + 2 ^ k) (by omega)]
def pnB (bt h : Int32) : Int32 := if bt = 0 then (if h < 0 then -h else 0) else (if 0 < h then h else 0)
theorem pnB_a {bt h : Int32} (h1 : bt = 0) (h2 : ¬ 0 ≤ h) : absI h = pnB bt h := by
  unfold pnB absI
  rw [if_pos h1, if_pos (Int32.not_le.mp h2), if_pos (Int32.not_le.mp h2)]
theorem pnB_b {bt h : Int32} (h1 : bt = 0) (h2 : 0 ≤ h) : 0 = pnB bt h := by
  unfold pnB
  rw [if_pos h1, if_neg (Int32.not_lt.mpr h2)]
theorem pnB_c {bt h : Int32} (h1 : ¬ bt = 0) (h2 : ¬ h ≤ 0) : absI h = pnB bt h := by
  unfold pnB absI
  have h3 := Int32.not_le.mp h2
  rw [if_neg h1, if_pos h3, if_neg (fun h9 => by rw [i_lt0] at h9; rw [i_0lt] at h3; omega)]
theorem pnB_d {bt h : Int32} (h1 : ¬ bt = 0) (h2 : h ≤ 0) : 0 = pnB bt h := by
  unfold pnB
  rw [if_neg h1, if_neg (Int32.not_lt.mpr h2)]
theorem or_sh0 (x s : Int32) : x ||| ((0 : Int32) <<< s) = x := by
  rw [Int32.zero_shiftLeft, Int32.or_zero]
theorem kp_le (P : PL) (lim t : Nat) : (kpL P lim t).length ≤ t := by
  rw [kp_cnt]
  exact cnt_le _ t
theorem fstX_t {n : Nat} {mask : Int32} {sf : Nat → Int32} {P : PL} {t : Nat} (h : fstX n mask sf P t = t) (e : ¬ rgt n mask sf (msP n mask P t)) : fstX n mask sf P (t + 1) = t + 1 := by
  show (if fstX n mask sf P t < t then fstX n mask sf P t else if rgt n mask sf (msP n mask P t) then t else t + 1) = t + 1
  rw [if_neg (by omega), if_neg e]
theorem fstX_f {n : Nat} {mask : Int32} {sf : Nat → Int32} {P : PL} {t : Nat} (h : fstX n mask sf P t = t) (e : rgt n mask sf (msP n mask P t)) : ∀ m, t < m → fstX n mask sf P m = t := by
  intro m
  induction m with
  | zero => intro h; omega
  | succ m ih =>
    intro hm
    show (if fstX n mask sf P m < m then fstX n mask sf P m else if rgt n mask sf (msP n mask P m) then m else m + 1) = t
    by_cases q : t < m
    · rw [ih q, if_pos q]
    · have : m = t := by omega
      subst this
      rw [h, if_neg (Nat.lt_irrefl m), if_pos e]
theorem rrk_f {n : Nat} {mask : Int32} {sf : Nat → Int32} {P : PL} {t : Nat} (h : fstX n mask sf P t = t) (e : rgt n mask sf (msP n mask P t)) (ht : t < P.length) : nI t = rrk n mask sf P P.length := by
  unfold rrk
  rw [fstX_f h e P.length ht, if_pos ht]
theorem rrk_e {n : Nat} {mask : Int32} {sf : Nat → Int32} {P : PL} (h : fstX n mask sf P P.length = P.length) : (-1 : Int32) = rrk n mask sf P P.length := by
  unfold rrk
  rw [h, if_neg (Nat.lt_irrefl _)]
