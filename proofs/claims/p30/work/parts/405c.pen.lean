/-! PURE: a path's penalty is the sum of the sizes of the values against its word -/
def aI (x : Int) : Int := if x < 0 then -x else x
def puI (a b : Int) : Int := if (a < 0 ↔ b < 0) then (if aI a < aI b then aI a else aI b) else -(if aI a < aI b then aI a else aI b)
def pF (x : Int) : Int := if x < 0 then -x else 0
def pT (x : Int) : Int := if 0 < x then x else 0
def pn (c : Bool) (x : Int) : Int := match c with
  | true => pT x
  | false => pF x
def gI (c : Bool) (a b : Int) : Int := match c with
  | true => b - a
  | false => b + a
theorem pn_nn (c : Bool) (x : Int) : 0 ≤ pn c x := by
  cases c
  · show 0 ≤ pF x
    unfold pF; split <;> omega
  · show 0 ≤ pT x
    unfold pT; split <;> omega
theorem pn_ub {c : Bool} {x B : Int} (h0 : 0 ≤ B) (h : -B ≤ x ∧ x ≤ B) : pn c x ≤ B := by
  cases c
  · show pF x ≤ B
    unfold pF; split <;> omega
  · show pT x ≤ B
    unfold pT; split <;> omega
theorem aI_n {x : Int} (h : x < 0) : aI x = -x := if_pos h
theorem aI_p {x : Int} (h : ¬ x < 0) : aI x = x := if_neg h
theorem puI_s {a b : Int} (h : a < 0 ↔ b < 0) : puI a b = (if aI a < aI b then aI a else aI b) := if_pos h
theorem puI_d {a b : Int} (h : ¬ (a < 0 ↔ b < 0)) : puI a b = -(if aI a < aI b then aI a else aI b) := if_neg h
/-- what the sign and the lesser size are, in four cases -/
theorem puI_c (a b : Int) : (a < 0 ∧ b < 0 ∧ (puI a b = -a ∧ -a < -b ∨ puI a b = -b ∧ ¬ -a < -b)) ∨ (a < 0 ∧ ¬ b < 0 ∧ (puI a b = a ∧ -a < b ∨ puI a b = -b ∧ ¬ -a < b)) ∨ (¬ a < 0 ∧ b < 0 ∧ (puI a b = -a ∧ a < -b ∨ puI a b = b ∧ ¬ a < -b)) ∨ (¬ a < 0 ∧ ¬ b < 0 ∧ (puI a b = a ∧ a < b ∨ puI a b = b ∧ ¬ a < b)) := by
  by_cases ha : a < 0
  · by_cases hb : b < 0
    · left
      rw [puI_s (iff_of_true ha hb), aI_n ha, aI_n hb]
      refine ⟨ha, hb, ?_⟩
      by_cases c : -a < -b
      · rw [if_pos c]; exact Or.inl ⟨rfl, c⟩
      · rw [if_neg c]; exact Or.inr ⟨rfl, c⟩
    · right; left
      rw [puI_d (fun h => hb (h.mp ha)), aI_n ha, aI_p hb]
      refine ⟨ha, hb, ?_⟩
      by_cases c : -a < b
      · rw [if_pos c]; exact Or.inl ⟨by omega, c⟩
      · rw [if_neg c]; exact Or.inr ⟨rfl, c⟩
  · by_cases hb : b < 0
    · right; right; left
      rw [puI_d (fun h => ha (h.mpr hb)), aI_p ha, aI_n hb]
      refine ⟨ha, hb, ?_⟩
      by_cases c : a < -b
      · rw [if_pos c]; exact Or.inl ⟨rfl, c⟩
      · rw [if_neg c]; exact Or.inr ⟨by omega, c⟩
    · right; right; right
      rw [puI_s (iff_of_false ha hb), aI_p ha, aI_p hb]
      refine ⟨ha, hb, ?_⟩
      by_cases c : a < b
      · rw [if_pos c]; exact Or.inl ⟨rfl, c⟩
      · rw [if_neg c]; exact Or.inr ⟨rfl, c⟩
theorem pn_ff (a b : Int) : pF (puI a b) + pF (b + a) = pF a + pF b := by
  have h := puI_c a b
  generalize puI a b = y at *
  unfold pF
  split <;> split <;> split <;> split <;> omega
theorem pn_ft (a b : Int) : pF (puI a b) + pT (b + a) = pT a + pT b := by
  have h := puI_c a b
  generalize puI a b = y at *
  unfold pF pT
  split <;> split <;> split <;> split <;> omega
theorem pn_tf (a b : Int) : pT (puI a b) + pF (b - a) = pT a + pF b := by
  have h := puI_c a b
  generalize puI a b = y at *
  unfold pF pT
  split <;> split <;> split <;> split <;> omega
theorem pn_tt (a b : Int) : pT (puI a b) + pT (b - a) = pF a + pT b := by
  have h := puI_c a b
  generalize puI a b = y at *
  unfold pF pT
  split <;> split <;> split <;> split <;> omega
theorem pn_pair (c1 c2 : Bool) (a b : Int) : pn c1 (puI a b) + pn c2 (gI c1 a b) = pn (c1 ^^ c2) a + pn c2 b := by
  cases c1 <;> cases c2
  · exact pn_ff a b
  · exact pn_ft a b
  · exact pn_tf a b
  · exact pn_tt a b
theorem puI_b {a b B : Int} (ha : -B ≤ a ∧ a ≤ B) (hb : -B ≤ b ∧ b ≤ B) : -B ≤ puI a b ∧ puI a b ≤ B := by
  have h := puI_c a b
  omega
/-! coding, hearing -/
def cdB : Nat → (Nat → Bool) → Nat → Bool
  | 0, u, j => u j
  | k + 1, u, j => if j < 2 ^ k then (cdB k u j ^^ cdB k (fun i => u (2 ^ k + i)) j) else cdB k (fun i => u (2 ^ k + i)) (j - 2 ^ k)
def hI : Nat → (Nat → Int) → (Nat → Bool) → Nat → Int
  | 0, r, _, _ => r 0
  | k + 1, r, u, p => if p < 2 ^ k then hI k (fun j => puI (r j) (r (j + 2 ^ k))) u p else hI k (fun j => gI (cdB k u j) (r j) (r (j + 2 ^ k))) (fun i => u (2 ^ k + i)) (p - 2 ^ k)
theorem cdB_lo {k j : Nat} (u : Nat → Bool) (h : j < 2 ^ k) : cdB (k + 1) u j = (cdB k u j ^^ cdB k (fun i => u (2 ^ k + i)) j) := if_pos h
theorem cdB_hi {k : Nat} (u : Nat → Bool) (j : Nat) : cdB (k + 1) u (2 ^ k + j) = cdB k (fun i => u (2 ^ k + i)) j := by
  have h : ¬ 2 ^ k + j < 2 ^ k := by omega
  have e : cdB (k + 1) u (2 ^ k + j) = cdB k (fun i => u (2 ^ k + i)) (2 ^ k + j - 2 ^ k) := if_neg h
  rw [e, Nat.add_sub_cancel_left]
theorem hI_lo {k p : Nat} (r : Nat → Int) (u : Nat → Bool) (h : p < 2 ^ k) : hI (k + 1) r u p = hI k (fun j => puI (r j) (r (j + 2 ^ k))) u p := if_pos h
theorem hI_hi {k : Nat} (r : Nat → Int) (u : Nat → Bool) (p : Nat) : hI (k + 1) r u (2 ^ k + p) = hI k (fun j => gI (cdB k u j) (r j) (r (j + 2 ^ k))) (fun i => u (2 ^ k + i)) p := by
  have h : ¬ 2 ^ k + p < 2 ^ k := by omega
  have e : hI (k + 1) r u (2 ^ k + p) = hI k (fun j => gI (cdB k u j) (r j) (r (j + 2 ^ k))) (fun i => u (2 ^ k + i)) (2 ^ k + p - 2 ^ k) := if_neg h
  rw [e, Nat.add_sub_cancel_left]
theorem hI_pen : ∀ (k : Nat) (r : Nat → Int) (u : Nat → Bool), sm (fun p => pn (u p) (hI k r u p)) (2 ^ k) = sm (fun j => pn (cdB k u j) (r j)) (2 ^ k) := by
  intro k
  induction k with
  | zero => intro r u; rfl
  | succ k ih =>
    intro r u
    rw [pw_s, sm_split, sm_split]
    have a1 : sm (fun p => pn (u p) (hI (k + 1) r u p)) (2 ^ k) = sm (fun j => pn (cdB k u j) (puI (r j) (r (j + 2 ^ k)))) (2 ^ k) := by
      rw [← ih (fun j => puI (r j) (r (j + 2 ^ k))) u]
      exact sm_cong (fun p hp => congrArg (pn (u p)) (hI_lo r u hp))
    have a2 : sm (fun i => (fun p => pn (u p) (hI (k + 1) r u p)) (2 ^ k + i)) (2 ^ k) = sm (fun j => pn (cdB k (fun i => u (2 ^ k + i)) j) (gI (cdB k u j) (r j) (r (j + 2 ^ k)))) (2 ^ k) := by
      rw [← ih (fun j => gI (cdB k u j) (r j) (r (j + 2 ^ k))) (fun i => u (2 ^ k + i))]
      exact sm_cong (fun p _ => congrArg (pn (u (2 ^ k + p))) (hI_hi r u p))
    rw [a1, a2, sm_add, sm_add]
    refine sm_cong (fun j hj => ?_)
    show pn (cdB k u j) (puI (r j) (r (j + 2 ^ k))) + pn (cdB k (fun i => u (2 ^ k + i)) j) (gI (cdB k u j) (r j) (r (j + 2 ^ k))) = pn (cdB (k + 1) u j) (r j) + pn (cdB (k + 1) u (2 ^ k + j)) (r (2 ^ k + j))
    rw [cdB_lo u hj, cdB_hi, Nat.add_comm (2 ^ k) j, pn_pair]
theorem cdB_cong : ∀ (k : Nat) (u v : Nat → Bool), (∀ i, i < 2 ^ k → u i = v i) → ∀ j, j < 2 ^ k → cdB k u j = cdB k v j := by
  intro k
  induction k with
  | zero =>
    intro u v h j hj
    exact h j hj
  | succ k ih =>
    intro u v h j hj
    rw [pw_s] at h hj
    have h2 : ∀ j, j < 2 ^ k → cdB k (fun i => u (2 ^ k + i)) j = cdB k (fun i => v (2 ^ k + i)) j := ih _ _ (fun i hi => h (2 ^ k + i) (by omega))
    by_cases q : j < 2 ^ k
    · rw [cdB_lo u q, cdB_lo v q, ih u v (fun i hi => h i (by omega)) j q, h2 j q]
    · obtain ⟨s, rfl⟩ : ∃ s, j = 2 ^ k + s := ⟨j - 2 ^ k, by omega⟩
      rw [cdB_hi, cdB_hi, h2 s (by omega)]
theorem hI_cong : ∀ (k : Nat) (r q : Nat → Int) (u v : Nat → Bool) (p : Nat), p < 2 ^ k → (∀ j, j < 2 ^ k → r j = q j) → (∀ i, i < p → u i = v i) → hI k r u p = hI k q v p := by
  intro k
  induction k with
  | zero =>
    intro r q u v p _ h _
    exact h 0 (Nat.two_pow_pos 0)
  | succ k ih =>
    intro r q u v p hp hr hu
    rw [pw_s] at hp hr
    by_cases c : p < 2 ^ k
    · rw [hI_lo r u c, hI_lo q v c]
      refine ih _ _ u v p c (fun j hj => ?_) hu
      show puI (r j) (r (j + 2 ^ k)) = puI (q j) (q (j + 2 ^ k))
      rw [hr j (by omega), hr (j + 2 ^ k) (by omega)]
    · obtain ⟨s, rfl⟩ : ∃ s, p = 2 ^ k + s := ⟨p - 2 ^ k, by omega⟩
      rw [hI_hi, hI_hi]
      refine ih _ _ _ _ s (by omega) (fun j hj => ?_) (fun i hi => hu (2 ^ k + i) (by omega))
      show gI (cdB k u j) (r j) (r (j + 2 ^ k)) = gI (cdB k v j) (q j) (q (j + 2 ^ k))
      rw [hr j (by omega), hr (j + 2 ^ k) (by omega), cdB_cong k u v (fun i hi => hu i (by omega)) j hj]
/-! the class's own coding and hearing -/
theorem codS_bits {b : Nat} (hb : b < 65536) : ∀ k, k ≤ 4 → ∃ c : Nat, c < 65536 ∧ codS (nI b) k = nI c ∧ ∀ m, 2 ^ k * (m + 1) ≤ 16 → ∀ j, j < 2 ^ k → c.testBit (2 ^ k * m + j) = cdB k (fun i => b.testBit (2 ^ k * m + i)) j := by
  intro k
  induction k with
  | zero =>
    intro _
    exact ⟨b, hb, rfl, fun m _ j _ => rfl⟩
  | succ k ih =>
    intro hk
    obtain ⟨c, hc, e, hbit⟩ := ih (by omega)
    obtain ⟨d, hd, e2, hbit2⟩ := codS_N hc (show k < 4 by omega) e
    refine ⟨d, hd, e2, fun m hm j hj => ?_⟩
    have hN := Nat.two_pow_pos k
    have p1 : 2 ^ (k + 1) * (m + 1) = 2 ^ k * (2 * m) + 2 ^ k + 2 ^ k := by
      rw [Nat.pow_succ, Nat.mul_assoc, Nat.mul_add, Nat.mul_add, Nat.mul_one, Nat.mul_two]; omega
    have p2 : 2 ^ (k + 1) * m = 2 ^ k * (2 * m) := by rw [Nat.pow_succ, Nat.mul_assoc]
    have p3 : 2 ^ k * (2 * m + 1) = 2 ^ k * (2 * m) + 2 ^ k := by rw [Nat.mul_add, Nat.mul_one]
    have p4 : 2 ^ k * (2 * m + 1 + 1) = 2 ^ k * (2 * m) + 2 ^ k + 2 ^ k := by rw [Nat.mul_add, p3, Nat.mul_one]
    have h1 := hbit (2 * m) (by rw [p3]; omega)
    have h2 := hbit (2 * m + 1) (by rw [p4]; omega)
    rw [pw_s] at hj
    rw [p2, hbit2]
    by_cases q : j < 2 ^ k
    · have t1 : (tFn k).testBit (2 ^ k * (2 * m) + j) = true := by
        rw [tFn_bit k (by omega) _ (by omega), decide_eq_true_eq, Nat.mul_add_div hN, Nat.div_eq_of_lt q]
        omega
      have e3 : 2 ^ k * (2 * m) + j + 2 ^ k = 2 ^ k * (2 * m + 1) + j := by rw [p3]; omega
      have e4 : (fun i => b.testBit (2 ^ k * (2 * m) + (2 ^ k + i))) = (fun i => b.testBit (2 ^ k * (2 * m + 1) + i)) := by
        funext i
        rw [p3, Nat.add_assoc]
      rw [cdB_lo _ q, e3, h1 j q, h2 j q, t1, Bool.and_true, e4]
    · obtain ⟨s, rfl⟩ : ∃ s, j = 2 ^ k + s := ⟨j - 2 ^ k, by omega⟩
      have hs : s < 2 ^ k := by omega
      have e5 : 2 ^ k * (2 * m) + (2 ^ k + s) = 2 ^ k * (2 * m + 1) + s := by rw [p3, Nat.add_assoc]
      have t1 : (tFn k).testBit (2 ^ k * (2 * m) + (2 ^ k + s)) = false := by
        rw [tFn_bit k (by omega) _ (by omega), decide_eq_false_iff_not, e5, Nat.mul_add_div hN, Nat.div_eq_of_lt hs]
        omega
      have e4 : (fun i => b.testBit (2 ^ k * (2 * m) + (2 ^ k + i))) = (fun i => b.testBit (2 ^ k * (2 * m + 1) + i)) := by
        funext i
        rw [p3, Nat.add_assoc]
      rw [t1, Bool.and_false, Bool.xor_false, cdB_hi, e5, h2 s hs, e4]
theorem lg_two : ∀ k, k ≤ 4 → lg (2 ^ k) = k := by decide
theorem cod_bit {a off k : Nat} (ha : a < 65536) (ho : off < 16) (hk : k ≤ 4) (j : Nat) (hj : j < 2 ^ k) : bitI (cod (nI a >>> (nI off &&& 31)) (2 ^ k)) j = 1 ↔ cdB k (fun i => a.testBit (off + i)) j = true := by
  have hp := pw_le hk
  have hb : a / 2 ^ off % 2 ^ 2 ^ k < 65536 := Nat.lt_of_le_of_lt (Nat.mod_le _ _) (Nat.lt_of_le_of_lt (Nat.div_le_self _ _) ha)
  obtain ⟨c, hc, e, hbit⟩ := codS_bits hb k hk
  have h0 := hbit 0 (by rw [Nat.zero_add, Nat.mul_one]; exact hp.2) j hj
  unfold cod
  rw [shr_N (by omega) (by omega), low_N _ (by omega), lg_two k hk, e]
  have h1 : opn (nI c) j ↔ c.testBit j = true := opn_N (by omega) (by omega)
  show opn (nI c) j ↔ _
  rw [h1]
  rw [Nat.mul_zero, Nat.zero_add] at h0
  rw [h0]
  have e2 : cdB k (fun i => (a / 2 ^ off % 2 ^ 2 ^ k).testBit (0 + i)) j = cdB k (fun i => a.testBit (off + i)) j := by
    refine cdB_cong k _ _ (fun i hi => ?_) j hj
    show (a / 2 ^ off % 2 ^ 2 ^ k).testBit (0 + i) = a.testBit (off + i)
    rw [Nat.zero_add, Nat.testBit_mod_two_pow, Nat.testBit_div_two_pow, decide_eq_true hi, Bool.true_and, Nat.add_comm]
  rw [e2]
theorem absI_I {x : Int32} {B : Int} (hB : B < 2147483648) (h : -B ≤ x.toInt ∧ x.toInt ≤ B) : (absI x).toInt = aI x.toInt := by
  unfold absI aI
  by_cases q : x < 0
  · rw [if_pos q, if_pos ((i_lt0 x).mp q), i_neg hB h]
  · rw [if_neg q, if_neg (fun h => q ((i_lt0 x).mpr h))]
theorem pu_I {a b : Int32} {B : Int} (hB : B < 2147483648) (ha : -B ≤ a.toInt ∧ a.toInt ≤ B) (hb : -B ≤ b.toInt ∧ b.toInt ≤ B) : (pu a b).toInt = puI a.toInt b.toInt := by
  have e1 := absI_I hB ha
  have e2 := absI_I hB hb
  have b1 := absI_b hB ha
  have b2 := absI_b hB hb
  have em : (if absI a < absI b then absI a else absI b).toInt = (if aI a.toInt < aI b.toInt then aI a.toInt else aI b.toInt) := by
    rw [← e1, ← e2]
    by_cases q : absI a < absI b
    · rw [if_pos q, if_pos (Int32.lt_iff_toInt_lt.mp q)]
    · rw [if_neg q, if_neg (fun h => q (Int32.lt_iff_toInt_lt.mpr h))]
  have bm : -B ≤ (if absI a < absI b then absI a else absI b).toInt ∧ (if absI a < absI b then absI a else absI b).toInt ≤ B := by
    by_cases q : absI a < absI b
    · rw [if_pos q]; omega
    · rw [if_neg q]; omega
  have qi : (a < 0 ↔ b < 0) ↔ (a.toInt < 0 ↔ b.toInt < 0) := by rw [i_lt0, i_lt0]
  unfold pu puI
  by_cases q : (a < 0 ↔ b < 0)
  · rw [if_pos q, if_pos (qi.mp q), em]
  · rw [if_neg q, if_neg (fun z => q (qi.mpr z)), i_neg hB bm, em]
theorem hearF_I {a pl : Nat} (ha : a < 65536) (hpl : pl < 16) : ∀ (k rs off : Nat) (row : Nat → Int32) (r : Nat → Int) (B : Int), k ≤ 4 → off + rs = pl → rs < 2 ^ k → 0 ≤ B → B * 2 ^ k < 1000000 → (∀ j, j < 2 ^ k → (row j).toInt = r j ∧ -B ≤ r j ∧ r j ≤ B) → (hearF (nI a) pl k rs row).toInt = hI k r (fun i => a.testBit (off + i)) rs := by
  intro k
  induction k with
  | zero =>
    intro rs off row r B _ _ _ _ _ h
    exact (h 0 (by decide)).1
  | succ k ih =>
    intro rs off row r B hk hoff hrs h0 hB h
    have e2 : B * 2 ^ (k + 1) = 2 * B * 2 ^ k := by rw [Int.pow_succ, Int.mul_comm 2 B, Int.mul_assoc, Int.mul_comm 2]
    have hp : (1 : Int) ≤ 2 ^ k := by
      have : 0 < (2 : Int) ^ k := Int.pow_pos (by decide)
      omega
    have hB2 : B ≤ B * 2 ^ k := by
      have := Int.mul_le_mul_of_nonneg_left hp h0
      rw [Int.mul_one] at this
      exact this
    have hBs : 2 * B * 2 ^ k = B * 2 ^ k + B * 2 ^ k := by rw [Int.mul_assoc]; omega
    rw [pw_s] at hrs h
    rw [e2] at hB
    by_cases q : rs < 2 ^ k
    · have e : hearF (nI a) pl (k + 1) rs row = hearF (nI a) pl k rs (puR (2 ^ k) row (2 ^ k)) := if_pos q
      rw [e, hI_lo _ _ q]
      refine ih rs off _ _ B (by omega) hoff q h0 (by omega) (fun j hj => ?_)
      obtain ⟨a1, a2⟩ := h j (by omega)
      obtain ⟨b1, b2⟩ := h (j + 2 ^ k) (by omega)
      have e3 : puR (2 ^ k) row (2 ^ k) j = pu (row j) (row (j + 2 ^ k)) := if_pos hj
      show (puR (2 ^ k) row (2 ^ k) j).toInt = puI (r j) (r (j + 2 ^ k)) ∧ -B ≤ puI (r j) (r (j + 2 ^ k)) ∧ puI (r j) (r (j + 2 ^ k)) ≤ B
      rw [e3, pu_I (B := B) (by omega) (by rw [a1]; exact a2) (by rw [b1]; exact b2), a1, b1]
      exact ⟨rfl, puI_b a2 b2⟩
    · obtain ⟨s, rfl⟩ : ∃ s, rs = 2 ^ k + s := ⟨rs - 2 ^ k, by omega⟩
      have e : hearF (nI a) pl (k + 1) (2 ^ k + s) row = hearF (nI a) pl k (2 ^ k + s - 2 ^ k) (prR (2 ^ k) (cod (nI a >>> (nI (pl - (2 ^ k + s)) &&& 31)) (2 ^ k)) row (2 ^ k)) := if_neg q
      have eo : pl - (2 ^ k + s) = off := by omega
      have ef : (fun i => a.testBit (off + 2 ^ k + i)) = (fun i => (fun i => a.testBit (off + i)) (2 ^ k + i)) := by
        funext i
        show a.testBit (off + 2 ^ k + i) = a.testBit (off + (2 ^ k + i))
        rw [Nat.add_assoc]
      rw [e, eo, Nat.add_sub_cancel_left, hI_hi, ← ef]
      refine ih s (off + 2 ^ k) _ _ (2 * B) (by omega) (by omega) (by omega) (by omega) (by omega) (fun j hj => ?_)
      obtain ⟨a1, a2⟩ := h j (by omega)
      obtain ⟨b1, b2⟩ := h (j + 2 ^ k) (by omega)
      have hc := cod_bit (off := off) ha (by omega) (show k ≤ 4 by omega) j hj
      have e3 : prR (2 ^ k) (cod (nI a >>> (nI off &&& 31)) (2 ^ k)) row (2 ^ k) j = (if bitI (cod (nI a >>> (nI off &&& 31)) (2 ^ k)) j = 1 then row (j + 2 ^ k) - row j else row (j + 2 ^ k) + row j) := if_pos hj
      show (prR (2 ^ k) (cod (nI a >>> (nI off &&& 31)) (2 ^ k)) row (2 ^ k) j).toInt = gI (cdB k (fun i => a.testBit (off + i)) j) (r j) (r (j + 2 ^ k)) ∧ -(2 * B) ≤ gI (cdB k (fun i => a.testBit (off + i)) j) (r j) (r (j + 2 ^ k)) ∧ gI (cdB k (fun i => a.testBit (off + i)) j) (r j) (r (j + 2 ^ k)) ≤ 2 * B
      rw [e3]
      cases hv : cdB k (fun i => a.testBit (off + i)) j
      · rw [if_neg (fun z => by rw [hv] at hc; exact absurd (hc.mp z) (by decide)), i_add (by omega) (by omega), a1, b1]
        show r (j + 2 ^ k) + r j = r (j + 2 ^ k) + r j ∧ -(2 * B) ≤ r (j + 2 ^ k) + r j ∧ r (j + 2 ^ k) + r j ≤ 2 * B
        omega
      · rw [if_pos (hc.mpr hv), i_sub (by omega) (by omega), a1, b1]
        show r (j + 2 ^ k) - r j = r (j + 2 ^ k) - r j ∧ -(2 * B) ≤ r (j + 2 ^ k) - r j ∧ r (j + 2 ^ k) - r j ≤ 2 * B
        omega
theorem hea_I {n a p : Nat} (hn : okN n) {vf : Nat → Int32} (hv : okV vf) (ha : a < 65536) (hp : p < n) : (hea n vf p (nI a)).toInt = hI (lg n) (fun j => (vf j).toInt) (fun i => a.testBit i) p := by
  have hnl := hn.le
  have hl := lg_le hn.n1
  have hb : ∀ j, j < 2 ^ lg n → (vf j).toInt = (vf j).toInt ∧ -99 ≤ (vf j).toInt ∧ (vf j).toInt ≤ 99 := fun j hj => by
    rw [← lg_pow hn.n1] at hj
    exact ⟨rfl, hv j (by omega)⟩
  have h := hearF_I (pl := p) ha (by omega) (lg n) p 0 vf (fun j => (vf j).toInt) 99 hl (Nat.zero_add p) (by rw [← lg_pow hn.n1]; exact hp) (by decide) (by
    have e : lg n = 1 ∨ lg n = 2 ∨ lg n = 3 ∨ lg n = 4 := by rcases hn with rfl | rfl | rfl | rfl <;> decide
    rcases e with e | e | e | e <;> rw [e] <;> decide) hb
  unfold hea
  rw [h]
  have ef : (fun i => a.testBit (0 + i)) = (fun i => a.testBit i) := by
    funext i
    rw [Nat.zero_add]
  rw [ef]
/-! paths -/
def okT (n : Nat) (vf : Nat → Int32) (p : Nat) (q : Int32 × Int32) : Prop := ∃ a : Nat, a < 2 ^ p ∧ q.1 = nI a ∧ q.2.toInt = sm (fun i => pn (a.testBit i) (hI (lg n) (fun j => (vf j).toInt) (fun i => a.testBit i) i)) p ∧ 0 ≤ q.2.toInt ∧ q.2.toInt ≤ 1584 * (p : Int)
theorem okT_0 (n : Nat) (vf : Nat → Int32) : okT n vf 0 (0, 0) := ⟨0, by decide, rfl, by show (0 : Int32).toInt = 0; decide, by show 0 ≤ (0 : Int32).toInt; decide, by show (0 : Int32).toInt ≤ 1584 * ((0 : Nat) : Int); decide⟩
theorem okT_a {n p : Nat} (hn : okN n) {vf : Nat → Int32} (hv : okV vf) (hp : p < n) {q : Int32 × Int32} (h : okT n vf p q) : okT n vf (p + 1) (gA (hea n vf p) q) := by
  obtain ⟨a, ha, e, hs, h0, h1⟩ := h
  have hnl := hn.le
  have h16 : 2 ^ p ≤ 2 ^ 15 := Nat.pow_le_pow_right (by decide) (by omega)
  have hb := hea_b hn hv p q.1
  have hI1 := hea_I hn hv (show a < 65536 by omega) hp
  rw [← e] at hI1
  have hbit : a.testBit p = false := Nat.testBit_lt_two_pow ha
  refine ⟨a, by rw [Nat.pow_succ]; omega, e, ?_⟩
  show (q.2 + (if hea n vf p q.1 < 0 then -(hea n vf p q.1) else 0)).toInt = sm (fun i => pn (a.testBit i) (hI (lg n) (fun j => (vf j).toInt) (fun i => a.testBit i) i)) p + pn (a.testBit p) (hI (lg n) (fun j => (vf j).toInt) (fun i => a.testBit i) p) ∧ 0 ≤ (q.2 + (if hea n vf p q.1 < 0 then -(hea n vf p q.1) else 0)).toInt ∧ (q.2 + (if hea n vf p q.1 < 0 then -(hea n vf p q.1) else 0)).toInt ≤ 1584 * ((p + 1 : Nat) : Int)
  rw [hbit, ← hs, ← hI1]
  show _ = _ + pF (hea n vf p q.1).toInt ∧ _
  unfold pF
  by_cases c : hea n vf p q.1 < 0
  · have c2 := (i_lt0 _).mp c
    rw [if_pos c, if_pos c2, i_add (by rw [i_neg (B := 1584) (by decide) hb]; omega) (by rw [i_neg (B := 1584) (by decide) hb]; omega), i_neg (B := 1584) (by decide) hb]
    omega
  · have c2 : ¬ (hea n vf p q.1).toInt < 0 := fun h => c ((i_lt0 _).mpr h)
    rw [if_neg c, if_neg c2, Int32.add_zero]
    omega
theorem okT_z {n p : Nat} (hn : okN n) {vf : Nat → Int32} (hv : okV vf) (hp : p < n) {q : Int32 × Int32} (h : okT n vf p q) : okT n vf (p + 1) (gZ (hea n vf p) p q) := by
  obtain ⟨a, ha, e, hs, h0, h1⟩ := h
  have hnl := hn.le
  have h16 : 2 ^ p ≤ 2 ^ 15 := Nat.pow_le_pow_right (by decide) (by omega)
  have hb := hea_b hn hv p q.1
  have hI1 := hea_I hn hv (show a < 65536 by omega) hp
  rw [← e] at hI1
  have hlow : ∀ i, i < p → (a ||| 2 ^ p).testBit i = a.testBit i := fun i hi => by
    rw [Nat.testBit_or, Nat.testBit_two_pow, decide_eq_false (by omega), Bool.or_false]
  have hbit : (a ||| 2 ^ p).testBit p = true := by
    rw [Nat.testBit_or, Nat.testBit_two_pow, decide_eq_true rfl, Bool.or_true]
  have hpk : ∀ i, i ≤ p → hI (lg n) (fun j => (vf j).toInt) (fun i => (a ||| 2 ^ p).testBit i) i = hI (lg n) (fun j => (vf j).toInt) (fun i => a.testBit i) i := fun i hi =>
    hI_cong (lg n) _ _ _ _ i (by rw [← lg_pow hn.n1]; omega) (fun _ _ => rfl) (fun k hk => hlow k (by omega))
  refine ⟨a ||| 2 ^ p, Nat.or_lt_two_pow (by rw [Nat.pow_succ]; omega) (Nat.pow_lt_pow_right (by decide) (by omega)), by show q.1 ||| (1 <<< (nI p &&& 31)) = _; rw [e, pow_l p (by omega), nI_or], ?_⟩
  have es : sm (fun i => pn ((a ||| 2 ^ p).testBit i) (hI (lg n) (fun j => (vf j).toInt) (fun i => (a ||| 2 ^ p).testBit i) i)) p = q.2.toInt := by
    rw [hs]
    refine sm_cong (fun i hi => ?_)
    show pn ((a ||| 2 ^ p).testBit i) (hI (lg n) (fun j => (vf j).toInt) (fun i => (a ||| 2 ^ p).testBit i) i) = _
    rw [hlow i hi, hpk i (by omega)]
  show (q.2 + (if 0 < hea n vf p q.1 then hea n vf p q.1 else 0)).toInt = sm (fun i => pn ((a ||| 2 ^ p).testBit i) (hI (lg n) (fun j => (vf j).toInt) (fun i => (a ||| 2 ^ p).testBit i) i)) p + pn ((a ||| 2 ^ p).testBit p) (hI (lg n) (fun j => (vf j).toInt) (fun i => (a ||| 2 ^ p).testBit i) p) ∧ 0 ≤ (q.2 + (if 0 < hea n vf p q.1 then hea n vf p q.1 else 0)).toInt ∧ (q.2 + (if 0 < hea n vf p q.1 then hea n vf p q.1 else 0)).toInt ≤ 1584 * ((p + 1 : Nat) : Int)
  rw [es, hbit, hpk p (Nat.le_refl p), ← hI1]
  show _ = _ + pT (hea n vf p q.1).toInt ∧ _
  unfold pT
  by_cases c : 0 < hea n vf p q.1
  · have c2 := (i_0lt _).mp c
    rw [if_pos c, if_pos c2, i_add (by omega) (by omega)]
    omega
  · have c2 : ¬ 0 < (hea n vf p q.1).toInt := fun h => c ((i_0lt _).mpr h)
    rw [if_neg c, if_neg c2, Int32.add_zero]
    omega
def okTs (n : Nat) (vf : Nat → Int32) (p : Nat) (P : PL) : Prop := ∀ t, t < P.length → okT n vf p (atL P t)
theorem okTs_push {n : Nat} {vf : Nat → Int32} {p : Nat} {P : PL} (h : okTs n vf p P) {q : Int32 × Int32} (hq : okT n vf p q) : okTs n vf p (P ++ [q]) := by
  intro t ht
  rw [len1] at ht
  by_cases e : t = P.length
  · rw [e, atL_hi]; exact hq
  · rw [atL_lo (by omega)]; exact h t (by omega)
theorem okTs_kp {n : Nat} {vf : Nat → Int32} {p : Nat} {P : PL} (h : okTs n vf p P) (lim : Nat) : ∀ t, t ≤ P.length → okTs n vf p (kpL P lim t) := by
  intro t
  induction t with
  | zero => intro _ i hi; exact absurd hi (Nat.not_lt_zero i)
  | succ t ih =>
    intro ht
    by_cases c : rk P t < lim
    · rw [kpL_t c]; exact okTs_push (ih (by omega)) (h t (by omega))
    · rw [kpL_f c]; exact ih (by omega)
theorem okTs_gr {n p : Nat} (hn : okN n) {vf : Nat → Int32} (hv : okV vf) (hp : p < n) {P : PL} (h : okTs n vf p P) (o : Bool) : ∀ t, t ≤ P.length → okTs n vf (p + 1) (grT (hea n vf p) p o P t) := by
  intro t
  induction t with
  | zero => intro _ i hi; exact absurd hi (Nat.not_lt_zero i)
  | succ t ih =>
    intro ht
    by_cases c : o = true
    · rw [grT_t _ _ c]; exact okTs_push (okTs_push (ih (by omega)) (okT_a hn hv hp (h t (by omega)))) (okT_z hn hv hp (h t (by omega)))
    · rw [grT_f _ _ c]; exact okTs_push (ih (by omega)) (okT_a hn hv hp (h t (by omega)))
theorem okTs_pth {n : Nat} (hn : okN n) {vf : Nat → Int32} (hv : okV vf) (mask : Int32) (lim : Nat) : ∀ p, p ≤ n → okTs n vf p (pthL n mask vf lim p) := by
  intro p
  induction p with
  | zero =>
    intro _ t ht
    have ht : t < 1 := ht
    have : t = 0 := by omega
    subst this
    exact okT_0 n vf
  | succ p ih =>
    intro hp
    exact okTs_kp (okTs_gr hn hv (by omega) (ih (by omega)) _ _ (Nat.le_refl _)) lim _ (Nat.le_refl _)
theorem okTs_rd {n : Nat} (hn : okN n) {vf : Nat → Int32} (hv : okV vf) (mask : Int32) (lim : Nat) : okTs n vf n (rdL n mask vf lim) := by
  intro i hi
  unfold rdL at hi ⊢
  rw [ordL_len] at hi
  obtain ⟨t, ht, e⟩ := rk_onto hi
  rw [← e, ordL_at ht]
  exact okTs_pth hn hv mask lim n (Nat.le_refl n) t ht
/-- with no penalty, no value is against the word -/
theorem pen0 {n : Nat} (hn : okN n) {vf : Nat → Int32} (hv : okV vf) (mask : Int32) (lim : Nat) {i : Nat} (hi : i < (rdL n mask vf lim).length) (h0 : (atL (rdL n mask vf lim) i).2 = 0) : difS (wof n mask (msP n mask (rdL n mask vf lim) i)) vf n = 0 := by
  have hnl := hn.le
  obtain ⟨a, ha, e, hs, -, -⟩ := okTs_rd hn hv mask lim i hi
  have h16 : 2 ^ n ≤ 2 ^ 16 := Nat.pow_le_pow_right (by decide) hnl.2
  rw [h0, show (0 : Int32).toInt = 0 by decide] at hs
  have hs2 := hI_pen (lg n) (fun j => (vf j).toInt) (fun i => a.testBit i)
  rw [← lg_pow hn.n1, ← hs] at hs2
  have hz := sm_0 (fun k _ => pn_nn _ _) hs2.symm
  rw [← cod_path hnl.2, e]
  have ew : nI a >>> (nI 0 &&& 31) = nI a := by rw [shr_N (by omega) (by decide), Nat.pow_zero, Nat.div_one]
  have hbit : ∀ j, j < n → (bitI (cod (nI a) n) j = 1 ↔ cdB (lg n) (fun i => a.testBit i) j = true) := fun j hj => by
    have h := cod_bit (a := a) (off := 0) (by omega) (by decide) (lg_le hn.n1) j (by rw [← lg_pow hn.n1]; exact hj)
    rw [ew, ← lg_pow hn.n1] at h
    rw [h]
    have ef : (fun i => a.testBit (0 + i)) = (fun i => a.testBit i) := by
      funext i
      rw [Nat.zero_add]
    rw [ef]
  have key : ∀ k, k ≤ n → difS (cod (nI a) n) vf k = 0 := by
    intro k
    induction k with
    | zero => intro _; rfl
    | succ k ih =>
      intro hk
      have h1 := ih (by omega)
      have h2 : pn (cdB (lg n) (fun i => a.testBit i) k) (vf k).toInt = 0 := hz k (by omega)
      have h3 := hbit k (by omega)
      show difS (cod (nI a) n) vf k + (if bitI (cod (nI a) n) k = 1 then (if 0 < vf k then 1 else 0) else (if vf k < 0 then 1 else 0)) = 0
      rw [h1]
      cases hv : cdB (lg n) (fun i => a.testBit i) k
      · rw [hv] at h2 h3
        have h2 : pF (vf k).toInt = 0 := h2
        unfold pF at h2
        rw [if_neg (fun z => absurd (h3.mp z) (by decide)), if_neg (fun z => by rw [if_pos ((i_lt0 _).mp z)] at h2; have := (i_lt0 _).mp z; omega)]
      · rw [hv] at h2 h3
        have h2 : pT (vf k).toInt = 0 := h2
        unfold pT at h2
        rw [if_pos (h3.mpr rfl), if_neg (fun z => by rw [if_pos ((i_0lt _).mp z)] at h2; have := (i_0lt _).mp z; omega)]
  exact key n (Nat.le_refl n)
