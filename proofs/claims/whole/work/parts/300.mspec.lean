/-! THE MODEL: its state as one row of 22 numbers -/
def mst (n : Nat) (mask : Int32) (vf sf : Nat → Int32) : Nat → Int32 := fun i => if i = 0 then nI n else if i = 1 then mask else if i < 6 then sf (i - 2) else vf (i - 6)
theorem mst_s {n : Nat} {mask : Int32} {vf sf : Nat → Int32} {i : Nat} (h : i < 4) : mst n mask vf sf (2 + i) = sf i := by
  unfold mst
  rw [if_neg (by omega), if_neg (by omega), if_pos (by omega), show 2 + i - 2 = i by omega]
theorem mst_p {n : Nat} {mask : Int32} {vf sf : Nat → Int32} (p : Nat) : mst n mask vf sf (6 + p) = vf p := by
  unfold mst
  rw [if_neg (by omega), if_neg (by omega), if_neg (by omega), show 6 + p - 6 = p by omega]
theorem mst_u0 {n : Nat} {mask : Int32} {vf sf : Nat → Int32} (m : Nat) : upd (mst n mask vf sf) 0 (nI m) = mst m mask vf sf := by
  funext j
  unfold upd mst
  by_cases e : j = 0
  · rw [if_pos e, if_pos e]
  · rw [if_neg e, if_neg e, if_neg e]
theorem mst_u1 {n : Nat} {mask : Int32} {vf sf : Nat → Int32} (x : Int32) : upd (mst n mask vf sf) 1 x = mst n x vf sf := by
  funext j
  unfold upd mst
  by_cases e : j = 1
  · subst e; rw [if_pos rfl, if_neg (by decide), if_pos rfl]
  · rw [if_neg e, if_neg e, if_neg e]
theorem mst_us {n : Nat} {mask : Int32} {vf sf : Nat → Int32} {i : Nat} (h : i < 4) (x : Int32) : upd (mst n mask vf sf) (2 + i) x = mst n mask vf (upd sf i x) := by
  funext j
  unfold upd mst
  by_cases e : j = 2 + i
  · subst e
    rw [if_pos rfl, if_neg (by omega), if_neg (by omega), if_pos (by omega)]
    show x = (if 2 + i - 2 = i then x else sf (2 + i - 2))
    rw [if_pos (by omega)]
  · rw [if_neg e]
    by_cases h0 : j = 0
    · rw [if_pos h0, if_pos h0]
    · rw [if_neg h0, if_neg h0]
      by_cases h1 : j = 1
      · rw [if_pos h1, if_pos h1]
      · rw [if_neg h1, if_neg h1]
        by_cases h6 : j < 6
        · rw [if_pos h6, if_pos h6]
          show sf (j - 2) = (if j - 2 = i then x else sf (j - 2))
          rw [if_neg (by omega)]
        · rw [if_neg h6, if_neg h6]
theorem mst_up {n : Nat} {mask : Int32} {vf sf : Nat → Int32} (p : Nat) (x : Int32) : upd (mst n mask vf sf) (6 + p) x = mst n mask (upd vf p x) sf := by
  funext j
  unfold upd mst
  by_cases e : j = 6 + p
  · subst e
    rw [if_pos rfl, if_neg (by omega), if_neg (by omega), if_neg (by omega)]
    show x = (if 6 + p - 6 = p then x else vf (6 + p - 6))
    rw [if_pos (by omega)]
  · rw [if_neg e]
    by_cases h0 : j = 0
    · rw [if_pos h0, if_pos h0]
    · rw [if_neg h0, if_neg h0]
      by_cases h1 : j = 1
      · rw [if_pos h1, if_pos h1]
      · rw [if_neg h1, if_neg h1]
        by_cases h6 : j < 6
        · rw [if_pos h6, if_pos h6]
        · rw [if_neg h6, if_neg h6]
          show vf (j - 6) = (if j - 6 = p then x else vf (j - 6))
          rw [if_neg (by omega)]
theorem isPl_eq {n : Nat} (h1 : 1 ≤ n) (h2 : n ≤ 16) (k : Int32) : (if 0 ≤ k ∧ k ≤ nI (n - 1) then (1 : Int32) else 0) = (if 0 ≤ k ∧ k < nI n then 1 else 0) := by
  have e1 : (nI (n - 1)).toInt = ((n - 1 : Nat) : Int) := nI_toInt (by omega)
  have e2 : (nI n).toInt = (n : Int) := nI_toInt (by omega)
  have e : k ≤ nI (n - 1) ↔ k < nI n := by
    rw [Int32.le_iff_toInt_le, Int32.lt_iff_toInt_lt, e1, e2]
    omega
  by_cases h : 0 ≤ k ∧ k < nI n
  · rw [if_pos h, if_pos ⟨h.1, e.mpr h.2⟩]
  · rw [if_neg h, if_neg (fun h9 => h ⟨h9.1, e.mp h9.2⟩)]
theorem ck_min2 {mask : Int32} {n : Nat} {sf : Nat → Int32} (h : okS sf) (hn : n ≤ 16) : (if sf 2 ≤ nI (cntO mask n) then sf 2 else nI (cntO mask n)) = nI (ckB mask n sf) := by
  obtain ⟨e, hc⟩ := h.c
  have h0 := cntO_le mask n
  rw [e]
  unfold ckB
  by_cases q : cntO mask n < cN sf
  · rw [if_pos q, if_neg (fun h9 => absurd ((nI_leI (by omega) (by omega)).mp h9) (by omega))]
  · rw [if_neg q, if_pos ((nI_leI (by omega) (by omega)).mpr (by omega))]
theorem pw_m (k : Nat) : nI (2 ^ k) * 2 = nI (2 ^ (k + 1)) := by
  rw [Nat.pow_succ]
  exact pk_mul (2 ^ k) 2
theorem or_if (x a : Int32) (c : Prop) [Decidable c] : (x ||| (if c then a else 0)) = (if c then x ||| a else x) := by
  by_cases h : c
  · rw [if_pos h, if_pos h]
  · rw [if_neg h, if_neg h, Int32.or_zero]
theorem xor_if (x a : Int32) (c : Prop) [Decidable c] : (x ^^^ (if c then a else 0)) = (if c then x ^^^ a else x) := by
  by_cases h : c
  · rw [if_pos h, if_pos h]
  · rw [if_neg h, if_neg h, Int32.xor_zero]
/-- coding, place by place -/
def mcS (y : Int32) (k : Nat) : Nat → Int32
  | 0 => y
  | p + 1 => if p / 2 ^ k % 2 = 0 then mcS y k p ^^^ (bitI (mcS y k p) (p + 2 ^ k) <<< (nI p &&& 31)) else mcS y k p
theorem nI_xor (a b : Nat) : nI a ^^^ nI b = nI (a ^^^ b) := by
  apply Int32.toBitVec_inj.mp
  show (BitVec.ofNat 32 a ^^^ BitVec.ofNat 32 b) = BitVec.ofNat 32 (a ^^^ b)
  rw [BitVec.ofNat_xor]
theorem shl_N {n k : Nat} (hk : k < 32) (h : n * 2 ^ k < 2 ^ 32) : nI n <<< (nI k &&& 31) = nI (n * 2 ^ k) := pk_shlN _ k (sh_l k hk) h
theorem bit_mul {b p j : Nat} (hb : b < 2) : (b * 2 ^ p).testBit j = (decide (b = 1) && decide (p = j)) := by
  have : b = 0 ∨ b = 1 := by omega
  rcases this with rfl | rfl
  · simp
  · rw [Nat.one_mul, Nat.testBit_two_pow]; simp
theorem mcS_N {a k : Nat} (ha : a < 65536) (hk : k < 4) : ∀ p, p ≤ 16 → ∃ c : Nat, c < 65536 ∧ mcS (nI a) k p = nI c ∧ ∀ j, c.testBit j = (a.testBit j ^^ (decide (j < p ∧ j / 2 ^ k % 2 = 0) && a.testBit (j + 2 ^ k))) := by
  have hk2 := pw_le (k := k) (by omega)
  intro p
  induction p with
  | zero => intro _; exact ⟨a, ha, rfl, fun j => by simp⟩
  | succ p ih =>
    intro hp
    obtain ⟨c, hc, e, hb⟩ := ih (by omega)
    have hs : mcS (nI a) k (p + 1) = (if p / 2 ^ k % 2 = 0 then mcS (nI a) k p ^^^ (bitI (mcS (nI a) k p) (p + 2 ^ k) <<< (nI p &&& 31)) else mcS (nI a) k p) := rfl
    by_cases hd : p / 2 ^ k % 2 = 0
    · rw [if_pos hd, e, bitI_N (by omega) (by omega)] at hs
      have hm : c / 2 ^ (p + 2 ^ k) % 2 < 2 := Nat.mod_lt _ (by decide)
      have hp2 : 2 ^ p ≤ 32768 := Nat.pow_le_pow_right (n := 2) (by decide) (show p ≤ 15 by omega)
      have hmul : c / 2 ^ (p + 2 ^ k) % 2 * 2 ^ p ≤ 1 * 2 ^ p := Nat.mul_le_mul_right _ (by omega)
      rw [shl_N (by omega) (by omega), nI_xor] at hs
      refine ⟨_, ?_, hs, fun j => ?_⟩
      · exact Nat.xor_lt_two_pow (n := 16) (by omega) (by omega)
      · rw [Nat.testBit_xor, bit_mul hm, hb j]
        have h1 : decide (c / 2 ^ (p + 2 ^ k) % 2 = 1) = c.testBit (p + 2 ^ k) := (Nat.testBit_eq_decide_div_mod_eq).symm
        rw [h1, hb (p + 2 ^ k)]
        have h2 : decide (p + 2 ^ k < p ∧ (p + 2 ^ k) / 2 ^ k % 2 = 0) = false := decide_eq_false (fun h => by omega)
        rw [h2, Bool.false_and, Bool.xor_false]
        by_cases ej : p = j
        · subst ej
          rw [decide_eq_false (fun h => by omega), decide_eq_true (⟨by omega, hd⟩ : p < p + 1 ∧ p / 2 ^ k % 2 = 0), decide_eq_true rfl]
          simp
        · rw [decide_eq_false ej, Bool.and_false, Bool.xor_false]
          have : decide (j < p ∧ j / 2 ^ k % 2 = 0) = decide (j < p + 1 ∧ j / 2 ^ k % 2 = 0) := by
            rw [decide_eq_decide]
            exact ⟨fun h => ⟨by omega, h.2⟩, fun h => ⟨by omega, h.2⟩⟩
          rw [this]
    · rw [if_neg hd] at hs
      refine ⟨c, hc, by rw [hs, e], fun j => ?_⟩
      rw [hb j]
      have : decide (j < p ∧ j / 2 ^ k % 2 = 0) = decide (j < p + 1 ∧ j / 2 ^ k % 2 = 0) := by
        rw [decide_eq_decide]
        refine ⟨fun h => ⟨by omega, h.2⟩, fun h => ⟨?_, h.2⟩⟩
        have : j ≠ p := fun e9 => hd (e9 ▸ h.2)
        omega
      rw [this]
def tFn (k : Nat) : Nat := if k = 0 then 21845 else if k = 1 then 13107 else if k = 2 then 3855 else 255
theorem tF_n (k : Nat) : tF k = nI (tFn k) := by
  unfold tF tFn
  split
  · rfl
  · split
    · rfl
    · split <;> rfl
theorem tFn_bit : ∀ k, k < 4 → ∀ j, j < 16 → (tFn k).testBit j = decide (j / 2 ^ k % 2 = 0) := by decide
theorem tFn_lt (k : Nat) : tFn k < 65536 := by
  unfold tFn
  split
  · decide
  · split
    · decide
    · split <;> decide
theorem codS_N {a k : Nat} (ha : a < 65536) (hk : k < 4) {y : Int32} (e : y = nI a) : ∃ c : Nat, c < 65536 ∧ (y ^^^ ((y >>> ((1 <<< (nI k &&& 31)) &&& 31)) &&& tF k)) = nI c ∧ ∀ j, c.testBit j = (a.testBit j ^^ (a.testBit (j + 2 ^ k) && (tFn k).testBit j)) := by
  have hk2 := pw_le (k := k) (by omega)
  have h8 : 2 ^ k ≤ 8 := Nat.pow_le_pow_right (n := 2) (by decide) (show k ≤ 3 by omega)
  rw [e, pow_l k (by omega), shr_N (by omega) (by omega), tF_n, nI_and, nI_xor]
  refine ⟨_, ?_, rfl, fun j => ?_⟩
  · refine Nat.xor_lt_two_pow (n := 16) (by omega) (Nat.lt_of_le_of_lt Nat.and_le_right (tFn_lt k))
  · rw [Nat.testBit_xor, Nat.testBit_and, Nat.testBit_div_two_pow]
theorem mcS_cod {n k a : Nat} (hn : okN1 n) (hk : k < lg n) (ha : a < 2 ^ n) {y : Int32} (e : y = nI a) : mcS y k n = (y ^^^ ((y >>> ((1 <<< (nI k &&& 31)) &&& 31)) &&& tF k)) ∧ ∃ c : Nat, c < 2 ^ n ∧ mcS y k n = nI c := by
  have hnl := hn.le
  have hl := lg_le hn
  have hk2 := pw_le (k := k) (by omega)
  have ha16 : a < 65536 := Nat.lt_of_lt_of_le ha (Nat.pow_le_pow_right (n := 2) (by decide) hnl.2)
  subst e
  obtain ⟨c, hc, e1, b1⟩ := mcS_N ha16 (show k < 4 by omega) n hnl.2
  obtain ⟨d, hd, e2, b2⟩ := codS_N ha16 (show k < 4 by omega) rfl
  have hcd : c = d := by
    refine Nat.eq_of_testBit_eq fun j => ?_
    rw [b1, b2, Bool.and_comm]
    congr 1
    by_cases hj : n ≤ j + 2 ^ k
    · rw [Nat.testBit_lt_two_pow (Nat.lt_of_lt_of_le ha (Nat.pow_le_pow_right (by decide) hj)), Bool.false_and, Bool.false_and]
    · rw [tFn_bit k (by omega) j (by omega)]
      congr 1
      rw [decide_eq_decide]
      exact ⟨fun h => h.2, fun h => ⟨by omega, h⟩⟩
  refine ⟨by rw [e1, e2, hcd], c, ?_, e1⟩
  refine Nat.lt_pow_two_of_testBit c fun j hj => ?_
  rw [b1, Nat.testBit_lt_two_pow (Nat.lt_of_lt_of_le ha (Nat.pow_le_pow_right (by decide) hj)), decide_eq_false (fun h => by omega)]
  rfl
theorem codS_nat {n : Nat} (hn : okN1 n) (x : Int32) : ∀ k, k ≤ lg n → ∃ a : Nat, a < 2 ^ n ∧ codS (x &&& ((1 <<< (nI n &&& 31)) - 1)) k = nI a := by
  have hnl := hn.le
  intro k
  induction k with
  | zero =>
    intro _
    obtain ⟨j, hj, e⟩ := pk_andE x (m := (1 <<< (nI n &&& 31)) - 1) n (by rw [low_m n (by omega), pk_tn (by have : 2 ^ n ≤ 2 ^ 16 := Nat.pow_le_pow_right (by decide) hnl.2; omega)])
    exact ⟨j, hj, e⟩
  | succ k ih =>
    intro hk
    obtain ⟨a, ha, e⟩ := ih (by omega)
    obtain ⟨e1, c, hc, e2⟩ := mcS_cod hn (show k < lg n by omega) ha e
    exact ⟨c, hc, by rw [← e2, e1]; rfl⟩
theorem mcS_step {n k : Nat} (hn : okN1 n) (hk : k < lg n) (x : Int32) : mcS (codS (x &&& ((1 <<< (nI n &&& 31)) - 1)) k) k n = codS (x &&& ((1 <<< (nI n &&& 31)) - 1)) (k + 1) := by
  obtain ⟨a, ha, e⟩ := codS_nat hn x k (by omega)
  exact (mcS_cod hn hk ha e).1
/-- differences of unsureness -/
theorem dif_lt {x y : Int32} (hx : 0 ≤ x.toInt ∧ x.toInt ≤ 1000000) (hy : 0 ≤ y.toInt ∧ y.toInt ≤ 1000000) : 0 < x - y ↔ y < x := by
  rw [i_0lt, i_sub (by omega) (by omega), Int32.lt_iff_toInt_lt]
  omega
theorem dif_eq {x y : Int32} (hx : 0 ≤ x.toInt ∧ x.toInt ≤ 1000000) (hy : 0 ≤ y.toInt ∧ y.toInt ≤ 1000000) : x - y = 0 ↔ y = x := by
  rw [← Int32.toInt_inj, i_sub (by omega) (by omega), ← Int32.toInt_inj]
  show x.toInt - y.toInt = 0 ↔ _
  omega
