/-! PURE: sums, and how unsure all places together are -/
def sm (f : Nat → Int) : Nat → Int
  | 0 => 0
  | k + 1 => sm f k + f k
theorem sm_cong {f g : Nat → Int} : ∀ {n : Nat}, (∀ k, k < n → f k = g k) → sm f n = sm g n := by
  intro n
  induction n with
  | zero => intro _; rfl
  | succ n ih =>
    intro h
    show sm f n + f n = sm g n + g n
    rw [ih (fun k hk => h k (by omega)), h n (by omega)]
theorem sm_add (f g : Nat → Int) (n : Nat) : sm f n + sm g n = sm (fun k => f k + g k) n := by
  induction n with
  | zero => rfl
  | succ n ih =>
    show (sm f n + f n) + (sm g n + g n) = sm (fun k => f k + g k) n + (f n + g n)
    rw [← ih]; omega
theorem sm_split (f : Nat → Int) (a b : Nat) : sm f (a + b) = sm f a + sm (fun i => f (a + i)) b := by
  induction b with
  | zero => show sm f a = sm f a + 0; omega
  | succ b ih =>
    show sm f (a + b) + f (a + b) = sm f a + (sm (fun i => f (a + i)) b + f (a + b))
    rw [ih]; omega
theorem sm_nn {f : Nat → Int} : ∀ {n : Nat}, (∀ k, k < n → 0 ≤ f k) → 0 ≤ sm f n := by
  intro n
  induction n with
  | zero => intro _; exact Int.le_refl 0
  | succ n ih =>
    intro h
    show 0 ≤ sm f n + f n
    have h1 := ih (fun k hk => h k (by omega))
    have h2 := h n (by omega)
    omega
theorem sm_0 {f : Nat → Int} : ∀ {n : Nat}, (∀ k, k < n → 0 ≤ f k) → sm f n = 0 → ∀ k, k < n → f k = 0 := by
  intro n
  induction n with
  | zero => intro _ _ k hk; exact absurd hk (Nat.not_lt_zero k)
  | succ n ih =>
    intro h h0 k hk
    have h1 := sm_nn (f := f) (n := n) (fun k hk => h k (by omega))
    have h2 := h n (by omega)
    have h3 : sm f n + f n = 0 := h0
    by_cases e : k = n
    · subst e; omega
    · exact ih (fun k hk => h k (by omega)) (by omega) k (by omega)
theorem sm_ub {f : Nat → Int} {B : Int} : ∀ {n : Nat}, (∀ k, k < n → f k ≤ B) → sm f n ≤ B * n := by
  intro n
  induction n with
  | zero => intro _; show (0 : Int) ≤ B * 0; rw [Int.mul_zero]; exact Int.le_refl 0
  | succ n ih =>
    intro h
    have h1 := ih (fun k hk => h k (by omega))
    have h2 := h n (by omega)
    show sm f n + f n ≤ B * ((n + 1 : Nat) : Int)
    rw [Int.natCast_add, Int.mul_add]
    have : B * ((1 : Nat) : Int) = B := by simp
    omega
/-! one step of pairing keeps the sum -/
theorem ustep_sum {z : Int64} (h : 0 ≤ z.toInt ∧ z.toInt ≤ 1000000) : (ustep z 0).toInt + (ustep z 1).toInt = 2 * z.toInt := by
  have h1 : 0 ≤ (z * z / 1000000).toInt ∧ (z * z / 1000000).toInt ≤ 1000000 := ustep_b h 1
  have e0 : ustep z 0 = 2 * z - z * z / 1000000 := rfl
  have e1 : ustep z 1 = z * z / 1000000 := rfl
  rw [e0, e1]
  generalize z * z / 1000000 = y at *
  have e2 : (2 * z).toInt = 2 * z.toInt := by
    rw [Int64.toInt_mul, show (2 : Int64).toInt = 2 by decide, i64_b (by omega) (by omega)]
  rw [Int64.toInt_sub, e2, i64_b (by omega) (by omega)]
  omega
theorem unsZ_mod {m : Nat} (i : Nat) : ∀ (k : Nat) (z : Int64), k ≤ m → unsZ (2 ^ m + i) k z = unsZ i k z := by
  intro k
  induction k with
  | zero => intro z _; rfl
  | succ k ih =>
    intro z hk
    show unsZ (2 ^ m + i) k (ustep z ((2 ^ m + i) / 2 ^ k % 2)) = unsZ i k (ustep z (i / 2 ^ k % 2))
    have e : (2 ^ m + i) / 2 ^ k % 2 = i / 2 ^ k % 2 := by
      have e2 : 2 ^ m + i = i + 2 ^ k * (2 * 2 ^ (m - k - 1)) := by
        have e3 : 2 ^ k * (2 * 2 ^ (m - k - 1)) = 2 ^ m := by
          rw [← Nat.pow_succ', ← Nat.pow_add, show k + (m - k - 1).succ = m by omega]
        rw [e3, Nat.add_comm]
      rw [e2, Nat.add_mul_div_left _ _ (Nat.two_pow_pos k)]
      omega
    rw [e, ih _ (by omega)]
theorem uns_sum : ∀ (k : Nat) (z : Int64), 0 ≤ z.toInt ∧ z.toInt ≤ 1000000 → sm (fun p => (unsZ p k z).toInt) (2 ^ k) = ((2 ^ k : Nat) : Int) * z.toInt := by
  intro k
  induction k with
  | zero =>
    intro z _
    show (0 : Int) + z.toInt = ((2 ^ 0 : Nat) : Int) * z.toInt
    rw [Nat.pow_zero, show ((1 : Nat) : Int) = 1 from rfl, Int.one_mul, Int.zero_add]
  | succ k ih =>
    intro z h
    rw [pw_s, sm_split]
    have a1 : sm (fun p => (unsZ p (k + 1) z).toInt) (2 ^ k) = sm (fun p => (unsZ p k (ustep z 0)).toInt) (2 ^ k) := by
      refine sm_cong (fun p hp => ?_)
      show (unsZ p k (ustep z (p / 2 ^ k % 2))).toInt = (unsZ p k (ustep z 0)).toInt
      rw [Nat.div_eq_of_lt hp, Nat.zero_mod]
    have a2 : sm (fun p => (unsZ (2 ^ k + p) (k + 1) z).toInt) (2 ^ k) = sm (fun p => (unsZ p k (ustep z 1)).toInt) (2 ^ k) := by
      refine sm_cong (fun p hp => ?_)
      show (unsZ (2 ^ k + p) k (ustep z ((2 ^ k + p) / 2 ^ k % 2))).toInt = (unsZ p k (ustep z 1)).toInt
      rw [Nat.add_div_left _ (Nat.two_pow_pos k), Nat.div_eq_of_lt hp, unsZ_mod p k _ (Nat.le_refl k)]
    rw [a1, a2, ih _ (ustep_b h 0), ih _ (ustep_b h 1), ← Int.mul_add, ustep_sum h]
    generalize 2 ^ k = N
    rw [Int.natCast_add, Int.add_mul, ← Int.mul_assoc, Int.mul_comm (N : Int) 2, Int.mul_assoc]
    omega
theorem sf0_b {sf : Nat → Int32} (hs : okS sf) : ∃ a : Nat, 1 ≤ a ∧ a ≤ 999 ∧ sf 0 = nI a ∧ ((sf 0).toInt64 * 1000).toInt = ((a * 1000 : Nat) : Int) := by
  obtain ⟨⟨a, h1, h2, ea⟩, -⟩ := hs
  refine ⟨a, h1, h2, ea, ?_⟩
  have e0 : (nI a).toInt = (a : Int) := nI_toInt (by omega)
  rw [Int64.toInt_mul, Int32.toInt_toInt64, ea, e0, show (1000 : Int64).toInt = ((1000 : Nat) : Int) by decide, ← Int.natCast_mul, i64_b (by omega) (by omega)]
theorem uns_Z {sf : Nat → Int32} (hs : okS sf) (n p : Nat) : (uns sf n p).toInt = (unsZ p (lg n) ((sf 0).toInt64 * 1000)).toInt := by
  obtain ⟨a, h1, h2, -, e1⟩ := sf0_b hs
  have h := unsZ_b p (lg n) ((sf 0).toInt64 * 1000) (by rw [e1]; omega)
  unfold uns
  rw [Int64.toInt_toInt32, Int.bmod_eq_of_le (by simp; omega) (by simp; omega)]
/-- all places' unsureness, added up; the open ones' -/
def sumU (sf : Nat → Int32) (n : Nat) : Nat → Int32
  | 0 => 0
  | p + 1 => sumU sf n p + uns sf n p
def ofO (sf : Nat → Int32) (mask : Int32) (n : Nat) : Nat → Int32
  | 0 => 0
  | p + 1 => ofO sf mask n p + (if opn mask p then uns sf n p else 0)
theorem sumU_I {sf : Nat → Int32} (hs : okS sf) (n : Nat) : ∀ p, p ≤ 16 → (sumU sf n p).toInt = sm (fun p => (uns sf n p).toInt) p ∧ 0 ≤ (sumU sf n p).toInt ∧ (sumU sf n p).toInt ≤ 1000000 * (p : Int) := by
  intro p
  induction p with
  | zero => intro _; exact ⟨by show (0 : Int32).toInt = 0; decide, by show 0 ≤ (0 : Int32).toInt; decide, by show (0 : Int32).toInt ≤ 1000000 * ((0 : Nat) : Int); decide⟩
  | succ p ih =>
    intro hp
    obtain ⟨h1, h2, h3⟩ := ih (by omega)
    have hu := uns_b hs n p
    show (sumU sf n p + uns sf n p).toInt = sm (fun p => (uns sf n p).toInt) p + (uns sf n p).toInt ∧ 0 ≤ (sumU sf n p + uns sf n p).toInt ∧ (sumU sf n p + uns sf n p).toInt ≤ 1000000 * ((p + 1 : Nat) : Int)
    rw [i_add (by omega) (by omega), ← h1]
    refine ⟨rfl, by omega, by omega⟩
/-- all places together are as unsure as the settings tell -/
theorem sumU_ok {n : Nat} {sf : Nat → Int32} (hn : okN n) (hs : okS sf) : sumU sf n n = nI n * 1000 * sf 0 := by
  obtain ⟨a, h1, h2, ea, e1⟩ := sf0_b hs
  have hl := hn.le
  apply Int32.toInt_inj.mp
  rw [(sumU_I hs n n hl.2).1, sm_cong (g := fun p => (unsZ p (lg n) ((sf 0).toInt64 * 1000)).toInt) (fun p _ => uns_Z hs n p)]
  have h := uns_sum (lg n) ((sf 0).toInt64 * 1000) (by rw [e1]; omega)
  rw [← lg_pow hn.n1, e1] at h
  rw [h, ea, show (1000 : Int32) = nI 1000 from rfl, pk_mul, pk_mul]
  have hb : n * 1000 * a ≤ 16 * 1000 * 999 := Nat.mul_le_mul (Nat.mul_le_mul hl.2 (Nat.le_refl _)) h2
  rw [nI_toInt (by omega), ← Int.natCast_mul, Nat.mul_assoc, Nat.mul_comm 1000 a]
theorem ofO_S {sf : Nat → Int32} (hs : okS sf) (mask : Int32) (n : Nat) : ∀ p, p ≤ 16 → (ofO sf mask n p).toInt = (unsS sf mask n p).toInt := by
  intro p
  induction p with
  | zero => intro _; show (0 : Int32).toInt = (0 : Int64).toInt; decide
  | succ p ih =>
    intro hp
    have h1 := ih (by omega)
    have hu := uns_b hs n p
    have hb := unsS_b hs mask n p (by omega)
    have hc := cntO_le mask p
    show (ofO sf mask n p + (if opn mask p then uns sf n p else 0)).toInt = (if opn mask p then unsS sf mask n p + (uns sf n p).toInt64 else unsS sf mask n p).toInt
    by_cases o : opn mask p
    · rw [if_pos o, if_pos o, i_add (by omega) (by omega), Int64.toInt_add, Int32.toInt_toInt64, i64_b (by omega) (by omega), h1]
    · rw [if_neg o, if_neg o, Int32.add_zero, h1]
theorem i2d_l2d {a : Int32} {b : Int64} (h : a.toInt = b.toInt) : FP.i2d a = FP.l2d b := by
  show Jvm.FP.Core.i2d a = Jvm.FP.Core.l2d b
  unfold Jvm.FP.Core.i2d Jvm.FP.Core.l2d
  rw [h]
theorem ofO_d {n : Nat} {sf : Nat → Int32} (hn : okN n) (hs : okS sf) (mask : Int32) : FP.i2d (ofO sf mask n n) = FP.l2d (unsS sf mask n n) := i2d_l2d (ofO_S hs mask n n hn.le.2)
/-! how many check places there are -/
def chC (mask : Int32) (n : Nat) (sf : Nat → Int32) : Nat → Nat
  | 0 => 0
  | p + 1 => chC mask n sf p + (if opn mask p ∧ bdB mask n sf ≤ cntO mask p then 1 else 0)
theorem chC_i (mask : Int32) (n : Nat) (sf : Nat → Int32) : ∀ p, (cntO mask p ≤ bdB mask n sf → chC mask n sf p = 0) ∧ (bdB mask n sf ≤ cntO mask p → chC mask n sf p + bdB mask n sf = cntO mask p) := by
  intro p
  induction p with
  | zero => exact ⟨fun _ => rfl, fun h => by have h : bdB mask n sf ≤ 0 := h; show 0 + bdB mask n sf = 0; omega⟩
  | succ p ih =>
    show (cntO mask p + (if opn mask p then 1 else 0) ≤ bdB mask n sf → chC mask n sf p + (if opn mask p ∧ bdB mask n sf ≤ cntO mask p then 1 else 0) = 0) ∧ (bdB mask n sf ≤ cntO mask p + (if opn mask p then 1 else 0) → chC mask n sf p + (if opn mask p ∧ bdB mask n sf ≤ cntO mask p then 1 else 0) + bdB mask n sf = cntO mask p + (if opn mask p then 1 else 0))
    by_cases o : opn mask p
    · by_cases b : bdB mask n sf ≤ cntO mask p
      · rw [if_pos o, if_pos ⟨o, b⟩]; omega
      · rw [if_pos o, if_neg (fun h => b h.2)]; omega
    · rw [if_neg o, if_neg (fun h => o h.1)]; exact ih
theorem bd_ck (mask : Int32) (n : Nat) (sf : Nat → Int32) : bdB mask n sf + ckB mask n sf = cntO mask n := by
  have := ckB_le mask n sf
  unfold bdB; omega
theorem chC_n (mask : Int32) (n : Nat) (sf : Nat → Int32) : chC mask n sf n = ckB mask n sf := by
  have h := (chC_i mask n sf n).2 (by have := bd_ck mask n sf; omega)
  have := bd_ck mask n sf
  omega
theorem ck_cN (mask : Int32) (n : Nat) (sf : Nat → Int32) : ckB mask n sf ≤ cN sf := by
  unfold ckB
  split <;> omega
