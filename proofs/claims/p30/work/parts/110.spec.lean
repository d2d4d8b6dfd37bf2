/-! SPEC: what the methods compute, in words of their own -/
def bitI (x : Int32) (p : Nat) : Int32 := (x >>> (nI p &&& 31)) &&& 1
abbrev opn (mask : Int32) (p : Nat) : Prop := bitI mask p = 1
def cntO (mask : Int32) : Nat → Nat
  | 0 => 0
  | k + 1 => cntO mask k + (if opn mask k then 1 else 0)
theorem cntO_le (mask : Int32) (k : Nat) : cntO mask k ≤ k := by
  induction k with
  | zero => exact Nat.le_refl 0
  | succ k ih =>
    show cntO mask k + (if opn mask k then 1 else 0) ≤ k + 1
    by_cases h : opn mask k
    · rw [if_pos h]; omega
    · rw [if_neg h]; omega
abbrev okN (n : Nat) : Prop := n = 2 ∨ n = 4 ∨ n = 8 ∨ n = 16
abbrev okN1 (n : Nat) : Prop := n = 1 ∨ n = 2 ∨ n = 4 ∨ n = 8 ∨ n = 16
def okM (mask : Int32) (n : Nat) : Prop := ∃ k : Nat, k < 2 ^ n ∧ mask = nI k
def okS (sf : Nat → Int32) : Prop := (∃ a : Nat, 1 ≤ a ∧ a ≤ 999 ∧ sf 0 = nI a) ∧ (∃ a : Nat, 1 ≤ a ∧ a ≤ 4 ∧ sf 1 = nI a) ∧ (∃ a : Nat, a ≤ 3 ∧ sf 2 = nI a) ∧ (∃ a : Nat, 1 ≤ a ∧ a ≤ 99 ∧ sf 3 = nI a)
def okV (vf : Nat → Int32) : Prop := ∀ j : Nat, j < 16 → -99 ≤ (vf j).toInt ∧ (vf j).toInt ≤ 99
def lg (n : Nat) : Nat := if n = 1 then 0 else if n = 2 then 1 else if n = 4 then 2 else if n = 8 then 3 else 4
theorem okN.n1 {n : Nat} (h : okN n) : okN1 n := Or.inr h
theorem okN.le {n : Nat} (h : okN n) : 2 ≤ n ∧ n ≤ 16 := by rcases h with rfl | rfl | rfl | rfl <;> decide
theorem okN1.le {n : Nat} (h : okN1 n) : 1 ≤ n ∧ n ≤ 16 := by rcases h with rfl | rfl | rfl | rfl | rfl <;> decide
theorem lg_pow {n : Nat} (h : okN1 n) : n = 2 ^ lg n := by rcases h with rfl | rfl | rfl | rfl | rfl <;> decide
theorem lg_le {n : Nat} (h : okN1 n) : lg n ≤ 4 := by rcases h with rfl | rfl | rfl | rfl | rfl <;> decide
/-- the check bits' number -/
def cN (sf : Nat → Int32) : Nat := (sf 2).toNatClampNeg
theorem okS.c {sf : Nat → Int32} (h : okS sf) : sf 2 = nI (cN sf) ∧ cN sf ≤ 3 := by
  obtain ⟨-, -, ⟨a, ha, e⟩, -⟩ := h
  have : cN sf = a := by unfold cN; rw [e, nI_clamp (by omega)]
  rw [this]; exact ⟨e, ha⟩
def ckB (mask : Int32) (n : Nat) (sf : Nat → Int32) : Nat := if cntO mask n < cN sf then cntO mask n else cN sf
def bdB (mask : Int32) (n : Nat) (sf : Nat → Int32) : Nat := cntO mask n - ckB mask n sf
theorem ckB_le (mask : Int32) (n : Nat) (sf : Nat → Int32) : ckB mask n sf ≤ cntO mask n := by
  unfold ckB
  by_cases h : cntO mask n < cN sf
  · rw [if_pos h]; exact Nat.le_refl _
  · rw [if_neg h]; omega
/-- what coding makes -/
def codS (x : Int32) : Nat → Int32
  | 0 => x
  | i + 1 => codS x i ^^^ ((codS x i >>> ((1 <<< (nI i &&& 31)) &&& 31)) &&& tF i)
def cod (x : Int32) (n : Nat) : Int32 := codS (x &&& ((1 <<< (nI n &&& 31)) - 1)) (lg n)
/-- how unsure a place is -/
def ustep (z : Int64) (b : Nat) : Int64 := if b = 0 then 2 * z - z * z / 1000000 else z * z / 1000000
def unsZ (p : Nat) : Nat → Int64 → Int64
  | 0, z => z
  | k + 1, z => unsZ p k (ustep z (p / 2 ^ k % 2))
def uns (sf : Nat → Int32) (n p : Nat) : Int32 := (unsZ p (lg n) ((sf 0).toInt64 * 1000)).toInt32
/-- the rank by how sure -/
def rnk (u : Nat → Int32) (p : Nat) : Nat → Nat
  | 0 => 0
  | k + 1 => rnk u p k + (if u k < u p ∨ (u k = u p ∧ p < k) then 1 else 0)
theorem rnk_le (u : Nat → Int32) (p k : Nat) : rnk u p k ≤ k := by
  induction k with
  | zero => exact Nat.le_refl 0
  | succ k ih =>
    show rnk u p k + (if u k < u p ∨ (u k = u p ∧ p < k) then 1 else 0) ≤ k + 1
    by_cases h : u k < u p ∨ (u k = u p ∧ p < k)
    · rw [if_pos h]; omega
    · rw [if_neg h]; omega
/-- words and messages -/
def wrd (mask msg : Int32) : Nat → Int32
  | 0 => 0
  | i + 1 => if opn mask i then wrd mask msg i ||| (bitI msg (cntO mask i) <<< (nI i &&& 31)) else wrd mask msg i
def mso (mask bits : Int32) : Nat → Int32
  | 0 => 0
  | i + 1 => if opn mask i then mso mask bits i ||| (bitI bits i <<< (nI (cntO mask i) &&& 31)) else mso mask bits i
def sumC (msg : Int32) : Nat → Int32
  | 0 => 0
  | j + 1 => sumC msg j + bitI msg j * nI (j + 1)
def chk (msg : Int32) (bd ck : Nat) : Int32 := sumC msg bd &&& ((1 <<< (nI ck &&& 31)) - 1)
def wof (n : Nat) (mask msg : Int32) : Int32 := cod (wrd mask msg n) n
def wck (n : Nat) (mask : Int32) (sf : Nat → Int32) (body : Int32) : Int32 := body ||| (chk body (bdB mask n sf) (ckB mask n sf) <<< (nI (bdB mask n sf) &&& 31))
def difS (w : Int32) (vf : Nat → Int32) : Nat → Nat
  | 0 => 0
  | p + 1 => difS w vf p + (if bitI w p = 1 then (if 0 < vf p then 1 else 0) else (if vf p < 0 then 1 else 0))
def zerS (vf : Nat → Int32) : Nat → Nat
  | 0 => 0
  | p + 1 => zerS vf p + (if vf p = 0 then 1 else 0)
def absI (x : Int32) : Int32 := if x < 0 then -x else x
def sizS (vf : Nat → Int32) : Nat → Int32
  | 0 => 0
  | p + 1 => sizS vf p + absI (vf p)
theorem difS_le (w : Int32) (vf : Nat → Int32) (k : Nat) : difS w vf k ≤ k := by
  induction k with
  | zero => exact Nat.le_refl 0
  | succ k ih =>
    show difS w vf k + (if bitI w k = 1 then (if 0 < vf k then 1 else 0) else (if vf k < 0 then 1 else 0)) ≤ k + 1
    split <;> split <;> omega
theorem zerS_le (vf : Nat → Int32) (k : Nat) : zerS vf k ≤ k := by
  induction k with
  | zero => exact Nat.le_refl 0
  | succ k ih =>
    show zerS vf k + (if vf k = 0 then 1 else 0) ≤ k + 1
    split <;> omega
/-! facts -/
theorem pow_l : ∀ k, k < 31 → (1 : Int32) <<< (nI k &&& 31) = nI (2 ^ k) := by decide
theorem sh_l : ∀ k, k < 32 → ((nI k &&& 31).toBitVec.smod 32).toNat = k := by decide +kernel
theorem shr_N {n k : Nat} (hn : n < 2 ^ 31) (hk : k < 32) : nI n >>> (nI k &&& 31) = nI (n / 2 ^ k) := pk_shrN hn _ k (sh_l k hk)
theorem bitI_N {n p : Nat} (hn : n < 2 ^ 31) (hp : p < 32) : bitI (nI n) p = nI (n / 2 ^ p % 2) := by
  unfold bitI
  rw [shr_N hn hp]
  exact pk_andN (Nat.lt_of_le_of_lt (Nat.div_le_self _ _) (by omega)) 1 (by decide)
theorem opn_N {n p : Nat} (hn : n < 2 ^ 31) (hp : p < 32) : opn (nI n) p ↔ n.testBit p = true := by
  show bitI (nI n) p = 1 ↔ _
  rw [bitI_N hn hp, Nat.testBit_eq_decide_div_mod_eq, decide_eq_true_eq]
  exact nI_eq (a := n / 2 ^ p % 2) (b := 1) (by omega) (by decide)
theorem opn_dec (x : Int32) (p : Nat) (h : ¬ opn x p) : ¬ bitI x p = 1 := h
