/-! FACTS on ints and bits -/
theorem in_t {q n : Int32} (h1 : ¬ q < 0) (h2 : ¬ n ≤ q) : (1 : Int32) = (if 0 ≤ q ∧ q < n then 1 else 0) := by
  rw [if_pos ⟨Int32.not_lt.mp h1, Int32.not_le.mp h2⟩]
theorem in_f1 {q n : Int32} (h1 : q < 0) : (0 : Int32) = (if 0 ≤ q ∧ q < n then 1 else 0) := by
  rw [if_neg (fun h => absurd h1 (Int32.not_lt.mpr h.1))]
theorem in_f2 {q n : Int32} (h1 : n ≤ q) : (0 : Int32) = (if 0 ≤ q ∧ q < n then 1 else 0) := by
  rw [if_neg (fun h => absurd h1 (Int32.not_le.mpr h.2))]
/-- a number that is in range is a natural -/
theorem in_nat {q : Int32} {n : Nat} (hn : n < 2 ^ 31) (h : 0 ≤ q ∧ q < nI n) : ∃ k : Nat, k < n ∧ q = nI k := by
  obtain ⟨j, hj, rfl⟩ := nI_of (x := q) (Int32.not_lt.mpr h.1)
  exact ⟨j, (nI_ltI hj hn).mp h.2, rfl⟩
theorem shr_shr (x : Int32) (k : Nat) (hk : k + 1 < 32) : (x >>> (nI k &&& 31)) >>> ((1 : Int32) &&& 31) = x >>> (nI (k + 1) &&& 31) := by
  apply Int32.toInt_inj.mp
  rw [pk_shr _ _ 1 (by decide), pk_shr _ _ k (sh_l k (by omega)), pk_shr _ _ (k + 1) (sh_l (k + 1) hk), Int.shiftRight_add]
theorem nI_ite (a : Nat) (c : Prop) [Decidable c] : nI a + (if c then 1 else 0) = nI (a + (if c then 1 else 0)) := by
  by_cases h : c
  · rw [if_pos h, if_pos h]; exact nI_add a 1
  · rw [if_neg h, if_neg h, Int32.add_zero, Nat.add_zero]
theorem abs_eq (x : Int32) : (if 0 ≤ x then x else 0 - x) = absI x := by
  unfold absI
  by_cases h : x < 0
  · rw [if_pos h, if_neg (fun h2 => absurd h (Int32.not_lt.mpr h2)), Int32.zero_sub]
  · rw [if_neg h, if_pos (Int32.not_lt.mp h)]
/-- (1 << p) - 1 cuts -/
theorem low_m : ∀ p, p < 31 → ((1 : Int32) <<< (nI p &&& 31)) - 1 = nI (2 ^ p - 1) := by decide
theorem low_N (n : Nat) {p : Nat} (hp : p < 31) : nI n &&& (((1 : Int32) <<< (nI p &&& 31)) - 1) = nI (n % 2 ^ p) := by
  rw [low_m p hp]
  apply Int32.toBitVec_inj.mp
  show BitVec.ofNat 32 n &&& BitVec.ofNat 32 (2 ^ p - 1) = BitVec.ofNat 32 (n % 2 ^ p)
  rw [← BitVec.ofNat_and, Nat.and_two_pow_sub_one_eq_mod]
theorem cntO_mod {n : Nat} (hn : n < 65536) {p : Nat} (hp : p ≤ 16) : ∀ k, cntO (nI (n % 2 ^ p)) (p + k) = cntO (nI n) p ∨ 16 < p + k := by
  intro k
  have e : ∀ j, j ≤ p → cntO (nI (n % 2 ^ p)) j = cntO (nI n) j := by
    intro j
    induction j with
    | zero => intro _; rfl
    | succ j ih =>
      intro hj
      show cntO (nI (n % 2 ^ p)) j + _ = cntO (nI n) j + _
      rw [ih (by omega)]
      have h1 : opn (nI (n % 2 ^ p)) j ↔ opn (nI n) j := by
        rw [opn_N (Nat.lt_of_le_of_lt (Nat.mod_le _ _) (by omega)) (by omega), opn_N (by omega) (by omega), Nat.testBit_mod_two_pow]
        simp only [Bool.and_eq_true, decide_eq_true_eq]
        exact ⟨fun h => h.2, fun h => ⟨by omega, h⟩⟩
      by_cases h : opn (nI n) j
      · rw [if_pos h, if_pos (h1.mpr h)]
      · rw [if_neg h, if_neg (fun h2 => h (h1.mp h2))]
  induction k with
  | zero => exact Or.inl (e p (Nat.le_refl p))
  | succ k ih =>
    by_cases hb : 16 < p + (k + 1)
    · exact Or.inr hb
    · left
      have h2 := ih.resolve_right (by omega)
      show cntO (nI (n % 2 ^ p)) (p + k) + _ = _
      rw [h2]
      have h1 : ¬ opn (nI (n % 2 ^ p)) (p + k) := by
        rw [opn_N (Nat.lt_of_le_of_lt (Nat.mod_le _ _) (by omega)) (by omega), Nat.testBit_mod_two_pow]
        simp only [Bool.and_eq_true, decide_eq_true_eq]
        exact fun h => absurd h.1 (by omega)
      rw [if_neg (show ¬ opn (nI (n % 2 ^ p)) (p.add k) from h1)]
      rfl
theorem cntO_low {n : Nat} (hn : n < 65536) {p : Nat} (hp : p ≤ 16) : cntO (nI (n % 2 ^ p)) 16 = cntO (nI n) p := by
  have h := cntO_mod hn hp (16 - p)
  rw [show p + (16 - p) = 16 by omega] at h
  exact h.resolve_right (by omega)
theorem okM.N {mask : Int32} {n : Nat} (h : okM mask n) (hn : okN n) : ∃ k : Nat, k < 2 ^ n ∧ k < 65536 ∧ mask = nI k := by
  obtain ⟨k, hk, e⟩ := h
  exact ⟨k, hk, Nat.lt_of_lt_of_le hk (by rcases hn with rfl | rfl | rfl | rfl <;> decide), e⟩
theorem cntO_all {mask : Int32} {n : Nat} (h : okM mask n) (hn : okN n) : cntO mask 16 = cntO mask n := by
  obtain ⟨k, hk, h6, rfl⟩ := h.N hn
  rw [← cntO_low h6 hn.le.2, Nat.mod_eq_of_lt hk]
/-- counting bits, as java.lang.Integer does -/
theorem nI_and (a b : Nat) : nI a &&& nI b = nI (a &&& b) := by
  apply Int32.toBitVec_inj.mp
  show BitVec.ofNat 32 a &&& BitVec.ofNat 32 b = BitVec.ofNat 32 (a &&& b)
  rw [← BitVec.ofNat_and]
def bc1 (k : Nat) : Nat := Nat.sub k (Nat.land (Nat.div k 2) 1431655765)
def bc2 (a : Nat) : Nat := Nat.add (Nat.land a 858993459) (Nat.land (Nat.div a 4) 858993459)
def bc3 (b : Nat) : Nat := Nat.land (Nat.add b (Nat.div b 16)) 252645135
def bc4 (c : Nat) : Nat := Nat.add c (Nat.div c 256)
def bc5 (d : Nat) : Nat := Nat.add d (Nat.div d 65536)
def bcN (k : Nat) : Nat := Nat.land (bc5 (bc4 (bc3 (bc2 (bc1 k))))) 63
def bcS (k : Nat) : Nat → Nat
  | 0 => 0
  | j + 1 => Nat.add (bcS k j) (Nat.mod (Nat.div k (Nat.pow 2 j)) 2)
def bcChk : Nat → Nat → Bool
  | 0, lo => Nat.beq (bcN lo) (bcS lo 16)
  | d + 1, lo => and (bcChk d lo) (bcChk d (Nat.add lo (Nat.pow 2 d)))
theorem bcChk_ok : ∀ (d lo k : Nat), bcChk d lo = true → lo ≤ k → k < lo + 2 ^ d → bcN k = bcS k 16
  | 0, lo, k, h, h1, h2 => by
    have : k = lo := by omega
    subst this
    exact Nat.eq_of_beq_eq_true h
  | d + 1, lo, k, h, h1, h2 => by
    have h' := (Bool.and_eq_true _ _).mp (show (bcChk d lo && bcChk d (lo + 2 ^ d)) = true from h)
    by_cases hk : k < lo + 2 ^ d
    · exact bcChk_ok d lo k h'.1 h1 hk
    · exact bcChk_ok d (lo + 2 ^ d) k h'.2 (by omega) (by rw [Nat.pow_succ] at h2; omega)
theorem bc_all : bcChk 16 0 = true := by decide +kernel
theorem bc_nat {k : Nat} (hk : k < 65536) : bcN k = bcS k 16 := bcChk_ok 16 0 k bc_all (Nat.zero_le _) (by omega)
theorem bcS_cnt {k : Nat} (hk : k < 65536) : ∀ j, j ≤ 16 → bcS k j = cntO (nI k) j := by
  intro j
  induction j with
  | zero => intro _; rfl
  | succ j ih =>
    intro hj
    show bcS k j + k / 2 ^ j % 2 = cntO (nI k) j + (if opn (nI k) j then 1 else 0)
    rw [ih (by omega)]
    have h1 := opn_N (n := k) (p := j) (by omega) (by omega)
    rw [Nat.testBit_eq_decide_div_mod_eq, decide_eq_true_eq] at h1
    by_cases h : opn (nI k) j
    · rw [if_pos h, h1.mp h]
    · rw [if_neg h]
      have : ¬ k / 2 ^ j % 2 = 1 := fun h2 => h (h1.mpr h2)
      omega
theorem bc_ok {k : Nat} (hk : k < 65536) : bcN k = cntO (nI k) 16 := (bc_nat hk).trans (bcS_cnt hk 16 (Nat.le_refl 16))
theorem bc_b1 (k : Nat) : bc1 k ≤ k := Nat.sub_le _ _
theorem bc_s1 (k : Nat) : k / 2 ^ 1 &&& 1431655765 ≤ k := Nat.le_trans Nat.and_le_left (Nat.div_le_self _ _)
theorem bc_b2 (a : Nat) : bc2 a ≤ 2 * a := by
  have h1 : a &&& 858993459 ≤ a := Nat.and_le_left
  have h2 : a / 4 &&& 858993459 ≤ a / 4 := Nat.and_le_left
  show (a &&& 858993459) + (a / 4 &&& 858993459) ≤ 2 * a
  omega
theorem bc_b3 (b : Nat) : bc3 b ≤ 2 * b := by
  have h1 : (b + b / 16) &&& 252645135 ≤ b + b / 16 := Nat.and_le_left
  show (b + b / 16) &&& 252645135 ≤ 2 * b
  omega
theorem bc_b4 (c : Nat) : bc4 c ≤ 2 * c := by
  show c + c / 256 ≤ 2 * c
  omega
theorem bc_b {k : Nat} (hk : k < 65536) : bc1 k < 65536 ∧ bc2 (bc1 k) < 131072 ∧ bc3 (bc2 (bc1 k)) < 262144 ∧ bc4 (bc3 (bc2 (bc1 k))) < 524288 := by
  have h1 := bc_b1 k
  have h2 := bc_b2 (bc1 k)
  have h3 := bc_b3 (bc2 (bc1 k))
  have h4 := bc_b4 (bc3 (bc2 (bc1 k)))
  omega
/-- the check bits' number, the lesser -/
theorem ck_min {mask : Int32} {n : Nat} {sf : Nat → Int32} (h : okS sf) (hn : n ≤ 16) : (if nI (cntO mask n) < sf 2 then nI (cntO mask n) else sf 2) = nI (ckB mask n sf) := by
  obtain ⟨e, hc⟩ := h.c
  have h16 := cntO_le mask n
  unfold ckB
  rw [e]
  by_cases h2 : cntO mask n < cN sf
  · rw [if_pos h2, if_pos ((nI_ltI (by omega) (by omega)).mpr h2)]
  · rw [if_neg h2, if_neg (fun h3 => h2 ((nI_ltI (by omega) (by omega)).mp h3))]
theorem bdB_le (mask : Int32) (n : Nat) (sf : Nat → Int32) : bdB mask n sf ≤ n := Nat.le_trans (Nat.sub_le _ _) (cntO_le mask n)
theorem ckB_le3 {mask : Int32} {n : Nat} {sf : Nat → Int32} (h : okS sf) : ckB mask n sf ≤ 3 := by
  have := h.c.2
  unfold ckB
  split <;> omega
/-- digits of a place's number -/
theorem pw_half (k : Nat) : 2 ^ (k + 1) / 2 = 2 ^ k := by rw [Nat.pow_succ]; omega
theorem pw_le {k : Nat} (h : k ≤ 4) : 1 ≤ 2 ^ k ∧ 2 ^ k ≤ 16 := by
  have : k = 0 ∨ k = 1 ∨ k = 2 ∨ k = 3 ∨ k = 4 := by omega
  rcases this with rfl | rfl | rfl | rfl | rfl <;> decide
theorem and_dig {p k : Nat} (hk : k ≤ 4) (hp : p < 2 ^ 31) : nI p &&& nI (2 ^ (k + 1) / 2) = 0 ↔ p / 2 ^ k % 2 = 0 := by
  rw [pw_half, nI_and]
  have h1 : p &&& 2 ^ k = (p / 2 ^ k % 2) * 2 ^ k := by
    have hm : p / 2 ^ k % 2 = 0 ∨ p / 2 ^ k % 2 = 1 := by omega
    have hb : p.testBit k = decide (p / 2 ^ k % 2 = 1) := Nat.testBit_eq_decide_div_mod_eq
    refine Nat.eq_of_testBit_eq fun i => ?_
    rw [Nat.testBit_and, Nat.testBit_two_pow]
    rcases hm with h | h
    · rw [h, Nat.zero_mul, Nat.zero_testBit]
      by_cases e : k = i
      · subst e; rw [hb, h]; rfl
      · simp [e]
    · rw [h, Nat.one_mul, Nat.testBit_two_pow]
      by_cases e : k = i
      · subst e; rw [hb, h]; simp
      · simp [e]
  rw [h1]
  have hb := pw_le hk
  have hm : p / 2 ^ k % 2 = 0 ∨ p / 2 ^ k % 2 = 1 := by omega
  rcases hm with h | h
  · rw [h, Nat.zero_mul, nI_0]; simp
  · rw [h, Nat.one_mul]
    constructor
    · intro h2
      have := (nI_eq (a := 2 ^ k) (b := 0) (by omega) (by decide)).mp h2
      omega
    · intro h2; omega
/-- arrays by other functions -/
theorem arrV_ext {cA : ClassId} {n : Nat} {f g : Nat → Value} (h : ∀ j, j < n → f j = g j) : arrV cA n f = arrV cA n g := by
  unfold arrV
  congr 1
  apply Array.ext
  · simp
  · intro i h1 h2
    simp at h1 ⊢
    exact h i h1
theorem gP_ext {D : va_G} {cl : List vw_C} {wd : va_W} {H : Heap} {a n : Nat} {cA : ClassId} {f g : Nat → Int32} (hP : va_P D cl wd H) (q : Nat) (hq : wd[q]? = some (a, .inl (cA, n, .inl f))) (h : ∀ j, j < n → f j = g j) : va_P D cl (wd.set q (a, .inl (cA, n, .inl g))) H := by
  intro k x hk
  by_cases e : k = q
  · subst e
    have hlt : k < wd.length := (List.getElem?_eq_some_iff.mp hq).1
    rw [List.getElem?_set_self hlt] at hk
    cases hk
    have h1 : va_at D cl (a, .inl (cA, n, .inl f)) H := hP k _ hq
    show H[a]? = some (vp_cell cA (n, .inl g))
    rw [vp_cell_i, ← arrV_ext (f := fun j => Value.int (f j)) (fun j hj => by rw [h j hj]), ← vp_cell_i]
    exact h1
  · rw [List.getElem?_set_ne (fun h9 => e h9.symm)] at hk
    exact hP k x hk
theorem gD_ext {A : Nat → Prop} {wd : va_W} {a : Nat} {e0 e : va_E} (hD : va_D A wd) (q : Nat) (hq : wd[q]? = some (a, e0)) : va_D A (wd.set q (a, e)) := hD.set hq
theorem cpy_in {f g : Nat → Int32} {n : Nat} (N : Int32) (hN : N.toNatClampNeg = n) : ∀ j, j < n → va_cpy f g (0 : Int32).toNatClampNeg (0 : Int32).toNatClampNeg N.toNatClampNeg j = f j := by
  intro j hj
  rw [hN, show (0 : Int32).toNatClampNeg = 0 from rfl, pk_cpy_in (Nat.zero_le _) (by omega)]
  congr 1
  omega
