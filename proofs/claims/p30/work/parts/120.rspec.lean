/-! READING: rows, paths, penalties, ranks -/
def pu (a b : Int32) : Int32 := if (a < 0 ↔ b < 0) then (if absI a < absI b then absI a else absI b) else -(if absI a < absI b then absI a else absI b)
def puR (h : Nat) (row : Nat → Int32) (i : Nat) : Nat → Int32 := fun j => if j < i then pu (row j) (row (j + h)) else row j
def prR (h : Nat) (m : Int32) (row : Nat → Int32) (i : Nat) : Nat → Int32 := fun j => if j < i then (if bitI m j = 1 then row (j + h) - row j else row (j + h) + row j) else row j
theorem puR_0 (h : Nat) (row : Nat → Int32) : puR h row 0 = row := by
  funext j; unfold puR; rw [if_neg (Nat.not_lt_zero j)]
theorem puR_ge {h : Nat} {row : Nat → Int32} {i j : Nat} (hj : i ≤ j) : puR h row i j = row j := by
  unfold puR; rw [if_neg (by omega)]
theorem puR_s (h : Nat) (row : Nat → Int32) (i : Nat) : upd (puR h row i) i (pu (row i) (row (i + h))) = puR h row (i + 1) := by
  funext j; unfold upd puR
  by_cases e : j = i
  · subst e; rw [if_pos rfl, if_pos (by omega)]
  · rw [if_neg e]
    by_cases q : j < i
    · rw [if_pos q, if_pos (by omega)]
    · rw [if_neg q, if_neg (by omega)]
theorem prR_0 (h : Nat) (m : Int32) (row : Nat → Int32) : prR h m row 0 = row := by
  funext j; unfold prR; rw [if_neg (Nat.not_lt_zero j)]
theorem prR_ge {h : Nat} {m : Int32} {row : Nat → Int32} {i j : Nat} (hj : i ≤ j) : prR h m row i j = row j := by
  unfold prR; rw [if_neg (by omega)]
theorem prR_s (h : Nat) (m : Int32) (row : Nat → Int32) (i : Nat) : upd (prR h m row i) i (if bitI m i = 1 then row (i + h) - row i else row (i + h) + row i) = prR h m row (i + 1) := by
  funext j; unfold upd prR
  by_cases e : j = i
  · subst e; rw [if_pos rfl, if_pos (show j < j + 1 by omega)]
  · rw [if_neg e]
    by_cases q : j < i
    · rw [if_pos q, if_pos (show j < i + 1 by omega)]
    · rw [if_neg q, if_neg (show ¬ j < i + 1 by omega)]
/-- what a path hears: k halvings are left -/
def hearF (bits : Int32) (pl : Nat) : Nat → Nat → (Nat → Int32) → Int32
  | 0, _, row => row 0
  | k + 1, rs, row => if rs < 2 ^ k then hearF bits pl k rs (puR (2 ^ k) row (2 ^ k)) else hearF bits pl k (rs - 2 ^ k) (prR (2 ^ k) (cod (bits >>> (nI (pl - rs) &&& 31)) (2 ^ k)) row (2 ^ k))
def hea (n : Nat) (vf : Nat → Int32) (pl : Nat) (bits : Int32) : Int32 := hearF bits pl (lg n) pl vf
/-- bounds -/
def bnd (B : Int) (row : Nat → Int32) (n : Nat) : Prop := ∀ j, j < n → -B ≤ (row j).toInt ∧ (row j).toInt ≤ B
theorem i_neg {x : Int32} {B : Int} (hB : B < 2147483648) (h : -B ≤ x.toInt ∧ x.toInt ≤ B) : (-x).toInt = -x.toInt := by
  rw [Int32.toInt_neg]
  exact Int.bmod_eq_of_le (by simp; omega) (by simp; omega)
theorem i_add {x y : Int32} (h1 : -2147483648 ≤ x.toInt + y.toInt) (h2 : x.toInt + y.toInt < 2147483648) : (x + y).toInt = x.toInt + y.toInt := by
  rw [Int32.toInt_add]
  exact Int.bmod_eq_of_le (by simp; omega) (by simp; omega)
theorem i_sub {x y : Int32} (h1 : -2147483648 ≤ x.toInt - y.toInt) (h2 : x.toInt - y.toInt < 2147483648) : (x - y).toInt = x.toInt - y.toInt := by
  rw [Int32.toInt_sub]
  exact Int.bmod_eq_of_le (by simp; omega) (by simp; omega)
theorem i_lt0 (x : Int32) : x < 0 ↔ x.toInt < 0 := by rw [Int32.lt_iff_toInt_lt]; rfl
theorem i_0lt (x : Int32) : 0 < x ↔ 0 < x.toInt := by rw [Int32.lt_iff_toInt_lt]; rfl
theorem i_0le (x : Int32) : 0 ≤ x ↔ 0 ≤ x.toInt := by rw [Int32.le_iff_toInt_le]; rfl
theorem absI_b {x : Int32} {B : Int} (hB : B < 2147483648) (h : -B ≤ x.toInt ∧ x.toInt ≤ B) : 0 ≤ (absI x).toInt ∧ (absI x).toInt ≤ B := by
  unfold absI
  by_cases q : x < 0
  · rw [if_pos q, i_neg hB h]; rw [i_lt0] at q; omega
  · rw [if_neg q]; rw [i_lt0] at q; omega
theorem pu_b {a b : Int32} {B : Int} (hB : B < 2147483648) (ha : -B ≤ a.toInt ∧ a.toInt ≤ B) (hb : -B ≤ b.toInt ∧ b.toInt ≤ B) : -B ≤ (pu a b).toInt ∧ (pu a b).toInt ≤ B := by
  have h1 := absI_b hB ha
  have h2 := absI_b hB hb
  have h3 : 0 ≤ (if absI a < absI b then absI a else absI b).toInt ∧ (if absI a < absI b then absI a else absI b).toInt ≤ B := by
    by_cases q : absI a < absI b
    · rw [if_pos q]; exact h1
    · rw [if_neg q]; exact h2
  unfold pu
  by_cases q : (a < 0 ↔ b < 0)
  · rw [if_pos q]; omega
  · rw [if_neg q, i_neg hB (by omega)]; omega
theorem hear_b (bits : Int32) (pl : Nat) : ∀ (k rs : Nat) (row : Nat → Int32) (B : Int), 0 ≤ B → B * 2 ^ k < 1000000 → bnd B row (2 ^ k) → -(B * 2 ^ k) ≤ (hearF bits pl k rs row).toInt ∧ (hearF bits pl k rs row).toInt ≤ B * 2 ^ k := by
  intro k
  induction k with
  | zero =>
    intro rs row B h0 hB h
    have := h 0 (by decide)
    show -(B * 2 ^ 0) ≤ (row 0).toInt ∧ (row 0).toInt ≤ B * 2 ^ 0
    rw [Int.pow_zero, Int.mul_one]
    exact this
  | succ k ih =>
    intro rs row B h0 hB h
    have e2 : B * 2 ^ (k + 1) = 2 * B * 2 ^ k := by rw [Int.pow_succ, Int.mul_comm 2 B, Int.mul_assoc, Int.mul_comm 2]
    have hp : (1 : Int) ≤ 2 ^ k := by
      have : 0 < (2 : Int) ^ k := Int.pow_pos (by decide)
      omega
    have hB2 : B ≤ B * 2 ^ k := by
      have := Int.mul_le_mul_of_nonneg_left hp h0
      rw [Int.mul_one] at this
      exact this
    have hBs : 2 * B * 2 ^ k = B * 2 ^ k + B * 2 ^ k := by rw [Int.mul_assoc]; omega
    have hn2 : 2 ^ (k + 1) = 2 ^ k + 2 ^ k := by rw [Nat.pow_succ]; omega
    show _ ≤ (if rs < 2 ^ k then hearF bits pl k rs (puR (2 ^ k) row (2 ^ k)) else hearF bits pl k (rs - 2 ^ k) (prR (2 ^ k) (cod (bits >>> (nI (pl - rs) &&& 31)) (2 ^ k)) row (2 ^ k))).toInt ∧ (if rs < 2 ^ k then hearF bits pl k rs (puR (2 ^ k) row (2 ^ k)) else hearF bits pl k (rs - 2 ^ k) (prR (2 ^ k) (cod (bits >>> (nI (pl - rs) &&& 31)) (2 ^ k)) row (2 ^ k))).toInt ≤ _
    rw [e2, hBs] at hB ⊢
    by_cases q : rs < 2 ^ k
    · rw [if_pos q]
      have := ih rs (puR (2 ^ k) row (2 ^ k)) B h0 (by omega) (fun j hj => by
        unfold puR
        rw [if_pos hj]
        exact pu_b (by omega) (h j (by omega)) (h (j + 2 ^ k) (by omega)))
      omega
    · rw [if_neg q]
      have := ih (rs - 2 ^ k) (prR (2 ^ k) (cod (bits >>> (nI (pl - rs) &&& 31)) (2 ^ k)) row (2 ^ k)) (2 * B) (by omega) (by rw [hBs]; omega) (fun j hj => by
        unfold prR
        rw [if_pos hj]
        have h1 := h j (by omega)
        have h2 := h (j + 2 ^ k) (by omega)
        split
        · rw [i_sub (by omega) (by omega)]; omega
        · rw [i_add (by omega) (by omega)]; omega)
      rw [hBs] at this
      omega
theorem hea_b {n : Nat} (hn : okN n) {vf : Nat → Int32} (hv : okV vf) (pl : Nat) (bits : Int32) : -1584 ≤ (hea n vf pl bits).toInt ∧ (hea n vf pl bits).toInt ≤ 1584 := by
  have hl := lg_le hn.n1
  have h := hear_b bits pl (lg n) pl vf 99 (by decide)
  have e : lg n = 1 ∨ lg n = 2 ∨ lg n = 3 ∨ lg n = 4 := by rcases hn with rfl | rfl | rfl | rfl <;> decide
  have hb : bnd 99 vf (2 ^ lg n) := fun j hj => hv j (by rw [← lg_pow hn.n1] at hj; have := hn.le; omega)
  unfold hea
  rcases e with e | e | e | e <;> rw [e] at h hb ⊢ <;> have h := h (by decide) hb <;> omega
/-! lists of paths: bits and penalty -/
abbrev PL : Type := List (Int32 × Int32)
def g1 (hB : Int32 → Int32) (pl : Nat) (o : Bool) (q : Int32 × Int32) : PL :=
  (q.1, q.2 + (if hB q.1 < 0 then -(hB q.1) else 0)) :: (if o = true then [(q.1 ||| (1 <<< (nI pl &&& 31)), q.2 + (if 0 < hB q.1 then hB q.1 else 0))] else [])
def growL (hB : Int32 → Int32) (pl : Nat) (o : Bool) (P : PL) : PL := P.flatMap (g1 hB pl o)
def atL (P : PL) (t : Nat) : Int32 × Int32 := P.getD t (0, 0)
def hol (P : PL) (f g : Nat → Int32) : Prop := ∀ i, i < P.length → f i = (atL P i).1 ∧ g i = (atL P i).2
theorem fb_holes : ∀ (m n : Nat) (f : Nat → Nat), (∀ i, i < n → f i < m) → (∀ i j, i < j → j < n → f i ≠ f j) → n ≤ m := by
  intro m
  induction m with
  | zero =>
    intro n f h1 _
    rcases Nat.eq_zero_or_pos n with h | h
    · omega
    · exact absurd (h1 0 h) (Nat.not_lt_zero _)
  | succ m ih =>
    intro n f h1 h2
    by_cases hx : ∃ i, i < n ∧ f i = m
    · obtain ⟨a, ha, hfa⟩ := hx
      have hg := ih (n - 1) (fun i => if i < a then f i else f (i + 1)) (by
        intro i hi
        by_cases q : i < a
        · simp only [if_pos q]
          have b1 := h1 i (by omega)
          have b2 := h2 i a q ha
          omega
        · simp only [if_neg q]
          have b1 := h1 (i + 1) (by omega)
          have b2 := h2 a (i + 1) (by omega) (by omega)
          omega) (by
        intro i j hij hj
        by_cases q : i < a
        · by_cases r : j < a
          · simp only [if_pos q, if_pos r]
            exact h2 i j hij (by omega)
          · simp only [if_pos q, if_neg r]
            exact h2 i (j + 1) (by omega) (by omega)
        · have r : ¬ j < a := by omega
          simp only [if_neg q, if_neg r]
          exact h2 (i + 1) (j + 1) (by omega) (by omega))
      omega
    · have hg := ih n f (fun i hi => by
        have b1 := h1 i hi
        have b2 : f i ≠ m := fun e => hx ⟨i, hi, e⟩
        omega) h2
      omega
/-- two of them in one place -/
theorem fb_twice {m n : Nat} {f : Nat → Nat} (h : ∀ i, i < n → f i < m) (hm : m < n) : ∃ i j, i < j ∧ j < n ∧ f i = f j := by
  refine Classical.byContradiction fun hx => ?_
  have := fb_holes m n f h (fun i j hij hj e => hx ⟨i, j, hij, hj, e⟩)
  omega
/-- as many as places, none twice: each place is taken -/
theorem fb_onto {n : Nat} {f : Nat → Nat} (h : ∀ i, i < n → f i < n) (h2 : ∀ i j, i < j → j < n → f i ≠ f j) {y : Nat} (hy : y < n) : ∃ i, i < n ∧ f i = y := by
  refine Classical.byContradiction fun hx => ?_
  have hne : ∀ i, i < n → f i ≠ y := fun i hi e => hx ⟨i, hi, e⟩
  have := fb_holes (n - 1) n (fun i => if f i < y then f i else f i - 1) (by
    intro i hi
    have b1 := h i hi
    have b2 := hne i hi
    by_cases q : f i < y
    · simp only [if_pos q]; omega
    · simp only [if_neg q]; omega) (by
    intro i j hij hj
    have b1 := hne i (by omega)
    have b2 := hne j hj
    have b3 := h2 i j hij hj
    by_cases q : f i < y
    · by_cases r : f j < y
      · simp only [if_pos q, if_pos r]; exact b3
      · simp only [if_pos q, if_neg r]; omega
    · by_cases r : f j < y
      · simp only [if_neg q, if_pos r]; omega
      · simp only [if_neg q, if_neg r]; omega)
  omega
/-! ===== how many places have a property ===== -/
/-- counting -/
def cnt (p : Nat → Bool) : Nat → Nat
  | 0 => 0
  | k + 1 => cnt p k + (if p k = true then 1 else 0)
theorem cnt_le (p : Nat → Bool) (n : Nat) : cnt p n ≤ n := by
  induction n with
  | zero => exact Nat.le_refl 0
  | succ n ih =>
    show cnt p n + (if p n = true then 1 else 0) ≤ n + 1
    split <;> omega
theorem cnt_cong {p q : Nat → Bool} : ∀ {n : Nat}, (∀ k, k < n → p k = q k) → cnt p n = cnt q n := by
  intro n
  induction n with
  | zero => intro _; rfl
  | succ n ih =>
    intro h
    show cnt p n + (if p n = true then 1 else 0) = cnt q n + (if q n = true then 1 else 0)
    rw [ih (fun k hk => h k (by omega)), h n (by omega)]
theorem cnt_sub {p q : Nat → Bool} : ∀ {n : Nat}, (∀ k, k < n → p k = true → q k = true) → cnt p n ≤ cnt q n := by
  intro n
  induction n with
  | zero => intro _; exact Nat.le_refl 0
  | succ n ih =>
    intro h
    show cnt p n + (if p n = true then 1 else 0) ≤ cnt q n + (if q n = true then 1 else 0)
    have h1 := ih (fun k hk => h k (by omega))
    by_cases e : p n = true
    · rw [if_pos e, if_pos (h n (by omega) e)]; omega
    · rw [if_neg e]; omega
theorem cnt_lt {p q : Nat → Bool} : ∀ {n : Nat}, (∀ k, k < n → p k = true → q k = true) → ∀ j, j < n → q j = true → ¬ p j = true → cnt p n < cnt q n := by
  intro n
  induction n with
  | zero => intro _ j hj; exact absurd hj (Nat.not_lt_zero j)
  | succ n ih =>
    intro h j hj hq hp
    show cnt p n + (if p n = true then 1 else 0) < cnt q n + (if q n = true then 1 else 0)
    by_cases e : j = n
    · subst e
      have h1 := cnt_sub (p := p) (q := q) (n := j) (fun k hk => h k (by omega))
      rw [if_neg hp, if_pos hq]; omega
    · have h1 := ih (fun k hk => h k (by omega)) j (by omega) hq hp
      by_cases e2 : p n = true
      · rw [if_pos e2, if_pos (h n (by omega) e2)]; omega
      · rw [if_neg e2]; omega
theorem cnt_no {p : Nat → Bool} : ∀ {n : Nat}, (∀ k, k < n → ¬ p k = true) → cnt p n = 0 := by
  intro n
  induction n with
  | zero => intro _; rfl
  | succ n ih =>
    intro h
    show cnt p n + (if p n = true then 1 else 0) = 0
    rw [ih (fun k hk => h k (by omega)), if_neg (h n (by omega))]
/-- of different numbers, at most c are below c -/
theorem cnt_inj (f : Nat → Nat) : ∀ (c n : Nat), (∀ i j, i < n → j < n → f i = f j → i = j) → cnt (fun i => decide (f i < c)) n ≤ c := by
  intro c
  induction c with
  | zero =>
    intro n _
    rw [cnt_no (fun k _ => by simp)]
    exact Nat.le_refl 0
  | succ c ih =>
    intro n
    have one : ∀ n, (∀ i j, i < n → j < n → f i = f j → i = j) → cnt (fun i => decide (f i < c + 1)) n ≤ cnt (fun i => decide (f i < c)) n + 1 ∧ ((∀ i, i < n → ¬ f i = c) → cnt (fun i => decide (f i < c + 1)) n = cnt (fun i => decide (f i < c)) n) := by
      intro n
      induction n with
      | zero => intro _; exact ⟨Nat.zero_le _, fun _ => rfl⟩
      | succ n ih2 =>
        intro hi
        obtain ⟨h1, h2⟩ := ih2 (fun i j a b => hi i j (by omega) (by omega))
        show cnt _ n + (if decide (f n < c + 1) = true then 1 else 0) ≤ cnt _ n + (if decide (f n < c) = true then 1 else 0) + 1 ∧ ((∀ i, i < n + 1 → ¬ f i = c) → cnt _ n + (if decide (f n < c + 1) = true then 1 else 0) = cnt _ n + (if decide (f n < c) = true then 1 else 0))
        simp only [decide_eq_true_eq]
        by_cases e : f n = c
        · have h3 := h2 (fun i hi2 h9 => absurd (hi i n (by omega) (by omega) (by rw [h9, e])) (by omega))
          refine ⟨?_, fun h => absurd e (h n (by omega))⟩
          rw [h3, if_pos (by omega), if_neg (by omega)]
          exact Nat.le_refl _
        · by_cases e2 : f n < c
          · rw [if_pos (show f n < c + 1 by omega), if_pos e2]
            exact ⟨by omega, fun h => by rw [h2 (fun i hi2 => h i (by omega))]⟩
          · rw [if_neg (show ¬ f n < c + 1 by omega), if_neg e2]
            exact ⟨by omega, fun h => by rw [h2 (fun i hi2 => h i (by omega))]⟩
    intro hi
    exact Nat.le_trans (one n hi).1 (Nat.succ_le_succ (ih n hi))
/-- ranks: t is better than i -/
abbrev btr (g : Nat → Int32) (t i : Nat) : Prop := g t < g i ∨ (g t = g i ∧ t < i)
def rkF (g : Nat → Int32) (i : Nat) : Nat → Nat
  | 0 => 0
  | t + 1 => rkF g i t + (if btr g t i then 1 else 0)
theorem rkF_cnt (g : Nat → Int32) (i n : Nat) : rkF g i n = cnt (fun t => decide (btr g t i)) n := by
  induction n with
  | zero => rfl
  | succ n ih =>
    show rkF g i n + (if btr g n i then 1 else 0) = cnt _ n + (if decide (btr g n i) = true then 1 else 0)
    rw [ih]
    by_cases h : btr g n i
    · rw [if_pos h, if_pos (decide_eq_true h)]
    · rw [if_neg h, if_neg (by simpa using h)]
theorem btr_irr (g : Nat → Int32) (i : Nat) : ¬ btr g i i := fun h => h.elim Int32.lt_irrefl (fun h => Nat.lt_irrefl _ h.2)
theorem btr_tri (g : Nat → Int32) {i j : Nat} (h : i ≠ j) : btr g i j ∨ btr g j i := by
  unfold btr
  simp only [Int32.lt_iff_toInt_lt, ← Int32.toInt_inj]
  omega
theorem btr_tr (g : Nat → Int32) {i j k : Nat} (h1 : btr g i j) (h2 : btr g j k) : btr g i k := by
  unfold btr at *
  simp only [Int32.lt_iff_toInt_lt, ← Int32.toInt_inj] at *
  omega
theorem rkF_lt (g : Nat → Int32) {i n : Nat} (hi : i < n) : rkF g i n < n := by
  rw [rkF_cnt]
  have h := cnt_lt (p := fun t => decide (btr g t i)) (q := fun _ => true) (n := n) (fun _ _ _ => rfl) i hi rfl (by simpa using btr_irr g i)
  have h2 := cnt_le (fun _ => true) n
  omega
theorem rkF_le (g : Nat → Int32) (i n : Nat) : rkF g i n ≤ n := by rw [rkF_cnt]; exact cnt_le _ n
theorem rkF_mono (g : Nat → Int32) {i j n : Nat} (hi : i < n) (h : btr g i j) : rkF g i n < rkF g j n := by
  rw [rkF_cnt, rkF_cnt]
  exact cnt_lt (fun k _ hk => decide_eq_true (btr_tr g (of_decide_eq_true hk) h)) i hi (decide_eq_true h) (by simpa using btr_irr g i)
theorem rkF_inj (g : Nat → Int32) {i j n : Nat} (hi : i < n) (hj : j < n) (h : rkF g i n = rkF g j n) : i = j := by
  by_cases e : i = j
  · exact e
  · rcases btr_tri g e with q | q
    · have := rkF_mono g hi q; omega
    · have := rkF_mono g hj q; omega
theorem rkF_cong {g g2 : Nat → Int32} {n : Nat} (h : ∀ t, t < n → g t = g2 t) {i : Nat} (hi : i < n) : ∀ m, m ≤ n → rkF g i m = rkF g2 i m := by
  intro m
  induction m with
  | zero => intro _; rfl
  | succ m ih =>
    intro hm
    show rkF g i m + (if btr g m i then 1 else 0) = rkF g2 i m + (if btr g2 m i then 1 else 0)
    rw [ih (by omega)]
    unfold btr
    rw [h m (by omega), h i hi]
def penF (P : PL) (t : Nat) : Int32 := (atL P t).2
def rk (P : PL) (i : Nat) : Nat := rkF (penF P) i P.length
def kpL (P : PL) (lim : Nat) : Nat → PL
  | 0 => []
  | t + 1 => if rk P t < lim then kpL P lim t ++ [atL P t] else kpL P lim t
def keepL (lim : Nat) (P : PL) : PL := kpL P lim P.length
theorem rk_inj {P : PL} {i j : Nat} (hi : i < P.length) (hj : j < P.length) (h : rk P i = rk P j) : i = j := rkF_inj (penF P) hi hj h
theorem rk_lt {P : PL} {i : Nat} (hi : i < P.length) : rk P i < P.length := rkF_lt (penF P) hi
theorem kp_cnt (P : PL) (lim t : Nat) : (kpL P lim t).length = cnt (fun i => decide (rk P i < lim)) t := by
  induction t with
  | zero => rfl
  | succ t ih =>
    show (if rk P t < lim then kpL P lim t ++ [atL P t] else kpL P lim t).length = cnt _ t + (if decide (rk P t < lim) = true then 1 else 0)
    by_cases h : rk P t < lim
    · rw [if_pos h, if_pos (decide_eq_true h), List.length_append, ih]; rfl
    · rw [if_neg h, if_neg (by simpa using h), ih]; rfl
theorem kp_len {P : PL} {lim t : Nat} (ht : t ≤ P.length) : (kpL P lim t).length ≤ lim := by
  rw [kp_cnt]
  exact cnt_inj _ lim t (fun i j hi hj h => rk_inj (by omega) (by omega) h)
theorem kp_room {P : PL} {lim t : Nat} (ht : t < P.length) (h : rk P t < lim) : (kpL P lim t).length < lim := by
  have h1 := kp_len (P := P) (lim := lim) (t := t + 1) (by omega)
  have h2 : kpL P lim (t + 1) = kpL P lim t ++ [atL P t] := if_pos h
  rw [h2, List.length_append] at h1
  exact h1
theorem rk_onto {P : PL} {r : Nat} (hea : r < P.length) : ∃ t, t < P.length ∧ rk P t = r :=
  fb_onto (n := P.length) (f := rk P) (fun i hi => rk_lt hi) (fun i j hij hj h => absurd (rk_inj (by omega) hj h) (by omega)) hea
theorem keep_pos {P : PL} {lim : Nat} (hP : 0 < P.length) (hl : 0 < lim) : 0 < (keepL lim P).length := by
  obtain ⟨t, ht, hea⟩ := rk_onto hP
  have h : ∀ m, t < m → m ≤ P.length → 0 < (kpL P lim m).length := by
    intro m hm hm2
    rw [kp_cnt]
    have h1 := cnt_lt (p := fun _ => false) (q := fun i => decide (rk P i < lim)) (n := m) (fun _ _ h => by cases h) t hm (by simp [hea, hl]) (by simp)
    omega
  exact h _ ht (Nat.le_refl _)
/-- the order at the end -/
def ordI (P : PL) (r : Nat) : Nat := ((List.range P.length).find? (fun t => decide (rk P t = r))).getD 0
def ordL (P : PL) : PL := (List.range P.length).map (fun r => atL P (ordI P r))
theorem ordL_len (P : PL) : (ordL P).length = P.length := by unfold ordL; rw [List.length_map, List.length_range]
theorem ordI_rk {P : PL} {t : Nat} (ht : t < P.length) : ordI P (rk P t) = t := by
  unfold ordI
  cases h : (List.range P.length).find? (fun t2 => decide (rk P t2 = rk P t)) with
  | none =>
    have := List.find?_eq_none.mp h t (List.mem_range.mpr ht)
    simp at this
  | some t2 =>
    have h1 := List.find?_some h
    have h2 := List.mem_range.mp (List.mem_of_find?_eq_some h)
    exact rk_inj h2 ht (of_decide_eq_true h1)
theorem ordL_at {P : PL} {t : Nat} (ht : t < P.length) : atL (ordL P) (rk P t) = atL P t := by
  have hea := rk_lt ht
  unfold atL ordL
  rw [List.getD_eq_getElem?_getD, List.getElem?_map, List.getElem?_range hea]
  show (P.getD (ordI P (rk P t)) (0, 0)) = _
  rw [ordI_rk ht]
theorem hol_ord {P : PL} {f g : Nat → Int32} (h : ∀ t, t < P.length → f (rk P t) = (atL P t).1 ∧ g (rk P t) = (atL P t).2) : hol (ordL P) f g := by
  intro r hea
  rw [ordL_len] at hea
  obtain ⟨t, ht, e⟩ := rk_onto hea
  rw [← e, ordL_at ht]
  exact h t ht
theorem hol_cong {P : PL} {f g f2 g2 : Nat → Int32} (h : hol P f g) (h1 : ∀ i, i < P.length → f2 i = f i) (h2 : ∀ i, i < P.length → g2 i = g i) : hol P f2 g2 := by
  intro i hi
  rw [h1 i hi, h2 i hi]
  exact h i hi
theorem atL_lo {P Q : PL} {i : Nat} (h : i < P.length) : atL (P ++ Q) i = atL P i := by
  unfold atL
  rw [List.getD_eq_getElem?_getD, List.getD_eq_getElem?_getD, List.getElem?_append_left h]
theorem atL_hi (P : PL) (q : Int32 × Int32) : atL (P ++ [q]) P.length = q := by
  unfold atL
  rw [List.getD_eq_getElem?_getD, List.getElem?_append_right (Nat.le_refl _)]
  simp
theorem hol_push {P : PL} {f g : Nat → Int32} (h : hol P f g) (q : Int32 × Int32) : hol (P ++ [q]) (upd f P.length q.1) (upd g P.length q.2) := by
  intro i hi
  rw [List.length_append] at hi
  have hi : i < P.length + 1 := hi
  by_cases e : i = P.length
  · subst e
    rw [atL_hi, pk_us, pk_us]
    exact ⟨rfl, rfl⟩
  · rw [pk_un e, pk_un e, atL_lo (by omega)]
    exact h i (by omega)
theorem hol_nil (f g : Nat → Int32) : hol [] f g := fun i hi => absurd hi (Nat.not_lt_zero i)
theorem hol_pen {P : PL} {f g : Nat → Int32} (h : hol P f g) {i : Nat} (hi : i < P.length) : rkF g i P.length = rk P i :=
  rkF_cong (fun t ht => (h t ht).2) hi _ (Nat.le_refl _)
/-- paths grown one by one -/
def grT (hB : Int32 → Int32) (pl : Nat) (o : Bool) (P : PL) : Nat → PL
  | 0 => []
  | t + 1 => grT hB pl o P t ++ g1 hB pl o (atL P t)
def grw (hB : Int32 → Int32) (pl : Nat) (o : Bool) (P : PL) : PL := grT hB pl o P P.length
theorem grT_len (hB : Int32 → Int32) (pl : Nat) (o : Bool) (P : PL) (t : Nat) : (grT hB pl o P t).length = (if o = true then 2 else 1) * t := by
  induction t with
  | zero => rfl
  | succ t ih =>
    show (grT hB pl o P t ++ g1 hB pl o (atL P t)).length = _
    rw [List.length_append, ih]
    unfold g1
    cases o
    · simp <;> omega
    · simp <;> omega
def pthL (n : Nat) (mask : Int32) (vf : Nat → Int32) (lim : Nat) : Nat → PL
  | 0 => [(0, 0)]
  | p + 1 => keepL lim (grw (hea n vf p) p (decide (opn mask p)) (pthL n mask vf lim p))
def rdL (n : Nat) (mask : Int32) (vf : Nat → Int32) (lim : Nat) : PL := ordL (pthL n mask vf lim n)
/-- bounds of penalties -/
def okP (B : Int) (P : PL) : Prop := ∀ t, t < P.length → 0 ≤ (atL P t).2.toInt ∧ (atL P t).2.toInt ≤ B
theorem abs3 (a : Int32) : (if 0 ≤ a then a else -a) = absI a := by
  unfold absI
  by_cases h : a < 0
  · rw [if_pos h, if_neg (fun h2 => absurd h (Int32.not_lt.mpr h2))]
  · rw [if_neg h, if_pos (Int32.not_lt.mp h)]
theorem min_eq (a b : Int32) : (if absI b ≤ absI a then absI b else absI a) = (if absI a < absI b then absI a else absI b) := by
  by_cases h : absI a < absI b
  · rw [if_pos h, if_neg (Int32.not_le.mpr h)]
  · rw [if_neg h, if_pos (Int32.not_lt.mp h)]
theorem b01 (P Q : Prop) [Decidable P] [Decidable Q] : ((if P then (1 : Int32) else 0) = (if Q then 1 else 0)) ↔ (P ↔ Q) := by
  by_cases hp : P <;> by_cases hq : Q
  · rw [if_pos hp, if_pos hq]; exact ⟨fun _ => iff_of_true hp hq, fun _ => rfl⟩
  · rw [if_pos hp, if_neg hq]; exact ⟨fun h => absurd h (by decide), fun h => absurd (h.mp hp) hq⟩
  · rw [if_neg hp, if_pos hq]; exact ⟨fun h => absurd h (by decide), fun h => absurd (h.mpr hq) hp⟩
  · rw [if_neg hp, if_neg hq]; exact ⟨fun _ => iff_of_false hp hq, fun _ => rfl⟩
theorem pu_eq (a b : Int32) : (if (if ¬ (0 ≤ a) then (1 : Int32) else 0) = (if ¬ (0 ≤ b) then 1 else 0) then (if absI a < absI b then absI a else absI b) else (-(if absI a < absI b then absI a else absI b))) = pu a b := by
  have e : ((if ¬ (0 ≤ a) then (1 : Int32) else 0) = (if ¬ (0 ≤ b) then 1 else 0)) ↔ (a < 0 ↔ b < 0) := by
    rw [b01, Int32.not_le, Int32.not_le]
  unfold pu
  by_cases h : (a < 0 ↔ b < 0)
  · rw [if_pos (e.mpr h), if_pos h]
  · rw [if_neg (fun h2 => h (e.mp h2)), if_neg h]
theorem cod_mask (x : Int32) (h : Nat) : cod (x &&& ((1 <<< (nI h &&& 31)) - 1)) h = cod x h := by
  unfold cod
  rw [Int32.and_assoc, Int32.and_self]
