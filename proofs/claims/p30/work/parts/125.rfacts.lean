/-! READING: facts for the walks -/
theorem hol_push1 {P : PL} {f g : Nat → Int32} (h : hol P f g) (q : Int32 × Int32) {k : Nat} (hk : P.length = k) : hol (P ++ [q]) (upd f k q.1) (upd g k q.2) := by
  subst hk; exact hol_push h q
theorem len1 (P : PL) (q : Int32 × Int32) : (P ++ [q]).length = P.length + 1 := by rw [List.length_append]; rfl
abbrev gA (hB : Int32 → Int32) (q : Int32 × Int32) : Int32 × Int32 := (q.1, q.2 + (if hB q.1 < 0 then -(hB q.1) else 0))
abbrev gZ (hB : Int32 → Int32) (pl : Nat) (q : Int32 × Int32) : Int32 × Int32 := (q.1 ||| (1 <<< (nI pl &&& 31)), q.2 + (if 0 < hB q.1 then hB q.1 else 0))
theorem grT_t (hB : Int32 → Int32) (pl : Nat) {o : Bool} (ho : o = true) (P : PL) (t : Nat) : grT hB pl o P (t + 1) = (grT hB pl o P t ++ [gA hB (atL P t)]) ++ [gZ hB pl (atL P t)] := by
  show grT hB pl o P t ++ g1 hB pl o (atL P t) = _
  unfold g1
  rw [if_pos ho, List.append_assoc]; rfl
theorem grT_f (hB : Int32 → Int32) (pl : Nat) {o : Bool} (ho : ¬ o = true) (P : PL) (t : Nat) : grT hB pl o P (t + 1) = grT hB pl o P t ++ [gA hB (atL P t)] := by
  show grT hB pl o P t ++ g1 hB pl o (atL P t) = _
  unfold g1
  rw [if_neg ho]
theorem grT_le (hB : Int32 → Int32) (pl : Nat) (o : Bool) (P : PL) (t : Nat) : (grT hB pl o P t).length ≤ 2 * t := by
  rw [grT_len]
  split <;> omega
theorem ge_neg (h : Int32) : (if 0 ≤ h then 0 else -h) = (if h < 0 then -h else 0) := by
  by_cases q : h < 0
  · rw [if_pos q, if_neg (fun h2 => absurd q (Int32.not_lt.mpr h2))]
  · rw [if_neg q, if_pos (Int32.not_lt.mp q)]
theorem le_pos (h : Int32) : (if h ≤ 0 then 0 else h) = (if 0 < h then h else 0) := by
  by_cases q : 0 < h
  · rw [if_pos q, if_neg (Int32.not_le.mpr q)]
  · rw [if_neg q, if_pos (Int32.not_lt.mp q)]
theorem mo_gt {x y : Int32} {B : Int} (hB : B ≤ 100000) (hx : 0 ≤ x.toInt ∧ x.toInt ≤ B) (hy : 0 ≤ y.toInt ∧ y.toInt ≤ B) : 0 < x - y ↔ y < x := by
  rw [i_0lt, i_sub (by omega) (by omega), Int32.lt_iff_toInt_lt]
  omega
theorem mo_eq {x y : Int32} : x - y = 0 ↔ x = y := by
  constructor
  · intro h
    have h2 : x - y + y = 0 + y := by rw [h]
    rw [Int32.sub_add_cancel, Int32.zero_add] at h2
    exact h2
  · intro h; rw [h, Int32.sub_self]
theorem okN1_pow {k : Nat} (h : k ≤ 4) : okN1 (2 ^ k) := by
  have : k = 0 ∨ k = 1 ∨ k = 2 ∨ k = 3 ∨ k = 4 := by omega
  rcases this with rfl | rfl | rfl | rfl | rfl <;> decide
theorem pw_s (k : Nat) : 2 ^ (k + 1) = 2 ^ k + 2 ^ k := by rw [Nat.pow_succ]; omega
theorem vp_b (c : Prop) [Decidable c] : vp_nar .boolean (if c then 1 else 0) = (if c then 1 else 0) := by
  by_cases hc : c
  · rw [if_pos hc]; rfl
  · rw [if_neg hc]; rfl
/-- penalties' bounds -/
theorem atL_kp {P : PL} {lim : Nat} : ∀ {t : Nat}, t ≤ P.length → ∀ i, i < (kpL P lim t).length → ∃ j, j < P.length ∧ atL (kpL P lim t) i = atL P j := by
  intro t
  induction t with
  | zero => intro _ i hi; exact absurd hi (Nat.not_lt_zero i)
  | succ t ih =>
    intro ht i hi
    by_cases h : rk P t < lim
    · have e : kpL P lim (t + 1) = kpL P lim t ++ [atL P t] := if_pos h
      rw [e] at hi ⊢
      rw [len1] at hi
      by_cases q : i < (kpL P lim t).length
      · rw [atL_lo q]; exact ih (by omega) i q
      · have q2 : i = (kpL P lim t).length := by omega
        subst q2
        exact ⟨t, by omega, atL_hi _ _⟩
    · have e : kpL P lim (t + 1) = kpL P lim t := if_neg h
      rw [e] at hi ⊢
      exact ih (by omega) i hi
theorem okP_keep {P : PL} {B : Int} (h : okP B P) (lim : Nat) : okP B (keepL lim P) := by
  intro i hi
  obtain ⟨j, hj, e⟩ := atL_kp (Nat.le_refl _) i hi
  show 0 ≤ (atL (kpL P lim P.length) i).2.toInt ∧ (atL (kpL P lim P.length) i).2.toInt ≤ B
  rw [e]
  exact h j hj
theorem okP_push {P : PL} {B : Int} (h : okP B P) {q : Int32 × Int32} (hq : 0 ≤ q.2.toInt ∧ q.2.toInt ≤ B) : okP B (P ++ [q]) := by
  intro i hi
  rw [len1] at hi
  by_cases e : i < P.length
  · rw [atL_lo e]; exact h i e
  · have e2 : i = P.length := by omega
    subst e2
    rw [atL_hi]; exact hq
theorem okP_grT {P : PL} {B : Int} (hB0 : 0 ≤ B) (hB1 : B ≤ 90000) (h : okP B P) (hB : Int32 → Int32) (hb : ∀ b, -1584 ≤ (hB b).toInt ∧ (hB b).toInt ≤ 1584) (pl : Nat) (o : Bool) : ∀ t, t ≤ P.length → okP (B + 1584) (grT hB pl o P t) := by
  intro t
  induction t with
  | zero => intro _ i hi; exact absurd hi (Nat.not_lt_zero i)
  | succ t ih =>
    intro ht
    have h1 := h t (by omega)
    have h2 := hb (atL P t).1
    have ha : 0 ≤ (gA hB (atL P t)).2.toInt ∧ (gA hB (atL P t)).2.toInt ≤ B + 1584 := by
      show 0 ≤ ((atL P t).2 + (if hB (atL P t).1 < 0 then -(hB (atL P t).1) else 0)).toInt ∧ ((atL P t).2 + (if hB (atL P t).1 < 0 then -(hB (atL P t).1) else 0)).toInt ≤ B + 1584
      by_cases q : hB (atL P t).1 < 0
      · rw [if_pos q]
        have q2 := (i_lt0 _).mp q
        have e := i_neg (x := hB (atL P t).1) (B := 1584) (by omega) h2
        rw [i_add (by omega) (by omega), e]; omega
      · rw [if_neg q, Int32.add_zero]; omega
    have hz : 0 ≤ (gZ hB pl (atL P t)).2.toInt ∧ (gZ hB pl (atL P t)).2.toInt ≤ B + 1584 := by
      show 0 ≤ ((atL P t).2 + (if 0 < hB (atL P t).1 then hB (atL P t).1 else 0)).toInt ∧ ((atL P t).2 + (if 0 < hB (atL P t).1 then hB (atL P t).1 else 0)).toInt ≤ B + 1584
      by_cases q : 0 < hB (atL P t).1
      · rw [if_pos q]
        have q2 := (i_0lt _).mp q
        rw [i_add (by omega) (by omega)]; omega
      · rw [if_neg q, Int32.add_zero]; omega
    by_cases ho : o = true
    · rw [grT_t hB pl ho]
      exact okP_push (okP_push (ih (by omega)) ha) hz
    · rw [grT_f hB pl ho]
      exact okP_push (ih (by omega)) ha
theorem okP_pth {n : Nat} (hn : okN n) {vf : Nat → Int32} (hv : okV vf) (mask : Int32) (lim : Nat) : ∀ p : Nat, p ≤ 16 → okP (1584 * p) (pthL n mask vf lim p) := by
  intro p
  induction p with
  | zero =>
    intro _ t ht
    have : t = 0 := by have h : t < 1 := ht; omega
    subst this
    show 0 ≤ (0 : Int32).toInt ∧ (0 : Int32).toInt ≤ 1584 * ((0 : Nat) : Int)
    decide
  | succ p ih =>
    intro hp
    have h1 := ih (by omega)
    have h2 := okP_grT (B := 1584 * p) (by omega) (by omega) h1 (hea n vf p) (fun b => hea_b hn hv p b) p (decide (opn mask p)) _ (Nat.le_refl _)
    have h3 := okP_keep h2 lim
    intro t ht
    have := h3 t ht
    show _ ∧ (atL (keepL lim (grw (hea n vf p) p (decide (opn mask p)) (pthL n mask vf lim p))) t).2.toInt ≤ _
    refine ⟨this.1, Int.le_trans this.2 ?_⟩
    rw [show ((p + 1 : Nat) : Int) = (p : Int) + 1 by omega]
    omega
theorem pth_len {n : Nat} {mask : Int32} {vf : Nat → Int32} {lim : Nat} (h1 : 1 ≤ lim) : ∀ p : Nat, 1 ≤ (pthL n mask vf lim p).length ∧ (pthL n mask vf lim p).length ≤ lim := by
  intro p
  induction p with
  | zero => exact ⟨Nat.le_refl 1, h1⟩
  | succ p ih =>
    refine ⟨keep_pos ?_ h1, kp_len (Nat.le_refl _)⟩
    show 0 < (grT _ _ _ _ _).length
    rw [grT_len]
    have := ih.1
    split <;> omega
theorem rdL_len {n : Nat} {mask : Int32} {vf : Nat → Int32} {lim : Nat} (h1 : 1 ≤ lim) : 1 ≤ (rdL n mask vf lim).length ∧ (rdL n mask vf lim).length ≤ lim := by
  unfold rdL
  rw [ordL_len]
  exact pth_len h1 n
/-- which path is read -/
abbrev rgt (n : Nat) (mask : Int32) (sf : Nat → Int32) (msg : Int32) : Prop := msg >>> (nI (bdB mask n sf) &&& 31) = chk msg (bdB mask n sf) (ckB mask n sf)
def msP (n : Nat) (mask : Int32) (P : PL) (t : Nat) : Int32 := mso mask (atL P t).1 n
def fstX (n : Nat) (mask : Int32) (sf : Nat → Int32) (P : PL) : Nat → Nat
  | 0 => 0
  | t + 1 => if fstX n mask sf P t < t then fstX n mask sf P t else if rgt n mask sf (msP n mask P t) then t else t + 1
def rrk (n : Nat) (mask : Int32) (sf : Nat → Int32) (P : PL) (t : Nat) : Int32 := if fstX n mask sf P t < t then nI (fstX n mask sf P t) else -1
theorem fstX_le (n : Nat) (mask : Int32) (sf : Nat → Int32) (P : PL) (t : Nat) : fstX n mask sf P t ≤ t := by
  induction t with
  | zero => exact Nat.le_refl 0
  | succ t ih =>
    show (if fstX n mask sf P t < t then fstX n mask sf P t else if rgt n mask sf (msP n mask P t) then t else t + 1) ≤ t + 1
    split
    · omega
    · split <;> omega
theorem nI_m1 {k : Nat} (hk : k < 2 ^ 31) : ¬ nI k = -1 := fun h => by
  have h2 : (nI k).toInt = (-1 : Int32).toInt := by rw [h]
  rw [nI_toInt hk] at h2
  have h3 : (-1 : Int32).toInt = -1 := by decide
  omega
theorem rrk_s {n : Nat} {mask : Int32} {sf : Nat → Int32} {P : PL} {t : Nat} (ht : t < 1000) : rrk n mask sf P (t + 1) = if rgt n mask sf (msP n mask P t) ∧ rrk n mask sf P t = -1 then nI t else rrk n mask sf P t := by
  have hle := fstX_le n mask sf P t
  have e1 : rrk n mask sf P (t + 1) = if (if fstX n mask sf P t < t then fstX n mask sf P t else if rgt n mask sf (msP n mask P t) then t else t + 1) < t + 1 then nI (if fstX n mask sf P t < t then fstX n mask sf P t else if rgt n mask sf (msP n mask P t) then t else t + 1) else -1 := rfl
  rw [e1]
  by_cases h : fstX n mask sf P t < t
  · have e2 : rrk n mask sf P t = nI (fstX n mask sf P t) := if_pos h
    rw [if_pos h, if_pos (by omega), e2, if_neg (fun h9 => nI_m1 (by omega) h9.2)]
  · have e2 : rrk n mask sf P t = -1 := if_neg h
    rw [if_neg h, e2]
    by_cases g : rgt n mask sf (msP n mask P t)
    · rw [if_pos g, if_pos (by omega), if_pos ⟨g, rfl⟩]
    · rw [if_neg g, if_neg (by omega), if_neg (fun h9 => g h9.1)]
/-- the message that is read, or -1 -/
def rdM (n : Nat) (mask : Int32) (sf : Nat → Int32) (P : PL) : Int32 := if fstX n mask sf P P.length < P.length then msP n mask P (fstX n mask sf P P.length) else -1
/-- how many are right -/
def rgC (n : Nat) (mask : Int32) (sf : Nat → Int32) (P : PL) : Nat → Nat
  | 0 => 0
  | t + 1 => rgC n mask sf P t + (if rgt n mask sf (msP n mask P t) then 1 else 0)
theorem rgC_le (n : Nat) (mask : Int32) (sf : Nat → Int32) (P : PL) (t : Nat) : rgC n mask sf P t ≤ t := by
  induction t with
  | zero => exact Nat.le_refl 0
  | succ t ih =>
    show rgC n mask sf P t + (if rgt n mask sf (msP n mask P t) then 1 else 0) ≤ t + 1
    split <;> omega
theorem b_dec (c : Prop) [Decidable c] : (if c then (1 : Int32) else 0) = (if decide c = true then 1 else 0) := by
  by_cases h : c
  · rw [if_pos h, if_pos (decide_eq_true h)]
  · rw [if_neg h, if_neg (by simpa using h)]
theorem okP_mono {B C : Int} {P : PL} (h : okP B P) (hBC : B ≤ C) : okP C P := fun t ht => ⟨(h t ht).1, Int.le_trans (h t ht).2 hBC⟩
theorem okP_g {n : Nat} (hn : okN n) {vf : Nat → Int32} (hv : okV vf) (mask : Int32) (lim : Nat) {i : Nat} (hi : i < 16) : okP 100000 (grw (hea n vf i) i (decide (opn mask i)) (pthL n mask vf lim i)) :=
  okP_mono (okP_grT (B := 1584 * i) (by omega) (by omega) (okP_pth hn hv mask lim i (by omega)) _ (fun b => hea_b hn hv i b) _ _ _ (Nat.le_refl _)) (by omega)
theorem okP_100 {n : Nat} (hn : okN n) {vf : Nat → Int32} (hv : okV vf) (mask : Int32) (lim i : Nat) (hi : i ≤ 16) : okP 100000 (pthL n mask vf lim i) :=
  okP_mono (okP_pth hn hv mask lim i hi) (by omega)
theorem rrk_p {n : Nat} {mask : Int32} {sf : Nat → Int32} {P : PL} (h : fstX n mask sf P P.length < P.length) : rrk n mask sf P P.length = nI (fstX n mask sf P P.length) := if_pos h
theorem rrk_n {n : Nat} {mask : Int32} {sf : Nat → Int32} {P : PL} (h : ¬ fstX n mask sf P P.length < P.length) : rrk n mask sf P P.length = -1 := if_neg h
