/-! THE MODEL: facts for its looks -/
theorem chkF {mask : Int32} {n p : Nat} {sf : Nat → Int32} (hp : p ≤ 16) (hn : n ≤ 16) : (if ¬ ((if opn mask p then nI (cntO mask p) else -1) < nI (bdB mask n sf)) then (1 : Int32) else 0) = (if opn mask p ∧ bdB mask n sf ≤ cntO mask p then 1 else 0) := by
  have hc := cntO_le mask p
  have hb := bdB_le mask n sf
  refine g_iff ?_ _ _
  by_cases ho : opn mask p
  · rw [if_pos ho]
    constructor
    · intro h
      exact ⟨ho, Nat.not_lt.mp (fun z => h ((nI_ltI (a := cntO mask p) (b := bdB mask n sf) (by omega) (by omega)).mpr z))⟩
    · intro h z
      have h1 := (nI_ltI (a := cntO mask p) (b := bdB mask n sf) (by omega) (by omega)).mp z
      have h2 := h.2
      omega
  · rw [if_neg ho]
    constructor
    · intro h
      refine absurd ?_ h
      have e1 : (nI (bdB mask n sf)).toInt = ((bdB mask n sf : Nat) : Int) := nI_toInt (by omega)
      rw [Int32.lt_iff_toInt_lt, e1]
      have : (-1 : Int32).toInt = -1 := by decide
      omega
    · intro h
      exact absurd h.1 ho
theorem flp_back (vf : Nat → Int32) (p : Nat) : upd (upd vf p (-(vf p))) p (-(-(vf p))) = vf := by
  funext j
  unfold upd
  by_cases e : j = p
  · rw [if_pos e, e, Int32.neg_neg]
  · rw [if_neg e, if_neg e]
theorem okS_k {sf : Nat → Int32} (h : okS sf) {k : Nat} (h1 : 1 ≤ k) (h4 : k ≤ 4) : okS (upd sf 1 (nI k)) := by
  obtain ⟨⟨a, a1, a2, ea⟩, -, ⟨c, c1, ec⟩, ⟨d, d1, d2, ed⟩⟩ := h
  exact ⟨⟨a, a1, a2, ea⟩, ⟨k, h1, h4, rfl⟩, ⟨c, c1, ec⟩, ⟨d, d1, d2, ed⟩⟩
theorem upd1_back (sf : Nat → Int32) (x : Int32) : upd (upd sf 1 x) 1 (sf 1) = sf := by
  funext j
  unfold upd
  by_cases e : j = 1
  · rw [if_pos e, e]
  · rw [if_neg e, if_neg e]
theorem fstX_k {n : Nat} {mask : Int32} {sf : Nat → Int32} (x : Int32) (P : PL) : ∀ t, fstX n mask (upd sf 1 x) P t = fstX n mask sf P t := by
  intro t
  induction t with
  | zero => rfl
  | succ t ih =>
    show (if fstX n mask (upd sf 1 x) P t < t then fstX n mask (upd sf 1 x) P t else if rgt n mask (upd sf 1 x) (msP n mask P t) then t else t + 1) = (if fstX n mask sf P t < t then fstX n mask sf P t else if rgt n mask sf (msP n mask P t) then t else t + 1)
    rw [ih]
    rfl
theorem ifP_eq {n : Nat} {mask : Int32} {vf sf : Nat → Int32} {k : Nat} (h4 : k ≤ 4) : rdN n mask vf (upd sf 1 (nI k)) = ifP n mask vf sf k := by
  have e : lmN (upd sf 1 (nI k)) = k := nI_clamp (by omega)
  unfold rdN rdS ifP
  rw [e]
  unfold rdM
  rw [fstX_k]
theorem wk_a {n : Nat} {mask : Int32} {vf sf : Nat → Int32} {i : Nat} (hi : i < n) (h : wkX n mask vf sf i = i) (e : ¬ ifF n mask vf sf i = rdN n mask vf sf) : nI i = wkA n mask vf sf := by
  unfold wkA
  rw [wkX_f h e n hi, if_pos hi]
theorem wk_e {n : Nat} {mask : Int32} {vf sf : Nat → Int32} (h : wkX n mask vf sf n = n) : (-1 : Int32) = wkA n mask vf sf := by
  unfold wkA
  rw [h, if_neg (Nat.lt_irrefl n)]
theorem flN_up (vf : Nat → Int32) (i : Nat) : upd (flN vf i) i (-(vf i)) = flN vf (i + 1) := by
  funext j
  unfold upd flN
  by_cases e : j = i
  · subst e; rw [if_pos rfl, if_pos (by omega)]
  · rw [if_neg e]
    exact g_iff (by omega) _ _
theorem flN_at (vf : Nat → Int32) (i : Nat) : flN vf i i = vf i := if_neg (Nat.lt_irrefl i)
theorem flN_0 (vf : Nat → Int32) : vf = flN vf 0 := by
  funext j; unfold flN; rw [if_neg (Nat.not_lt_zero j)]
theorem l_add_if (x a : Int64) (c : Prop) [Decidable c] : x + (if c then a else 0) = (if c then x + a else x) := by
  by_cases h : c
  · rw [if_pos h, if_pos h]
  · rw [if_neg h, if_neg h, Int64.add_zero]
theorem nI_zer (a : Nat) (x : Int32) : nI a + (if x = 0 then 1 else 0) = nI (a + (if x = 0 then 1 else 0)) := nI_ite a _
