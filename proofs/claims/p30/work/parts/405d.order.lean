/-! PURE: the paths' order, which one is read, how many are right -/
theorem ord_srt {P : PL} {r : Nat} (h : r + 1 < P.length) : (atL (ordL P) r).2 ≤ (atL (ordL P) (r + 1)).2 := by
  obtain ⟨t, ht, e⟩ := rk_onto (P := P) (r := r) (by omega)
  obtain ⟨u, hu, e2⟩ := rk_onto (P := P) (r := r + 1) h
  have e3 : atL (ordL P) r = atL P t := (congrArg (atL (ordL P)) e).symm.trans (ordL_at ht)
  have e4 : atL (ordL P) (r + 1) = atL P u := (congrArg (atL (ordL P)) e2).symm.trans (ordL_at hu)
  rw [e3, e4]
  refine Int32.not_lt.mp (fun c => ?_)
  have hb : btr (penF P) u t := Or.inl c
  have h1 : rk P u < rk P t := rkF_mono (penF P) hu hb
  omega
def lastF (P : PL) : Nat → Int32
  | 0 => 0
  | k + 1 => (atL P k).2
theorem okP_ord {B : Int} {P : PL} (h : okP B P) : okP B (ordL P) := by
  intro i hi
  rw [ordL_len] at hi
  obtain ⟨t, ht, e⟩ := rk_onto hi
  rw [← e, ordL_at ht]
  exact h t ht
theorem last_le {n : Nat} (hn : okN n) {vf : Nat → Int32} (hv : okV vf) (mask : Int32) (lim : Nat) {k : Nat} (hk : k < (rdL n mask vf lim).length) : lastF (rdL n mask vf lim) k ≤ (atL (rdL n mask vf lim) k).2 := by
  cases k with
  | zero =>
    have h := okP_ord (okP_100 hn hv mask lim n hn.le.2) 0 hk
    show (0 : Int32) ≤ (atL (ordL (pthL n mask vf lim n)) 0).2
    rw [Int32.le_iff_toInt_le]
    exact h.1
  | succ k =>
    have hk : k + 1 < (ordL (pthL n mask vf lim n)).length := hk
    rw [ordL_len] at hk
    exact ord_srt hk
theorem cntO_0 {mask : Int32} : ∀ {n : Nat}, cntO mask n = 0 → ∀ j, j < n → ¬ opn mask j := by
  intro n
  induction n with
  | zero => intro _ j hj; exact absurd hj (Nat.not_lt_zero j)
  | succ n ih =>
    intro h j hj ho
    have h : cntO mask n + (if opn mask n then 1 else 0) = 0 := h
    by_cases e : j = n
    · subst e
      rw [if_pos ho] at h
      omega
    · exact ih (by omega) j (by omega) ho
theorem pth_one {n : Nat} {mask : Int32} {vf : Nat → Int32} {lim : Nat} : ∀ p, (∀ j, j < p → ¬ opn mask j) → (pthL n mask vf lim p).length ≤ 1 := by
  intro p
  induction p with
  | zero => intro _; exact Nat.le_refl 1
  | succ p ih =>
    intro h
    have h1 := ih (fun j hj => h j (by omega))
    refine Nat.le_trans (kp_le _ lim _) ?_
    show (grT (hea n vf p) p (decide (opn mask p)) (pthL n mask vf lim p) (pthL n mask vf lim p).length).length ≤ 1
    rw [grT_len, decide_eq_false (h p (by omega)), if_neg (by decide)]
    omega
/-- with no open place there is one path -/
theorem rd_one {n : Nat} {mask : Int32} {vf : Nat → Int32} {lim : Nat} (h1 : 1 ≤ lim) (h : cntO mask n = 0) : (rdL n mask vf lim).length = 1 := by
  have a1 := (rdL_len (n := n) (mask := mask) (vf := vf) h1).1
  have a2 := pth_one (n := n) (mask := mask) (vf := vf) (lim := lim) n (cntO_0 h)
  have a3 : (rdL n mask vf lim).length = (pthL n mask vf lim n).length := ordL_len _
  omega
/-- without check bits each path is right -/
theorem rgt_0 {n : Nat} (hn : n ≤ 16) {mask : Int32} {vf sf : Nat → Int32} {lim : Nat} (h : ckB mask n sf = 0) (i : Nat) : rgt n mask sf (msP n mask (rdL n mask vf lim) i) := by
  obtain ⟨a, ha, e, -⟩ := okQ_at (okQ_rd hn mask vf lim) i
  have h16 : 2 ^ n ≤ 2 ^ 16 := Nat.pow_le_pow_right (by decide) hn
  obtain ⟨M, hM, em, -⟩ := mso_N (mask := mask) (a := a) (by omega) n hn
  have hb := bd_ck mask n sf
  have hc := cntO_le mask n
  have e1 : bdB mask n sf = cntO mask n := by omega
  have hM2 : M < 2 ^ 16 := Nat.lt_of_lt_of_le hM (Nat.pow_le_pow_right (by decide) (by omega))
  show msP n mask (rdL n mask vf lim) i >>> (nI (bdB mask n sf) &&& 31) = chk _ (bdB mask n sf) (ckB mask n sf)
  unfold msP chk
  rw [e, em, e1, h, shr_N (by omega) (by omega), Nat.div_eq_of_lt hM, low_m 0 (by decide)]
  show nI 0 = _ &&& nI 0
  rw [nI_0, Int32.and_zero]
theorem fst_0 {n : Nat} (hn : n ≤ 16) {mask : Int32} {vf sf : Nat → Int32} {lim : Nat} (h1 : 1 ≤ lim) (h : ckB mask n sf = 0) : fstX n mask sf (rdL n mask vf lim) (rdL n mask vf lim).length = 0 :=
  fstX_f (t := 0) rfl (rgt_0 hn h 0) _ (rdL_len h1).1
/-! steps of the loop over the paths -/
theorem rrk_1 {n : Nat} {mask : Int32} {sf : Nat → Int32} {P : PL} {t : Nat} (ht : t < 1000) (h : ¬ rgt n mask sf (msP n mask P t)) : rrk n mask sf P t = rrk n mask sf P (t + 1) := by
  rw [rrk_s ht, if_neg (fun z => h z.1)]
theorem rrk_2 {n : Nat} {mask : Int32} {sf : Nat → Int32} {P : PL} {t : Nat} (ht : t < 1000) (h : fstX n mask sf P t < t) : rrk n mask sf P t = rrk n mask sf P (t + 1) := by
  have e : rrk n mask sf P t = nI (fstX n mask sf P t) := if_pos h
  rw [rrk_s ht, if_neg (fun z => nI_m1 (by omega) (e.symm.trans z.2))]
theorem rrk_3 {n : Nat} {mask : Int32} {sf : Nat → Int32} {P : PL} {t : Nat} (ht : t < 1000) (h : ¬ fstX n mask sf P t < t) (hr : rgt n mask sf (msP n mask P t)) : nI t = rrk n mask sf P (t + 1) := by
  have e : rrk n mask sf P t = -1 := if_neg h
  rw [rrk_s ht, if_pos ⟨hr, e⟩]
/-! answers of the looks, by what is asked -/
section A
variable (n : Nat) (mask : Int32) (vf sf : Nat → Int32)
theorem plA_0 (p : Nat) : plA n mask vf sf p 0 = (if opn mask p then 1 else 0) := by
  unfold plA; rw [if_pos rfl]
theorem plA_1 (p : Nat) : plA n mask vf sf p 1 = uns sf n p := by
  unfold plA; rw [if_neg (by decide), if_pos rfl]
theorem plA_3 (p : Nat) : plA n mask vf sf p 3 = vf p + 100 := by
  unfold plA; rw [if_neg (by decide), if_neg (by decide), if_neg (by decide), if_pos rfl]
theorem plA_4 (p : Nat) : plA n mask vf sf p 4 = (if opn mask p then nI (cntO mask p) else -1) := by
  unfold plA; rw [if_neg (by decide), if_neg (by decide), if_neg (by decide), if_neg (by decide), if_pos rfl]
theorem plA_5 (p : Nat) : plA n mask vf sf p 5 = (if opn mask p ∧ bdB mask n sf ≤ cntO mask p then 1 else 0) := by
  unfold plA; rw [if_neg (by decide), if_neg (by decide), if_neg (by decide), if_neg (by decide), if_neg (by decide)]
variable (P : PL) (c : Nat)
theorem ctA_0 : ctA n mask vf sf P c 0 = nI n := by
  unfold ctA; rw [if_pos rfl]
theorem ctA_1 : ctA n mask vf sf P c 1 = nI (cntO mask n) := by
  unfold ctA; rw [if_neg (by decide), if_pos rfl]
theorem ctA_2 : ctA n mask vf sf P c 2 = nI (bdB mask n sf) := by
  unfold ctA; rw [if_neg (by decide), if_neg (by decide), if_pos rfl]
theorem ctA_3 : ctA n mask vf sf P c 3 = nI (ckB mask n sf) := by
  unfold ctA; rw [if_neg (by decide), if_neg (by decide), if_neg (by decide), if_pos rfl]
theorem ctA_6 : ctA n mask vf sf P c 6 = nI P.length := by
  unfold ctA; rw [if_neg (by decide), if_neg (by decide), if_neg (by decide), if_neg (by decide), if_neg (by decide), if_neg (by decide), if_pos rfl]
theorem ctA_7 : ctA n mask vf sf P c 7 = nI (rgC n mask sf P P.length) := by
  unfold ctA; rw [if_neg (by decide), if_neg (by decide), if_neg (by decide), if_neg (by decide), if_neg (by decide), if_neg (by decide), if_neg (by decide), if_pos rfl]
theorem ctA_8 : ctA n mask vf sf P c 8 = nI c := by
  unfold ctA; rw [if_neg (by decide), if_neg (by decide), if_neg (by decide), if_neg (by decide), if_neg (by decide), if_neg (by decide), if_neg (by decide), if_neg (by decide)]
theorem rdA_0 : rdA n mask vf sf P 0 = rdM n mask sf P := by
  unfold rdA rdM
  by_cases h : fstX n mask sf P P.length < P.length
  · rw [if_pos h, if_pos h, if_pos rfl]
  · rw [if_neg h, if_neg h]
theorem rdA_2 : rdA n mask vf sf P 2 = rrk n mask sf P P.length := by
  unfold rdA rrk
  by_cases h : fstX n mask sf P P.length < P.length
  · rw [if_pos h, if_pos h, if_neg (by decide), if_neg (by decide), if_pos rfl]
  · rw [if_neg h, if_neg h]
theorem rdA_3p (h : fstX n mask sf P P.length < P.length) : rdA n mask vf sf P 3 = (atL P (fstX n mask sf P P.length)).2 := by
  unfold rdA
  rw [if_pos h, if_neg (by decide), if_neg (by decide), if_neg (by decide), if_pos rfl]
theorem rdA_n (h : ¬ fstX n mask sf P P.length < P.length) (q : Int32) : rdA n mask vf sf P q = -1 := by
  unfold rdA
  rw [if_neg h]
theorem rdA_4p (h : fstX n mask sf P P.length < P.length) : rdA n mask vf sf P 4 = nI (difS (wof n mask (msP n mask P (fstX n mask sf P P.length))) vf n) := by
  unfold rdA
  rw [if_pos h, if_neg (by decide), if_neg (by decide), if_neg (by decide), if_neg (by decide)]
theorem rdM_p (h : fstX n mask sf P P.length < P.length) : rdM n mask sf P = msP n mask P (fstX n mask sf P P.length) := by
  unfold rdM; rw [if_pos h]
theorem rdM_n (h : ¬ fstX n mask sf P P.length < P.length) : rdM n mask sf P = -1 := by
  unfold rdM; rw [if_neg h]
theorem ptA_0 {k : Nat} (h : k < P.length) (hl : P.length < 1000) : ptA n mask sf P (nI k) 0 = msP n mask P k := by
  unfold ptA
  rw [if_neg (fun z => absurd ((nI_leI (by omega) (by omega)).mp z) (by omega)), if_pos rfl, nI_clamp (by omega)]
theorem ptA_1 {k : Nat} (h : k < P.length) (hl : P.length < 1000) : ptA n mask sf P (nI k) 1 = (atL P k).2 := by
  unfold ptA
  rw [if_neg (fun z => absurd ((nI_leI (by omega) (by omega)).mp z) (by omega)), if_neg (by decide), if_pos rfl, nI_clamp (by omega)]
theorem ptA_2 {k : Nat} (h : k < P.length) (hl : P.length < 1000) : ptA n mask sf P (nI k) 2 = (if rgt n mask sf (msP n mask P k) then 1 else 0) := by
  unfold ptA
  rw [if_neg (fun z => absurd ((nI_leI (by omega) (by omega)).mp z) (by omega)), if_neg (by decide), if_neg (by decide), nI_clamp (by omega)]
end A
theorem one_if (c : Prop) [Decidable c] : (if (if c then (1 : Int32) else 0) = 1 then (1 : Int32) else 0) = (if c then 1 else 0) := by
  by_cases h : c
  · rw [if_pos h, if_pos rfl]
  · rw [if_neg h, if_neg (by decide)]
theorem nlt_if (a b : Nat) : (if ¬ a < b then (1 : Int32) else 0) = (if b ≤ a then 1 else 0) := g_iff Nat.not_lt 1 0
theorem ifP_rd (n : Nat) (mask : Int32) (vf sf : Nat → Int32) : ifP n mask vf sf (lmN sf) = rdM n mask sf (rdS n mask vf sf) := rfl
