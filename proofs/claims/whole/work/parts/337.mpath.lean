/-! THE MODEL: the bits of a path lie at open places -/
theorem nI_or (a b : Nat) : nI a ||| nI b = nI (a ||| b) := by
  apply Int32.toBitVec_inj.mp
  show BitVec.ofNat 32 a ||| BitVec.ofNat 32 b = BitVec.ofNat 32 (a ||| b)
  rw [← BitVec.ofNat_or]
def okB (mask : Int32) (p : Nat) (b : Int32) : Prop := ∃ a : Nat, a < 2 ^ p ∧ b = nI a ∧ ∀ j, a.testBit j = true → opn mask j
theorem okB_0 (mask : Int32) (p : Nat) : okB mask p 0 := ⟨0, Nat.pow_pos (by decide), rfl, fun j h => by rw [Nat.zero_testBit] at h; exact absurd h (by decide)⟩
theorem okB_up {mask : Int32} {p : Nat} {b : Int32} (h : okB mask p b) : okB mask (p + 1) b := by
  obtain ⟨a, ha, e, hb⟩ := h
  exact ⟨a, by rw [Nat.pow_succ]; omega, e, hb⟩
theorem okB_or {mask : Int32} {p : Nat} {b : Int32} (hp : p < 16) (h : okB mask p b) (ho : opn mask p) : okB mask (p + 1) (b ||| (1 <<< (nI p &&& 31))) := by
  obtain ⟨a, ha, e, hb⟩ := h
  refine ⟨a ||| 2 ^ p, ?_, ?_, ?_⟩
  · exact Nat.or_lt_two_pow (by rw [Nat.pow_succ]; omega) (Nat.pow_lt_pow_right (by decide) (by omega))
  · rw [e, pow_l p (by omega), nI_or]
  · intro j hj
    rw [Nat.testBit_or, Nat.testBit_two_pow] at hj
    simp only [Bool.or_eq_true, decide_eq_true_eq] at hj
    rcases hj with hj | hj
    · exact hb j hj
    · rw [← hj]; exact ho
def okQ (mask : Int32) (p : Nat) (P : PL) : Prop := ∀ q, q ∈ P → okB mask p q.1
theorem okQ_at {mask : Int32} {p : Nat} {P : PL} (h : okQ mask p P) (i : Nat) : okB mask p (atL P i).1 := by
  unfold atL
  by_cases hi : i < P.length
  · rw [← List.getElem_eq_getD (h := hi) (0, 0)]; exact h _ (List.getElem_mem hi)
  · rw [List.getD_eq_getElem?_getD, List.getElem?_eq_none (by omega)]; exact okB_0 mask p
theorem okQ_kp {mask : Int32} {p : Nat} {P : PL} (h : okQ mask p P) (lim : Nat) : ∀ t, okQ mask p (kpL P lim t) := by
  intro t
  induction t with
  | zero => intro q hq; cases hq
  | succ t ih =>
    intro q hq
    have hq : q ∈ (if rk P t < lim then kpL P lim t ++ [atL P t] else kpL P lim t) := hq
    by_cases e : rk P t < lim
    · rw [if_pos e] at hq
      rcases List.mem_append.mp hq with h1 | h1
      · exact ih q h1
      · rw [List.mem_singleton] at h1; subst h1; exact okQ_at h t
    · rw [if_neg e] at hq; exact ih q hq
theorem okQ_grT {mask : Int32} {p : Nat} {P : PL} (hp : p < 16) (h : okQ mask p P) (hB : Int32 → Int32) (o : Bool) (ho : o = true → opn mask p) : ∀ t, okQ mask (p + 1) (grT hB p o P t) := by
  intro t
  induction t with
  | zero => intro q hq; cases hq
  | succ t ih =>
    intro q hq
    have hq : q ∈ grT hB p o P t ++ g1 hB p o (atL P t) := hq
    rcases List.mem_append.mp hq with h1 | h1
    · exact ih q h1
    · unfold g1 at h1
      rcases List.mem_cons.mp h1 with h2 | h2
      · rw [h2]; exact okB_up (okQ_at h t)
      · cases o with
        | true => rw [if_pos rfl, List.mem_singleton] at h2; rw [h2]; exact okB_or hp (okQ_at h t) (ho rfl)
        | false => rw [if_neg (by decide)] at h2; cases h2
theorem okQ_pth (n : Nat) (mask : Int32) (vf : Nat → Int32) (lim : Nat) : ∀ p, p ≤ 16 → okQ mask p (pthL n mask vf lim p) := by
  intro p
  induction p with
  | zero =>
    intro _ q hq
    have hq : q ∈ [((0 : Int32), (0 : Int32))] := hq
    rw [List.mem_singleton] at hq
    rw [hq]; exact okB_0 mask 0
  | succ p ih =>
    intro hp
    exact okQ_kp (okQ_grT (by omega) (ih (by omega)) (hea n vf p) (decide (opn mask p)) (fun h => of_decide_eq_true h) _) lim _
theorem okQ_ord {mask : Int32} {p : Nat} {P : PL} (h : okQ mask p P) : okQ mask p (ordL P) := by
  intro q hq
  unfold ordL at hq
  obtain ⟨r, -, e⟩ := List.mem_map.mp hq
  rw [← e]; exact okQ_at h _
theorem okQ_rd {n : Nat} (hn : n ≤ 16) (mask : Int32) (vf : Nat → Int32) (lim : Nat) : okQ mask n (rdL n mask vf lim) := okQ_ord (okQ_pth n mask vf lim n hn)
theorem bit_if {a k : Nat} (ha : a < 65536) (hk : k < 32) : bitI (nI a) k = (if a.testBit k = true then 1 else 0) := by
  have h2 := Nat.mod_two_eq_zero_or_one (a / 2 ^ k)
  have ho := opn_N (n := a) (p := k) (by omega) hk
  by_cases h : a.testBit k = true
  · rw [if_pos h]; exact ho.mpr h
  · rw [if_neg h, bitI_N (by omega) hk]
    rcases h2 with e | e
    · rw [e]; rfl
    · exact absurd (ho.mp (by show bitI (nI a) k = 1; rw [bitI_N (by omega) hk, e]; rfl)) h
theorem sh1 (c : Prop) [Decidable c] {k : Nat} (hk : k < 31) : (if c then (1 : Int32) else 0) <<< (nI k &&& 31) = nI (if c then 2 ^ k else 0) := by
  by_cases h : c
  · rw [if_pos h, if_pos h]; exact pow_l k hk
  · rw [if_neg h, if_neg h]; exact Int32.zero_shiftLeft
theorem cntO_up {mask : Int32} {j : Nat} (ho : opn mask j) : ∀ k, j < k → cntO mask j < cntO mask k := by
  intro k
  induction k with
  | zero => intro h; exact absurd h (Nat.not_lt_zero j)
  | succ k ih =>
    intro h
    show cntO mask j < cntO mask k + (if opn mask k then 1 else 0)
    by_cases e : j = k
    · subst e; rw [if_pos ho]; omega
    · have := ih (by omega); omega
theorem mso_N {mask : Int32} {a : Nat} (ha : a < 65536) : ∀ k, k ≤ 16 → ∃ M : Nat, M < 2 ^ cntO mask k ∧ mso mask (nI a) k = nI M ∧ ∀ j, j < k → opn mask j → M.testBit (cntO mask j) = a.testBit j := by
  intro k
  induction k with
  | zero => intro _; exact ⟨0, Nat.pow_pos (by decide), rfl, fun j hj => absurd hj (Nat.not_lt_zero j)⟩
  | succ k ih =>
    intro hk
    obtain ⟨M, hM, e, hb⟩ := ih (by omega)
    have hc := cntO_le mask k
    by_cases ho : opn mask k
    · have ec : cntO mask (k + 1) = cntO mask k + 1 := by
        show cntO mask k + (if opn mask k then 1 else 0) = _
        rw [if_pos ho]
      refine ⟨M ||| (if a.testBit k = true then 2 ^ cntO mask k else 0), ?_, ?_, ?_⟩
      · rw [ec]
        refine Nat.or_lt_two_pow (by rw [Nat.pow_succ]; omega) ?_
        by_cases h : a.testBit k = true
        · rw [if_pos h]; exact Nat.pow_lt_pow_right (by decide) (by omega)
        · rw [if_neg h]; exact Nat.pow_pos (by decide)
      · show (if opn mask k then mso mask (nI a) k ||| (bitI (nI a) k <<< (nI (cntO mask k) &&& 31)) else mso mask (nI a) k) = _
        rw [if_pos ho, e, bit_if ha (by omega), sh1 _ (by omega), nI_or]
      · intro j hj hoj
        rw [Nat.testBit_or]
        by_cases e2 : j = k
        · subst e2
          rw [Nat.testBit_lt_two_pow hM, Bool.false_or]
          by_cases h : a.testBit j = true
          · rw [if_pos h, Nat.testBit_two_pow_self, h]
          · rw [if_neg h, Nat.zero_testBit]; exact (Bool.eq_false_iff.mpr h).symm
        · have hlt := cntO_up hoj k (by omega)
          have h0 : (if a.testBit k = true then 2 ^ cntO mask k else 0).testBit (cntO mask j) = false := by
            by_cases h : a.testBit k = true
            · rw [if_pos h, Nat.testBit_two_pow]; exact decide_eq_false (by omega)
            · rw [if_neg h, Nat.zero_testBit]
          rw [h0, Bool.or_false]
          exact hb j (by omega) hoj
    · have ec : cntO mask (k + 1) = cntO mask k := by
        show cntO mask k + (if opn mask k then 1 else 0) = _
        rw [if_neg ho]; rfl
      refine ⟨M, by rw [ec]; exact hM, ?_, fun j hj hoj => ?_⟩
      · show (if opn mask k then mso mask (nI a) k ||| (bitI (nI a) k <<< (nI (cntO mask k) &&& 31)) else mso mask (nI a) k) = _
        rw [if_neg ho]; exact e
      · by_cases e2 : j = k
        · subst e2; exact absurd hoj ho
        · exact hb j (by omega) hoj
theorem lt_up {j k : Nat} (e : ¬ k = j) : decide (j < k + 1) = decide (j < k) := by
  by_cases h : j < k
  · rw [decide_eq_true h, decide_eq_true (show j < k + 1 by omega)]
  · rw [decide_eq_false h, decide_eq_false (show ¬ j < k + 1 by omega)]
theorem mod_up (a k : Nat) : a % 2 ^ (k + 1) = a % 2 ^ k ||| (if a.testBit k = true then 2 ^ k else 0) := by
  apply Nat.eq_of_testBit_eq
  intro j
  rw [Nat.testBit_or, Nat.testBit_mod_two_pow, Nat.testBit_mod_two_pow]
  by_cases h : a.testBit k = true
  · rw [if_pos h, Nat.testBit_two_pow]
    by_cases e : k = j
    · subst e; simp [h]
    · rw [lt_up e]; simp [e]
  · rw [if_neg h, Nat.zero_testBit, Bool.or_false]
    by_cases e : k = j
    · subst e; simp [h]
    · rw [lt_up e]
theorem wrd_back {mask : Int32} {a M n : Nat} (hn : n ≤ 16) (hM : M < 65536) (hb : ∀ j, j < n → opn mask j → M.testBit (cntO mask j) = a.testBit j) (ho : ∀ j, a.testBit j = true → opn mask j) : ∀ k, k ≤ n → wrd mask (nI M) k = nI (a % 2 ^ k) := by
  intro k
  induction k with
  | zero => intro _; rw [Nat.pow_zero, Nat.mod_one]; rfl
  | succ k ih =>
    intro hk
    have hc := cntO_le mask k
    show (if opn mask k then wrd mask (nI M) k ||| (bitI (nI M) (cntO mask k) <<< (nI k &&& 31)) else wrd mask (nI M) k) = _
    rw [ih (by omega), mod_up]
    by_cases o : opn mask k
    · rw [if_pos o, bit_if hM (by omega), hb k (by omega) o, sh1 _ (by omega), nI_or]
    · rw [if_neg o, if_neg (fun h => o (ho k h)), Nat.or_zero]
theorem wrd_mso {n : Nat} {mask b : Int32} (hn : n ≤ 16) (h : okB mask n b) : wrd mask (mso mask b n) n = b := by
  obtain ⟨a, ha, e, ho⟩ := h
  subst e
  have hp : (2 : Nat) ^ n ≤ 2 ^ 16 := Nat.pow_le_pow_right (by decide) hn
  obtain ⟨M, hM, em, hb⟩ := mso_N (mask := mask) (a := a) (by omega) n hn
  have hc := cntO_le mask n
  have hp2 : (2 : Nat) ^ cntO mask n ≤ 2 ^ 16 := Nat.pow_le_pow_right (by decide) (by omega)
  rw [em, wrd_back hn (by omega) hb ho n (Nat.le_refl n), Nat.mod_eq_of_lt ha]
theorem cod_path {n : Nat} {mask : Int32} {vf : Nat → Int32} {lim : Nat} (hn : n ≤ 16) (i : Nat) : cod (atL (rdL n mask vf lim) i).1 n = wof n mask (msP n mask (rdL n mask vf lim) i) := by
  unfold wof msP
  rw [wrd_mso hn (okQ_at (okQ_rd hn mask vf lim) i)]
theorem thPath_no1 {k q : Int32} (h : k < 0) : thPath k q = 1 := by
  unfold thPath
  exact if_neg (fun z => absurd h (Int32.not_lt.mpr z.1))
theorem thPath_no2 {k q : Int32} (h : ¬ (0 ≤ q ∧ q ≤ 2)) : thPath k q = 1 := by
  unfold thPath
  exact if_neg (fun z => h z.2)
theorem thPath_ok {k q : Int32} (h : 0 ≤ k) (h2 : 0 ≤ q ∧ q ≤ 2) : thPath k q = 0 := by
  unfold thPath
  exact if_pos ⟨h, h2⟩
theorem dcmp_self {x : UInt64} (h : shr1 x) : Op.cmpValue (FP.dcmp x x) .l = 0 := by
  have hn : Jvm.FP.Core.val64 x ≠ .nan := by
    rcases h with rfl | ⟨c, k, hk, hc, rfl⟩
    · exact zero_num
    · exact XD_num hc
  rw [show FP.dcmp x x = _ from Jvm.FP.Core.dcmp_key hn hn]
  rw [show compare (Jvm.FP.Core.dkey x) (Jvm.FP.Core.dkey x) = .eq from Std.ReflCmp.compare_self]
  rfl
