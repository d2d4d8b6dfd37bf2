/-! FACTS on masks, bits, paths and words, as they stand among the rows of the whole -/
theorem nI_xor (a b : Nat) : nI a ^^^ nI b = nI (a ^^^ b) := by
  apply Int32.toBitVec_inj.mp
  show (BitVec.ofNat 32 a ^^^ BitVec.ofNat 32 b) = BitVec.ofNat 32 (a ^^^ b)
  rw [BitVec.ofNat_xor]
theorem shl_N {n k : Nat} (hk : k < 32) (h : n * 2 ^ k < 2 ^ 32) : nI n <<< (nI k &&& 31) = nI (n * 2 ^ k) := pk_shlN _ k (sh_l k hk) h
def tFn (k : Nat) : Nat := if k = 0 then 21845 else if k = 1 then 13107 else if k = 2 then 3855 else 255
theorem tF_n (k : Nat) : tF k = nI (tFn k) := by
  unfold tF tFn
  split
  · rfl
  · split
    · rfl
    · split <;> rfl
theorem tFn_bit : ∀ k, k < 4 → ∀ j, j < 16 → (tFn k).testBit j = decide (j / 2 ^ k % 2 = 0) := by decide
theorem tFn_lt (k : Nat) : tFn k < 65536 := by
  unfold tFn
  split
  · decide
  · split
    · decide
    · split <;> decide
theorem codS_N {a k : Nat} (ha : a < 65536) (hk : k < 4) {y : Int32} (e : y = nI a) : ∃ c : Nat, c < 65536 ∧ (y ^^^ ((y >>> ((1 <<< (nI k &&& 31)) &&& 31)) &&& tF k)) = nI c ∧ ∀ j, c.testBit j = (a.testBit j ^^ (a.testBit (j + 2 ^ k) && (tFn k).testBit j)) := by
  have hk2 := pw_le (k := k) (by omega)
  have h8 : 2 ^ k ≤ 8 := Nat.pow_le_pow_right (n := 2) (by decide) (show k ≤ 3 by omega)
  rw [e, pow_l k (by omega), shr_N (by omega) (by omega), tF_n, nI_and, nI_xor]
  refine ⟨_, ?_, rfl, fun j => ?_⟩
  · refine Nat.xor_lt_two_pow (n := 16) (by omega) (Nat.lt_of_le_of_lt Nat.and_le_right (tFn_lt k))
  · rw [Nat.testBit_xor, Nat.testBit_and, Nat.testBit_div_two_pow]
theorem kp_le (P : PL) (lim t : Nat) : (kpL P lim t).length ≤ t := by
  rw [kp_cnt]
  exact cnt_le _ t
theorem fstX_t {n : Nat} {mask : Int32} {sf : Nat → Int32} {P : PL} {t : Nat} (h : fstX n mask sf P t = t) (e : ¬ rgt n mask sf (msP n mask P t)) : fstX n mask sf P (t + 1) = t + 1 := by
  show (if fstX n mask sf P t < t then fstX n mask sf P t else if rgt n mask sf (msP n mask P t) then t else t + 1) = t + 1
  rw [if_neg (by omega), if_neg e]
theorem fstX_f {n : Nat} {mask : Int32} {sf : Nat → Int32} {P : PL} {t : Nat} (h : fstX n mask sf P t = t) (e : rgt n mask sf (msP n mask P t)) : ∀ m, t < m → fstX n mask sf P m = t := by
  intro m
  induction m with
  | zero => intro h; omega
  | succ m ih =>
    intro hm
    show (if fstX n mask sf P m < m then fstX n mask sf P m else if rgt n mask sf (msP n mask P m) then m else m + 1) = t
    by_cases q : t < m
    · rw [ih q, if_pos q]
    · have : m = t := by omega
      subst this
      rw [h, if_neg (Nat.lt_irrefl m), if_pos e]
theorem rrk_f {n : Nat} {mask : Int32} {sf : Nat → Int32} {P : PL} {t : Nat} (h : fstX n mask sf P t = t) (e : rgt n mask sf (msP n mask P t)) (ht : t < P.length) : nI t = rrk n mask sf P P.length := by
  unfold rrk
  rw [fstX_f h e P.length ht, if_pos ht]
theorem rrk_e {n : Nat} {mask : Int32} {sf : Nat → Int32} {P : PL} (h : fstX n mask sf P P.length = P.length) : (-1 : Int32) = rrk n mask sf P P.length := by
  unfold rrk
  rw [h, if_neg (Nat.lt_irrefl _)]
theorem nI_or (a b : Nat) : nI a ||| nI b = nI (a ||| b) := by
  apply Int32.toBitVec_inj.mp
  show BitVec.ofNat 32 a ||| BitVec.ofNat 32 b = BitVec.ofNat 32 (a ||| b)
  rw [← BitVec.ofNat_or]
def okB (mask : Int32) (p : Nat) (b : Int32) : Prop := ∃ a : Nat, a < 2 ^ p ∧ b = nI a ∧ ∀ j, a.testBit j = true → opn mask j
theorem okB_0 (mask : Int32) (p : Nat) : okB mask p 0 := ⟨0, Nat.pow_pos (by decide), rfl, fun j h => by rw [Nat.zero_testBit] at h; exact absurd h (by decide)⟩
theorem okB_up {mask : Int32} {p : Nat} {b : Int32} (h : okB mask p b) : okB mask (p + 1) b := by
  obtain ⟨a, ha, e, hb⟩ := h
  exact ⟨a, by rw [Nat.pow_succ]; omega, e, hb⟩
theorem okB_or {mask : Int32} {p : Nat} {b : Int32} (hp : p < 16) (h : okB mask p b) (ho : opn mask p) : okB mask (p + 1) (b ||| (1 <<< (nI p &&& 31))) := by
  obtain ⟨a, ha, e, hb⟩ := h
  refine ⟨a ||| 2 ^ p, ?_, ?_, ?_⟩
  · exact Nat.or_lt_two_pow (by rw [Nat.pow_succ]; omega) (Nat.pow_lt_pow_right (by decide) (by omega))
  · rw [e, pow_l p (by omega), nI_or]
  · intro j hj
    rw [Nat.testBit_or, Nat.testBit_two_pow] at hj
    simp only [Bool.or_eq_true, decide_eq_true_eq] at hj
    rcases hj with hj | hj
    · exact hb j hj
    · rw [← hj]; exact ho
def okQ (mask : Int32) (p : Nat) (P : PL) : Prop := ∀ q, q ∈ P → okB mask p q.1
theorem okQ_at {mask : Int32} {p : Nat} {P : PL} (h : okQ mask p P) (i : Nat) : okB mask p (atL P i).1 := by
  unfold atL
  by_cases hi : i < P.length
  · rw [← List.getElem_eq_getD (h := hi) (0, 0)]; exact h _ (List.getElem_mem hi)
  · rw [List.getD_eq_getElem?_getD, List.getElem?_eq_none (by omega)]; exact okB_0 mask p
theorem okQ_kp {mask : Int32} {p : Nat} {P : PL} (h : okQ mask p P) (lim : Nat) : ∀ t, okQ mask p (kpL P lim t) := by
  intro t
  induction t with
  | zero => intro q hq; cases hq
  | succ t ih =>
    intro q hq
    have hq : q ∈ (if rk P t < lim then kpL P lim t ++ [atL P t] else kpL P lim t) := hq
    by_cases e : rk P t < lim
    · rw [if_pos e] at hq
      rcases List.mem_append.mp hq with h1 | h1
      · exact ih q h1
      · rw [List.mem_singleton] at h1; subst h1; exact okQ_at h t
    · rw [if_neg e] at hq; exact ih q hq
theorem okQ_grT {mask : Int32} {p : Nat} {P : PL} (hp : p < 16) (h : okQ mask p P) (hB : Int32 → Int32) (o : Bool) (ho : o = true → opn mask p) : ∀ t, okQ mask (p + 1) (grT hB p o P t) := by
  intro t
  induction t with
  | zero => intro q hq; cases hq
  | succ t ih =>
    intro q hq
    have hq : q ∈ grT hB p o P t ++ g1 hB p o (atL P t) := hq
    rcases List.mem_append.mp hq with h1 | h1
    · exact ih q h1
    · unfold g1 at h1
      rcases List.mem_cons.mp h1 with h2 | h2
      · rw [h2]; exact okB_up (okQ_at h t)
      · cases o with
        | true => rw [if_pos rfl, List.mem_singleton] at h2; rw [h2]; exact okB_or hp (okQ_at h t) (ho rfl)
        | false => rw [if_neg (by decide)] at h2; cases h2
theorem okQ_pth (n : Nat) (mask : Int32) (vf : Nat → Int32) (lim : Nat) : ∀ p, p ≤ 16 → okQ mask p (pthL n mask vf lim p) := by
  intro p
  induction p with
  | zero =>
    intro _ q hq
    have hq : q ∈ [((0 : Int32), (0 : Int32))] := hq
    rw [List.mem_singleton] at hq
    rw [hq]; exact okB_0 mask 0
  | succ p ih =>
    intro hp
    exact okQ_kp (okQ_grT (by omega) (ih (by omega)) (hea n vf p) (decide (opn mask p)) (fun h => of_decide_eq_true h) _) lim _
theorem okQ_ord {mask : Int32} {p : Nat} {P : PL} (h : okQ mask p P) : okQ mask p (ordL P) := by
  intro q hq
  unfold ordL at hq
  obtain ⟨r, -, e⟩ := List.mem_map.mp hq
  rw [← e]; exact okQ_at h _
theorem okQ_rd {n : Nat} (hn : n ≤ 16) (mask : Int32) (vf : Nat → Int32) (lim : Nat) : okQ mask n (rdL n mask vf lim) := okQ_ord (okQ_pth n mask vf lim n hn)
theorem bit_if {a k : Nat} (ha : a < 65536) (hk : k < 32) : bitI (nI a) k = (if a.testBit k = true then 1 else 0) := by
  have h2 := Nat.mod_two_eq_zero_or_one (a / 2 ^ k)
  have ho := opn_N (n := a) (p := k) (by omega) hk
  by_cases h : a.testBit k = true
  · rw [if_pos h]; exact ho.mpr h
  · rw [if_neg h, bitI_N (by omega) hk]
    rcases h2 with e | e
    · rw [e]; rfl
    · exact absurd (ho.mp (by show bitI (nI a) k = 1; rw [bitI_N (by omega) hk, e]; rfl)) h
theorem sh1 (c : Prop) [Decidable c] {k : Nat} (hk : k < 31) : (if c then (1 : Int32) else 0) <<< (nI k &&& 31) = nI (if c then 2 ^ k else 0) := by
  by_cases h : c
  · rw [if_pos h, if_pos h]; exact pow_l k hk
  · rw [if_neg h, if_neg h]; exact Int32.zero_shiftLeft
theorem cntO_up {mask : Int32} {j : Nat} (ho : opn mask j) : ∀ k, j < k → cntO mask j < cntO mask k := by
  intro k
  induction k with
  | zero => intro h; exact absurd h (Nat.not_lt_zero j)
  | succ k ih =>
    intro h
    show cntO mask j < cntO mask k + (if opn mask k then 1 else 0)
    by_cases e : j = k
    · subst e; rw [if_pos ho]; omega
    · have := ih (by omega); omega
theorem mso_N {mask : Int32} {a : Nat} (ha : a < 65536) : ∀ k, k ≤ 16 → ∃ M : Nat, M < 2 ^ cntO mask k ∧ mso mask (nI a) k = nI M ∧ ∀ j, j < k → opn mask j → M.testBit (cntO mask j) = a.testBit j := by
  intro k
  induction k with
  | zero => intro _; exact ⟨0, Nat.pow_pos (by decide), rfl, fun j hj => absurd hj (Nat.not_lt_zero j)⟩
  | succ k ih =>
    intro hk
    obtain ⟨M, hM, e, hb⟩ := ih (by omega)
    have hc := cntO_le mask k
    by_cases ho : opn mask k
    · have ec : cntO mask (k + 1) = cntO mask k + 1 := by
        show cntO mask k + (if opn mask k then 1 else 0) = _
        rw [if_pos ho]
      refine ⟨M ||| (if a.testBit k = true then 2 ^ cntO mask k else 0), ?_, ?_, ?_⟩
      · rw [ec]
        refine Nat.or_lt_two_pow (by rw [Nat.pow_succ]; omega) ?_
        by_cases h : a.testBit k = true
        · rw [if_pos h]; exact Nat.pow_lt_pow_right (by decide) (by omega)
        · rw [if_neg h]; exact Nat.pow_pos (by decide)
      · show (if opn mask k then mso mask (nI a) k ||| (bitI (nI a) k <<< (nI (cntO mask k) &&& 31)) else mso mask (nI a) k) = _
        rw [if_pos ho, e, bit_if ha (by omega), sh1 _ (by omega), nI_or]
      · intro j hj hoj
        rw [Nat.testBit_or]
        by_cases e2 : j = k
        · subst e2
          rw [Nat.testBit_lt_two_pow hM, Bool.false_or]
          by_cases h : a.testBit j = true
          · rw [if_pos h, Nat.testBit_two_pow_self, h]
          · rw [if_neg h, Nat.zero_testBit]; exact (Bool.eq_false_iff.mpr h).symm
        · have hlt := cntO_up hoj k (by omega)
          have h0 : (if a.testBit k = true then 2 ^ cntO mask k else 0).testBit (cntO mask j) = false := by
            by_cases h : a.testBit k = true
            · rw [if_pos h, Nat.testBit_two_pow]; exact decide_eq_false (by omega)
            · rw [if_neg h, Nat.zero_testBit]
          rw [h0, Bool.or_false]
          exact hb j (by omega) hoj
    · have ec : cntO mask (k + 1) = cntO mask k := by
        show cntO mask k + (if opn mask k then 1 else 0) = _
        rw [if_neg ho]; rfl
      refine ⟨M, by rw [ec]; exact hM, ?_, fun j hj hoj => ?_⟩
      · show (if opn mask k then mso mask (nI a) k ||| (bitI (nI a) k <<< (nI (cntO mask k) &&& 31)) else mso mask (nI a) k) = _
        rw [if_neg ho]; exact e
      · by_cases e2 : j = k
        · subst e2; exact absurd hoj ho
        · exact hb j (by omega) hoj
theorem lt_up {j k : Nat} (e : ¬ k = j) : decide (j < k + 1) = decide (j < k) := by
  by_cases h : j < k
  · rw [decide_eq_true h, decide_eq_true (show j < k + 1 by omega)]
  · rw [decide_eq_false h, decide_eq_false (show ¬ j < k + 1 by omega)]
theorem mod_up (a k : Nat) : a % 2 ^ (k + 1) = a % 2 ^ k ||| (if a.testBit k = true then 2 ^ k else 0) := by
  apply Nat.eq_of_testBit_eq
  intro j
  rw [Nat.testBit_or, Nat.testBit_mod_two_pow, Nat.testBit_mod_two_pow]
  by_cases h : a.testBit k = true
  · rw [if_pos h, Nat.testBit_two_pow]
    by_cases e : k = j
    · subst e; simp [h]
    · rw [lt_up e]; simp [e]
  · rw [if_neg h, Nat.zero_testBit, Bool.or_false]
    by_cases e : k = j
    · subst e; simp [h]
    · rw [lt_up e]
theorem wrd_back {mask : Int32} {a M n : Nat} (hn : n ≤ 16) (hM : M < 65536) (hb : ∀ j, j < n → opn mask j → M.testBit (cntO mask j) = a.testBit j) (ho : ∀ j, a.testBit j = true → opn mask j) : ∀ k, k ≤ n → wrd mask (nI M) k = nI (a % 2 ^ k) := by
  intro k
  induction k with
  | zero => intro _; rw [Nat.pow_zero, Nat.mod_one]; rfl
  | succ k ih =>
    intro hk
    have hc := cntO_le mask k
    show (if opn mask k then wrd mask (nI M) k ||| (bitI (nI M) (cntO mask k) <<< (nI k &&& 31)) else wrd mask (nI M) k) = _
    rw [ih (by omega), mod_up]
    by_cases o : opn mask k
    · rw [if_pos o, bit_if hM (by omega), hb k (by omega) o, sh1 _ (by omega), nI_or]
    · rw [if_neg o, if_neg (fun h => o (ho k h)), Nat.or_zero]
theorem wrd_mso {n : Nat} {mask b : Int32} (hn : n ≤ 16) (h : okB mask n b) : wrd mask (mso mask b n) n = b := by
  obtain ⟨a, ha, e, ho⟩ := h
  subst e
  have hp : (2 : Nat) ^ n ≤ 2 ^ 16 := Nat.pow_le_pow_right (by decide) hn
  obtain ⟨M, hM, em, hb⟩ := mso_N (mask := mask) (a := a) (by omega) n hn
  have hc := cntO_le mask n
  have hp2 : (2 : Nat) ^ cntO mask n ≤ 2 ^ 16 := Nat.pow_le_pow_right (by decide) (by omega)
  rw [em, wrd_back hn (by omega) hb ho n (Nat.le_refl n), Nat.mod_eq_of_lt ha]
theorem cod_path {n : Nat} {mask : Int32} {vf : Nat → Int32} {lim : Nat} (hn : n ≤ 16) (i : Nat) : cod (atL (rdL n mask vf lim) i).1 n = wof n mask (msP n mask (rdL n mask vf lim) i) := by
  unfold wof msP
  rw [wrd_mso hn (okQ_at (okQ_rd hn mask vf lim) i)]
theorem thPath_no1 {k q : Int32} (h : k < 0) : thPath k q = 1 := by
  unfold thPath
  exact if_neg (fun z => absurd h (Int32.not_lt.mpr z.1))
theorem thPath_no2 {k q : Int32} (h : ¬ (0 ≤ q ∧ q ≤ 2)) : thPath k q = 1 := by
  unfold thPath
  exact if_neg (fun z => h z.2)
theorem thPath_ok {k q : Int32} (h : 0 ≤ k) (h2 : 0 ≤ q ∧ q ≤ 2) : thPath k q = 0 := by
  unfold thPath
  exact if_pos ⟨h, h2⟩
theorem dcmp_self {x : UInt64} (h : shr1 x) : Op.cmpValue (FP.dcmp x x) .l = 0 := by
  have hn : Jvm.FP.Core.val64 x ≠ .nan := by
    rcases h with rfl | ⟨c, k, hk, hc, rfl⟩
    · exact zero_num
    · exact XD_num hc
  rw [show FP.dcmp x x = _ from Jvm.FP.Core.dcmp_key hn hn]
  rw [show compare (Jvm.FP.Core.dkey x) (Jvm.FP.Core.dkey x) = .eq from Std.ReflCmp.compare_self]
  rfl
def okW (w : Wd) : Prop := okN w.1 ∧ okM w.2.1 w.1 ∧ okS w.2.2.2 ∧ okV w.2.2.1
theorem ite_01 {P : Prop} [Decidable P] (h : (if P then 0 else 1) = 0) : P := by
  by_cases c : P
  · exact c
  · rw [if_neg c] at h; exact absurd h (by decide)
theorem ite_021 {P : Prop} [Decidable P] {x : Nat} (h : (if P then x else 1) = 0) : P ∧ x = 0 := by
  by_cases c : P
  · rw [if_pos c] at h; exact ⟨c, h⟩
  · rw [if_neg c] at h; exact absurd h (by decide)
theorem okW_begin {n : Nat} {mask : Int32} {vf sf : Nat → Int32} {k : Int32} (h : okW (n, mask, vf, sf)) (h0 : thBegin k = 0) : okW (2 ^ k.toNatClampNeg, 0, (fun _ => 0), sf) := by
  obtain ⟨j, h1, h4, e⟩ := k14 (ite_01 h0)
  have ek : k.toNatClampNeg = j := by rw [e, nI_clamp (by omega)]
  refine ⟨?_, ⟨0, Nat.pow_pos (by decide), rfl⟩, h.2.2.1, fun j hj => ⟨show -99 ≤ (0 : Int32).toInt by decide, show (0 : Int32).toInt ≤ 99 by decide⟩⟩
  show okN (2 ^ k.toNatClampNeg)
  rw [ek]
  rcases (show j = 1 ∨ j = 2 ∨ j = 3 ∨ j = 4 by omega) with rfl | rfl | rfl | rfl
  · exact Or.inl rfl
  · exact Or.inr (Or.inl rfl)
  · exact Or.inr (Or.inr (Or.inl rfl))
  · exact Or.inr (Or.inr (Or.inr rfl))
theorem opnM_N (sf : Nat → Int32) (n : Nat) (k : Int32) : ∀ p, p ≤ 16 → ∃ a : Nat, a < 2 ^ p ∧ opnM sf n k p = nI a := by
  intro p
  induction p with
  | zero => intro _; exact ⟨0, Nat.pow_pos (by decide), rfl⟩
  | succ p ih =>
    intro hp
    obtain ⟨a, ha, e⟩ := ih (by omega)
    have e2 : opnM sf n k (p + 1) = (if nI (rnk (uns sf n) p n) < k then opnM sf n k p ||| (1 <<< (nI p &&& 31)) else opnM sf n k p) := rfl
    by_cases c : nI (rnk (uns sf n) p n) < k
    · refine ⟨a ||| 2 ^ p, Nat.or_lt_two_pow (by rw [Nat.pow_succ]; omega) (Nat.pow_lt_pow_right (by decide) (by omega)), ?_⟩
      rw [e2, if_pos c, e, pow_l p (by omega), nI_or]
    · exact ⟨a, by rw [Nat.pow_succ]; omega, by rw [e2, if_neg c, e]⟩
theorem okW_open {n : Nat} {mask : Int32} {vf sf : Nat → Int32} {k : Int32} (h : okW (n, mask, vf, sf)) : okW (n, opnM sf n k n, vf, sf) := by
  have hn : okN n := h.1
  obtain ⟨a, ha, e⟩ := opnM_N sf n k n hn.le.2
  exact ⟨h.1, ⟨a, ha, e⟩, h.2.2.1, h.2.2.2⟩
theorem okW_toggle {n : Nat} {mask : Int32} {vf sf : Nat → Int32} {k : Int32} (h : okW (n, mask, vf, sf)) (h0 : thPl n k = 0) : okW (n, mask ^^^ (1 <<< (nI k.toNatClampNeg &&& 31)), vf, sf) := by
  have hn : okN n := h.1
  have hnl := hn.le
  obtain ⟨j, hj, ej⟩ := in_nat (n := n) (by omega) (ite_01 h0)
  have ek : k.toNatClampNeg = j := by rw [ej, nI_clamp (by omega)]
  obtain ⟨a, ha, e⟩ := h.2.1
  have ha : a < 2 ^ n := ha
  have e : mask = nI a := e
  refine ⟨h.1, ⟨a ^^^ 2 ^ j, Nat.xor_lt_two_pow ha (Nat.pow_lt_pow_right (by decide) hj), ?_⟩, h.2.2.1, h.2.2.2⟩
  show mask ^^^ (1 <<< (nI k.toNatClampNeg &&& 31)) = _
  rw [ek, e, pow_l j (by omega), nI_xor]
theorem between {lo hi : Nat} {v : Int32} (hq : lo < 2 ^ 31) (hh : hi < 2 ^ 31) (h : nI lo ≤ v ∧ v ≤ nI hi) : ∃ a : Nat, lo ≤ a ∧ a ≤ hi ∧ v = nI a := by
  obtain ⟨a, ha, rfl⟩ := nI_of (x := v) (fun h2 => by
    have h3 := h.1
    rw [i_lt0] at h2
    rw [Int32.le_iff_toInt_le, nI_toInt hq] at h3
    omega)
  exact ⟨a, (nI_leI hq ha).mp h.1, (nI_leI ha hh).mp h.2, rfl⟩
theorem okS_set {sf : Nat → Int32} {q v : Int32} (h : okS sf) (h0 : thSet q v = 0) : okS (upd sf q.toNatClampNeg v) := by
  obtain ⟨hq, h1⟩ := ite_021 h0
  have hv : tL q.toNatClampNeg ≤ v ∧ v ≤ tM q.toNatClampNeg := by
    by_cases c : tL q.toNatClampNeg ≤ v ∧ v ≤ tM q.toNatClampNeg
    · exact c
    · rw [if_neg c] at h1; exact absurd h1 (by decide)
  obtain ⟨j, hj, ej⟩ := in_nat (n := 4) (by decide) hq
  have ek : q.toNatClampNeg = j := by rw [ej, nI_clamp (by omega)]
  rw [ek] at hv ⊢
  obtain ⟨⟨a, a1, a2, ea⟩, ⟨b, b1, b2, eb⟩, ⟨c, c1, ec⟩, ⟨d, d1, d2, ed⟩⟩ := h
  rcases (show j = 0 ∨ j = 1 ∨ j = 2 ∨ j = 3 by omega) with rfl | rfl | rfl | rfl
  · obtain ⟨x, x1, x2, ex⟩ := between (lo := 1) (hi := 999) (by decide) (by decide) hv
    exact ⟨⟨x, x1, x2, ex⟩, ⟨b, b1, b2, eb⟩, ⟨c, c1, ec⟩, ⟨d, d1, d2, ed⟩⟩
  · obtain ⟨x, x1, x2, ex⟩ := between (lo := 1) (hi := 4) (by decide) (by decide) hv
    exact ⟨⟨a, a1, a2, ea⟩, ⟨x, x1, x2, ex⟩, ⟨c, c1, ec⟩, ⟨d, d1, d2, ed⟩⟩
  · obtain ⟨x, x1, x2, ex⟩ := between (lo := 0) (hi := 3) (by decide) (by decide) hv
    exact ⟨⟨a, a1, a2, ea⟩, ⟨b, b1, b2, eb⟩, ⟨x, x2, ex⟩, ⟨d, d1, d2, ed⟩⟩
  · obtain ⟨x, x1, x2, ex⟩ := between (lo := 1) (hi := 99) (by decide) (by decide) hv
    exact ⟨⟨a, a1, a2, ea⟩, ⟨b, b1, b2, eb⟩, ⟨c, c1, ec⟩, ⟨x, x1, x2, ex⟩⟩
theorem okW_set {n : Nat} {mask : Int32} {vf sf : Nat → Int32} {q v : Int32} (h : okW (n, mask, vf, sf)) (h0 : thSet q v = 0) : okW (n, mask, vf, upd sf q.toNatClampNeg v) := ⟨h.1, h.2.1, okS_set h.2.2.1 h0, h.2.2.2⟩
theorem okW_send {n : Nat} {mask : Int32} {vf sf : Nat → Int32} {w : Int32} (h : okW (n, mask, vf, sf)) : okW (n, mask, sndV n w (sf 3) vf, sf) := by
  refine ⟨h.1, h.2.1, h.2.2.1, fun j hj => ?_⟩
  have hS : okS sf := h.2.2.1
  obtain ⟨-, -, -, ⟨d, d1, d2, ed⟩⟩ := hS
  have hb : -99 ≤ (sf 3).toInt ∧ (sf 3).toInt ≤ 99 := by
    rw [ed, nI_toInt (by omega)]; omega
  show -99 ≤ (if j < n then (if bitI w j = 1 then -(sf 3) else sf 3) else vf j).toInt ∧ (if j < n then (if bitI w j = 1 then -(sf 3) else sf 3) else vf j).toInt ≤ 99
  by_cases c : j < n
  · rw [if_pos c]
    by_cases c2 : bitI w j = 1
    · rw [if_pos c2]; exact neg_b hb
    · rw [if_neg c2]; exact hb
  · rw [if_neg c]; exact h.2.2.2 j hj
theorem okW_recv {n : Nat} {mask : Int32} {vf sf : Nat → Int32} {k v : Int32} (h : okW (n, mask, vf, sf)) (h0 : thRecv n k v = 0) : okW (n, mask, upd vf k.toNatClampNeg v, sf) := by
  obtain ⟨-, h1⟩ := ite_021 h0
  have hv : -99 ≤ v ∧ v ≤ 99 := by
    by_cases c : -99 ≤ v ∧ v ≤ 99
    · exact c
    · rw [if_neg c] at h1; exact absurd h1 (by decide)
  have hb : -99 ≤ v.toInt ∧ v.toInt ≤ 99 := by
    have e1 : (-99 : Int32).toInt = -99 := by decide
    have e2 : (99 : Int32).toInt = 99 := by decide
    rw [Int32.le_iff_toInt_le, Int32.le_iff_toInt_le, e1, e2] at hv
    exact hv
  refine ⟨h.1, h.2.1, h.2.2.1, fun j hj => ?_⟩
  show -99 ≤ (if j = k.toNatClampNeg then v else vf j).toInt ∧ (if j = k.toNatClampNeg then v else vf j).toInt ≤ 99
  by_cases c : j = k.toNatClampNeg
  · rw [if_pos c]; exact hb
  · rw [if_neg c]; exact h.2.2.2 j hj
theorem okW_flip {n : Nat} {mask : Int32} {vf sf : Nat → Int32} {k : Nat} (h : okW (n, mask, vf, sf)) : okW (n, mask, flp vf k, sf) := ⟨h.1, h.2.1, h.2.2.1, okV_flp h.2.2.2 k⟩
theorem okW_roll {n : Nat} {mask : Int32} {vf sf : Nat → Int32} {b : Nat} (h : okW (n, mask, vf, sf)) : okW (n, mask, rolV n vf b, sf) := by
  have hn : okN n := h.1
  have hnl := hn.le
  refine ⟨h.1, h.2.1, h.2.2.1, fun j hj => ?_⟩
  show -99 ≤ (if j < n then vf ((j + n - b) % n) else vf j).toInt ∧ (if j < n then vf ((j + n - b) % n) else vf j).toInt ≤ 99
  by_cases c : j < n
  · rw [if_pos c]
    have := Nat.mod_lt (j + n - b) (show 0 < n by omega)
    exact h.2.2.2 _ (by omega)
  · rw [if_neg c]; exact h.2.2.2 j hj
