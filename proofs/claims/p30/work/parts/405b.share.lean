/-! SHARES: not above 1 -/
def shr2 (x : UInt64) : Prop := x = 0 ∨ ∃ c k : Nat, k ≤ 40 ∧ nrm c (-52 - (k : Int)) ∧ (k = 0 → c = 4503599627370496) ∧ x = XD c (-52 - (k : Int))
theorem ratio_rng2 {a b : Nat} (ha : 0 < a) (hab : a ≤ b) (hb : b ≤ 16000000) : ∃ c k : Nat, k ≤ 40 ∧ nrm c (-52 - (k : Int)) ∧ (k = 0 → c = 4503599627370496) ∧ Jvm.FP.Core.roundRatio Jvm.FP.Core.b64 false a b 0 = .fin false c (-52 - (k : Int)) := by
  have hb0 : 0 < b := by omega
  obtain ⟨s1, s2⟩ := Jvm.FP.Core.leading_spec ha hb0
  have l1 : Jvm.FP.Core.leading a b ≤ 0 := by
    have : Jvm.FP.Core.Below a b 1 := by
      unfold Jvm.FP.Core.Below
      show a * 2 ^ 0 < b * 2 ^ 1
      omega
    have := Jvm.FP.Core.lt_of_below s1 this
    omega
  have l2 : -24 ≤ Jvm.FP.Core.leading a b := by
    have : ¬ Jvm.FP.Core.Below a b (-24) := by
      unfold Jvm.FP.Core.Below
      show ¬ a * 2 ^ 24 < b * 2 ^ 0
      omega
    have := Jvm.FP.Core.lt_of_below this s2
    omega
  have hf := Jvm.FP.Core.roundRatio_fits Jvm.FP.Core.good_b64 false a hb0 0
  have hq : Jvm.FP.Core.quantum Jvm.FP.Core.b64 a b 0 = Jvm.FP.Core.leading a b - 52 := by
    unfold Jvm.FP.Core.quantum
    rw [fp_qmin, show ((Jvm.FP.Core.b64.p : Int) - 1) = 52 by decide]
    omega
  have hle := Jvm.FP.Core.nearest_units_le (f := Jvm.FP.Core.b64) ha hb0 0
  have he : Jvm.FP.Core.leading a b = 0 → Jvm.FP.Core.nearest (Jvm.FP.Core.unitsNum a 0 (Jvm.FP.Core.quantum Jvm.FP.Core.b64 a b 0)) (Jvm.FP.Core.unitsDen b 0 (Jvm.FP.Core.quantum Jvm.FP.Core.b64 a b 0)) ≤ 4503599627370496 := by
    intro h0
    rw [hq, h0]
    refine Jvm.FP.Core.nearest_le (Jvm.FP.Core.unitsDen_pos hb0 _ _) ?_
    show a * 2 ^ 52 ≤ 4503599627370496 * (b * 2 ^ 0)
    omega
  have er : Jvm.FP.Core.roundRatio Jvm.FP.Core.b64 false a b 0 = Jvm.FP.Core.settle Jvm.FP.Core.b64 false (Jvm.FP.Core.nearest (Jvm.FP.Core.unitsNum a 0 (Jvm.FP.Core.quantum Jvm.FP.Core.b64 a b 0)) (Jvm.FP.Core.unitsDen b 0 (Jvm.FP.Core.quantum Jvm.FP.Core.b64 a b 0))) (Jvm.FP.Core.quantum Jvm.FP.Core.b64 a b 0) := by
    unfold Jvm.FP.Core.roundRatio
    rw [if_neg (by omega)]
    rfl
  rw [er] at hf ⊢
  generalize Jvm.FP.Core.nearest (Jvm.FP.Core.unitsNum a 0 (Jvm.FP.Core.quantum Jvm.FP.Core.b64 a b 0)) (Jvm.FP.Core.unitsDen b 0 (Jvm.FP.Core.quantum Jvm.FP.Core.b64 a b 0)) = N at *
  rw [hq] at hf ⊢
  generalize Jvm.FP.Core.leading a b = L at *
  rw [fp_pp] at hle
  unfold Jvm.FP.Core.settle Jvm.FP.Core.bound at hf ⊢
  rw [fp_pp, fp_qmax] at hf ⊢
  by_cases hN : N < 9007199254740992
  · rw [if_pos hN, if_pos (by omega)] at hf ⊢
    obtain ⟨f1, f2, f3, f4⟩ := hf
    rw [fp_tails, fp_qmin] at f4
    refine ⟨N, (-L).toNat, by omega, ⟨by omega, hN, by omega, by omega⟩, fun h0 => ?_, ?_⟩
    · have h1 := he (by omega)
      omega
    · congr 1
      omega
  · rw [if_neg hN, if_pos (by omega)]
    have hL : L ≠ 0 := fun h => by have := he h; omega
    rw [fp_tails]
    refine ⟨4503599627370496, (-L).toNat - 1, by omega, ⟨by omega, by omega, by omega, by omega⟩, fun _ => rfl, ?_⟩
    congr 1
    omega
theorem sh_rng2 {S : Int64} {o : Nat} (h1 : 1 ≤ o) (h2 : o ≤ 16) (h3 : 0 ≤ S.toInt) (h4 : S.toInt ≤ 1000000 * (o : Int)) : vf_n64 (FP.dmul 4696837146684686336 (FP.i2d (nI o))) ∧ shr2 (FP.ddiv (FP.l2d S) (FP.dmul 4696837146684686336 (FP.i2d (nI o)))) := by
  have hd := den_val o (by omega) h1
  refine ⟨n64_val (by rw [hd]; intro h; cases h), ?_⟩
  obtain ⟨a, ea⟩ : ∃ a : Nat, S.toInt = (a : Int) := ⟨S.toInt.toNat, by omega⟩
  have hv : Jvm.FP.Core.val64 (FP.l2d S) = Jvm.FP.Core.roundRatio Jvm.FP.Core.b64 false a 1 0 := by
    rw [show FP.l2d S = Jvm.FP.Core.l2d S from rfl, Jvm.FP.Core.val64_l2d, ea]
    show Jvm.FP.Core.roundRatio Jvm.FP.Core.b64 (decide ((a : Int) < 0)) (a : Int).natAbs 1 0 = _
    rw [decide_eq_false (by omega), Int.natAbs_natCast]
  rw [show FP.ddiv (FP.l2d S) (FP.dmul 4696837146684686336 (FP.i2d (nI o))) = Jvm.FP.Core.of64 (Jvm.FP.Core.quotient Jvm.FP.Core.b64 (Jvm.FP.Core.val64 (FP.l2d S)) (Jvm.FP.Core.val64 (FP.dmul 4696837146684686336 (FP.i2d (nI o))))) from rfl, hv, hd]
  obtain ⟨hn, hl⟩ := nat_nrm (a := 1000000 * o) (by omega) (by omega)
  by_cases h0 : a = 0
  · left
    subst h0
    have e0 : Jvm.FP.Core.roundRatio Jvm.FP.Core.b64 false 0 1 0 = .fin false 0 (-1074) := by
      unfold Jvm.FP.Core.roundRatio
      rw [if_pos rfl, fp_qmin]
    rw [e0]
    have eq : ∀ (d : Nat) (r : Int), d ≠ 0 → Jvm.FP.Core.quotient Jvm.FP.Core.b64 (.fin false 0 (-1074)) (.fin false d r) = .fin false 0 (-1074) := by
      intro d r hd0
      show (if d = 0 then _ else Jvm.FP.Core.roundRatio Jvm.FP.Core.b64 (false != false) 0 d (-1074 - r)) = _
      rw [if_neg hd0]
      unfold Jvm.FP.Core.roundRatio
      rw [if_pos rfl, fp_qmin]
      rfl
    rw [eq _ _ (by have := hn.1; omega)]
    decide +kernel
  · right
    obtain ⟨hn1, hl1⟩ := nat_nrm (a := a) (by omega) (by omega)
    rw [nat_round (by omega) (by omega)]
    have eq : Jvm.FP.Core.quotient Jvm.FP.Core.b64 (.fin false (a * 2 ^ (52 - a.log2)) (-((52 - a.log2 : Nat) : Int))) (.fin false (1000000 * o * 2 ^ (52 - (1000000 * o).log2)) (-((52 - (1000000 * o).log2 : Nat) : Int))) = Jvm.FP.Core.roundRatio Jvm.FP.Core.b64 false a (1000000 * o) 0 := by
      show (if 1000000 * o * 2 ^ (52 - (1000000 * o).log2) = 0 then _ else Jvm.FP.Core.roundRatio Jvm.FP.Core.b64 (false != false) (a * 2 ^ (52 - a.log2)) (1000000 * o * 2 ^ (52 - (1000000 * o).log2)) (-((52 - a.log2 : Nat) : Int) - -((52 - (1000000 * o).log2 : Nat) : Int))) = _
      rw [if_neg (by have := hn.1; omega)]
      generalize 52 - a.log2 = i at *
      generalize 52 - (1000000 * o).log2 = j at *
      refine Jvm.FP.Core.roundRatio_congr (by have := hn.1; omega) (by omega) ?_
      rw [show (-(i : Int) - -(j : Int) - 0).toNat = j - i by omega, show ((0 : Int) - (-(i : Int) - -(j : Int))).toNat = i - j by omega]
      have e : i + (j - i) = j + (i - j) := by omega
      calc a * 2 ^ i * (1000000 * o) * 2 ^ (j - i) = a * (1000000 * o) * 2 ^ (i + (j - i)) := by rw [Nat.pow_add]; ac_rfl
        _ = a * (1000000 * o) * 2 ^ (j + (i - j)) := by rw [e]
        _ = a * (1000000 * o * 2 ^ j) * 2 ^ (i - j) := by rw [Nat.pow_add]; ac_rfl
    rw [eq]
    obtain ⟨c, k, hk, hc, h0c, e⟩ := ratio_rng2 (a := a) (b := 1000000 * o) (by omega) (by omega) (by omega)
    exact ⟨c, k, hk, hc, h0c, by rw [e]; rfl⟩
theorem shA_2 {n : Nat} {mask : Int32} {sf : Nat → Int32} (hn : okN n) (hs : okS sf) : shr2 (shA n mask sf) := by
  have hnl := hn.le
  have hc := cntO_le mask n
  unfold shA
  by_cases h0 : cntO mask n = 0
  · rw [if_pos h0]; exact Or.inl rfl
  · rw [if_neg h0]
    have hb := unsS_b hs mask n n hnl.2
    exact (sh_rng2 (by omega) (by omega) hb.1 hb.2).2
theorem sh_ge0 {n : Nat} {mask : Int32} {sf : Nat → Int32} (hn : okN n) (hs : okS sf) : ¬ Op.cmpValue (FP.dcmp (shA n mask sf) FP.dconst0) .l < 0 := by
  rcases shA_2 (mask := mask) hn hs with h | ⟨c, k, hk, hc, -, h⟩
  · rw [h]; decide +kernel
  · rw [h]
    obtain ⟨h1, h2, h3, h4⟩ := id hc
    rw [show FP.dcmp (XD c (-52 - (k : Int))) FP.dconst0 = _ from Jvm.FP.Core.dcmp_key (XD_num hc) zero_num, XD_key hc, show Jvm.FP.Core.dkey FP.dconst0 = 0 by decide +kernel]
    rw [show compare ((((-52 - (k : Int)) + 1074).toNat * 4503599627370496 + c : Nat) : Int) 0 = .gt from (Jvm.FP.Core.compare_gt_iff _ _).mpr (by omega)]
    decide
theorem sh_le1 {n : Nat} {mask : Int32} {sf : Nat → Int32} (hn : okN n) (hs : okS sf) : ¬ 0 < Op.cmpValue (FP.dcmp (shA n mask sf) FP.dconst1) .g := by
  rcases shA_2 (mask := mask) hn hs with h | ⟨c, k, hk, hc, h0, h⟩
  · rw [h]; decide +kernel
  · rw [h]
    by_cases e : k = 0
    · subst e
      rw [h0 rfl]
      decide +kernel
    · rw [XD_lt1 hc (by omega)]; decide
theorem sh_0 {n : Nat} {mask : Int32} {sf : Nat → Int32} (h : cntO mask n = 0) : Op.cmpValue (FP.dcmp (shA n mask sf) FP.dconst0) .l = 0 := by
  unfold shA
  rw [if_pos h]
  exact dcmp_self (Or.inl rfl)
theorem sh_eq {n : Nat} {mask : Int32} {sf : Nat → Int32} (hn : okN n) (hs : okS sf) (h : ¬ cntO mask n = 0) : Op.cmpValue (FP.dcmp (shA n mask sf) (FP.ddiv (FP.l2d (unsS sf mask n n)) (FP.dmul 4696837146684686336 (FP.i2d (nI (cntO mask n)))))) .l = 0 := by
  have e : FP.ddiv (FP.l2d (unsS sf mask n n)) (FP.dmul 4696837146684686336 (FP.i2d (nI (cntO mask n)))) = shA n mask sf := by
    unfold shA
    rw [if_neg h]
  rw [e]
  exact dcmp_self (shA_ok hn hs)
