/-! SHARES: the doubles from 0 to 1 that tell how unsure the open places are, and their bits -/
def nrm (c : Nat) (q : Int) : Prop := 4503599627370496 ≤ c ∧ c < 9007199254740992 ∧ -1000 ≤ q ∧ q ≤ 900
def XD (c : Nat) (q : Int) : UInt64 := Jvm.FP.Core.of64 (.fin false c q)
theorem fp_qmin : Jvm.FP.Core.b64.qmin = -1074 := by decide
theorem fp_qmax : Jvm.FP.Core.b64.qmax = 971 := by decide
theorem fp_tails : Jvm.FP.Core.b64.tails = 4503599627370496 := by decide
theorem fp_pp : 2 ^ Jvm.FP.Core.b64.p = 9007199254740992 := by decide
theorem nrm_fits {c : Nat} {q : Int} (h : nrm c q) (s : Bool) : Jvm.FP.Core.fits Jvm.FP.Core.b64 (.fin s c q) := by
  obtain ⟨h1, h2, h3, h4⟩ := h
  refine ⟨?_, ?_, ?_, Or.inr ?_⟩
  · rw [fp_pp]; exact h2
  · rw [fp_qmin]; omega
  · rw [fp_qmax]; omega
  · rw [fp_tails]; exact h1
theorem XD_val {c : Nat} {q : Int} (h : nrm c q) : Jvm.FP.Core.val64 (XD c q) = .fin false c q := Jvm.FP.Core.val64_of64 (nrm_fits h false)
theorem XD_nat {c : Nat} {q : Int} (h : nrm c q) : (XD c q).toNat = (q + 1074).toNat * 4503599627370496 + c := by
  have hl := Jvm.FP.Core.encode_lt Jvm.FP.Core.good_b64 _ (nrm_fits h false)
  rw [Jvm.FP.Core.size_b64] at hl
  unfold XD Jvm.FP.Core.of64
  rw [UInt64.toNat_ofNat_of_lt' (by simpa using hl)]
  rw [show Jvm.FP.Core.encode Jvm.FP.Core.b64 (.fin false c q) = (if c < Jvm.FP.Core.b64.tails then Jvm.FP.Core.assemble Jvm.FP.Core.b64 false 0 c else Jvm.FP.Core.assemble Jvm.FP.Core.b64 false ((q - Jvm.FP.Core.b64.qmin).toNat + 1) (c - Jvm.FP.Core.b64.tails)) from rfl]
  have h1 := h.1
  have h3 := h.2.2.1
  rw [if_neg (by rw [fp_tails]; omega)]
  unfold Jvm.FP.Core.assemble
  rw [fp_qmin, fp_tails]
  simp only [Bool.toNat_false, Nat.zero_mul, Nat.zero_add]
  omega
theorem n64_of {r : UInt64} (h : r.toNat % 2 ^ 63 ≤ 9218868437227405312) : vf_n64 r := by
  unfold vf_n64
  rw [UInt64.le_iff_toNat_le, UInt64.toNat_and]
  have e : (0x7fffffffffffffff : UInt64).toNat = 2 ^ 63 - 1 := by decide
  rw [e, Nat.and_two_pow_sub_one_eq_mod]
  exact Nat.le_trans h (by decide)
theorem n64_val {r : UInt64} (h : Jvm.FP.Core.val64 r ≠ .nan) : vf_n64 r := n64_of ((Jvm.FP.Core.ne_nan r).mp h)
theorem XD_num {c : Nat} {q : Int} (h : nrm c q) : Jvm.FP.Core.val64 (XD c q) ≠ .nan := by
  rw [XD_val h]; intro h2; cases h2
theorem n64_XD {c : Nat} {q : Int} (h : nrm c q) : vf_n64 (XD c q) := n64_val (XD_num h)
theorem int_num {i : Int} {r : UInt64} (h : Jvm.FP.Core.DInt i r) : Jvm.FP.Core.val64 r ≠ .nan := by
  intro hn
  unfold Jvm.FP.Core.DInt at h
  rw [hn] at h
  exact h
theorem n64_int {i : Int} {r : UInt64} (h : Jvm.FP.Core.DInt i r) : vf_n64 r := n64_val (int_num h)
/-- twice -/
theorem XD_two {c : Nat} {q : Int} (h : nrm c q) (h2 : nrm c (q + 1)) : FP.dmul (XD c q) 4611686018427387904 = XD c (q + 1) := by
  show Jvm.FP.Core.of64 (Jvm.FP.Core.round Jvm.FP.Core.b64 (Jvm.FP.Core.exactProduct (Jvm.FP.Core.val64 (XD c q)) (Jvm.FP.Core.val64 4611686018427387904))) = _
  have e2 : Jvm.FP.Core.val64 4611686018427387904 = .fin false 4503599627370496 (-51) := by decide +kernel
  rw [XD_val h, e2]
  show Jvm.FP.Core.of64 (Jvm.FP.Core.roundRatio Jvm.FP.Core.b64 false (c * 4503599627370496) 1 (q + -51)) = _
  have e3 : Jvm.FP.Core.roundRatio Jvm.FP.Core.b64 false (c * 4503599627370496) 1 (q + -51) = .fin false c (q + 1) := by
    refine Jvm.FP.Core.roundRatio_exact Jvm.FP.Core.good_b64 (by decide) (nrm_fits h2 false) ?_
    rw [show (q + -51 - (q + 1)).toNat = 0 by omega, show (q + 1 - (q + -51)).toNat = 52 by omega, Nat.pow_zero, Nat.mul_one, Nat.mul_one]
  rw [e3]
  rfl
theorem XD_key {c : Nat} {q : Int} (h : nrm c q) : Jvm.FP.Core.dkey (XD c q) = (((q + 1074).toNat * 4503599627370496 + c : Nat) : Int) := by
  obtain ⟨h1, h2, h3, h4⟩ := id h
  unfold Jvm.FP.Core.dkey
  rw [XD_nat h, if_neg (by omega)]
theorem one_num : Jvm.FP.Core.val64 FP.dconst1 ≠ .nan := by decide +kernel
theorem zero_num : Jvm.FP.Core.val64 FP.dconst0 ≠ .nan := by decide +kernel
theorem XD_lt1 {c : Nat} {q : Int} (h : nrm c q) (hq : q < -52) : Op.cmpValue (FP.dcmp (XD c q) FP.dconst1) .g = -1 := by
  obtain ⟨h1, h2, h3, h4⟩ := id h
  rw [show FP.dcmp (XD c q) FP.dconst1 = _ from Jvm.FP.Core.dcmp_key (XD_num h) one_num, XD_key h, show Jvm.FP.Core.dkey FP.dconst1 = 4607182418800017408 by decide +kernel]
  rw [show compare (((q + 1074).toNat * 4503599627370496 + c : Nat) : Int) 4607182418800017408 = .lt from (Jvm.FP.Core.compare_lt_iff _ _).mpr (by omega)]
  rfl
theorem XD_ge1 {c : Nat} {q : Int} (h : nrm c q) (hq : q = -52) : 0 ≤ Op.cmpValue (FP.dcmp (XD c q) FP.dconst1) .g := by
  obtain ⟨h1, h2, h3, h4⟩ := id h
  subst hq
  rw [show FP.dcmp (XD c (-52)) FP.dconst1 = _ from Jvm.FP.Core.dcmp_key (XD_num h) one_num, XD_key h, show Jvm.FP.Core.dkey FP.dconst1 = 4607182418800017408 by decide +kernel]
  have hk : compare ((((-52 : Int) + 1074).toNat * 4503599627370496 + c : Nat) : Int) 4607182418800017408 = .gt ∨ compare ((((-52 : Int) + 1074).toNat * 4503599627370496 + c : Nat) : Int) 4607182418800017408 = .eq := by
    by_cases e : c = 4503599627370496
    · right; subst e; decide
    · left; exact (Jvm.FP.Core.compare_gt_iff _ _).mpr (by omega)
  rcases hk with hk | hk <;> rw [hk] <;> decide
theorem XD_gt0 {c : Nat} {q : Int} (h : nrm c q) : 0 < Op.cmpValue (FP.dcmp (XD c q) FP.dconst0) .g := by
  obtain ⟨h1, h2, h3, h4⟩ := id h
  rw [show FP.dcmp (XD c q) FP.dconst0 = _ from Jvm.FP.Core.dcmp_key (XD_num h) zero_num, XD_key h, show Jvm.FP.Core.dkey FP.dconst0 = 0 by decide +kernel]
  rw [show compare (((q + 1074).toNat * 4503599627370496 + c : Nat) : Int) 0 = .gt from (Jvm.FP.Core.compare_gt_iff _ _).mpr (by omega)]
  decide
theorem Z_le0 : ¬ 0 < Op.cmpValue (FP.dcmp 0 FP.dconst0) .g := by decide +kernel
/-- a natural number that isn't 0, as a double -/
theorem nat_nrm {a : Nat} (h0 : 0 < a) (h : a < 9007199254740992) : nrm (a * 2 ^ (52 - a.log2)) (-((52 - a.log2 : Nat) : Int)) ∧ a.log2 ≤ 52 := by
  have l1 : 2 ^ a.log2 ≤ a := Nat.log2_self_le (by omega)
  have l2 : a < 2 ^ (a.log2 + 1) := Nat.lt_log2_self
  have l3 : a.log2 ≤ 52 := by
    refine Classical.byContradiction fun hn => ?_
    have : 2 ^ 53 ≤ 2 ^ a.log2 := Nat.pow_le_pow_right (by decide) (by omega)
    omega
  have p := Nat.two_pow_pos (52 - a.log2)
  have e1 : 2 ^ a.log2 * 2 ^ (52 - a.log2) = 4503599627370496 := by rw [← Nat.pow_add, show a.log2 + (52 - a.log2) = 52 by omega]
  have e2 : 2 ^ (a.log2 + 1) * 2 ^ (52 - a.log2) = 9007199254740992 := by rw [← Nat.pow_add, show a.log2 + 1 + (52 - a.log2) = 53 by omega]
  refine ⟨⟨?_, ?_, by omega, by omega⟩, l3⟩
  · rw [← e1]; exact Nat.mul_le_mul_right _ l1
  · rw [← e2]; exact Nat.mul_lt_mul_of_pos_right l2 p
theorem nat_round {a : Nat} (h0 : 0 < a) (h : a < 9007199254740992) : Jvm.FP.Core.roundRatio Jvm.FP.Core.b64 false a 1 0 = .fin false (a * 2 ^ (52 - a.log2)) (-((52 - a.log2 : Nat) : Int)) := by
  obtain ⟨hn, hl⟩ := nat_nrm h0 h
  refine Jvm.FP.Core.roundRatio_exact Jvm.FP.Core.good_b64 (by decide) (nrm_fits hn false) ?_
  rw [show ((0 : Int) - -((52 - a.log2 : Nat) : Int)).toNat = 52 - a.log2 by omega, show (-((52 - a.log2 : Nat) : Int) - 0).toNat = 0 by omega, Nat.pow_zero, Nat.mul_one, Nat.mul_one]
/-- what is left of a number from 1 to 2 -/
theorem XD_rest {c : Nat} (h : nrm c (-52)) : Jvm.FP.Core.val64 (FP.dsub (XD c (-52)) FP.dconst1) ≠ .nan ∧ Jvm.FP.Core.DInt ((c - 4503599627370496 : Nat) : Int) (FP.dmul (FP.dsub (XD c (-52)) FP.dconst1) 4841369599423283200) := by
  obtain ⟨h1, h2, -, -⟩ := id h
  have e1 : Jvm.FP.Core.val64 FP.dconst1 = .fin false 4503599627370496 (-52) := by decide +kernel
  have eW : Jvm.FP.Core.val64 4841369599423283200 = .fin false 4503599627370496 0 := by decide +kernel
  obtain ⟨m, rfl⟩ : ∃ m, c = m + 4503599627370496 := ⟨c - 4503599627370496, by omega⟩
  have hm : m < 4503599627370496 := by omega
  have es : ∃ s, Jvm.FP.Core.exactSum (Jvm.FP.Core.val64 (XD (m + 4503599627370496) (-52))) (Jvm.FP.Core.negate (Jvm.FP.Core.val64 FP.dconst1)) = .fin s m (-52) ∧ (0 < m → s = false) := by
    rw [XD_val h, e1]
    have hu : Jvm.FP.Core.sumUnits false (m + 4503599627370496) (-52) true 4503599627370496 (-52) (-52) = (m : Int) := by
      unfold Jvm.FP.Core.sumUnits Jvm.FP.Core.inUnits Jvm.FP.Core.signed
      simp
      omega
    refine ⟨Jvm.FP.Core.sumSign false true (m : Int), ?_, fun hp => ?_⟩
    · show Jvm.FP.Core.Datum.fin (Jvm.FP.Core.sumSign false true (Jvm.FP.Core.sumUnits false (m + 4503599627370496) (-52) true 4503599627370496 (-52) (-52))) (Jvm.FP.Core.sumUnits false (m + 4503599627370496) (-52) true 4503599627370496 (-52) (-52)).natAbs (-52) = _
      rw [hu, Int.natAbs_natCast]
    · unfold Jvm.FP.Core.sumSign
      rw [if_neg (by omega)]
      exact decide_eq_false (by omega)
  obtain ⟨s, es, hs⟩ := es
  have ev : Jvm.FP.Core.val64 (FP.dsub (XD (m + 4503599627370496) (-52)) FP.dconst1) = Jvm.FP.Core.round Jvm.FP.Core.b64 (.fin s m (-52)) := by
    rw [show FP.dsub (XD (m + 4503599627370496) (-52)) FP.dconst1 = Jvm.FP.Core.dsub (XD (m + 4503599627370496) (-52)) FP.dconst1 from rfl, Jvm.FP.Core.val64_dsub, es]
  have hr : ∃ c' : Nat, ∃ q' : Int, Jvm.FP.Core.round Jvm.FP.Core.b64 (.fin s m (-52)) = .fin s c' q' ∧ c' * 4503599627370496 * 2 ^ (q' + 0).toNat = m * 2 ^ (-(q' + 0)).toNat ∧ (0 < m → s = false) := by
    by_cases hz : m = 0
    · subst hz
      refine ⟨0, -1074, ?_, by simp, hs⟩
      show Jvm.FP.Core.roundRatio Jvm.FP.Core.b64 s 0 1 (-52) = _
      unfold Jvm.FP.Core.roundRatio
      rw [if_pos rfl, fp_qmin]
    · obtain ⟨hn, hl⟩ := nat_nrm (a := m) (by omega) (by omega)
      refine ⟨m * 2 ^ (52 - m.log2), -((52 - m.log2 : Nat) : Int) - 52, ?_, ?_, hs⟩
      · show Jvm.FP.Core.roundRatio Jvm.FP.Core.b64 s m 1 (-52) = _
        refine Jvm.FP.Core.roundRatio_exact Jvm.FP.Core.good_b64 (by decide) (nrm_fits (q := -((52 - m.log2 : Nat) : Int) - 52) ⟨hn.1, hn.2.1, by omega, by omega⟩ s) ?_
        rw [show ((-52 : Int) - (-((52 - m.log2 : Nat) : Int) - 52)).toNat = 52 - m.log2 by omega, show ((-((52 - m.log2 : Nat) : Int) - 52) - -52).toNat = 0 by omega, Nat.pow_zero, Nat.mul_one, Nat.mul_one]
      · rw [show ((-((52 - m.log2 : Nat) : Int) - 52) + 0).toNat = 0 by omega, show (-((-((52 - m.log2 : Nat) : Int) - 52) + 0)).toNat = (52 - m.log2) + 52 by omega, Nat.pow_zero, Nat.mul_one, Nat.pow_add, Nat.mul_assoc]
  obtain ⟨c', q', er, hv, -⟩ := hr
  rw [er] at ev
  refine ⟨by (rw [ev]; intro h9; cases h9), ?_⟩
  unfold Jvm.FP.Core.DInt
  rw [show FP.dmul (FP.dsub (XD (m + 4503599627370496) (-52)) FP.dconst1) 4841369599423283200 = Jvm.FP.Core.dmul (FP.dsub (XD (m + 4503599627370496) (-52)) FP.dconst1) 4841369599423283200 from rfl, Jvm.FP.Core.val64_dmul, ev, eW]
  rw [show m + 4503599627370496 - 4503599627370496 = m by omega]
  refine Jvm.FP.Core.whole_round Jvm.FP.Core.good_b64 Jvm.FP.Core.wide_b64 (by rw [Int.natAbs_natCast, fp_pp]; omega) ?_
  show Jvm.FP.Core.signed (s != false) (c' * 4503599627370496 * 2 ^ (q' + 0).toNat) = (m : Int) * ((2 ^ (-(q' + 0)).toNat : Nat) : Int)
  rw [hv]
  by_cases hz : m = 0
  · subst hz
    rw [Nat.zero_mul]
    cases s <;> simp [Jvm.FP.Core.signed]
  · rw [hs (by omega)]
    show ((m * 2 ^ (-(q' + 0)).toNat : Nat) : Int) = _
    rw [Int.natCast_mul]
theorem shl_exp : ∀ k, k < 64 → (Int64.ofNat (1023 - k)) <<< ((52 : Int32).toInt64 &&& 63) = Int64.ofNat ((1023 - k) * 4503599627370496) := by decide +kernel
theorem exp_dn : ∀ k, k < 64 → Int64.ofNat (1023 - k) - 1 = Int64.ofNat (1023 - (k + 1)) := by decide +kernel
/-- the bits, as the program puts them together -/
theorem XD_bits {c k : Nat} (hk : k < 64) (h : nrm c (-52 - (k : Int))) : ((Int64.ofNat (1023 - k)) <<< ((52 : Int32).toInt64 &&& 63)) + FP.d2l (FP.dmul (FP.dsub (XD c (-52)) FP.dconst1) 4841369599423283200) = (XD c (-52 - (k : Int))).toInt64 := by
  have h0 : nrm c (-52) := ⟨h.1, h.2.1, by omega, by omega⟩
  obtain ⟨h1, h2, -, -⟩ := id h
  have hm : (Int64.ofNat (c - 4503599627370496)).toInt = ((c - 4503599627370496 : Nat) : Int) := Int64.toInt_ofNat_of_lt (by omega)
  have ed : FP.d2l (FP.dmul (FP.dsub (XD c (-52)) FP.dconst1) 4841369599423283200) = Int64.ofNat (c - 4503599627370496) := by
    refine Jvm.FP.Core.d2l_int ?_
    rw [hm]
    exact (XD_rest h0).2
  rw [ed, shl_exp k hk, ← Int64.ofNat_add]
  rw [show (1023 - k) * 4503599627370496 + (c - 4503599627370496) = (XD c (-52 - (k : Int))).toNat by rw [XD_nat h]; omega]
  rw [← UInt64.toInt64_ofNat', UInt64.ofNat_toNat]
/-- a share's range -/
def shr1 (x : UInt64) : Prop := x = 0 ∨ ∃ c k : Nat, k ≤ 40 ∧ nrm c (-52 - (k : Int)) ∧ x = XD c (-52 - (k : Int))
theorem ratio_rng {a b : Nat} (ha : 0 < a) (hab : a ≤ b) (hb : b ≤ 16000000) : ∃ c k : Nat, k ≤ 40 ∧ nrm c (-52 - (k : Int)) ∧ Jvm.FP.Core.roundRatio Jvm.FP.Core.b64 false a b 0 = .fin false c (-52 - (k : Int)) := by
  have hb0 : 0 < b := by omega
  obtain ⟨s1, s2⟩ := Jvm.FP.Core.leading_spec ha hb0
  have l1 : Jvm.FP.Core.leading a b ≤ 0 := by
    have : Jvm.FP.Core.Below a b 1 := by
      unfold Jvm.FP.Core.Below
      show a * 2 ^ 0 < b * 2 ^ 1
      omega
    have := Jvm.FP.Core.lt_of_below s1 this
    omega
  have l2 : -24 ≤ Jvm.FP.Core.leading a b := by
    have : ¬ Jvm.FP.Core.Below a b (-24) := by
      unfold Jvm.FP.Core.Below
      show ¬ a * 2 ^ 24 < b * 2 ^ 0
      omega
    have := Jvm.FP.Core.lt_of_below this s2
    omega
  have hf := Jvm.FP.Core.roundRatio_fits Jvm.FP.Core.good_b64 false a hb0 0
  have hq : Jvm.FP.Core.quantum Jvm.FP.Core.b64 a b 0 = Jvm.FP.Core.leading a b - 52 := by
    unfold Jvm.FP.Core.quantum
    rw [fp_qmin, show ((Jvm.FP.Core.b64.p : Int) - 1) = 52 by decide]
    omega
  have hle := Jvm.FP.Core.nearest_units_le (f := Jvm.FP.Core.b64) ha hb0 0
  have he : Jvm.FP.Core.leading a b = 0 → Jvm.FP.Core.nearest (Jvm.FP.Core.unitsNum a 0 (Jvm.FP.Core.quantum Jvm.FP.Core.b64 a b 0)) (Jvm.FP.Core.unitsDen b 0 (Jvm.FP.Core.quantum Jvm.FP.Core.b64 a b 0)) ≤ 4503599627370496 := by
    intro h0
    rw [hq, h0]
    refine Jvm.FP.Core.nearest_le (Jvm.FP.Core.unitsDen_pos hb0 _ _) ?_
    show a * 2 ^ 52 ≤ 4503599627370496 * (b * 2 ^ 0)
    omega
  have er : Jvm.FP.Core.roundRatio Jvm.FP.Core.b64 false a b 0 = Jvm.FP.Core.settle Jvm.FP.Core.b64 false (Jvm.FP.Core.nearest (Jvm.FP.Core.unitsNum a 0 (Jvm.FP.Core.quantum Jvm.FP.Core.b64 a b 0)) (Jvm.FP.Core.unitsDen b 0 (Jvm.FP.Core.quantum Jvm.FP.Core.b64 a b 0))) (Jvm.FP.Core.quantum Jvm.FP.Core.b64 a b 0) := by
    unfold Jvm.FP.Core.roundRatio
    rw [if_neg (by omega)]
    rfl
  rw [er] at hf ⊢
  generalize Jvm.FP.Core.nearest (Jvm.FP.Core.unitsNum a 0 (Jvm.FP.Core.quantum Jvm.FP.Core.b64 a b 0)) (Jvm.FP.Core.unitsDen b 0 (Jvm.FP.Core.quantum Jvm.FP.Core.b64 a b 0)) = N at *
  rw [hq] at hf ⊢
  generalize Jvm.FP.Core.leading a b = L at *
  rw [fp_pp] at hle
  unfold Jvm.FP.Core.settle Jvm.FP.Core.bound at hf ⊢
  rw [fp_pp, fp_qmax] at hf ⊢
  by_cases hN : N < 9007199254740992
  · rw [if_pos hN, if_pos (by omega)] at hf ⊢
    obtain ⟨f1, f2, f3, f4⟩ := hf
    rw [fp_tails, fp_qmin] at f4
    refine ⟨N, (-L).toNat, by omega, ⟨by omega, hN, by omega, by omega⟩, ?_⟩
    congr 1
    omega
  · rw [if_neg hN, if_pos (by omega)]
    have hL : L ≠ 0 := fun h => by have := he h; omega
    rw [fp_tails]
    refine ⟨4503599627370496, (-L).toNat - 1, by omega, ⟨by omega, by omega, by omega, by omega⟩, ?_⟩
    congr 1
    omega
/-- the denominators -/
theorem den_val : ∀ o, o < 17 → 1 ≤ o → Jvm.FP.Core.val64 (FP.dmul 4696837146684686336 (FP.i2d (nI o))) = .fin false (1000000 * o * 2 ^ (52 - (1000000 * o).log2)) (-((52 - (1000000 * o).log2 : Nat) : Int)) := by decide +kernel
theorem sh_rng {S : Int64} {o : Nat} (h1 : 1 ≤ o) (h2 : o ≤ 16) (h3 : 0 ≤ S.toInt) (h4 : S.toInt ≤ 1000000 * (o : Int)) : vf_n64 (FP.dmul 4696837146684686336 (FP.i2d (nI o))) ∧ shr1 (FP.ddiv (FP.l2d S) (FP.dmul 4696837146684686336 (FP.i2d (nI o)))) := by
  have hd := den_val o (by omega) h1
  refine ⟨n64_val (by rw [hd]; intro h; cases h), ?_⟩
  obtain ⟨a, ea⟩ : ∃ a : Nat, S.toInt = (a : Int) := ⟨S.toInt.toNat, by omega⟩
  have hv : Jvm.FP.Core.val64 (FP.l2d S) = Jvm.FP.Core.roundRatio Jvm.FP.Core.b64 false a 1 0 := by
    rw [show FP.l2d S = Jvm.FP.Core.l2d S from rfl, Jvm.FP.Core.val64_l2d, ea]
    show Jvm.FP.Core.roundRatio Jvm.FP.Core.b64 (decide ((a : Int) < 0)) (a : Int).natAbs 1 0 = _
    rw [decide_eq_false (by omega), Int.natAbs_natCast]
  rw [show FP.ddiv (FP.l2d S) (FP.dmul 4696837146684686336 (FP.i2d (nI o))) = Jvm.FP.Core.of64 (Jvm.FP.Core.quotient Jvm.FP.Core.b64 (Jvm.FP.Core.val64 (FP.l2d S)) (Jvm.FP.Core.val64 (FP.dmul 4696837146684686336 (FP.i2d (nI o))))) from rfl, hv, hd]
  obtain ⟨hn, hl⟩ := nat_nrm (a := 1000000 * o) (by omega) (by omega)
  by_cases h0 : a = 0
  · left
    subst h0
    have e0 : Jvm.FP.Core.roundRatio Jvm.FP.Core.b64 false 0 1 0 = .fin false 0 (-1074) := by
      unfold Jvm.FP.Core.roundRatio
      rw [if_pos rfl, fp_qmin]
    rw [e0]
    have eq : ∀ (d : Nat) (r : Int), d ≠ 0 → Jvm.FP.Core.quotient Jvm.FP.Core.b64 (.fin false 0 (-1074)) (.fin false d r) = .fin false 0 (-1074) := by
      intro d r hd0
      show (if d = 0 then _ else Jvm.FP.Core.roundRatio Jvm.FP.Core.b64 (false != false) 0 d (-1074 - r)) = _
      rw [if_neg hd0]
      unfold Jvm.FP.Core.roundRatio
      rw [if_pos rfl, fp_qmin]
      rfl
    rw [eq _ _ (by have := hn.1; omega)]
    decide +kernel
  · right
    obtain ⟨hn1, hl1⟩ := nat_nrm (a := a) (by omega) (by omega)
    rw [nat_round (by omega) (by omega)]
    have eq : Jvm.FP.Core.quotient Jvm.FP.Core.b64 (.fin false (a * 2 ^ (52 - a.log2)) (-((52 - a.log2 : Nat) : Int))) (.fin false (1000000 * o * 2 ^ (52 - (1000000 * o).log2)) (-((52 - (1000000 * o).log2 : Nat) : Int))) = Jvm.FP.Core.roundRatio Jvm.FP.Core.b64 false a (1000000 * o) 0 := by
      show (if 1000000 * o * 2 ^ (52 - (1000000 * o).log2) = 0 then _ else Jvm.FP.Core.roundRatio Jvm.FP.Core.b64 (false != false) (a * 2 ^ (52 - a.log2)) (1000000 * o * 2 ^ (52 - (1000000 * o).log2)) (-((52 - a.log2 : Nat) : Int) - -((52 - (1000000 * o).log2 : Nat) : Int))) = _
      rw [if_neg (by have := hn.1; omega)]
      generalize 52 - a.log2 = i at *
      generalize 52 - (1000000 * o).log2 = j at *
      refine Jvm.FP.Core.roundRatio_congr (by have := hn.1; omega) (by omega) ?_
      rw [show (-(i : Int) - -(j : Int) - 0).toNat = j - i by omega, show ((0 : Int) - (-(i : Int) - -(j : Int))).toNat = i - j by omega]
      have e : i + (j - i) = j + (i - j) := by omega
      calc a * 2 ^ i * (1000000 * o) * 2 ^ (j - i) = a * (1000000 * o) * 2 ^ (i + (j - i)) := by rw [Nat.pow_add]; ac_rfl
        _ = a * (1000000 * o) * 2 ^ (j + (i - j)) := by rw [e]
        _ = a * (1000000 * o * 2 ^ j) * 2 ^ (i - j) := by rw [Nat.pow_add]; ac_rfl
    rw [eq]
    obtain ⟨c, k, hk, hc, e⟩ := ratio_rng (a := a) (b := 1000000 * o) (by omega) (by omega) (by omega)
    exact ⟨c, k, hk, hc, by rw [e]; rfl⟩
/-- how unsure a place is: from 0 to a million -/
theorem i64_b {x : Int} (h1 : -9223372036854775808 ≤ x) (h2 : x < 9223372036854775808) : x.bmod (2 ^ 64) = x := Int.bmod_eq_of_le (by simp; omega) (by simp; omega)
theorem ustep_b {z : Int64} (h : 0 ≤ z.toInt ∧ z.toInt ≤ 1000000) (b : Nat) : 0 ≤ (ustep z b).toInt ∧ (ustep z b).toInt ≤ 1000000 := by
  obtain ⟨a, ea⟩ : ∃ a : Nat, z.toInt = (a : Int) := ⟨z.toInt.toNat, by omega⟩
  rw [ea] at h
  have ha : a ≤ 1000000 := by omega
  have hm : a * a ≤ 1000000 * 1000000 := Nat.mul_le_mul ha ha
  have hm1 : a * a ≤ 1000000 * a := Nat.mul_le_mul_right a ha
  have e1 : (z * z).toInt = ((a * a : Nat) : Int) := by
    rw [Int64.toInt_mul, ea, ← Int.natCast_mul, i64_b (by omega) (by omega)]
  have e2 : (z * z / 1000000).toInt = ((a * a / 1000000 : Nat) : Int) := by
    rw [Int64.toInt_div_of_ne_right _ _ (by decide), e1, show (1000000 : Int64).toInt = ((1000000 : Nat) : Int) by decide]
    exact (Int.ofNat_tdiv _ _).symm
  have e3 : (2 * z).toInt = ((2 * a : Nat) : Int) := by
    rw [Int64.toInt_mul, ea, show (2 : Int64).toInt = ((2 : Nat) : Int) by decide, ← Int.natCast_mul, i64_b (by omega) (by omega)]
  have d1 : a * a / 1000000 ≤ a := by omega
  have d2 : 2 * a ≤ a * a / 1000000 + 1000000 := by
    obtain ⟨d, hd⟩ : ∃ d, 1000000 = a + d := ⟨1000000 - a, by omega⟩
    have e : a * a + 1000000 * 1000000 = 2 * a * 1000000 + d * d := by
      rw [hd, Nat.mul_add, Nat.add_mul, Nat.add_mul, Nat.mul_add, Nat.mul_assoc 2 a a, Nat.mul_assoc 2 a d, Nat.mul_comm d a]
      omega
    omega
  unfold ustep
  by_cases hb : b = 0
  · rw [if_pos hb, Int64.toInt_sub, e2, e3, i64_b (by omega) (by omega)]
    omega
  · rw [if_neg hb, e2]
    omega
theorem unsZ_b (p : Nat) : ∀ (k : Nat) (z : Int64), 0 ≤ z.toInt ∧ z.toInt ≤ 1000000 → 0 ≤ (unsZ p k z).toInt ∧ (unsZ p k z).toInt ≤ 1000000 := by
  intro k
  induction k with
  | zero => intro z h; exact h
  | succ k ih => intro z h; exact ih _ (ustep_b h _)
theorem uns_b {sf : Nat → Int32} (hs : okS sf) (n p : Nat) : 0 ≤ (uns sf n p).toInt ∧ (uns sf n p).toInt ≤ 1000000 := by
  obtain ⟨⟨a, ha1, ha2, ea⟩, -, -, -⟩ := hs
  have e0 : (nI a).toInt = (a : Int) := nI_toInt (by omega)
  have e1 : ((sf 0).toInt64 * 1000).toInt = ((a * 1000 : Nat) : Int) := by
    rw [Int64.toInt_mul, Int32.toInt_toInt64, ea, e0, show (1000 : Int64).toInt = ((1000 : Nat) : Int) by decide, ← Int.natCast_mul, i64_b (by omega) (by omega)]
  have h := unsZ_b p (lg n) ((sf 0).toInt64 * 1000) (by rw [e1]; omega)
  unfold uns
  rw [Int64.toInt_toInt32, Int.bmod_eq_of_le (by simp; omega) (by simp; omega)]
  exact h
/-- the open places' unsureness, added up -/
def unsS (sf : Nat → Int32) (mask : Int32) (n : Nat) : Nat → Int64
  | 0 => 0
  | p + 1 => if opn mask p then unsS sf mask n p + (uns sf n p).toInt64 else unsS sf mask n p
theorem unsS_b {sf : Nat → Int32} (hs : okS sf) (mask : Int32) (n : Nat) : ∀ k, k ≤ 16 → 0 ≤ (unsS sf mask n k).toInt ∧ (unsS sf mask n k).toInt ≤ 1000000 * (cntO mask k : Int) := by
  intro k
  induction k with
  | zero =>
    intro _
    exact ⟨by show (0 : Int) ≤ (0 : Int64).toInt; decide, by show (0 : Int64).toInt ≤ 1000000 * ((0 : Nat) : Int); decide⟩
  | succ k ih =>
    intro hk
    have h := ih (by omega)
    have hc := cntO_le mask k
    have hu := uns_b hs n k
    show 0 ≤ (if opn mask k then unsS sf mask n k + (uns sf n k).toInt64 else unsS sf mask n k).toInt ∧ (if opn mask k then unsS sf mask n k + (uns sf n k).toInt64 else unsS sf mask n k).toInt ≤ 1000000 * ((cntO mask k + (if opn mask k then 1 else 0) : Nat) : Int)
    by_cases ho : opn mask k
    · rw [if_pos ho, if_pos ho, Int64.toInt_add, Int32.toInt_toInt64, i64_b (by omega) (by omega)]
      omega
    · rw [if_neg ho, if_neg ho]
      omega
def shA (n : Nat) (mask : Int32) (sf : Nat → Int32) : UInt64 := if cntO mask n = 0 then FP.dconst0 else FP.ddiv (FP.l2d (unsS sf mask n n)) (FP.dmul 4696837146684686336 (FP.i2d (nI (cntO mask n))))
theorem shA_ok {n : Nat} {mask : Int32} {sf : Nat → Int32} (hn : okN n) (hs : okS sf) : shr1 (shA n mask sf) := by
  have hnl := hn.le
  have hc := cntO_le mask n
  unfold shA
  by_cases h0 : cntO mask n = 0
  · rw [if_pos h0]; exact Or.inl rfl
  · rw [if_neg h0]
    have hb := unsS_b hs mask n n hnl.2
    exact (sh_rng (by omega) (by omega) hb.1 hb.2).2
theorem shr1_num {x : UInt64} (h : shr1 x) : vf_n64 x := by
  rcases h with rfl | ⟨c, k, hk, hc, rfl⟩
  · unfold vf_n64; decide
  · exact n64_XD hc
