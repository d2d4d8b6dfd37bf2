/-! THE SHARE'S BITS BY DOUBLING, AND THE DIGEST -/
def XK (c k i : Nat) : UInt64 := XD c (-52 - (k : Int) + (i : Int))
theorem XK_0 (c k : Nat) : XD c (-52 - (k : Int)) = XK c k 0 := by
  unfold XK; congr 1; omega
theorem XK_k (c k : Nat) : XK c k k = XD c (-52) := by
  unfold XK; congr 1; omega
theorem nrm_up {c k i : Nat} (h : nrm c (-52 - (k : Int))) (hi : i ≤ k) : nrm c (-52 - (k : Int) + (i : Int)) := by
  obtain ⟨h1, h2, h3, h4⟩ := h
  exact ⟨h1, h2, by omega, by omega⟩
theorem XK_two {c k i : Nat} (h : nrm c (-52 - (k : Int))) (hi : i < k) : FP.dmul (XK c k i) 4611686018427387904 = XK c k (i + 1) := by
  have e : -52 - (k : Int) + (i : Int) + 1 = -52 - (k : Int) + ((i + 1 : Nat) : Int) := by omega
  have h2 := nrm_up (i := i + 1) h (by omega)
  rw [← e] at h2
  unfold XK
  rw [XD_two (nrm_up h (by omega)) h2, e]
theorem XK_n64 {c k i : Nat} (h : nrm c (-52 - (k : Int))) (hi : i ≤ k) : vf_n64 (XK c k i) := n64_XD (nrm_up h hi)
theorem XK_lt {c k i : Nat} (h : nrm c (-52 - (k : Int))) (hi : i < k) : ¬ 0 ≤ Op.cmpValue (FP.dcmp (XK c k i) FP.dconst1) .g := by
  unfold XK
  rw [XD_lt1 (nrm_up h (by omega)) (by omega)]
  decide
theorem XK_ge {c k : Nat} (h : nrm c (-52 - (k : Int))) : 0 ≤ Op.cmpValue (FP.dcmp (XK c k k) FP.dconst1) .g := XD_ge1 (nrm_up h (Nat.le_refl k)) (by omega)
/-- 31 times what was, and the next number -/
def dgI (f : Nat → Int32) : Nat → Int64 → Int64
  | 0, h => h
  | k + 1, h => 31 * dgI f k h + (f k).toInt64
def dg1 (n : Nat) (mask : Int32) (vf sf : Nat → Int32) (c k : Nat) : Int64 := dgI (fun w => ctA n mask vf sf (rdS n mask vf sf) c (nI w)) k 2797
def dg2 (n : Nat) (mask : Int32) (vf sf : Nat → Int32) (c k : Nat) : Int64 := dgI sf k (dg1 n mask vf sf c 9)
def dg3i (n : Nat) (mask : Int32) (vf sf : Nat → Int32) (p : Nat) (h : Int64) (k : Nat) : Int64 := dgI (fun w => plA n mask vf sf p (nI w)) k h
def dg3 (n : Nat) (mask : Int32) (vf sf : Nat → Int32) (c : Nat) : Nat → Int64
  | 0 => dg2 n mask vf sf c 4
  | p + 1 => 31 * (31 * dg3i n mask vf sf p (dg3 n mask vf sf c p) 6 + (hea n vf p (atL (rdS n mask vf sf) 0).1 + 10000).toInt64) + (ifF n mask vf sf p).toInt64
def dg4 (n : Nat) (mask : Int32) (vf sf : Nat → Int32) (c k : Nat) : Int64 := dgI (fun w => rdA n mask vf sf (rdS n mask vf sf) (nI w)) k (dg3 n mask vf sf c n)
def dg5i (n : Nat) (mask : Int32) (vf sf : Nat → Int32) (r : Nat) (h : Int64) (k : Nat) : Int64 := dgI (fun w => ptA n mask sf (rdS n mask vf sf) (nI r) (nI w)) k h
def dg5 (n : Nat) (mask : Int32) (vf sf : Nat → Int32) (c : Nat) : Nat → Int64
  | 0 => dg4 n mask vf sf c 5
  | r + 1 => dg5i n mask vf sf r (dg5 n mask vf sf c r) 3
def dg6 (n : Nat) (mask : Int32) (vf sf : Nat → Int32) (c : Nat) : Int64 := 31 * (31 * (31 * (31 * dg5 n mask vf sf c 4 + (cod 1 n).toInt64) + (cod 52 n).toInt64) + (cod 43690 n).toInt64) + (wof n mask (wck n mask sf 0)).toInt64
def dg7 (n : Nat) (mask : Int32) (vf sf : Nat → Int32) (c k : Nat) : Int64 := dgI (fun w => ifP n mask vf sf (w + 1)) k (dg6 n mask vf sf c)
def dg10 (n : Nat) (mask : Int32) (vf sf : Nat → Int32) (c ln : Nat) : Int64 := 31 * (31 * (31 * (31 * dg7 n mask vf sf c 4 + (wkA n mask vf sf).toInt64) + (nI (boX n mask vf sf n)).toInt64) + (shA n mask sf).toInt64) + (nI ln).toInt64
def dgX (n : Nat) (mask : Int32) (vf sf : Nat → Int32) (c ln : Nat) (sg : Nat → Int32) (k : Nat) : Int64 := dgI sg k (dg10 n mask vf sf c ln)
theorem th_le {a b i : Nat} (hb : b < 2 ^ 31) (h1 : a ≤ i) (h2 : i ≤ b) : nI a ≤ nI i ∧ nI i ≤ nI b := ⟨(nI_leI (by omega) (by omega)).mpr h1, (nI_leI (by omega) hb).mpr h2⟩
theorem th_count {i : Nat} (h : i < 9) : thCount (nI i) = 0 := if_pos (th_le (a := 0) (b := 8) (by decide) (Nat.zero_le i) (by omega))
theorem th_sett {i : Nat} (h : i < 4) : thSett (nI i) = 0 := if_pos (th_le (a := 0) (b := 3) (by decide) (Nat.zero_le i) (by omega))
theorem th_pl {n j : Nat} (hn : n ≤ 16) (h : j < n) : thPl n (nI j) = 0 := if_pos ⟨(th_le (a := 0) (b := j) (by omega) (Nat.zero_le j) (Nat.le_refl j)).1, (nI_ltI (by omega) (by omega)).mpr h⟩
theorem th_place {n j i : Nat} (hn : n ≤ 16) (h : j < n) (hi : i < 6) : thPlace n (nI j) (nI i) = 0 := by
  unfold thPlace
  rw [if_pos ⟨(th_le (a := 0) (b := j) (by omega) (Nat.zero_le j) (Nat.le_refl j)).1, (nI_ltI (by omega) (by omega)).mpr h⟩]
  exact if_pos (th_le (a := 0) (b := 5) (by decide) (Nat.zero_le i) (by omega))
theorem th_read {i : Nat} (h : i < 5) : thRead (nI i) = 0 := if_pos (th_le (a := 0) (b := 4) (by decide) (Nat.zero_le i) (by omega))
theorem th_path {j i : Nat} (hj : j < 4) (hi : i < 3) : thPath (nI j) (nI i) = 0 := if_pos ⟨(th_le (a := 0) (b := 3) (by decide) (Nat.zero_le j) (by omega)).1, th_le (a := 0) (b := 2) (by decide) (Nat.zero_le i) (by omega)⟩
theorem th_paths {i : Nat} (h : i < 4) : thPaths (nI (i + 1)) = 0 := if_pos (th_le (a := 1) (b := 4) (by decide) (by omega) (by omega))
theorem th_body0 {n : Nat} {mask : Int32} {sf : Nat → Int32} : thBody n mask sf 0 = 0 := by
  unfold thBody
  refine if_pos ⟨by decide, ?_⟩
  exact Int32.zero_shiftRight
