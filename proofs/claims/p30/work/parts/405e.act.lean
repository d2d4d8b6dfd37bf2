/-! PURE: an undoable call by two cells of the script -/
def lwN (v : Int32) : Nat := (v &&& 2147483647).toNatClampNeg
theorem lwN_e (v : Int32) : v &&& 2147483647 = nI (lwN v) ∧ lwN v < 2 ^ 31 := by
  obtain ⟨j, hj, e⟩ := pk_andE v (m := 2147483647) 31 (by decide)
  unfold lwN
  rw [e, nI_clamp hj]
  exact ⟨rfl, hj⟩
abbrev lwM (v : Int32) (n : Nat) : Nat := lwN v % n
theorem lwM_lt (v : Int32) {n : Nat} (h : 0 < n) : lwM v n < n := Nat.mod_lt _ h
/-- the value that is set -/
def stV (w : Int32) : Int32 :=
  if lwM w 4 = 0 then nI (1 + lwM (w >>> (2 &&& 31)) 999) else if lwM w 4 = 1 then nI (1 + lwM (w >>> (2 &&& 31)) 4) else if lwM w 4 = 2 then (w >>> (2 &&& 31)) &&& 3 else nI (1 + lwM (w >>> (2 &&& 31)) 99)
/-- the body that is sent -/
def sdB (n : Nat) (mask : Int32) (sf : Nat → Int32) (w : Int32) : Int32 := w &&& ((1 <<< (nI (bdB mask n sf) &&& 31)) - 1)
def plc (n : Nat) (v : Int32) : Nat := lwM (v >>> (4 &&& 31)) n
def rcV (w : Int32) : Int32 := nI (lwM w 199) - 99
abbrev rcR (a v : Int32) : Int32 := if (0 < a ↔ 0 < v) ∧ (a < 0 ↔ v < 0) then 0 else 1
section
variable (n : Nat) (mask : Int32) (vf sf : Nat → Int32) (v w : Int32)
def acBegin : Wd × Int32 := ((2 ^ (1 + lwM w 4), 0, (fun _ => 0), sf), nI (2 ^ (1 + lwM w 4)))
def acOpen : Wd × Int32 := ((n, opnM sf n (nI (lwM w (n + 1))) n, vf, sf), opnM sf n (nI (lwM w (n + 1))) n)
def acTog : Wd × Int32 := ((n, mask ^^^ (1 <<< (nI (plc n v) &&& 31)), vf, sf), if opn (mask ^^^ (1 <<< (nI (plc n v) &&& 31))) (plc n v) then 1 else 0)
def acSet : Wd × Int32 := ((n, mask, vf, upd sf (lwM w 4) (stV w)), sf (lwM w 4))
def acSend : Wd × Int32 := ((n, mask, sndV n (wof n mask (wck n mask sf (sdB n mask sf w))) (sf 3) vf, sf), wof n mask (wck n mask sf (sdB n mask sf w)))
def acFlip : Wd × Int32 := ((n, mask, flp vf (plc n v), sf), absI (-(vf (plc n v))))
def acRoll : Wd × Int32 := ((n, mask, rolV n vf (lwM w n), sf), nI (rolC n vf (lwM w n) n))
def acRecv : Wd × Int32 := ((n, mask, upd vf (plc n v) (rcV w), sf), rcR (vf (plc n v)) (rcV w))
def acF : Wd × Int32 :=
  if v &&& 15 = 0 then acBegin sf w else if v &&& 15 = 1 then acOpen n vf sf w else if v &&& 15 = 2 then acOpen n vf sf w else if v &&& 15 = 3 then acTog n mask vf sf v else if v &&& 15 = 4 then acTog n mask vf sf v
  else if v &&& 15 = 5 then acSet n mask vf sf w else if v &&& 15 = 6 then acSet n mask vf sf w else if v &&& 15 = 7 then acSend n mask vf sf w else if v &&& 15 = 8 then acSend n mask vf sf w
  else if v &&& 15 = 9 then acFlip n mask vf sf v else if v &&& 15 = 10 then acRoll n mask vf sf w else acRecv n mask vf sf v w
end
/-! the calls don't throw -/
theorem th_beg (w : Int32) : thBegin (nI (1 + lwM w 4)) = 0 := by
  have h := lwM_lt w (n := 4) (by decide)
  exact if_pos (th_le (a := 1) (b := 4) (by decide) (by omega) (by omega))
theorem th_opn {n : Nat} (hn : n ≤ 16) (w : Int32) : thOpen n (nI (lwM w (n + 1))) = 0 := by
  have h := lwM_lt w (n := n + 1) (by omega)
  have h1 : 0 ≤ nI (lwM w (n + 1)) ∧ nI (lwM w (n + 1)) ≤ 16 := th_le (a := 0) (b := 16) (by decide) (Nat.zero_le _) (by omega)
  have h2 : ¬ nI n < nI (lwM w (n + 1)) := fun z => absurd ((nI_ltI (by omega) (by omega)).mp z) (by omega)
  unfold thOpen
  rw [if_pos h1, if_neg h2]
theorem stV_ok (w : Int32) : thSet (nI (lwM w 4)) (stV w) = 0 := by
  have h := lwM_lt w (n := 4) (by decide)
  have h1 := lwM_lt (w >>> (2 &&& 31)) (n := 999) (by decide)
  have h2 := lwM_lt (w >>> (2 &&& 31)) (n := 4) (by decide)
  have h3 := lwM_lt (w >>> (2 &&& 31)) (n := 99) (by decide)
  have h0 : 0 ≤ nI (lwM w 4) ∧ nI (lwM w 4) < 4 := ⟨(th_le (a := 0) (b := lwM w 4) (by omega) (Nat.zero_le _) (Nat.le_refl _)).1, (nI_ltI (a := lwM w 4) (b := 4) (by omega) (by decide)).mpr h⟩
  unfold thSet
  rw [if_pos h0, nI_clamp (by omega)]
  have hs : tL (lwM w 4) ≤ stV w ∧ stV w ≤ tM (lwM w 4) := by
    unfold stV
    generalize lwM w 4 = s at *
    rcases (show s = 0 ∨ s = 1 ∨ s = 2 ∨ s = 3 by omega) with rfl | rfl | rfl | rfl
    · rw [if_pos rfl]
      exact th_le (a := 1) (b := 999) (by decide) (by omega) (by omega)
    · rw [if_neg (by decide), if_pos rfl]
      exact th_le (a := 1) (b := 4) (by decide) (by omega) (by omega)
    · rw [if_neg (by decide), if_neg (by decide), if_pos rfl]
      obtain ⟨j, hj, e⟩ := pk_andE (w >>> (2 &&& 31)) (m := 3) 2 (by decide)
      rw [e]
      exact th_le (a := 0) (b := 3) (by decide) (Nat.zero_le _) (by omega)
    · rw [if_neg (by decide), if_neg (by decide), if_neg (by decide)]
      exact th_le (a := 1) (b := 99) (by decide) (by omega) (by omega)
  rw [if_pos hs]
theorem plc_lt {n : Nat} (h : 0 < n) (v : Int32) : plc n v < n := lwM_lt _ h
theorem rcV_I (w : Int32) : (rcV w).toInt = (lwM w 199 : Int) - 99 := by
  have h := lwM_lt w (n := 199) (by decide)
  unfold rcV
  rw [i_sub (by rw [nI_toInt (by omega), show (99 : Int32).toInt = 99 by decide]; omega) (by rw [nI_toInt (by omega), show (99 : Int32).toInt = 99 by decide]; omega), nI_toInt (by omega)]
  rfl
theorem th_rcv {n : Nat} (h0 : 0 < n) (hn : n ≤ 16) (v w : Int32) : thRecv n (nI (plc n v)) (rcV w) = 0 := by
  have h := lwM_lt w (n := 199) (by decide)
  have hp := plc_lt h0 v
  have h0 : 0 ≤ nI (plc n v) ∧ nI (plc n v) < nI n := ⟨(th_le (a := 0) (b := plc n v) (by omega) (Nat.zero_le _) (Nat.le_refl _)).1, (nI_ltI (by omega) (by omega)).mpr hp⟩
  unfold thRecv
  rw [if_pos h0]
  refine if_pos ⟨?_, ?_⟩
  · rw [Int32.le_iff_toInt_le, rcV_I, show (-99 : Int32).toInt = -99 by decide]; omega
  · rw [Int32.le_iff_toInt_le, rcV_I, show (99 : Int32).toInt = 99 by decide]; omega
theorem sdB_ok {n : Nat} (hn : n ≤ 16) (mask : Int32) (sf : Nat → Int32) (w : Int32) : thBody n mask sf (sdB n mask sf w) = 0 := by
  have hb := bdB_le mask n sf
  have h16 : 2 ^ bdB mask n sf ≤ 2 ^ 16 := Nat.pow_le_pow_right (by decide) (by omega)
  unfold sdB
  obtain ⟨j, hj, e⟩ := pk_andE w (m := (1 <<< (nI (bdB mask n sf) &&& 31)) - 1) (bdB mask n sf) (by rw [low_m _ (by omega), pk_tn (by omega)])
  rw [e]
  unfold thBody
  refine if_pos ⟨nI_pos' (by omega), ?_⟩
  rw [shr_N (by omega) (by omega), Nat.div_eq_of_lt hj]
  rfl
theorem th_rol {n : Nat} (h0 : 0 < n) (hn : n ≤ 16) (w : Int32) : thPl n (nI (lwM w n)) = 0 := th_pl hn (lwM_lt w h0)
/-! what is afterwards keeps what is asked of a word; no answer is below 0 -/
theorem cod_nn {n : Nat} (hn : okN1 n) (x : Int32) : ¬ cod x n < 0 := by
  have hnl := hn.le
  have hl := lg_le hn
  have hp : 2 ^ n ≤ 2 ^ 16 := Nat.pow_le_pow_right (by decide) hnl.2
  obtain ⟨j, hj, e⟩ := pk_andE x (m := (1 <<< (nI n &&& 31)) - 1) n (by rw [low_m n (by omega), pk_tn (by omega)])
  obtain ⟨c, hc, e2, -⟩ := codS_bits (b := j) (by omega) (lg n) hl
  unfold cod
  rw [e, e2]
  exact nI_pos (by omega)
theorem acF_ok {n : Nat} {mask : Int32} {vf sf : Nat → Int32} (h : okW (n, mask, vf, sf)) (v w : Int32) : okW (acF n mask vf sf v w).1 ∧ ¬ (acF n mask vf sf v w).2 < 0 := by
  have hn : okN n := h.1
  have hnl := hn.le
  have hs : okS sf := h.2.2.1
  have hv : okV vf := h.2.2.2
  have hp := plc_lt (n := n) (by omega) v
  have cb : okW (acBegin sf w).1 ∧ ¬ (acBegin sf w).2 < 0 := by
    have h4 := lwM_lt w (n := 4) (by decide)
    have h1 := okW_begin h (th_beg w)
    rw [nI_clamp (by omega)] at h1
    have h16 : 2 ^ (1 + lwM w 4) ≤ 2 ^ 4 := Nat.pow_le_pow_right (by decide) (by omega)
    exact ⟨h1, nI_pos (by omega)⟩
  have co : okW (acOpen n vf sf w).1 ∧ ¬ (acOpen n vf sf w).2 < 0 := by
    obtain ⟨a, ha, e⟩ := opnM_N sf n (nI (lwM w (n + 1))) n hnl.2
    have h16 : 2 ^ n ≤ 2 ^ 16 := Nat.pow_le_pow_right (by decide) hnl.2
    refine ⟨okW_open h, ?_⟩
    show ¬ opnM sf n (nI (lwM w (n + 1))) n < 0
    rw [e]
    exact nI_pos (by omega)
  have ct : okW (acTog n mask vf sf v).1 ∧ ¬ (acTog n mask vf sf v).2 < 0 := by
    have h1 := okW_toggle (k := nI (plc n v)) h (th_pl hnl.2 hp)
    rw [nI_clamp (by omega)] at h1
    refine ⟨h1, ?_⟩
    show ¬ (if opn (mask ^^^ (1 <<< (nI (plc n v) &&& 31))) (plc n v) then (1 : Int32) else 0) < 0
    split <;> decide
  have cs : okW (acSet n mask vf sf w).1 ∧ ¬ (acSet n mask vf sf w).2 < 0 := by
    have h4 := lwM_lt w (n := 4) (by decide)
    have h1 := okW_set h (stV_ok w)
    rw [nI_clamp (by omega)] at h1
    refine ⟨h1, ?_⟩
    show ¬ sf (lwM w 4) < 0
    obtain ⟨⟨a, a1, a2, ea⟩, ⟨b, b1, b2, eb⟩, ⟨c, c1, ec⟩, ⟨d, d1, d2, ed⟩⟩ := hs
    rcases (show lwM w 4 = 0 ∨ lwM w 4 = 1 ∨ lwM w 4 = 2 ∨ lwM w 4 = 3 by omega) with e | e | e | e <;> rw [e]
    · rw [ea]; exact nI_pos (by omega)
    · rw [eb]; exact nI_pos (by omega)
    · rw [ec]; exact nI_pos (by omega)
    · rw [ed]; exact nI_pos (by omega)
  have cd : okW (acSend n mask vf sf w).1 ∧ ¬ (acSend n mask vf sf w).2 < 0 := ⟨okW_send h, cod_nn hn.n1 _⟩
  have cf : okW (acFlip n mask vf sf v).1 ∧ ¬ (acFlip n mask vf sf v).2 < 0 := by
    refine ⟨okW_flip h, ?_⟩
    show ¬ absI (-(vf (plc n v))) < 0
    have h1 := absI_b (B := 99) (by decide) (neg_b (hv (plc n v) (by omega)))
    rw [i_lt0]
    omega
  have cr : okW (acRoll n mask vf sf w).1 ∧ ¬ (acRoll n mask vf sf w).2 < 0 := by
    have h1 := rolC_le n vf (lwM w n) n
    exact ⟨okW_roll h, nI_pos (by omega)⟩
  have cv : okW (acRecv n mask vf sf v w).1 ∧ ¬ (acRecv n mask vf sf v w).2 < 0 := by
    have h1 := okW_recv h (th_rcv (by omega) hnl.2 v w)
    rw [nI_clamp (by omega)] at h1
    refine ⟨h1, ?_⟩
    show ¬ rcR (vf (plc n v)) (rcV w) < 0
    unfold rcR
    split <;> decide
  unfold acF
  by_cases e0 : v &&& 15 = 0
  · rw [if_pos e0]; exact cb
  rw [if_neg e0]
  by_cases e1 : v &&& 15 = 1
  · rw [if_pos e1]; exact co
  rw [if_neg e1]
  by_cases e2 : v &&& 15 = 2
  · rw [if_pos e2]; exact co
  rw [if_neg e2]
  by_cases e3 : v &&& 15 = 3
  · rw [if_pos e3]; exact ct
  rw [if_neg e3]
  by_cases e4 : v &&& 15 = 4
  · rw [if_pos e4]; exact ct
  rw [if_neg e4]
  by_cases e5 : v &&& 15 = 5
  · rw [if_pos e5]; exact cs
  rw [if_neg e5]
  by_cases e6 : v &&& 15 = 6
  · rw [if_pos e6]; exact cs
  rw [if_neg e6]
  by_cases e7 : v &&& 15 = 7
  · rw [if_pos e7]; exact cd
  rw [if_neg e7]
  by_cases e8 : v &&& 15 = 8
  · rw [if_pos e8]; exact cd
  rw [if_neg e8]
  by_cases e9 : v &&& 15 = 9
  · rw [if_pos e9]; exact cf
  rw [if_neg e9]
  by_cases e10 : v &&& 15 = 10
  · rw [if_pos e10]; exact cr
  rw [if_neg e10]; exact cv
