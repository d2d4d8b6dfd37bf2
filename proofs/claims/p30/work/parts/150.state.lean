/-! STATE of the channels: the word at hand, the saved ones in a ring -/
abbrev Wd : Type := Nat × Int32 × (Nat → Int32) × (Nat → Int32)
abbrev St : Type := Wd × (Nat → Wd) × Nat × Nat × Int32
def upW (sw : Nat → Wd) (k : Nat) (w : Wd) : Nat → Wd := fun i => if i = k then w else sw i
def svO (o c : Nat) : Nat := if c < 6 then o else (o + 1) % 6
def svC (c : Nat) : Nat := if c < 6 then c + 1 else c
abbrev svS (w w2 : Wd) (sw : Nat → Wd) (o c : Nat) : St := (w2, upW sw ((o + c) % 6) w, svO o c, svC c, 0)
theorem svC_t {c : Nat} (h : c < 6) : c + 1 = svC c := by unfold svC; rw [if_pos h]
theorem svC_f {c : Nat} (h : ¬ c < 6) : c = svC c := by unfold svC; rw [if_neg h]
theorem svO_t {o c : Nat} (h : c < 6) : o = svO o c := by unfold svO; rw [if_pos h]
theorem svO_f {o c : Nat} (h : ¬ c < 6) : (o + 1) % 6 = svO o c := by unfold svO; rw [if_neg h]
def lmN (sf : Nat → Int32) : Nat := (sf 1).toNatClampNeg
theorem okS.l {sf : Nat → Int32} (h : okS sf) : sf 1 = nI (lmN sf) ∧ 1 ≤ lmN sf ∧ lmN sf ≤ 4 := by
  obtain ⟨-, ⟨a, h1, h2, e⟩, -, -⟩ := h
  have : lmN sf = a := by unfold lmN; rw [e, nI_clamp (by omega)]
  rw [this]; exact ⟨e, h1, h2⟩
/-- what is read of a word -/
abbrev rdS (n : Nat) (mask : Int32) (vf sf : Nat → Int32) : PL := rdL n mask vf (lmN sf)
/-- what a reading's rows hold of it -/
abbrev rdH (n : Nat) (mask : Int32) (sf : Nat → Int32) (P : PL) (fb fp fm fi : Nat → Int32) : Prop :=
  hol P fb fp ∧ ∀ i, i < P.length → fm i = msP n mask P i ∧ fi i = (if rgt n mask sf (msP n mask P i) then 1 else 0)
/-- a reading that is fresh -/
def rdG (n : Nat) (mask : Int32) (vf sf : Nat → Int32) (n0 : Nat) (ip ir : Int32) (fr fb fp fm fi : Nat → Int32) : Prop :=
  n0 = n ∧ ip = nI (rdS n mask vf sf).length ∧ ir = rrk n mask sf (rdS n mask vf sf) (rdS n mask vf sf).length ∧ (∀ j, j < 16 → fr j = vf j) ∧ rdH n mask sf (rdS n mask vf sf) fb fp fm fi
theorem bit0 (j : Nat) (hj : j < 16) : ¬ bitI 0 j = 1 := by
  have h := bitI_N (n := 0) (p := j) (by decide) (by omega)
  rw [show bitI 0 j = bitI (nI 0) j from rfl, h, Nat.zero_div]
  decide
/-- which exception a call throws: 0 none, 1 the first, 2 the second -/
def thBegin (k : Int32) : Nat := if 1 ≤ k ∧ k ≤ 4 then 0 else 1
def thOpen (n : Nat) (k : Int32) : Nat := if 0 ≤ k ∧ k ≤ 16 then (if nI n < k then 2 else 0) else 1
def thPl (n : Nat) (k : Int32) : Nat := if 0 ≤ k ∧ k < nI n then 0 else 1
def okSet (q v : Int32) : Prop := tL q.toNatClampNeg ≤ v ∧ v ≤ tM q.toNatClampNeg
def thSet (q v : Int32) : Nat := if 0 ≤ q ∧ q < 4 then (if tL q.toNatClampNeg ≤ v ∧ v ≤ tM q.toNatClampNeg then 0 else 2) else 1
def thBody (n : Nat) (mask : Int32) (sf : Nat → Int32) (b : Int32) : Nat := if 0 ≤ b ∧ b >>> (nI (bdB mask n sf) &&& 31) = 0 then 0 else 1
def thRecv (n : Nat) (k v : Int32) : Nat := if 0 ≤ k ∧ k < nI n then (if -99 ≤ v ∧ v ≤ 99 then 0 else 2) else 1
def thApp (ln : Nat) (c : Int32) : Nat := if 33 ≤ c ∧ c ≤ 126 then (if ln < 60 then 0 else 2) else 1
def thAll (n ln : Nat) (r : Nat × TS) : Nat := if r.1 < ln ∨ ¬ endV r.2.1 then 1 else if n < r.2.2.2.1 then 2 else 0
def thUndo (c : Nat) : Nat := if c = 0 then 1 else 0
def thPlace (n : Nat) (k q : Int32) : Nat := if 0 ≤ k ∧ k < nI n then (if 0 ≤ q ∧ q ≤ 5 then 0 else 2) else 1
def thCode (b : Int32) : Nat := if 0 ≤ b ∧ b ≤ 65535 then 0 else 1
def thRead (q : Int32) : Nat := if 0 ≤ q ∧ q ≤ 4 then 0 else 1
def thPath (r q : Int32) : Nat := if 0 ≤ r ∧ 0 ≤ q ∧ q ≤ 2 then 0 else 1
def thCount (q : Int32) : Nat := if 0 ≤ q ∧ q ≤ 8 then 0 else 1
def thSett (q : Int32) : Nat := if 0 ≤ q ∧ q ≤ 3 then 0 else 1
def thPaths (k : Int32) : Nat := if 1 ≤ k ∧ k ≤ 4 then 0 else 1
/-- answers -/
def plA (n : Nat) (mask : Int32) (vf sf : Nat → Int32) (p : Nat) (q : Int32) : Int32 :=
  if q = 0 then (if opn mask p then 1 else 0) else if q = 1 then uns sf n p else if q = 2 then nI (rnk (uns sf n) p n) else if q = 3 then vf p + 100
  else if q = 4 then (if opn mask p then nI (cntO mask p) else -1) else (if opn mask p ∧ bdB mask n sf ≤ cntO mask p then 1 else 0)
def rdA (n : Nat) (mask : Int32) (vf sf : Nat → Int32) (P : PL) (q : Int32) : Int32 :=
  if fstX n mask sf P P.length < P.length then
    (if q = 0 then msP n mask P (fstX n mask sf P P.length) else if q = 1 then msP n mask P (fstX n mask sf P P.length) &&& ((1 <<< (nI (bdB mask n sf) &&& 31)) - 1)
     else if q = 2 then nI (fstX n mask sf P P.length) else if q = 3 then (atL P (fstX n mask sf P P.length)).2 else nI (difS (wof n mask (msP n mask P (fstX n mask sf P P.length))) vf n))
  else -1
def ptA (n : Nat) (mask : Int32) (sf : Nat → Int32) (P : PL) (r q : Int32) : Int32 :=
  if nI P.length ≤ r then -1 else if q = 0 then msP n mask P r.toNatClampNeg else if q = 1 then (atL P r.toNatClampNeg).2 else (if rgt n mask sf (msP n mask P r.toNatClampNeg) then 1 else 0)
def ctA (n : Nat) (mask : Int32) (vf sf : Nat → Int32) (P : PL) (c : Nat) (q : Int32) : Int32 :=
  if q = 0 then nI n else if q = 1 then nI (cntO mask n) else if q = 2 then nI (bdB mask n sf) else if q = 3 then nI (ckB mask n sf) else if q = 4 then nI (zerS vf n)
  else if q = 5 then sizS vf n else if q = 6 then nI P.length else if q = 7 then nI (rgC n mask sf P P.length) else nI c
def flp (vf : Nat → Int32) (p : Nat) : Nat → Int32 := upd vf p (-(vf p))
def flN (vf : Nat → Int32) (p : Nat) : Nat → Int32 := fun j => if j < p then -(vf j) else vf j
def ifF (n : Nat) (mask : Int32) (vf sf : Nat → Int32) (p : Nat) : Int32 := rdM n mask sf (rdL n mask (flp vf p) (lmN sf))
def ifP (n : Nat) (mask : Int32) (vf sf : Nat → Int32) (k : Nat) : Int32 := rdM n mask sf (rdL n mask vf k)
def rdN (n : Nat) (mask : Int32) (vf sf : Nat → Int32) : Int32 := rdM n mask sf (rdS n mask vf sf)
/-- the first place below k whose flip changes what is read, or k -/
def wkX (n : Nat) (mask : Int32) (vf sf : Nat → Int32) : Nat → Nat
  | 0 => 0
  | k + 1 => if wkX n mask vf sf k < k then wkX n mask vf sf k else if ifF n mask vf sf k = rdN n mask vf sf then k + 1 else k
def wkA (n : Nat) (mask : Int32) (vf sf : Nat → Int32) : Int32 := if wkX n mask vf sf n < n then nI (wkX n mask vf sf n) else -1
def ifB (n : Nat) (mask : Int32) (vf sf : Nat → Int32) (k : Nat) : Int32 := rdM n mask sf (rdL n mask (flN vf (k + 1)) (lmN sf))
def boX (n : Nat) (mask : Int32) (vf sf : Nat → Int32) : Nat → Nat
  | 0 => 0
  | k + 1 => if boX n mask vf sf k < k then boX n mask vf sf k else if ifB n mask vf sf k = rdN n mask vf sf then k + 1 else k
/-- rolling -/
def rolV (n : Nat) (vf : Nat → Int32) (b : Nat) : Nat → Int32 := fun j => if j < n then vf ((j + n - b) % n) else vf j
def rolC (n : Nat) (vf : Nat → Int32) (b : Nat) : Nat → Nat
  | 0 => 0
  | p + 1 => rolC n vf b p + (if rolV n vf b p = vf p then 0 else 1)
def sndV (n : Nat) (w : Int32) (st : Int32) (vf : Nat → Int32) : Nat → Int32 := fun j => if j < n then (if bitI w j = 1 then -st else st) else vf j
def allV (n tl : Nat) (tv vf : Nat → Int32) : Nat → Int32 := fun j => if j < n then (if j < tl then tv j else 0) else vf j
def opnM (sf : Nat → Int32) (n : Nat) (k : Int32) : Nat → Int32
  | 0 => 0
  | p + 1 => if nI (rnk (uns sf n) p n) < k then opnM sf n k p ||| (1 <<< (nI p &&& 31)) else opnM sf n k p
theorem k14 {k : Int32} (h : 1 ≤ k ∧ k ≤ 4) : ∃ j : Nat, 1 ≤ j ∧ j ≤ 4 ∧ k = nI j := by
  obtain ⟨j, hj, rfl⟩ := nI_of (x := k) (fun h2 => by
    have h3 := h.1
    rw [i_lt0] at h2
    rw [Int32.le_iff_toInt_le] at h3
    have : (1 : Int32).toInt = 1 := by decide
    omega)
  exact ⟨j, (nI_leI (a := 1) (b := j) (by decide) hj).mp h.1, (nI_leI (a := j) (b := 4) hj (by decide)).mp h.2, rfl⟩
theorem rcv_eq (a v : Int32) : (if (0 < a ↔ 0 < v) ∧ (a < 0 ↔ v < 0) then (0 : Int32) else 1) = (if (if ¬ (a ≤ 0) then (1 : Int32) else 0) = (if ¬ (v ≤ 0) then 1 else 0) ∧ (if ¬ (0 ≤ a) then (1 : Int32) else 0) = (if ¬ (0 ≤ v) then 1 else 0) then 0 else 1) := by
  have key : ∀ (P Q : Prop) [Decidable P] [Decidable Q], ((if P then (1 : Int32) else 0) = (if Q then 1 else 0)) ↔ (P ↔ Q) := by
    intro P Q _ _
    by_cases hp : P <;> by_cases hq : Q
    · rw [if_pos hp, if_pos hq]; exact ⟨fun _ => iff_of_true hp hq, fun _ => rfl⟩
    · rw [if_pos hp, if_neg hq]; exact ⟨fun h => absurd h (by decide), fun h => absurd (h.mp hp) hq⟩
    · rw [if_neg hp, if_pos hq]; exact ⟨fun h => absurd h (by decide), fun h => absurd (h.mpr hq) hp⟩
    · rw [if_neg hp, if_neg hq]; exact ⟨fun _ => iff_of_false hp hq, fun _ => rfl⟩
  have e : ((0 < a ↔ 0 < v) ∧ (a < 0 ↔ v < 0)) ↔ ((if ¬ (a ≤ 0) then (1 : Int32) else 0) = (if ¬ (v ≤ 0) then 1 else 0) ∧ (if ¬ (0 ≤ a) then (1 : Int32) else 0) = (if ¬ (0 ≤ v) then 1 else 0)) := by
    rw [key, key]
    simp only [Int32.not_le]
  by_cases h : (0 < a ↔ 0 < v) ∧ (a < 0 ↔ v < 0)
  · rw [if_pos h, if_pos (e.mp h)]
  · rw [if_neg h, if_neg (fun h2 => h (e.mpr h2))]
theorem rolC_le (n : Nat) (vf : Nat → Int32) (b k : Nat) : rolC n vf b k ≤ k := by
  induction k with
  | zero => exact Nat.le_refl 0
  | succ k ih =>
    show rolC n vf b k + (if rolV n vf b k = vf k then 0 else 1) ≤ k + 1
    split <;> omega
theorem rol_to {i j n : Nat} (hi : i < n) (hj : j < n) (hn : n ≤ 16) : (if n ≤ i + j then (nI (i + j) - nI n) else nI (i + j)) = nI ((i + j) % n) := by
  by_cases h : n ≤ i + j
  · rw [if_pos h, pk_sub h, Nat.mod_eq_sub_mod h, Nat.mod_eq_of_lt (by omega)]
  · rw [if_neg h, Nat.mod_eq_of_lt (by omega)]
theorem rol_inj {q i j n : Nat} (hq : q < n) (hi : i < n) (hj : j < n) (h : (q + j) % n = (i + j) % n) : q = i := by
  have e : ∀ x, x < n → (x + j) % n = if n ≤ x + j then x + j - n else x + j := by
    intro x hx
    by_cases h2 : n ≤ x + j
    · rw [if_pos h2, Nat.mod_eq_sub_mod h2, Nat.mod_eq_of_lt (by omega)]
    · rw [if_neg h2, Nat.mod_eq_of_lt (by omega)]
  rw [e q hq, e i hi] at h
  split at h <;> split at h <;> omega
theorem rol_back {x j n : Nat} (hx : x < n) (hj : j < n) : (x + n - j) % n < n ∧ ((x + n - j) % n + j) % n = x := by
  by_cases h : n ≤ x + n - j
  · have e : (x + n - j) % n = x - j := by
      rw [Nat.mod_eq_sub_mod h, Nat.mod_eq_of_lt (by omega)]; omega
    rw [e]
    refine ⟨by omega, ?_⟩
    rw [show x - j + j = x by omega, Nat.mod_eq_of_lt hx]
  · have e : (x + n - j) % n = x + n - j := Nat.mod_eq_of_lt (by omega)
    rw [e]
    refine ⟨by omega, ?_⟩
    rw [show x + n - j + j = n + x by omega, Nat.add_mod_left, Nat.mod_eq_of_lt hx]
theorem chr_c {c : Int32} (h : 33 ≤ c ∧ c ≤ 126) : (c.toUInt32 % 65536).toInt32 = c ∧ vp_nar .char c = c := by
  obtain ⟨j, hj, rfl⟩ := nI_of (x := c) (fun h2 => by
    have h3 := h.1
    rw [i_lt0] at h2
    rw [Int32.le_iff_toInt_le] at h3
    have : (33 : Int32).toInt = 33 := by decide
    omega)
  have h4 : j ≤ 126 := (nI_leI (a := j) (b := 126) hj (by decide)).mp h.2
  have e : ((nI j).toUInt32 % 65536).toInt32 = nI j := by
    rw [pk_char, pk_tn (by omega), Nat.mod_eq_of_lt (by omega)]
  refine ⟨e, ?_⟩
  rw [← e]
  exact pk_vc (nI j)
theorem if_sw (c : Prop) [Decidable c] (a : Int32) : (if c then 0 else a) = (if ¬ c then a else 0) := by
  by_cases h : c
  · rw [if_pos h, if_neg (fun h2 => h2 h)]
  · rw [if_neg h, if_pos h]
theorem scn_ok (buf : Nat → Int32) : ∀ (k i : Nat) (t : TS), t.1 ≤ 3 ∧ t.2.2.1 ≤ 16 → (scn buf k i t).1 ≤ i + k ∧ (scn buf k i t).2.1 ≤ 3 ∧ (scn buf k i t).2.2.2.1 ≤ 16 := by
  intro k
  induction k with
  | zero => intro i t h; exact ⟨Nat.le_refl _, h⟩
  | succ k ih =>
    intro i t h
    show (match stp t (buf i) with | none => (i, t) | some t2 => scn buf k (i + 1) t2).1 ≤ _ ∧ (match stp t (buf i) with | none => (i, t) | some t2 => scn buf k (i + 1) t2).2.1 ≤ 3 ∧ (match stp t (buf i) with | none => (i, t) | some t2 => scn buf k (i + 1) t2).2.2.2.1 ≤ 16
    cases e : stp t (buf i) with
    | none => exact ⟨Nat.le_add_right i (k + 1), h⟩
    | some t2 =>
      have := ih (i + 1) t2 (stp_ok h e)
      refine ⟨?_, this.2⟩
      show (scn buf k (i + 1) t2).1 ≤ i + (k + 1)
      omega
theorem scA_ok (buf : Nat → Int32) (n : Nat) (vs : Nat → Int32) : (scA buf n vs).1 ≤ n ∧ (scA buf n vs).2.1 ≤ 3 ∧ (scA buf n vs).2.2.2.1 ≤ 16 := by
  have h := scn_ok buf n 0 (0, false, 0, vs) ⟨Nat.le_of_ble_eq_true rfl, Nat.le_of_ble_eq_true rfl⟩
  rw [Nat.zero_add] at h
  exact h
theorem if_le_lt (a b : Nat) (x : Int32) : (if b ≤ a then 0 else x) = (if a < b then x else 0) := by
  by_cases h : a < b
  · rw [if_pos h, if_neg (by omega)]
  · rw [if_neg h, if_pos (by omega)]
theorem nI_ite2 (a : Nat) (c : Prop) [Decidable c] : nI a + (if c then 0 else 1) = nI (a + (if c then 0 else 1)) := by
  by_cases h : c
  · rw [if_pos h, if_pos h, Int32.add_zero, Nat.add_zero]
  · rw [if_neg h, if_neg h]; exact nI_add a 1
/-! readings kept and readings tried -/
abbrev RT : Type := Nat × Int32 × Int32 × Int32 × (Nat → Int32) × (Nat → Int32) × (Nat → Int32) × (Nat → Int32) × (Nat → Int32) × (Nat → Int32) × (Nat → Int32) × (Nat → Int32)
def frs (n : Nat) (mask : Int32) (vf sf : Nat → Int32) (fz : Int32) (t : RT) : Prop :=
  fz = 0 ∨ (fz = 1 ∧ rdG n mask vf sf t.1 t.2.2.1 t.2.2.2.1 t.2.2.2.2.1 t.2.2.2.2.2.2.1 t.2.2.2.2.2.2.2.1 t.2.2.2.2.2.2.2.2.1 t.2.2.2.2.2.2.2.2.2.1)
theorem bit1 {j i : Nat} (hj : j < 16) (hi : i < 16) : bitI (1 <<< (nI j &&& 31)) i = 1 ↔ i = j := by
  rw [pow_l j (by omega)]
  have h : bitI (nI (2 ^ j)) i = 1 ↔ (2 ^ j).testBit i = true := opn_N (n := 2 ^ j) (p := i) (Nat.pow_lt_pow_right (by decide) (by omega)) (by omega)
  rw [h, Nat.testBit_two_pow]
  simp [eq_comm]
theorem flp_fl {vf : Nat → Int32} {j : Nat} (hj : j < 16) : ∀ i, i < 16 → flp vf j i = (if bitI (1 <<< (nI j &&& 31)) i = 1 then -(vf i) else vf i) := by
  intro i hi
  unfold flp upd
  by_cases e : i = j
  · subst e
    rw [if_pos rfl, if_pos ((bit1 hj hi).mpr rfl)]
  · rw [if_neg e, if_neg (fun h => e ((bit1 hj hi).mp h))]
theorem bitL {k i : Nat} (hk : k ≤ 16) (hi : i < 16) : bitI (nI (2 ^ k - 1)) i = 1 ↔ i < k := by
  have hb : 2 ^ k ≤ 65536 := by
    have : 2 ^ k ≤ 2 ^ 16 := Nat.pow_le_pow_right (by decide) hk
    exact this
  have h : bitI (nI (2 ^ k - 1)) i = 1 ↔ (2 ^ k - 1).testBit i = true := opn_N (n := 2 ^ k - 1) (p := i) (by omega) (by omega)
  rw [h, Nat.testBit_two_pow_sub_one, decide_eq_true_eq]
theorem flN_fl {vf : Nat → Int32} {k : Nat} (hk : k ≤ 16) : ∀ i, i < 16 → flN vf k i = (if bitI (nI (2 ^ k - 1)) i = 1 then -(vf i) else vf i) := by
  intro i hi
  unfold flN
  by_cases e : i < k
  · rw [if_pos e, if_pos ((bitL hk hi).mpr e)]
  · rw [if_neg e, if_neg (fun h => e ((bitL hk hi).mp h))]
theorem low_or : ∀ i, i < 16 → nI (2 ^ i - 1) ||| ((1 : Int32) <<< (nI i &&& 31)) = nI (2 ^ (i + 1) - 1) := by decide
theorem fl0 {vf : Nat → Int32} : ∀ j, j < 16 → vf j = (if bitI 0 j = 1 then -(vf j) else vf j) := fun j hj => by rw [if_neg (bit0 j hj)]
theorem neg_b {x : Int32} (h : -99 ≤ x.toInt ∧ x.toInt ≤ 99) : -99 ≤ (-x).toInt ∧ (-x).toInt ≤ 99 := by
  rw [i_neg (B := 99) (by decide) h]; omega
theorem okV_flp {vf : Nat → Int32} (h : okV vf) (p : Nat) : okV (flp vf p) := by
  intro j hj
  unfold flp upd
  by_cases e : j = p
  · rw [if_pos e]; subst e; exact neg_b (h j hj)
  · rw [if_neg e]; exact h j hj
theorem okV_flN {vf : Nat → Int32} (h : okV vf) (p : Nat) : okV (flN vf p) := by
  intro j hj
  unfold flN
  by_cases e : j < p
  · rw [if_pos e]; exact neg_b (h j hj)
  · rw [if_neg e]; exact h j hj
theorem wkX_le (n : Nat) (mask : Int32) (vf sf : Nat → Int32) (k : Nat) : wkX n mask vf sf k ≤ k := by
  induction k with
  | zero => exact Nat.le_refl 0
  | succ k ih =>
    show (if wkX n mask vf sf k < k then wkX n mask vf sf k else if ifF n mask vf sf k = rdN n mask vf sf then k + 1 else k) ≤ k + 1
    split
    · omega
    · split <;> omega
theorem wkX_t {n : Nat} {mask : Int32} {vf sf : Nat → Int32} {i : Nat} (h : wkX n mask vf sf i = i) (e : ifF n mask vf sf i = rdN n mask vf sf) : wkX n mask vf sf (i + 1) = i + 1 := by
  show (if wkX n mask vf sf i < i then wkX n mask vf sf i else if ifF n mask vf sf i = rdN n mask vf sf then i + 1 else i) = i + 1
  rw [if_neg (by omega), if_pos e]
theorem wkX_f {n : Nat} {mask : Int32} {vf sf : Nat → Int32} {i : Nat} (h : wkX n mask vf sf i = i) (e : ¬ ifF n mask vf sf i = rdN n mask vf sf) : ∀ m, i < m → wkX n mask vf sf m = i := by
  intro m
  induction m with
  | zero => intro h; omega
  | succ m ih =>
    intro hm
    show (if wkX n mask vf sf m < m then wkX n mask vf sf m else if ifF n mask vf sf m = rdN n mask vf sf then m + 1 else m) = i
    by_cases q : i < m
    · rw [ih q, if_pos q]
    · have : m = i := by omega
      subst this
      rw [h, if_neg (Nat.lt_irrefl m), if_neg e]
theorem boX_le (n : Nat) (mask : Int32) (vf sf : Nat → Int32) (k : Nat) : boX n mask vf sf k ≤ k := by
  induction k with
  | zero => exact Nat.le_refl 0
  | succ k ih =>
    show (if boX n mask vf sf k < k then boX n mask vf sf k else if ifB n mask vf sf k = rdN n mask vf sf then k + 1 else k) ≤ k + 1
    split
    · omega
    · split <;> omega
theorem boX_t {n : Nat} {mask : Int32} {vf sf : Nat → Int32} {i : Nat} (h : boX n mask vf sf i = i) (e : ifB n mask vf sf i = rdN n mask vf sf) : boX n mask vf sf (i + 1) = i + 1 := by
  show (if boX n mask vf sf i < i then boX n mask vf sf i else if ifB n mask vf sf i = rdN n mask vf sf then i + 1 else i) = i + 1
  rw [if_neg (by omega), if_pos e]
theorem boX_f {n : Nat} {mask : Int32} {vf sf : Nat → Int32} {i : Nat} (h : boX n mask vf sf i = i) (e : ¬ ifB n mask vf sf i = rdN n mask vf sf) : ∀ m, i < m → boX n mask vf sf m = i := by
  intro m
  induction m with
  | zero => intro h; omega
  | succ m ih =>
    intro hm
    show (if boX n mask vf sf m < m then boX n mask vf sf m else if ifB n mask vf sf m = rdN n mask vf sf then m + 1 else m) = i
    by_cases q : i < m
    · rw [ih q, if_pos q]
    · have : m = i := by omega
      subst this
      rw [h, if_neg (Nat.lt_irrefl m), if_neg e]
theorem le3_lt4 {q : Int32} (h : q ≤ 3) : q < nI 4 := by
  rw [Int32.lt_iff_toInt_lt]
  rw [Int32.le_iff_toInt_le] at h
  exact Int.lt_of_le_of_lt h (by decide)
theorem lt4_le3 {q : Int32} (h : q < nI 4) : q ≤ 3 := by
  rw [Int32.le_iff_toInt_le]
  rw [Int32.lt_iff_toInt_lt] at h
  have e1 : (nI 4).toInt = 4 := by decide
  have e2 : (3 : Int32).toInt = 3 := by decide
  omega
theorem sw_of {k : Nat} (hk : k < 16) {q : Int32} (h : 0 ≤ q ∧ q ≤ nI k) : ∃ j : Nat, j ≤ k ∧ q = nI j := by
  obtain ⟨j, hj, rfl⟩ := nI_of (x := q) (fun h2 => by
    have h3 := h.1
    rw [i_lt0] at h2
    rw [i_0le] at h3
    omega)
  exact ⟨j, (nI_leI (a := j) (b := k) hj (by omega)).mp h.2, rfl⟩
theorem sw_no6 {q : Int32} (h0 : ¬ q = 0) (h1 : ¬ q = 1) (h2 : ¬ q = 2) (h3 : ¬ q = 3) (h4 : ¬ q = 4) (h5 : ¬ q = 5) : ¬ (0 ≤ q ∧ q ≤ 5) := by
  intro h
  obtain ⟨j, hj, rfl⟩ := sw_of (k := 5) (by decide) h
  match j, hj with
  | 0, _ => exact h0 rfl
  | 1, _ => exact h1 rfl
  | 2, _ => exact h2 rfl
  | 3, _ => exact h3 rfl
  | 4, _ => exact h4 rfl
  | 5, _ => exact h5 rfl
theorem sw_no9 {q : Int32} (h0 : ¬ q = 0) (h1 : ¬ q = 1) (h2 : ¬ q = 2) (h3 : ¬ q = 3) (h4 : ¬ q = 4) (h5 : ¬ q = 5) (h6 : ¬ q = 6) (h7 : ¬ q = 7) (h8 : ¬ q = 8) : ¬ (0 ≤ q ∧ q ≤ 8) := by
  intro h
  obtain ⟨j, hj, rfl⟩ := sw_of (k := 8) (by decide) h
  match j, hj with
  | 0, _ => exact h0 rfl
  | 1, _ => exact h1 rfl
  | 2, _ => exact h2 rfl
  | 3, _ => exact h3 rfl
  | 4, _ => exact h4 rfl
  | 5, _ => exact h5 rfl
  | 6, _ => exact h6 rfl
  | 7, _ => exact h7 rfl
  | 8, _ => exact h8 rfl
