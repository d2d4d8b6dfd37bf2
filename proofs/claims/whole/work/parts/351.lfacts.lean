/-! THE LAW: what holds between the calls -/
def okW (w : Wd) : Prop := okN w.1 ∧ okM w.2.1 w.1 ∧ okS w.2.2.2 ∧ okV w.2.2.1
def okZ (z : Nat → Wd) (c : Nat) : Prop := ∀ j, j < c → okW (z j)
def lwI (w : Wd) (sw z : Nat → Wd) (o c : Nat) (fz : Int32) (rt : RT) (ln : Nat) : Prop :=
  okW w ∧ o < 6 ∧ c ≤ 6 ∧ frs w.1 w.2.1 w.2.2.1 w.2.2.2 fz rt ∧ ring z sw o c ∧ okZ z c ∧ ln ≤ 60
theorem inv_save {w w2 : Wd} {sw z : Nat → Wd} {o c : Nat} {fz : Int32} {rt rt2 : RT} {ln ln2 : Nat} (h : lwI w sw z o c fz rt ln) (h2 : okW w2) (hl : ln2 ≤ 60) : lwI w2 (upW sw ((o + c) % 6) w) (mzS z c w) (svO o c) (svC c) 0 rt2 ln2 := by
  obtain ⟨hw, ho, hc, -, hr, hz, -⟩ := h
  refine ⟨h2, ?_, ?_, Or.inl rfl, ring_save ho hc hr w, ?_, hl⟩
  · unfold svO
    by_cases e : c < 6
    · rw [if_pos e]; exact ho
    · rw [if_neg e]; omega
  · unfold svC
    by_cases e : c < 6
    · rw [if_pos e]; omega
    · rw [if_neg e]; exact hc
  · intro j hj
    unfold mzS
    unfold svC at hj
    by_cases e : c < 6
    · rw [if_pos e] at hj
      rw [if_pos e]
      unfold upW
      by_cases e2 : j = c
      · rw [if_pos e2]; exact hw
      · rw [if_neg e2]; exact hz j (by omega)
    · rw [if_neg e] at hj
      rw [if_neg e]
      unfold upW shZ
      by_cases e2 : j = 5
      · rw [if_pos e2]; exact hw
      · rw [if_neg e2, if_pos (by omega)]; exact hz (j + 1) (by omega)
theorem inv_undo {w : Wd} {sw z : Nat → Wd} {o c : Nat} {fz : Int32} {rt rt2 : RT} {ln : Nat} (h : lwI w sw z o c fz rt ln) (h0 : ¬ c = 0) : lwI (z (c - 1)) sw z o (c - 1) 0 rt2 ln := by
  obtain ⟨hw, ho, hc, -, hr, hz, hl⟩ := h
  exact ⟨hz _ (by omega), ho, by omega, Or.inl rfl, fun j hj => hr j (by omega), fun j hj => hz j (by omega), hl⟩
theorem undo_eq {w : Wd} {sw z : Nat → Wd} {o c : Nat} {fz : Int32} {rt : RT} {ln : Nat} (h : lwI w sw z o c fz rt ln) (h0 : ¬ c = 0) : sw ((o + (c - 1)) % 6) = z (c - 1) := (h.2.2.2.2.1 (c - 1) (by omega)).symm
theorem inv_rt {w : Wd} {sw z : Nat → Wd} {o c : Nat} {fz fz2 : Int32} {rt rt2 : RT} {ln ln2 : Nat} (h : lwI w sw z o c fz rt ln) (h2 : frs w.1 w.2.1 w.2.2.1 w.2.2.2 fz2 rt2) (hl : ln2 ≤ 60) : lwI w sw z o c fz2 rt2 ln2 := by
  obtain ⟨hw, ho, hc, -, hr, hz, -⟩ := h
  exact ⟨hw, ho, hc, h2, hr, hz, hl⟩
/-! numbers of exceptions -/
theorem ite_01 {P : Prop} [Decidable P] (h : (if P then 0 else 1) = 0) : P := by
  by_cases c : P
  · exact c
  · rw [if_neg c] at h; exact absurd h (by decide)
theorem ite_021 {P : Prop} [Decidable P] {x : Nat} (h : (if P then x else 1) = 0) : P ∧ x = 0 := by
  by_cases c : P
  · rw [if_pos c] at h; exact ⟨c, h⟩
  · rw [if_neg c] at h; exact absurd h (by decide)
theorem nz_th {t : Nat} (h : t ≤ 2) (h0 : ¬ t = 0) : ¬ nI t = 0 := fun e => h0 (by
  have e2 : nI t = nI 0 := e
  exact (nI_eq (a := t) (b := 0) (by omega) (by decide)).mp e2)
theorem ite_le {P : Prop} [Decidable P] {a b : Nat} (ha : a ≤ 2) (hb : b ≤ 2) : (if P then a else b) ≤ 2 := by
  by_cases h : P
  · rw [if_pos h]; exact ha
  · rw [if_neg h]; exact hb
theorem le_Begin (k : Int32) : thBegin k ≤ 2 := by unfold thBegin; repeat' split; all_goals decide
theorem le_Open (n : Nat) (k : Int32) : thOpen n k ≤ 2 := by unfold thOpen; exact ite_le (ite_le (by decide) (by decide)) (by decide)
theorem le_Pl (n : Nat) (k : Int32) : thPl n k ≤ 2 := by unfold thPl; repeat' split; all_goals decide
theorem le_Set (q v : Int32) : thSet q v ≤ 2 := by unfold thSet; exact ite_le (ite_le (by decide) (by decide)) (by decide)
theorem le_Body (n : Nat) (mask : Int32) (sf : Nat → Int32) (b : Int32) : thBody n mask sf b ≤ 2 := by unfold thBody; repeat' split; all_goals decide
theorem le_Recv (n : Nat) (k v : Int32) : thRecv n k v ≤ 2 := by unfold thRecv; exact ite_le (ite_le (by decide) (by decide)) (by decide)
theorem le_App (ln : Nat) (c : Int32) : thApp ln c ≤ 2 := by unfold thApp; exact ite_le (ite_le (by decide) (by decide)) (by decide)
theorem le_All (n ln : Nat) (r : Nat × TS) : thAll n ln r ≤ 2 := by unfold thAll; exact ite_le (by decide) (ite_le (by decide) (by decide))
theorem le_Undo (c : Nat) : thUndo c ≤ 2 := by unfold thUndo; repeat' split; all_goals decide
theorem le_Place (n : Nat) (k q : Int32) : thPlace n k q ≤ 2 := by unfold thPlace; exact ite_le (ite_le (by decide) (by decide)) (by decide)
theorem le_Code (b : Int32) : thCode b ≤ 2 := by unfold thCode; repeat' split; all_goals decide
theorem le_Read (q : Int32) : thRead q ≤ 2 := by unfold thRead; repeat' split; all_goals decide
theorem le_Path (r q : Int32) : thPath r q ≤ 2 := by unfold thPath; repeat' split; all_goals decide
theorem le_Count (q : Int32) : thCount q ≤ 2 := by unfold thCount; repeat' split; all_goals decide
theorem le_Sett (q : Int32) : thSett q ≤ 2 := by unfold thSett; repeat' split; all_goals decide
theorem le_Paths (k : Int32) : thPaths k ≤ 2 := by unfold thPaths; repeat' split; all_goals decide
/-! what the calls make is well -/
theorem okW_begin {n : Nat} {mask : Int32} {vf sf : Nat → Int32} {k : Int32} (h : okW (n, mask, vf, sf)) (h0 : thBegin k = 0) : okW (2 ^ k.toNatClampNeg, 0, (fun _ => 0), sf) := by
  obtain ⟨j, h1, h4, e⟩ := k14 (ite_01 h0)
  have ek : k.toNatClampNeg = j := by rw [e, nI_clamp (by omega)]
  refine ⟨?_, ⟨0, Nat.pow_pos (by decide), rfl⟩, h.2.2.1, fun j hj => ⟨show -99 ≤ (0 : Int32).toInt by decide, show (0 : Int32).toInt ≤ 99 by decide⟩⟩
  show okN (2 ^ k.toNatClampNeg)
  rw [ek]
  rcases (show j = 1 ∨ j = 2 ∨ j = 3 ∨ j = 4 by omega) with rfl | rfl | rfl | rfl
  · exact Or.inl rfl
  · exact Or.inr (Or.inl rfl)
  · exact Or.inr (Or.inr (Or.inl rfl))
  · exact Or.inr (Or.inr (Or.inr rfl))
theorem opnM_N (sf : Nat → Int32) (n : Nat) (k : Int32) : ∀ p, p ≤ 16 → ∃ a : Nat, a < 2 ^ p ∧ opnM sf n k p = nI a := by
  intro p
  induction p with
  | zero => intro _; exact ⟨0, Nat.pow_pos (by decide), rfl⟩
  | succ p ih =>
    intro hp
    obtain ⟨a, ha, e⟩ := ih (by omega)
    have e2 : opnM sf n k (p + 1) = (if nI (rnk (uns sf n) p n) < k then opnM sf n k p ||| (1 <<< (nI p &&& 31)) else opnM sf n k p) := rfl
    by_cases c : nI (rnk (uns sf n) p n) < k
    · refine ⟨a ||| 2 ^ p, Nat.or_lt_two_pow (by rw [Nat.pow_succ]; omega) (Nat.pow_lt_pow_right (by decide) (by omega)), ?_⟩
      rw [e2, if_pos c, e, pow_l p (by omega), nI_or]
    · exact ⟨a, by rw [Nat.pow_succ]; omega, by rw [e2, if_neg c, e]⟩
theorem okW_open {n : Nat} {mask : Int32} {vf sf : Nat → Int32} {k : Int32} (h : okW (n, mask, vf, sf)) : okW (n, opnM sf n k n, vf, sf) := by
  have hn : okN n := h.1
  obtain ⟨a, ha, e⟩ := opnM_N sf n k n hn.le.2
  exact ⟨h.1, ⟨a, ha, e⟩, h.2.2.1, h.2.2.2⟩
theorem okW_toggle {n : Nat} {mask : Int32} {vf sf : Nat → Int32} {k : Int32} (h : okW (n, mask, vf, sf)) (h0 : thPl n k = 0) : okW (n, mask ^^^ (1 <<< (nI k.toNatClampNeg &&& 31)), vf, sf) := by
  have hn : okN n := h.1
  have hnl := hn.le
  obtain ⟨j, hj, ej⟩ := in_nat (n := n) (by omega) (ite_01 h0)
  have ek : k.toNatClampNeg = j := by rw [ej, nI_clamp (by omega)]
  obtain ⟨a, ha, e⟩ := h.2.1
  have ha : a < 2 ^ n := ha
  have e : mask = nI a := e
  refine ⟨h.1, ⟨a ^^^ 2 ^ j, Nat.xor_lt_two_pow ha (Nat.pow_lt_pow_right (by decide) hj), ?_⟩, h.2.2.1, h.2.2.2⟩
  show mask ^^^ (1 <<< (nI k.toNatClampNeg &&& 31)) = _
  rw [ek, e, pow_l j (by omega), nI_xor]
theorem between {lo hi : Nat} {v : Int32} (hq : lo < 2 ^ 31) (hh : hi < 2 ^ 31) (h : nI lo ≤ v ∧ v ≤ nI hi) : ∃ a : Nat, lo ≤ a ∧ a ≤ hi ∧ v = nI a := by
  obtain ⟨a, ha, rfl⟩ := nI_of (x := v) (fun h2 => by
    have h3 := h.1
    rw [i_lt0] at h2
    rw [Int32.le_iff_toInt_le, nI_toInt hq] at h3
    omega)
  exact ⟨a, (nI_leI hq ha).mp h.1, (nI_leI ha hh).mp h.2, rfl⟩
theorem okS_set {sf : Nat → Int32} {q v : Int32} (h : okS sf) (h0 : thSet q v = 0) : okS (upd sf q.toNatClampNeg v) := by
  obtain ⟨hq, h1⟩ := ite_021 h0
  have hv : tL q.toNatClampNeg ≤ v ∧ v ≤ tM q.toNatClampNeg := by
    by_cases c : tL q.toNatClampNeg ≤ v ∧ v ≤ tM q.toNatClampNeg
    · exact c
    · rw [if_neg c] at h1; exact absurd h1 (by decide)
  obtain ⟨j, hj, ej⟩ := in_nat (n := 4) (by decide) hq
  have ek : q.toNatClampNeg = j := by rw [ej, nI_clamp (by omega)]
  rw [ek] at hv ⊢
  obtain ⟨⟨a, a1, a2, ea⟩, ⟨b, b1, b2, eb⟩, ⟨c, c1, ec⟩, ⟨d, d1, d2, ed⟩⟩ := h
  rcases (show j = 0 ∨ j = 1 ∨ j = 2 ∨ j = 3 by omega) with rfl | rfl | rfl | rfl
  · obtain ⟨x, x1, x2, ex⟩ := between (lo := 1) (hi := 999) (by decide) (by decide) hv
    exact ⟨⟨x, x1, x2, ex⟩, ⟨b, b1, b2, eb⟩, ⟨c, c1, ec⟩, ⟨d, d1, d2, ed⟩⟩
  · obtain ⟨x, x1, x2, ex⟩ := between (lo := 1) (hi := 4) (by decide) (by decide) hv
    exact ⟨⟨a, a1, a2, ea⟩, ⟨x, x1, x2, ex⟩, ⟨c, c1, ec⟩, ⟨d, d1, d2, ed⟩⟩
  · obtain ⟨x, x1, x2, ex⟩ := between (lo := 0) (hi := 3) (by decide) (by decide) hv
    exact ⟨⟨a, a1, a2, ea⟩, ⟨b, b1, b2, eb⟩, ⟨x, x2, ex⟩, ⟨d, d1, d2, ed⟩⟩
  · obtain ⟨x, x1, x2, ex⟩ := between (lo := 1) (hi := 99) (by decide) (by decide) hv
    exact ⟨⟨a, a1, a2, ea⟩, ⟨b, b1, b2, eb⟩, ⟨c, c1, ec⟩, ⟨x, x1, x2, ex⟩⟩
theorem okW_set {n : Nat} {mask : Int32} {vf sf : Nat → Int32} {q v : Int32} (h : okW (n, mask, vf, sf)) (h0 : thSet q v = 0) : okW (n, mask, vf, upd sf q.toNatClampNeg v) := ⟨h.1, h.2.1, okS_set h.2.2.1 h0, h.2.2.2⟩
theorem okW_send {n : Nat} {mask : Int32} {vf sf : Nat → Int32} {w : Int32} (h : okW (n, mask, vf, sf)) : okW (n, mask, sndV n w (sf 3) vf, sf) := by
  refine ⟨h.1, h.2.1, h.2.2.1, fun j hj => ?_⟩
  have hS : okS sf := h.2.2.1
  obtain ⟨-, -, -, ⟨d, d1, d2, ed⟩⟩ := hS
  have hb : -99 ≤ (sf 3).toInt ∧ (sf 3).toInt ≤ 99 := by
    rw [ed, nI_toInt (by omega)]; omega
  show -99 ≤ (if j < n then (if bitI w j = 1 then -(sf 3) else sf 3) else vf j).toInt ∧ (if j < n then (if bitI w j = 1 then -(sf 3) else sf 3) else vf j).toInt ≤ 99
  by_cases c : j < n
  · rw [if_pos c]
    by_cases c2 : bitI w j = 1
    · rw [if_pos c2]; exact neg_b hb
    · rw [if_neg c2]; exact hb
  · rw [if_neg c]; exact h.2.2.2 j hj
theorem okW_recv {n : Nat} {mask : Int32} {vf sf : Nat → Int32} {k v : Int32} (h : okW (n, mask, vf, sf)) (h0 : thRecv n k v = 0) : okW (n, mask, upd vf k.toNatClampNeg v, sf) := by
  obtain ⟨-, h1⟩ := ite_021 h0
  have hv : -99 ≤ v ∧ v ≤ 99 := by
    by_cases c : -99 ≤ v ∧ v ≤ 99
    · exact c
    · rw [if_neg c] at h1; exact absurd h1 (by decide)
  have hb : -99 ≤ v.toInt ∧ v.toInt ≤ 99 := by
    have e1 : (-99 : Int32).toInt = -99 := by decide
    have e2 : (99 : Int32).toInt = 99 := by decide
    rw [Int32.le_iff_toInt_le, Int32.le_iff_toInt_le, e1, e2] at hv
    exact hv
  refine ⟨h.1, h.2.1, h.2.2.1, fun j hj => ?_⟩
  show -99 ≤ (if j = k.toNatClampNeg then v else vf j).toInt ∧ (if j = k.toNatClampNeg then v else vf j).toInt ≤ 99
  by_cases c : j = k.toNatClampNeg
  · rw [if_pos c]; exact hb
  · rw [if_neg c]; exact h.2.2.2 j hj
theorem okW_flip {n : Nat} {mask : Int32} {vf sf : Nat → Int32} {k : Nat} (h : okW (n, mask, vf, sf)) : okW (n, mask, flp vf k, sf) := ⟨h.1, h.2.1, h.2.2.1, okV_flp h.2.2.2 k⟩
theorem okW_roll {n : Nat} {mask : Int32} {vf sf : Nat → Int32} {b : Nat} (h : okW (n, mask, vf, sf)) : okW (n, mask, rolV n vf b, sf) := by
  have hn : okN n := h.1
  have hnl := hn.le
  refine ⟨h.1, h.2.1, h.2.2.1, fun j hj => ?_⟩
  show -99 ≤ (if j < n then vf ((j + n - b) % n) else vf j).toInt ∧ (if j < n then vf ((j + n - b) % n) else vf j).toInt ≤ 99
  by_cases c : j < n
  · rw [if_pos c]
    have := Nat.mod_lt (j + n - b) (show 0 < n by omega)
    exact h.2.2.2 _ (by omega)
  · rw [if_neg c]; exact h.2.2.2 j hj
/-! what a text tells is small -/
def vOK (t : TS) : Prop := (∀ i, i < t.2.2.1 → -99 ≤ (t.2.2.2 i).toInt ∧ (t.2.2.2 i).toInt ≤ 99) ∧ (t.1 = 2 → ∀ i, i + 1 = t.2.2.1 → -9 ≤ (t.2.2.2 i).toInt ∧ (t.2.2.2 i).toInt ≤ 9)
theorem i_mul10 {x : Int32} (h : -9 ≤ x.toInt ∧ x.toInt ≤ 9) : (x * 10).toInt = x.toInt * 10 := by
  have e : (10 : Int32).toInt = 10 := by decide
  rw [Int32.toInt_mul, e]
  exact Int.bmod_eq_of_le (by simp; omega) (by simp; omega)
theorem sg_b {d : Int32} (ng : Bool) (h : 0 ≤ d.toInt ∧ d.toInt ≤ 9) : -9 ≤ (if ng = true then -d else d).toInt ∧ (if ng = true then -d else d).toInt ≤ 9 := by
  cases ng with
  | true => rw [if_pos rfl, i_neg (B := 9) (by decide) ⟨by omega, h.2⟩]; omega
  | false => rw [if_neg (by decide)]; omega
theorem stp_v {t u : TS} {c : Int32} (h : vOK t) (e : stp t c = some u) : vOK u := by
  obtain ⟨aw, ng, tl, vs⟩ := t
  obtain ⟨h1, h2⟩ := h
  have h1 : ∀ i, i < tl → -99 ≤ (vs i).toInt ∧ (vs i).toInt ≤ 99 := h1
  have h2 : aw = 2 → ∀ i, i + 1 = tl → -9 ≤ (vs i).toInt ∧ (vs i).toInt ≤ 9 := h2
  have e : (if c = 44 then stC aw ng tl vs else if c = 45 then stM aw ng tl vs else if 48 ≤ c ∧ c ≤ 57 then stD (c - 48) aw ng tl vs else none) = some u := e
  by_cases c1 : c = 44
  · rw [if_pos c1] at e
    have e : (if endV aw ∧ tl < 16 then some ((0, false, tl, vs) : TS) else none) = some u := e
    by_cases q : endV aw ∧ tl < 16
    · rw [if_pos q] at e; cases e; exact ⟨h1, fun z => absurd (show (0 : Nat) = 2 from z) (by decide)⟩
    · rw [if_neg q] at e; cases e
  · rw [if_neg c1] at e
    by_cases c2 : c = 45
    · rw [if_pos c2] at e
      have e : (if aw = 0 then some ((1, true, tl, vs) : TS) else none) = some u := e
      by_cases q : aw = 0
      · rw [if_pos q] at e; cases e; exact ⟨h1, fun z => absurd (show (1 : Nat) = 2 from z) (by decide)⟩
      · rw [if_neg q] at e; cases e
    · rw [if_neg c2] at e
      by_cases c3 : 48 ≤ c ∧ c ≤ 57
      · rw [if_pos c3] at e
        have hd : 0 ≤ (c - 48).toInt ∧ (c - 48).toInt ≤ 9 := by
          have z := dgt_T c3
          rw [dgt_sub c3]; omega
        have hs := sg_b ng hd
        have e : (if aw = 2 ∧ 0 < tl ∧ tl ≤ 16 then some ((3, ng, tl, upd vs (tl - 1) (vs (tl - 1) * 10 + (if ng = true then -(c - 48) else (c - 48)))) : TS) else if (aw = 0 ∨ aw = 1) ∧ tl < 16 then some (if c - 48 = 0 then 3 else 2, ng, tl + 1, upd vs tl (if ng = true then -(c - 48) else (c - 48))) else none) = some u := e
        by_cases q : aw = 2 ∧ 0 < tl ∧ tl ≤ 16
        · rw [if_pos q] at e; cases e
          refine ⟨fun i hi => ?_, fun z => absurd (show (3 : Nat) = 2 from z) (by decide)⟩
          have hi : i < tl := hi
          show -99 ≤ (upd vs (tl - 1) (vs (tl - 1) * 10 + (if ng = true then -(c - 48) else (c - 48))) i).toInt ∧ (upd vs (tl - 1) (vs (tl - 1) * 10 + (if ng = true then -(c - 48) else (c - 48))) i).toInt ≤ 99
          by_cases z : i = tl - 1
          · subst z
            have hx := h2 q.1 (tl - 1) (by omega)
            rw [pk_us, i_add (by rw [i_mul10 hx]; omega) (by rw [i_mul10 hx]; omega), i_mul10 hx]
            omega
          · rw [pk_un z]; exact h1 i hi
        · rw [if_neg q] at e
          by_cases q2 : (aw = 0 ∨ aw = 1) ∧ tl < 16
          · rw [if_pos q2] at e; cases e
            refine ⟨fun i hi => ?_, fun _ i hi => ?_⟩
            · have hi : i < tl + 1 := hi
              show -99 ≤ (upd vs tl (if ng = true then -(c - 48) else (c - 48)) i).toInt ∧ (upd vs tl (if ng = true then -(c - 48) else (c - 48)) i).toInt ≤ 99
              by_cases z : i = tl
              · subst z; rw [pk_us]; omega
              · rw [pk_un z]; exact h1 i (by omega)
            · have hi : i + 1 = tl + 1 := hi
              have z : i = tl := by omega
              subst z
              show -9 ≤ (upd vs i (if ng = true then -(c - 48) else (c - 48)) i).toInt ∧ (upd vs i (if ng = true then -(c - 48) else (c - 48)) i).toInt ≤ 9
              rw [pk_us]; exact hs
          · rw [if_neg q2] at e; cases e
      · rw [if_neg c3] at e; cases e
theorem scn_v (buf : Nat → Int32) : ∀ (k i : Nat) (t : TS), vOK t → vOK (scn buf k i t).2 := by
  intro k
  induction k with
  | zero => intro i t h; exact h
  | succ k ih =>
    intro i t h
    have e : scn buf (k + 1) i t = (match stp t (buf i) with | none => (i, t) | some t2 => scn buf k (i + 1) t2) := rfl
    rw [e]
    cases hq : stp t (buf i) with
    | none => exact h
    | some t2 => exact ih (i + 1) t2 (stp_v h hq)
theorem scA_v (buf : Nat → Int32) (n : Nat) (vs : Nat → Int32) : vOK (scA buf n vs).2 := scn_v buf n 0 _ ⟨fun i hi => absurd hi (Nat.not_lt_zero i), fun z => absurd (show (0 : Nat) = 2 from z) (by decide)⟩
theorem okW_all {n ln : Nat} {mask : Int32} {vf sf sg vs : Nat → Int32} (h : okW (n, mask, vf, sf)) : okW (n, mask, allV n (scA sg ln vs).2.2.2.1 (scA sg ln vs).2.2.2.2 vf, sf) := by
  refine ⟨h.1, h.2.1, h.2.2.1, fun j hj => ?_⟩
  have hv := (scA_v sg ln vs).1
  show -99 ≤ (if j < n then (if j < (scA sg ln vs).2.2.2.1 then (scA sg ln vs).2.2.2.2 j else 0) else vf j).toInt ∧ (if j < n then (if j < (scA sg ln vs).2.2.2.1 then (scA sg ln vs).2.2.2.2 j else 0) else vf j).toInt ≤ 99
  by_cases c : j < n
  · rw [if_pos c]
    by_cases c2 : j < (scA sg ln vs).2.2.2.1
    · rw [if_pos c2]; exact hv j c2
    · rw [if_neg c2]; exact ⟨by decide, by decide⟩
  · rw [if_neg c]; exact h.2.2.2 j hj
theorem app_60 {ln : Nat} {c : Int32} (h0 : thApp ln c = 0) : ln + 1 ≤ 60 := by
  obtain ⟨-, h1⟩ := ite_021 h0
  by_cases q : ln < 60
  · omega
  · rw [if_neg q] at h1; exact absurd h1 (by decide)
theorem undo_0 {c : Nat} (h0 : thUndo c = 0) : ¬ c = 0 := fun e => by
  unfold thUndo at h0
  rw [if_pos e] at h0
  exact absurd h0 (by decide)
