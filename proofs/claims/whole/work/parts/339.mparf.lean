/-! THE MODEL'S PARSER -/
abbrev dgt (c : Int32) : Prop := 48 ≤ c ∧ c ≤ 57
def letA (bf : Nat → Int32) (ly ay : Nat) : Int32 := if ay < ly then bf ay else 0
def rvI (bf : Nat → Int32) (ly ay : Nat) : Nat := if letA bf ly ay = 45 then ay + 1 else ay
def rvB (bf : Nat → Int32) (ly ay : Nat) : Bool := decide (dgt (letA bf ly (rvI bf ly ay)))
def rvD (bf : Nat → Int32) (ly ay : Nat) : Int32 := letA bf ly (rvI bf ly ay) - 48
def rvJ (bf : Nat → Int32) (ly ay : Nat) : Nat := if rvB bf ly ay = true then rvI bf ly ay + 1 else rvI bf ly ay
def rvS (bf : Nat → Int32) (ly ay : Nat) (x : Int32) : Int32 := if letA bf ly ay = 45 then -x else x
abbrev rvT (bf : Nat → Int32) (ly ay : Nat) : Prop := rvB bf ly ay = true ∧ 0 < rvD bf ly ay ∧ dgt (letA bf ly (rvJ bf ly ay))
def rvA (bf : Nat → Int32) (ly ay : Nat) : Nat × Bool × Int32 :=
  if rvT bf ly ay then (rvJ bf ly ay + 1, rvB bf ly ay, rvS bf ly ay (10 * rvD bf ly ay + letA bf ly (rvJ bf ly ay) - 48)) else (rvJ bf ly ay, rvB bf ly ay, rvS bf ly ay (rvD bf ly ay))
theorem nI_it (a : Nat) (c : Prop) [Decidable c] : nI a + (if c then 1 else 0) = nI (if c then a + 1 else a) := by
  by_cases h : c
  · rw [if_pos h, if_pos h]; exact nI_add a 1
  · rw [if_neg h, if_neg h]; exact Int32.add_zero _
theorem let_at {bf : Nat → Int32} {ly a : Nat} (h : a < ly) : letA bf ly a = bf a := if_pos h
theorem let_lt {bf : Nat → Int32} {ly a : Nat} (h : ¬ letA bf ly a = 0) : a < ly := Nat.not_le.mp (fun z => h (if_neg (Nat.not_lt.mpr z)))
theorem dgt_lt {bf : Nat → Int32} {ly a : Nat} (h : dgt (letA bf ly a)) : a < ly := let_lt (fun e => by rw [e] at h; exact absurd h (by decide))
theorem m45_lt {bf : Nat → Int32} {ly a : Nat} (h : letA bf ly a = 45) : a < ly := let_lt (fun e => by rw [e] at h; exact absurd h (by decide))
theorem rvI_b (bf : Nat → Int32) (ly a : Nat) : rvI bf ly a ≤ a + 1 := by
  unfold rvI
  by_cases h : letA bf ly a = 45
  · rw [if_pos h]; omega
  · rw [if_neg h]; omega
theorem rvJ_b (bf : Nat → Int32) (ly a : Nat) : rvJ bf ly a ≤ a + 2 := by
  have := rvI_b bf ly a
  unfold rvJ
  by_cases h : rvB bf ly a = true
  · rw [if_pos h]; omega
  · rw [if_neg h]; omega
theorem rvI_le {bf : Nat → Int32} {ly a : Nat} (ha : a ≤ ly) : rvI bf ly a ≤ ly := by
  unfold rvI
  by_cases h : letA bf ly a = 45
  · rw [if_pos h]; exact m45_lt h
  · rw [if_neg h]; exact ha
theorem rvJ_le {bf : Nat → Int32} {ly a : Nat} (ha : a ≤ ly) : rvJ bf ly a ≤ ly := by
  unfold rvJ
  by_cases h : rvB bf ly a = true
  · rw [if_pos h]; exact dgt_lt (of_decide_eq_true h)
  · rw [if_neg h]; exact rvI_le ha
theorem rvA_le {bf : Nat → Int32} {ly a : Nat} (ha : a ≤ ly) : (rvA bf ly a).1 ≤ ly := by
  unfold rvA
  by_cases h : rvT bf ly a
  · rw [if_pos h]; exact dgt_lt h.2.2
  · rw [if_neg h]; exact rvJ_le ha
theorem dgt_T {c : Int32} (h : dgt c) : 48 ≤ c.toInt ∧ c.toInt ≤ 57 := by
  have h1 := h.1
  have h2 := h.2
  rw [Int32.le_iff_toInt_le] at h1 h2
  have e1 : (48 : Int32).toInt = 48 := by decide
  have e2 : (57 : Int32).toInt = 57 := by decide
  omega
theorem dgt_sub {c : Int32} (h : dgt c) : (c - 48).toInt = c.toInt - 48 := by
  have h2 := dgt_T h
  have e1 : (48 : Int32).toInt = 48 := by decide
  rw [i_sub (by omega) (by omega), e1]
theorem dgt_pos {c : Int32} (h : dgt c) (h0 : ¬ c - 48 = 0) : 0 < c - 48 := by
  have h2 := dgt_T h
  rw [i_0lt, dgt_sub h]
  refine Int.not_le.mp (fun z => h0 ?_)
  apply Int32.toInt_inj.mp
  rw [dgt_sub h]
  have e0 : (0 : Int32).toInt = 0 := by decide
  omega
theorem dgt_n {c : Int32} (h : dgt c) : ¬ c = 44 ∧ ¬ c = 45 := ⟨fun e => by rw [e] at h; exact absurd h (by decide), fun e => by rw [e] at h; exact absurd h (by decide)⟩
theorem val_2 (d x : Int32) : -(10 * d + x - 48) = -d * 10 + -(x - 48) := by
  rw [show (10 * d + x - 48 : Int32) = d * 10 + (x - 48) by rw [Int32.mul_comm 10 d, Int32.sub_eq_add_neg, Int32.sub_eq_add_neg, Int32.add_assoc], Int32.neg_add, Int32.neg_mul]
  exact Int32.sub_eq_add_neg _ _
theorem val_1 (d x : Int32) : (10 * d + x - 48 : Int32) = d * 10 + (x - 48) := by
  rw [Int32.mul_comm 10 d, Int32.sub_eq_add_neg, Int32.sub_eq_add_neg, Int32.add_assoc]
theorem stp_c {aw tl : Nat} {ng : Bool} {vs : Nat → Int32} (he : endV aw) (ht : tl < 16) : stp (aw, ng, tl, vs) 44 = some (0, false, tl, vs) := by
  unfold stp
  rw [if_pos rfl]
  unfold stC
  exact if_pos ⟨he, ht⟩
theorem stp_m {tl : Nat} {ng : Bool} {vs : Nat → Int32} : stp (0, ng, tl, vs) 45 = some (1, true, tl, vs) := by
  unfold stp
  rw [if_neg (by decide), if_pos rfl]
  exact if_pos rfl
theorem stp_d {aw tl : Nat} {ng : Bool} {vs : Nat → Int32} {c : Int32} (h : dgt c) : stp (aw, ng, tl, vs) c = stD (c - 48) aw ng tl vs := by
  unfold stp
  rw [if_neg (dgt_n h).1, if_neg (dgt_n h).2, if_pos h]
theorem stp_none1 {aw tl : Nat} {ng : Bool} {vs : Nat → Int32} {c : Int32} (ha : aw = 0 ∨ aw = 1) (h45 : aw = 0 → ¬ c = 45) (hd : ¬ dgt c) : stp (aw, ng, tl, vs) c = none := by
  unfold stp
  by_cases h1 : c = 44
  · rw [if_pos h1]
    exact if_neg (fun h => by rcases h.1 with e | e <;> rcases ha with e2 | e2 <;> (have e : aw = _ := e; omega))
  · rw [if_neg h1]
    by_cases h2 : c = 45
    · rw [if_pos h2]
      exact if_neg (fun h => h45 h h2)
    · rw [if_neg h2]
      exact if_neg hd
theorem stp_none2 {aw tl : Nat} {ng : Bool} {vs : Nat → Int32} {c : Int32} (he : endV aw) (hc : ¬ c = 44 ∨ ¬ tl < 16) (hd : aw = 2 → ¬ dgt c) : stp (aw, ng, tl, vs) c = none := by
  unfold stp
  by_cases h1 : c = 44
  · rw [if_pos h1]
    exact if_neg (fun h => hc.elim (fun z => z h1) (fun z => z h.2))
  · rw [if_neg h1]
    by_cases h2 : c = 45
    · rw [if_pos h2]
      exact if_neg (fun h => by rcases he with e | e <;> (have h : aw = 0 := h; omega))
    · rw [if_neg h2]
      by_cases h3 : 48 ≤ c ∧ c ≤ 57
      · rw [if_pos h3]
        have h2' : ¬ aw = 2 := fun e => hd e h3
        show (if aw = 2 ∧ 0 < tl ∧ tl ≤ 16 then _ else if (aw = 0 ∨ aw = 1) ∧ tl < 16 then _ else none) = none
        rw [if_neg (fun h => h2' h.1)]
        exact if_neg (fun h => by rcases he with e | e <;> rcases h.1 with e2 | e2 <;> omega)
      · exact if_neg h3
theorem scn_val {bf : Nat → Int32} {ly a k : Nat} {vs : Nat → Int32} (ha : a ≤ ly) (hk : k < 16) :
    ((rvA bf ly a).2.1 = true → ∃ t : TS, scn bf (ly - a) a (0, false, k, vs) = scn bf (ly - (rvA bf ly a).1) (rvA bf ly a).1 t ∧ endV t.1 ∧ (t.1 = 2 → ¬ dgt (letA bf ly (rvA bf ly a).1)) ∧ t.2.2.1 = k + 1 ∧ t.2.2.2 k = (rvA bf ly a).2.2 ∧ ∀ i, i < k → t.2.2.2 i = vs i)
    ∧ ((rvA bf ly a).2.1 = false → ∃ t : TS, scn bf (ly - a) a (0, false, k, vs) = ((rvA bf ly a).1, t) ∧ ¬ endV t.1) := by
  have hI := rvI_le (bf := bf) ha
  -- the sign
  obtain ⟨aw, ng, s1, haw, hng, h45⟩ : ∃ (aw : Nat) (ng : Bool), scn bf (ly - a) a (0, false, k, vs) = scn bf (ly - rvI bf ly a) (rvI bf ly a) (aw, ng, k, vs) ∧ (aw = 0 ∨ aw = 1) ∧ (∀ x : Int32, (if ng = true then -x else x) = rvS bf ly a x) ∧ (aw = 0 → ¬ letA bf ly (rvI bf ly a) = 45) := by
    by_cases h : letA bf ly a = 45
    · have hl := m45_lt h
      have eI : rvI bf ly a = a + 1 := if_pos h
      refine ⟨1, true, ?_, Or.inr rfl, fun x => ?_, fun e => absurd e (by decide)⟩
      · rw [eI]
        exact scn_some hl (by rw [← let_at (bf := bf) hl, h]; exact stp_m)
      · unfold rvS; rw [if_pos h, if_pos rfl]
    · have eI : rvI bf ly a = a := if_neg h
      refine ⟨0, false, by rw [eI], Or.inl rfl, fun x => ?_, fun _ => by rw [eI]; exact h⟩
      unfold rvS; rw [if_neg h, if_neg (by decide)]
  by_cases hB : rvB bf ly a = true
  · have hd : dgt (letA bf ly (rvI bf ly a)) := of_decide_eq_true hB
    have hIl := dgt_lt hd
    have eJ : rvJ bf ly a = rvI bf ly a + 1 := if_pos hB
    have hJ := rvJ_le (bf := bf) ha
    have e1 : scn bf (ly - a) a (0, false, k, vs) = scn bf (ly - rvJ bf ly a) (rvJ bf ly a) (if rvD bf ly a = 0 then 3 else 2, ng, k + 1, upd vs k (rvS bf ly a (rvD bf ly a))) := by
      rw [s1, eJ]
      refine scn_some hIl ?_
      rw [← let_at (bf := bf) hIl, stp_d hd]
      show (if aw = 2 ∧ 0 < k ∧ k ≤ 16 then _ else if (aw = 0 ∨ aw = 1) ∧ k < 16 then _ else none) = _
      rw [if_neg (fun h => by have := h.1; omega), if_pos ⟨haw, hk⟩, hng]
      rfl
    have hu : ∀ (x : Int32) (i : Nat), i < k → upd vs k x i = vs i := fun x i hi => pk_un (by omega)
    by_cases hT : rvT bf ly a
    · have eA : rvA bf ly a = (rvJ bf ly a + 1, rvB bf ly a, rvS bf ly a (10 * rvD bf ly a + letA bf ly (rvJ bf ly a) - 48)) := if_pos hT
      have hJl := dgt_lt hT.2.2
      have hd0 : ¬ rvD bf ly a = 0 := fun e => by have h := hT.2.1; rw [e] at h; exact absurd h (by decide)
      refine ⟨fun _ => ⟨(3, ng, k + 1, upd (upd vs k (rvS bf ly a (rvD bf ly a))) k (upd vs k (rvS bf ly a (rvD bf ly a)) k * 10 + rvS bf ly a (letA bf ly (rvJ bf ly a) - 48))), ?_, Or.inr rfl, fun e => absurd (show (3 : Nat) = 2 from e) (by decide), rfl, ?_, fun i hi => ?_⟩, fun e => ?_⟩
      · rw [e1, eA, if_neg hd0]
        refine scn_some hJl ?_
        rw [← let_at (bf := bf) hJl, stp_d hT.2.2]
        show (if (2 : Nat) = 2 ∧ 0 < k + 1 ∧ k + 1 ≤ 16 then _ else _) = _
        rw [if_pos ⟨rfl, by omega, by omega⟩, hng]
        rfl
      · show upd (upd vs k _) k _ k = _
        rw [pk_us, pk_us, eA]
        show rvS bf ly a (rvD bf ly a) * 10 + rvS bf ly a (letA bf ly (rvJ bf ly a) - 48) = rvS bf ly a (10 * rvD bf ly a + letA bf ly (rvJ bf ly a) - 48)
        unfold rvS
        by_cases h : letA bf ly a = 45
        · rw [if_pos h, if_pos h, if_pos h]; exact (val_2 _ _).symm
        · rw [if_neg h, if_neg h, if_neg h]; exact (val_1 _ _).symm
      · show upd (upd vs k _) k _ i = _
        rw [pk_un (by omega)]; exact hu _ i hi
      · rw [eA] at e; exact absurd (hB.symm.trans e) (by decide)
    · have eA : rvA bf ly a = (rvJ bf ly a, rvB bf ly a, rvS bf ly a (rvD bf ly a)) := if_neg hT
      refine ⟨fun _ => ⟨(if rvD bf ly a = 0 then 3 else 2, ng, k + 1, upd vs k (rvS bf ly a (rvD bf ly a))), ?_, ?_, fun e => ?_, rfl, ?_, fun i hi => hu _ i hi⟩, fun e => ?_⟩
      · rw [eA]; exact e1
      · show (if rvD bf ly a = 0 then 3 else 2) = 2 ∨ (if rvD bf ly a = 0 then 3 else 2) = 3
        by_cases h : rvD bf ly a = 0
        · rw [if_pos h]; exact Or.inr rfl
        · rw [if_neg h]; exact Or.inl rfl
      · rw [eA]
        intro h3
        have h : ¬ rvD bf ly a = 0 := fun z => by
          have e : (if rvD bf ly a = 0 then 3 else 2) = 2 := e
          rw [if_pos z] at e
          exact absurd e (by decide)
        exact hT ⟨hB, dgt_pos hd h, h3⟩
      · show upd vs k _ k = _
        rw [pk_us, eA]
      · rw [eA] at e; exact absurd (hB.symm.trans e) (by decide)
  · have eB : rvB bf ly a = false := Bool.eq_false_iff.mpr hB
    have hd : ¬ dgt (letA bf ly (rvI bf ly a)) := fun h => hB (decide_eq_true h)
    have eJ : rvJ bf ly a = rvI bf ly a := if_neg hB
    have eA : rvA bf ly a = (rvI bf ly a, rvB bf ly a, rvS bf ly a (rvD bf ly a)) := by
      unfold rvA
      rw [if_neg (fun h => hB h.1), eJ]
    refine ⟨fun e => ?_, fun _ => ⟨(aw, ng, k, vs), ?_, fun h => by rcases h with e | e <;> (have e : aw = _ := e; omega)⟩⟩
    · rw [eA] at e; exact absurd e hB
    · rw [eA, s1]
      by_cases hl : rvI bf ly a < ly
      · refine scn_none hl ?_
        rw [let_at hl] at hd h45
        exact stp_none1 haw h45 hd
      · have e : rvI bf ly a = ly := by omega
        rw [e]; exact scn_end bf ly _
/-- what the parser's loop keeps -/
def raW (bf : Nat → Int32) (ly : Nat) (tv : Nat → Int32) (a k : Nat) (tf : Nat → Int32) : Prop :=
  k ≤ 16 ∧ ∃ t : TS, scn bf (ly - a) a t = scA bf ly tv ∧ endV t.1 ∧ (t.1 = 2 → ¬ dgt (letA bf ly a)) ∧ t.2.2.1 = k ∧ ∀ i, i < k → tf i = t.2.2.2 i
def raF (bf : Nat → Int32) (ly : Nat) (tv : Nat → Int32) (a : Nat) : Prop := (scA bf ly tv).1 = a ∧ (a < ly ∨ ¬ endV (scA bf ly tv).2.1)
def raI (bf : Nat → Int32) (ly : Nat) (tv : Nat → Int32) (a : Nat) (w : Bool) (k : Nat) (tf : Nat → Int32) : Prop := (w = true → raW bf ly tv a k tf) ∧ (w = false → raF bf ly tv a)
def raE (bf : Nat → Int32) (ly : Nat) (tv : Nat → Int32) (a : Nat) (w : Bool) (k : Nat) (tf : Nat → Int32) : Prop :=
  (scA bf ly tv).1 = a ∧ (w = true → a = ly ∧ endV (scA bf ly tv).2.1 ∧ (scA bf ly tv).2.2.2.1 = k ∧ ∀ i, i < k → tf i = (scA bf ly tv).2.2.2.2 i) ∧ (w = false → a < ly ∨ ¬ endV (scA bf ly tv).2.1)
theorem ra_val {bf : Nat → Int32} {ly : Nat} {tv : Nat → Int32} {a k : Nat} {vs tf : Nat → Int32} (ha : a ≤ ly) (hk : k < 16) (hs : scn bf (ly - a) a (0, false, k, vs) = scA bf ly tv) (ht : ∀ i, i < k → tf i = vs i) :
    raI bf ly tv (rvA bf ly a).1 (rvA bf ly a).2.1 (k + 1) (upd tf k (rvA bf ly a).2.2) := by
  obtain ⟨h1, h2⟩ := scn_val (bf := bf) (vs := vs) ha hk
  refine ⟨fun e => ?_, fun e => ?_⟩
  · obtain ⟨t, e1, e2, e3, e4, e5, e6⟩ := h1 e
    refine ⟨by omega, t, e1.symm.trans hs, e2, e3, e4, fun i hi => ?_⟩
    by_cases z : i = k
    · subst z; exact pk_us.trans e5.symm
    · rw [pk_un z, ht i (by omega), e6 i (by omega)]
  · obtain ⟨t, e1, e2⟩ := h2 e
    have e3 := e1.symm.trans hs
    refine ⟨by rw [← e3], Or.inr ?_⟩
    rw [← e3]; exact e2
theorem ra_0 (bf : Nat → Int32) (ly : Nat) (tv tf : Nat → Int32) : raI bf ly tv (rvA bf ly 0).1 (rvA bf ly 0).2.1 (0 + 1) (upd tf 0 (rvA bf ly 0).2.2) :=
  ra_val (vs := tv) (Nat.zero_le _) (by decide) rfl (fun i hi => absurd hi (Nat.not_lt_zero i))
theorem ra_more {bf : Nat → Int32} {ly : Nat} {tv : Nat → Int32} {a k : Nat} {tf : Nat → Int32} (h : raW bf ly tv a k tf) (ha : a < ly) (hc : letA bf ly a = 44) (hk : k < 16) :
    raI bf ly tv (rvA bf ly (a + 1)).1 (rvA bf ly (a + 1)).2.1 (k + 1) (upd tf k (rvA bf ly (a + 1)).2.2) := by
  obtain ⟨-, ⟨aw, ng, tl, vs⟩, e1, e2, e3, e4, e5⟩ := h
  have e4 : tl = k := e4
  subst e4
  refine ra_val (vs := vs) ha hk ?_ e5
  rw [← e1]
  refine (scn_some ha ?_).symm
  rw [← let_at (bf := bf) ha, hc]
  exact stp_c e2 hk
theorem ra_stop {bf : Nat → Int32} {ly : Nat} {tv : Nat → Int32} {a k : Nat} {tf : Nat → Int32} (h : raW bf ly tv a k tf) (ha : a < ly) (hc : ¬ letA bf ly a = 44 ∨ ¬ k < 16) : raE bf ly tv a false k tf := by
  obtain ⟨-, ⟨aw, ng, tl, vs⟩, e1, e2, e3, e4, e5⟩ := h
  have e4 : tl = k := e4
  subst e4
  have e6 : scA bf ly tv = (a, (aw, ng, tl, vs)) := by
    rw [← e1]
    refine scn_none ha ?_
    rw [← let_at (bf := bf) ha]
    exact stp_none2 e2 hc e3
  exact ⟨by rw [e6], fun z => absurd z (by decide), fun _ => Or.inl ha⟩
theorem ra_t {bf : Nat → Int32} {ly : Nat} {tv : Nat → Int32} {a k : Nat} {w : Bool} {tf : Nat → Int32} (h : raI bf ly tv a w k tf) (hw : w = true) (ha : a = ly) : raE bf ly tv a w k tf := by
  obtain ⟨-, t, e1, e2, e3, e4, e5⟩ := h.1 hw
  subst ha
  have e6 : scA bf a tv = (a, t) := e1.symm.trans (scn_end bf a t)
  refine ⟨by rw [e6], fun _ => ⟨rfl, ?_, ?_, fun i hi => ?_⟩, fun z => absurd (hw.symm.trans z) (by decide)⟩
  · rw [e6]; exact e2
  · rw [e6]; exact e4
  · rw [e6]; exact e5 i hi
theorem ra_f {bf : Nat → Int32} {ly : Nat} {tv : Nat → Int32} {a k : Nat} {w : Bool} {tf : Nat → Int32} (h : raI bf ly tv a w k tf) (hw : ¬ w = true) : raE bf ly tv a w k tf := by
  have hf := h.2 (Bool.eq_false_iff.mpr hw)
  exact ⟨hf.1, fun z => absurd z hw, fun _ => hf.2⟩
theorem th_all1 {n ly : Nat} {bf tv : Nat → Int32} {a k : Nat} {w : Bool} {tf : Nat → Int32} (h : raE bf ly tv a w k tf) (hw : ¬ w = true) : thAll n ly (scA bf ly tv) = 1 := by
  have hf := h.2.2 (Bool.eq_false_iff.mpr hw)
  refine if_pos ?_
  rw [h.1]; exact hf
theorem th_all2 {n ly : Nat} {bf tv : Nat → Int32} {a k : Nat} {w : Bool} {tf : Nat → Int32} (h : raE bf ly tv a w k tf) (hw : w = true) : thAll n ly (scA bf ly tv) = if n < k then 2 else 0 := by
  obtain ⟨e1, e2, e3, e4⟩ := h.2.1 hw
  unfold thAll
  rw [if_neg ?_, e3]
  rw [h.1, e1]
  exact fun z => z.elim (Nat.lt_irrefl ly) (fun z => z e2)
theorem allV_at {n k : Nat} {tf tv vf : Nat → Int32} (h : ∀ i, i < k → tf i = tv i) (i q : Nat) (hi : i = n) : (if q < i then (if q < k then tf q else 0) else vf q) = allV n k tv vf q := by
  subst hi
  unfold allV
  by_cases z : q < i
  · rw [if_pos z, if_pos z]
    by_cases y : q < k
    · rw [if_pos y, if_pos y, h q y]
    · rw [if_neg y, if_neg y]
  · rw [if_neg z, if_neg z]
theorem fit_b (c : Prop) [Decidable c] : fits .boolean (.int (if c then 1 else 0)) = true := by
  by_cases hc : c
  · rw [if_pos hc]; rfl
  · rw [if_neg hc]; rfl
