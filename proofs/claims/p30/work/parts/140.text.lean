/-! TEXTS: values with "," between them, sign by sign -/
abbrev TS : Type := Nat × Bool × Nat × (Nat → Int32)
abbrev endV (aw : Nat) : Prop := aw = 2 ∨ aw = 3
def stC (aw : Nat) (ng : Bool) (tl : Nat) (vs : Nat → Int32) : Option TS := if endV aw ∧ tl < 16 then some (0, false, tl, vs) else none
def stM (aw : Nat) (ng : Bool) (tl : Nat) (vs : Nat → Int32) : Option TS := if aw = 0 then some (1, true, tl, vs) else none
def stD (d : Int32) (aw : Nat) (ng : Bool) (tl : Nat) (vs : Nat → Int32) : Option TS :=
  if aw = 2 ∧ 0 < tl ∧ tl ≤ 16 then some (3, ng, tl, upd vs (tl - 1) (vs (tl - 1) * 10 + (if ng = true then -d else d)))
  else if (aw = 0 ∨ aw = 1) ∧ tl < 16 then some (if d = 0 then 3 else 2, ng, tl + 1, upd vs tl (if ng = true then -d else d)) else none
def stp (t : TS) (c : Int32) : Option TS :=
  if c = 44 then stC t.1 t.2.1 t.2.2.1 t.2.2.2 else if c = 45 then stM t.1 t.2.1 t.2.2.1 t.2.2.2 else if 48 ≤ c ∧ c ≤ 57 then stD (c - 48) t.1 t.2.1 t.2.2.1 t.2.2.2 else none
def scn (buf : Nat → Int32) : Nat → Nat → TS → Nat × TS
  | 0, i, t => (i, t)
  | k + 1, i, t => match stp t (buf i) with
    | none => (i, t)
    | some t2 => scn buf k (i + 1) t2
theorem scn_some {buf : Nat → Int32} {n i : Nat} {t t2 : TS} (hi : i < n) (h : stp t (buf i) = some t2) : scn buf (n - i) i t = scn buf (n - (i + 1)) (i + 1) t2 := by
  obtain ⟨k, hk⟩ : ∃ k, n - i = k + 1 := ⟨n - i - 1, by omega⟩
  rw [hk, show n - (i + 1) = k by omega]
  show (match stp t (buf i) with | none => (i, t) | some t2 => scn buf k (i + 1) t2) = _
  rw [h]
theorem scn_none {buf : Nat → Int32} {n i : Nat} {t : TS} (hi : i < n) (h : stp t (buf i) = none) : scn buf (n - i) i t = (i, t) := by
  obtain ⟨k, hk⟩ : ∃ k, n - i = k + 1 := ⟨n - i - 1, by omega⟩
  rw [hk]
  show (match stp t (buf i) with | none => (i, t) | some t2 => scn buf k (i + 1) t2) = _
  rw [h]
theorem scn_end (buf : Nat → Int32) (n : Nat) (t : TS) : scn buf (n - n) n t = (n, t) := by rw [Nat.sub_self]; rfl
/-- the whole buffer -/
def scA (buf : Nat → Int32) (n : Nat) (vs : Nat → Int32) : Nat × TS := scn buf n 0 (0, false, 0, vs)
theorem nI_if32 (c : Prop) [Decidable c] : (if c then (3 : Int32) else 2) = nI (if c then 3 else 2) := by
  by_cases h : c
  · rw [if_pos h, if_pos h]; rfl
  · rw [if_neg h, if_neg h]; rfl
theorem ret_nar {r : Int32} {X Y : Prop} (h : (r = 1 ∧ X) ∨ (r = 0 ∧ Y)) : narrow .boolean (.int r) = .int r := by
  rcases h with ⟨rfl, -⟩ | ⟨rfl, -⟩ <;> rfl
theorem stp_ok {t u : TS} {c : Int32} (h : t.1 ≤ 3 ∧ t.2.2.1 ≤ 16) (e : stp t c = some u) : u.1 ≤ 3 ∧ u.2.2.1 ≤ 16 := by
  unfold stp at e
  split at e
  · unfold stC at e
    split at e
    · cases e; exact ⟨Nat.le_of_ble_eq_true rfl, h.2⟩
    · cases e
  · split at e
    · unfold stM at e
      split at e
      · cases e; exact ⟨Nat.le_of_ble_eq_true rfl, h.2⟩
      · cases e
    · split at e
      · unfold stD at e
        split at e
        · cases e; exact ⟨Nat.le_of_ble_eq_true rfl, h.2⟩
        · split at e
          · rename_i hq
            cases e
            refine ⟨?_, ?_⟩
            · show (if _ then 3 else 2) ≤ 3
              split <;> decide
            · show t.2.2.1 + 1 ≤ 16
              omega
          · cases e
      · cases e
