/-! PURE: what is told of a state -/
def td1 (n : Nat) (mask : Int32) (vf sf : Nat → Int32) (c k : Nat) : Int64 := dgI (fun w => ctA n mask vf sf (rdS n mask vf sf) c (nI w)) k 3
def td2 (n : Nat) (mask : Int32) (vf sf : Nat → Int32) (c k : Nat) : Int64 := dgI sf k (td1 n mask vf sf c 8)
def td3 (n : Nat) (mask : Int32) (vf sf : Nat → Int32) (c : Nat) : Nat → Int64
  | 0 => td2 n mask vf sf c 4
  | p + 1 => 31 * (31 * td3 n mask vf sf c p + (vf p + 100).toInt64) + (if opn mask p then (1 : Int32) else 0).toInt64
def td4 (n : Nat) (mask : Int32) (vf sf : Nat → Int32) (c k : Nat) : Int64 := dgI (fun w => rdA n mask vf sf (rdS n mask vf sf) (nI w)) k (td3 n mask vf sf c n)
def tdF (n : Nat) (mask : Int32) (vf sf : Nat → Int32) (c : Nat) : Int64 := td4 n mask vf sf c 5
theorem th_pths {m : Nat} (h1 : 1 ≤ m) (h4 : m ≤ 4) : thPaths (nI m) = 0 := if_pos (th_le (a := 1) (b := 4) (by decide) h1 h4)
theorem cas3 (a b : Prop) : (a ∧ b) ∨ (a ∧ ¬ b) ∨ ¬ a := by
  by_cases ha : a
  · by_cases hb : b
    · exact Or.inl ⟨ha, hb⟩
    · exact Or.inr (Or.inl ⟨ha, hb⟩)
  · exact Or.inr (Or.inr ha)
section GT
variable {p : Program} {l : Launch} {e : Env} {R : Room} {s : State} {m : MethodId} {args : Array Value} {below : List Frame} {meth : Method} {c : Code} {H : Heap} {locs : List Loc} {cells slots : Nat} {Q : State → Prop}
/-- what is walked once, for each road that comes there -/
theorem g_tail {g0 : JFrame} (Inv : Heap → List Loc → Array Slot → Prop) (pcT : Nat) (st : List Value) (hT : ∀ H locs ls, Inv H locs ls → W p l e R s m args below meth c H locs cells slots Q (F0 m pcT ls st))
    (h : (∀ H locs ls, Inv H locs ls → W p l e R s m args below meth c H locs cells slots Q (F0 m pcT ls st)) → W p l e R s m args below meth c H locs cells slots Q g0) : W p l e R s m args below meth c H locs cells slots Q g0 := h hT
end GT
