/-! THE LAW: the script's numbers; what holds between two rounds -/
theorem lg_self (x : Int64) : lg_cmp x x = 0 := by simp [lg_cmp]
section GLY
variable {p : Program} {l : Launch} {e : Env} {R : Room} {s : State} {m : MethodId} {args : Array Value} {below : List Frame} {meth : Method} {c : Code} {H : Heap} {locs : List Loc} {cells slots : Nat} {Q : State → Prop}
variable {cc : ByteArray} {pc : Nat} {ls : Array Slot} {rest : List Value} {A : Nat → Prop}
theorem wl_sld (hx : p.tables.exec = Jvm.exec) (hb : c.code = cc) {b lx : Nat} {xs : Nat → Int32} (hX : va_X b lx xs s s.heap) (hbl : b < s.heap.size) (hbA : ¬ A b) (hS : va_S A s.heap H locs) {i : Int32} (j : Nat) (hi : i = nI j) (hj : j < lx) (hn : lx < 2 ^ 31) (hdg : decode cc pc = .ok (.iaload, 1))
    (kk : W p l e R s m args below meth c H locs cells slots Q (F0 m (pc + 1) ls (.int (xs j) :: rest))) : W p l e R s m args below meth c H locs cells slots Q (F0 m pc ls (.int i :: .ref b :: rest)) := by
  subst hi
  refine va_sld hx hb hX hbl hbA hS (vp_in_nI hj hn) hdg ?_
  rw [nI_clamp (by omega)]
  exact kk
end GLY
def gC (b lx : Nat) (xs : Nat → Int32) : State → Prop := fun U => va_X b lx xs U U.heap ∧ b < U.heap.size
theorem gC.blind (av : List Value) (b lx : Nat) (xs : Nat → Int32) : FrameBlind (va_Pc av (gC b lx xs)) := fun a U g mk q => by
  obtain ⟨e, h1, h2⟩ := q
  exact ⟨e, va_X.moved (u := U) (U := U.calling g mk a) (Vm.Alike.refl U.vm) h1, h2⟩
theorem gC_pre {s : State} {A : Nat → Prop} {H : Heap} {locs : List Loc} {av : List Value} {b lx : Nat} {xs : Nat → Int32} (hX : va_X b lx xs s s.heap) (hbl : b < s.heap.size) (hbA : ¬ A b) (hS : va_S A s.heap H locs) : PreS s H (va_Pc av (gC b lx xs)) av :=
  ⟨gC.blind av b lx xs, fun U hU hW => ⟨rfl, by rw [hU]; exact va_X.kept (va_X.moved hW.alike hX) (hS.2.1 b hbl hbA), by rw [hU]; exact Nat.lt_of_lt_of_le hbl hS.1⟩⟩
/-- a number of the script, or the one in its stead -/
def celF (lx : Nat) (xs : Nat → Int32) (k : Nat) : Int32 := if k < lx then xs k else 7919 * nI (k + 3) * nI (k + 11)
/-- what holds between two rounds -/
def lwI3 (w : Wd) (sw : Nat → Wd) (o c : Nat) : Prop := okW w ∧ (∀ j, j < 6 → okW (sw j)) ∧ o < 6 ∧ c ≤ 6
theorem inv_act {w : Wd} {sw : Nat → Wd} {o c : Nat} {a : St} {v x : Int32} (h : lwI3 w sw o c) (e : a = svS w (acF w.1 w.2.1 w.2.2.1 w.2.2.2 v x).1 sw o c) (h5 : c ≤ 5) : lwI3 a.1 a.2.1 a.2.2.1 a.2.2.2.1 ∧ a.2.2.2.1 = c + 1 ∧ a.2.2.2.2 = 0 := by
  subst e
  obtain ⟨h1, h2, h3, h4⟩ := h
  have hc : svC c = c + 1 := (svC_t (by omega)).symm
  refine ⟨⟨(acF_ok (n := w.1) (mask := w.2.1) (vf := w.2.2.1) (sf := w.2.2.2) h1 v x).1, fun j hj => ?_, ?_, ?_⟩, hc, rfl⟩
  · show okW (if j = (o + c) % 6 then w else sw j)
    split
    · exact h1
    · exact h2 j hj
  · show svO o c < 6
    rw [← svO_t (by omega)]; exact h3
  · show svC c ≤ 6
    omega
theorem inv_undo {sw : Nat → Wd} {w : Wd} {o c : Nat} {a : St} (h : lwI3 w sw o c) (h0 : 0 < c) (e : a = (sw ((o + (c - 1)) % 6), sw, o, c - 1, 0)) : lwI3 a.1 a.2.1 a.2.2.1 a.2.2.2.1 ∧ a.2.2.2.1 = c - 1 ∧ a.2.2.2.2 = 0 := by
  subst e
  obtain ⟨h1, h2, h3, h4⟩ := h
  refine ⟨⟨h2 _ (Nat.mod_lt _ (by decide)), h2, h3, ?_⟩, rfl, rfl⟩
  show c - 1 ≤ 6
  omega
/-- undo takes a call back -/
theorem undo_back {w w2 : Wd} {sw : Nat → Wd} {o c : Nat} {a u : St} (e : a = svS w w2 sw o c) (h5 : c ≤ 5) (h : u = (a.2.1 ((a.2.2.1 + (a.2.2.2.1 - 1)) % 6), a.2.1, a.2.2.1, a.2.2.2.1 - 1, 0)) : u = (w, a.2.1, o, c, 0) := by
  subst e
  have hc : svC c = c + 1 := (svC_t (by omega)).symm
  have ho : svO o c = o := (svO_t (by omega)).symm
  have h : u = (upW sw ((o + c) % 6) w ((svO o c + (svC c - 1)) % 6), upW sw ((o + c) % 6) w, svO o c, svC c - 1, 0) := h
  rw [hc, ho, show c + 1 - 1 = c by omega] at h
  rw [h]
  show (upW sw ((o + c) % 6) w ((o + c) % 6), upW sw ((o + c) % 6) w, o, c, 0) = (w, upW sw ((o + c) % 6) w, o, c, 0)
  unfold upW
  rw [if_pos rfl]
theorem th_undo {c : Nat} (h : 0 < c) : thUndo c = 0 := if_neg (by omega)
