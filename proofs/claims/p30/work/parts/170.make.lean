/-! NEW CELLS: their classes are the ones that are known -/
section GN
variable {p : Program} {l : Launch} {e : Env} {R : Room} {s : State} {m : MethodId} {args : Array Value} {below : List Frame} {meth : Method} {c : Code} {H : Heap} {locs : List Loc} {cells slots : Nat} {Q : State → Prop}
variable {cc : ByteArray} {pc : Nat} {ls : Array Slot} {rest : List Value} {D : va_G} {A : Nat → Prop} {wd : va_W}
theorem g_last {α : Type} (l1 : List α) (x : α) : (l1 ++ [x])[l1.length]? = some x := by
  rw [List.getElem?_append_right (Nat.le_refl _), Nat.sub_self]; rfl
theorem g_old {α : Type} {l1 : List α} {x y : α} {t : Nat} (h : l1[t]? = some y) : (l1 ++ [x])[t]? = some y := by
  rw [List.getElem?_append_left (List.getElem?_eq_some_iff.mp h).1]; exact h
theorem g_cI {K : Nat → ClassId} {cA : ClassId} (hK : va_K D vwCl (gTy K ++ [(cA, .int)]) s) : cA = K 0 := by
  have h1 : s.vm.findClass ("[" ++ FieldType.int.toString) = some (K 0) := (hK.2 0 (K 0, .int) rfl).2
  have h2 : s.vm.findClass ("[" ++ FieldType.int.toString) = some cA := (hK.2 5 (cA, .int) rfl).2
  rw [h1] at h2
  exact (Option.some.inj h2).symm
theorem g_cZ {K : Nat → ClassId} {cA : ClassId} (hK : va_K D vwCl (gTy K ++ [(cA, .boolean)]) s) : cA = K 1 := by
  have h1 : s.vm.findClass ("[" ++ FieldType.boolean.toString) = some (K 1) := (hK.2 1 (K 1, .boolean) rfl).2
  have h2 : s.vm.findClass ("[" ++ FieldType.boolean.toString) = some cA := (hK.2 5 (cA, .boolean) rfl).2
  rw [h1] at h2
  exact (Option.some.inj h2).symm
theorem g_cC {K : Nat → ClassId} {cA : ClassId} (hK : va_K D vwCl (gTy K ++ [(cA, .char)]) s) : cA = K 2 := by
  have h1 : s.vm.findClass ("[" ++ FieldType.char.toString) = some (K 2) := (hK.2 2 (K 2, .char) rfl).2
  have h2 : s.vm.findClass ("[" ++ FieldType.char.toString) = some cA := (hK.2 5 (cA, .char) rfl).2
  rw [h1] at h2
  exact (Option.some.inj h2).symm
theorem g_cA {K : Nat → ClassId} {cA : ClassId} (hK : va_K D vwCl (gTy K ++ [(cA, .object RX2)]) s) : cA = K 4 := by
  obtain ⟨-, -, -, -, -, h1⟩ := (hK.2 4 (K 4, .object RX2) rfl).2
  obtain ⟨-, -, -, -, -, h2⟩ := (hK.2 5 (cA, .object RX2) rfl).2
  rw [h1] at h2
  exact (Option.some.inj h2).symm
theorem wa_aast (hx : p.tables.exec = Jvm.exec) (hb : c.code = cc) {tys : List (ClassId × FieldType)} (hK : va_K D vwCl tys s) (hP : va_P D vwCl wd H) (hD : va_D A wd) (hS : va_S A s.heap H locs) (q0 t0 qk ci : Nat) {a : Nat} {cA : ClassId} {r : vw_C} {n v : Nat} {vs : List Value} {f : Nat → Option Nat} (ha : wd[q0]? = some (a, .inl (cA, n, .inr (.inr (.inr (.inr f)))))) (ht : tys[t0]? = some (cA, .object r.1)) (hv : wd[qk]? = some (v, .inr (ci, vs))) (hc : vwCl[ci]? = some r) {i : Int32} (j : Nat) (hi : i = nI j) (hj : j < n) (hn : n < 2 ^ 31) (hdg : decode cc pc = .ok (.aastore, 1))
    (kk : ∀ (H1 : Heap) (locs1 : List Loc), va_P D vwCl (wd.set q0 (a, .inl (cA, n, .inr (.inr (.inr (.inr (va_up f j (some v)))))))) H1 → va_D A (wd.set q0 (a, .inl (cA, n, .inr (.inr (.inr (.inr (va_up f j (some v)))))))) → va_S A s.heap H1 locs1 → W p l e R s m args below meth c H1 locs1 cells slots Q (F0 m (pc + 1) ls rest)) : W p l e R s m args below meth c H locs cells slots Q (F0 m pc ls (.ref v :: .int i :: .ref a :: rest)) := by
  subst hi
  refine va_astq hx hb hK hP hD hS q0 t0 qk ci ha ht hv hc (vp_in_nI hj hn) hdg ?_
  rw [nI_clamp (by omega)]
  exact kk
end GN
theorem gPq_ext {D : va_G} {cl : List vw_C} {wd : va_W} {H : Heap} {a n : Nat} {cA : ClassId} {f g : Nat → Option Nat} (hP : va_P D cl wd H) (q : Nat) (hq : wd[q]? = some (a, .inl (cA, n, .inr (.inr (.inr (.inr f)))))) (h : ∀ j, j < n → f j = g j) : va_P D cl (wd.set q (a, .inl (cA, n, .inr (.inr (.inr (.inr g)))))) H := by
  intro k x hk
  by_cases e : k = q
  · subst e
    have hlt : k < wd.length := (List.getElem?_eq_some_iff.mp hq).1
    rw [List.getElem?_set_self hlt] at hk
    cases hk
    have h1 : va_at D cl (a, .inl (cA, n, .inr (.inr (.inr (.inr f))))) H := hP k _ hq
    show H[a]? = some (vp_cell cA (n, .inr (.inr (.inr (.inr g)))))
    rw [vp_cell_q, ← arrV_ext (f := fun j => va_rf (f j)) (fun j hj => by rw [h j hj]), ← vp_cell_q]
    exact h1
  · rw [List.getElem?_set_ne (fun h9 => e h9.symm)] at hk
    exact hP k x hk
/-- what a new word holds -/
def set0 : Nat → Int32 := fun i => if i = 0 then 500 else if i = 1 then 1 else if i = 2 then 0 else if i = 3 then 10 else 0
theorem set0_ok : ∀ j, j < 4 → upd (upd (upd (upd (fun _ => (0 : Int32)) 0 500) 1 1) 2 0) 3 10 j = set0 j := by
  intro j hj
  have : j = 0 ∨ j = 1 ∨ j = 2 ∨ j = 3 := by omega
  rcases this with rfl | rfl | rfl | rfl <;> rfl
theorem set0_S : okS set0 := ⟨⟨500, by decide, by decide, rfl⟩, ⟨1, by decide, by decide, rfl⟩, ⟨0, by decide, rfl⟩, ⟨10, by decide, by decide, rfl⟩⟩
