/-! THE LAW: methods with a table of their own, calls that throw here, rows of longs -/
section GLX
variable {l : Launch} {y : MethodName} {ws ws' : List Cond} {rm : Room} {D : va_G} {tys : List (ClassId × FieldType)} {av : List Value} {wd : va_W} {cc : ByteArray} {maxL : Nat} {ret : Option FieldType} {own : String} {mc ms : Nat}
theorem g_ofXH {Qc : (Nat → Prop) → Array Value → State → Outcome → State → Prop} {XC : (Nat → Prop) → String → State → State → Prop} {hh : List (Nat × Nat × Nat × Nat)} (hy : plainName y.cls = true) (hw : ws = Cond.codeWith y cc maxL ret hh :: ws') (ho : y.cls = own) (hav : (lg_sl av).length ≤ maxL)
    (body : ∀ p e s m below meth c (A : Nat → Prop), gFix p s m av.toArray meth c cc ret maxL own ws → c.exceptionTable.toList = tableOf hh → va_K D vwCl tys s → va_P D vwCl wd s.heap → va_D A wd → gE A s s.heap → va_S A s.heap s.heap [] → (∀ q, s.heap.size ≤ q → A q) → ∀ ls : Array Slot, lv_has ls maxL (lv_args 0 av) →
      W p l e rm s m av.toArray below meth c s.heap [] 0 0 (vx_MQ below (Qc A) (XC A) av.toArray s mc ms A) (F0 m 0 ls [])) : ∀ sz : Nat, vx_Met l y ws rm (va_Pc av (gW D tys wd sz)) (Qc (va_A wd sz)) (XC (va_A wd sz)) mc ms (va_A wd sz) := by
  intro sz
  refine vx_ofWH (cc := cc) (maxL := maxL) (ret := ret) (hh := hh) hy hw ?_
  intro p e s m args below meth c s₁ B hml hv
  have htab := vx_table (x := y) B (atoms_spec (ws := ws) B.pre _ (by rw [hw]; exact List.mem_cons_self))
  obtain ⟨rfl, rfl, hP, hK, hD, hE⟩ := hv
  have hl := lv_entry av hav
  rw [lg_entry_eq]
  generalize (lg_sl av ++ List.replicate (maxL - (lg_sl av).length) Slot.unset).toArray = ls at hl ⊢
  exact body p e s m below meth c _ ⟨B.exec, B.bytes, B.returns, hml, by rw [← ho]; exact findClass_of_methodNamed B.named, atoms_spec (ws := ws) B.pre, B.notSynchronized⟩ htab hK hP hD.self hE va_S.rf (fun q h => Or.inr h) ls hl
end GLX
section GLY
variable {p : Program} {l : Launch} {e : Env} {R : Room} {s : State} {m : MethodId} {args : Array Value} {below : List Frame} {meth : Method} {c : Code} {H : Heap} {locs : List Loc} {cells slots : Nat} {Q : State → Prop}
variable {cc : ByteArray} {pc : Nat} {ls : Array Slot} {rest st0 : List Value} {D : va_G} {A : Nat → Prop} {tys : List (ClassId × FieldType)} {wd w1 wr : va_W} {a : Array Value} {mc ms : Nat} {av : List Value}
/-- a call of a method that may throw -/
theorem gX_c {S : Type} {W1 W2 : S → va_W} {post : Int32 → S → Prop} {px : String → S → Prop} (hr : vx_Run p l e R s m args below meth c H locs cells slots mc ms (F0 m pc ls st0) rest (va_Qi post (gB D tys (va_A w1 H.size) W1) (va_A w1 H.size) a) (gX D tys (va_A w1 H.size) W1 px) (va_A w1 H.size)) (hS : va_S A s.heap H locs) (hP : va_P D vwCl wd H) (hD : va_D A wd) (hA : ∀ q, s.heap.size ≤ q → A q) (is isR js : List Nat) (hC : is.map (fun i => wd[i]?) = w1.map some) (hR : isR.map (fun i => wd[i]?) = wr.map some) (hn : va_nd isR = true) (hdis : ∀ i ∈ isR, i ∉ is) (hjn : va_nd js = true) (hj : ∀ u, js.map (fun i => (wr ++ W1 u)[i]?) = (W2 u).map some)
    (kx : ∀ (E : String) (ce : Cell) (q9 : Addr) (u : S) (H1 : Heap) (locs1 : List Loc), px E u → va_P D vwCl (W2 u) H1 → va_D A (W2 u) → va_S A s.heap H1 locs1 → H1[q9]? = some ce → ce.vm = .none → s.vm.findClass E = some ce.cls → vx_W p l e R s m args below meth c H1 locs1 (cells + mc) (slots + ms) Q (F0 m pc ls rest) q9)
    (kk : ∀ (r : Int32) (u : S) (H1 : Heap) (locs1 : List Loc), post r u → va_P D vwCl (W2 u) H1 → va_D A (W2 u) → va_S A s.heap H1 locs1 → W p l e R s m args below meth c H1 locs1 (cells + mc) (slots + ms) Q (F0 m (pc + 3) ls (.int r :: rest))) : W p l e R s m args below meth c H locs cells slots Q (F0 m pc ls st0) :=
  vx_calli hr hS (fun q _ h => va_free hD hS hA is hC q h) (va_free hD hS hA is hC) (fun q _ h => va_free hD hS hA is hC q h)
    (fun E ce q9 u t H1 locs1 ht hvm hpx hB hz hk hS1 hce hcv hcl => by
      obtain ⟨h1, h2⟩ := gJoin (W2 := W2) hS hP hD hA is isR js hC hR hn hdis hjn hj ht hB.2 hk
      exact kx E ce q9 u H1 locs1 hB.1 h1 h2 hS1 hce hcv hcl)
    (fun r u t H1 locs1 ht hvm hw hB hz hk hS1 => by
      obtain ⟨h1, h2⟩ := gJoin (W2 := W2) hS hP hD hA is isR js hC hR hn hdis hjn hj ht hB hk
      exact kk r u H1 locs1 hw h1 h2 hS1)
theorem upL_0 (f : Nat → Int64) (x : Int64) : vp_updL f 0 x 0 = x := if_pos rfl
theorem wl_last0 (hx : p.tables.exec = Jvm.exec) (hb : c.code = cc) (hK : va_K D vwCl tys s) (hP : va_P D vwCl wd H) (hD : va_D A wd) (hS : va_S A s.heap H locs) (q0 t0 : Nat) {a : Nat} {cA : ClassId} {f : Nat → Int64} (ha : wd[q0]? = some (a, .inl (cA, 1, .inr (.inl f)))) (ht : tys[t0]? = some (cA, .long)) {x : Int64} (hdg : decode cc pc = .ok (.lastore, 1))
    (kk : ∀ (H1 : Heap) (locs1 : List Loc), va_P D vwCl (wd.set q0 (a, .inl (cA, 1, .inr (.inl (vp_updL f 0 x))))) H1 → va_D A (wd.set q0 (a, .inl (cA, 1, .inr (.inl (vp_updL f 0 x))))) → va_S A s.heap H1 locs1 → W p l e R s m args below meth c H1 locs1 cells slots Q (F0 m (pc + 1) ls rest)) : W p l e R s m args below meth c H locs cells slots Q (F0 m pc ls (.long x :: .int 0 :: .ref a :: rest)) := by
  refine va_last hx hb hK hP hD hS q0 t0 ha ht (show vp_in (nI 0) 1 from vp_in_nI (by decide) (by decide)) hdg ?_
  rw [show (0 : Int32).toNatClampNeg = 0 by decide]
  exact kk
theorem wl_lald0 (hx : p.tables.exec = Jvm.exec) (hb : c.code = cc) (hK : va_K D vwCl tys s) (hP : va_P D vwCl wd H) (q0 t0 : Nat) {a : Nat} {cA : ClassId} {f : Nat → Int64} (ha : wd[q0]? = some (a, .inl (cA, 1, .inr (.inl f)))) (ht : tys[t0]? = some (cA, .long)) (hdg : decode cc pc = .ok (.laload, 1))
    (kk : W p l e R s m args below meth c H locs cells slots Q (F0 m (pc + 1) ls (.long (f 0) :: rest))) : W p l e R s m args below meth c H locs cells slots Q (F0 m pc ls (.int 0 :: .ref a :: rest)) := by
  refine va_lald hx hb hK hP q0 t0 ha ht (show vp_in (nI 0) 1 from vp_in_nI (by decide) (by decide)) hdg ?_
  rw [show (0 : Int32).toNatClampNeg = 0 by decide]
  exact kk
/-- the script's numbers -/
theorem wl_sld (hx : p.tables.exec = Jvm.exec) (hb : c.code = cc) {b lx : Nat} {xs : Nat → Int32} (hX : va_X b lx xs s s.heap) (hbl : b < s.heap.size) (hbA : ¬ A b) (hS : va_S A s.heap H locs) {i : Int32} (j : Nat) (hi : i = nI j) (hj : j < lx) (hn : lx < 2 ^ 31) (hdg : decode cc pc = .ok (.iaload, 1))
    (kk : W p l e R s m args below meth c H locs cells slots Q (F0 m (pc + 1) ls (.int (xs j) :: rest))) : W p l e R s m args below meth c H locs cells slots Q (F0 m pc ls (.int i :: .ref b :: rest)) := by
  subst hi
  refine va_sld hx hb hX hbl hbA hS (vp_in_nI hj hn) hdg ?_
  rw [nI_clamp (by omega)]
  exact kk
end GLY
theorem lg_self (x : Int64) : lg_cmp x x = 0 := by simp [lg_cmp]
theorem lgt {i lx : Nat} (hi : i < 100000) (hl : lx < 100000) : nI lx - 3 < nI i ↔ lx < i + 3 := by
  have e1 : (nI i).toInt = (i : Int) := nI_toInt (by omega)
  have e2 : (nI lx).toInt = (lx : Int) := nI_toInt (by omega)
  have e3 : (3 : Int32).toInt = 3 := by decide
  rw [Int32.lt_iff_toInt_lt, i_sub (by omega) (by omega), e1, e2, e3]
  omega
theorem g_cL {D : va_G} {s : State} {K : Nat → ClassId} {cA : ClassId} (hK : va_K D vwCl (gTy K ++ [(cA, .long)]) s) : cA = K 3 := by
  have h1 : s.vm.findClass ("[" ++ FieldType.long.toString) = some (K 3) := (hK.2 3 (K 3, .long) rfl).2
  have h2 : s.vm.findClass ("[" ++ FieldType.long.toString) = some cA := (hK.2 5 (cA, .long) rfl).2
  rw [h1] at h2
  exact (Option.some.inj h2).symm
