/-! PLUMBING: contracts of two shapes (a method that only reads; a method that writes its world), their calls and ends; the environment that nobody writes -/
theorem g_mapf {α : Type} {wd w1 : List α} {is : List Nat} (h : is.map (fun i => wd[i]?) = w1.map some) : is.filterMap (fun i => wd[i]?) = w1 := by
  have e : is.filterMap (fun i => wd[i]?) = (is.map (fun i => wd[i]?)).filterMap id := by
    rw [List.filterMap_map]; rfl
  rw [e, h]
  clear h e
  induction w1 with
  | nil => rfl
  | cons a l ih => simp
abbrev gNo : Nat → Prop := fun _ => False
def tF (j : Nat) : Int32 := if j = 0 then 21845 else if j = 1 then 13107 else if j = 2 then 3855 else 255
def tL (j : Nat) : Int32 := if j = 0 then 1 else if j = 1 then 1 else if j = 2 then 0 else 1
def tM (j : Nat) : Int32 := if j = 0 then 999 else if j = 1 then 4 else if j = 2 then 3 else 99
def gTabs : List (String × (Nat → Int32)) := [("FORMER_PLACES", tF), ("LEAST_SETTING", tL), ("MOST_SETTING", tM)]
def gLinks : List (String × Nat × MethodName) := [(RX3, 22, yX1_init), (RX3, 33, yX0_init), (RX0, 110, yX3_coded), (RX0, 83, yX3_checkNumber), (RX2, 73, yX3_coded), (RX2, 69, yX3_checkNumber)]
def gStrs : List (Nat × String) := [(229, "what is not 0 to 8"), (84, "there is no such setting"), (78, "there is no such place"), (169, "what is not 0 to 5"), (178, "what is not 0 to 4"), (199, "rank is below 0, or what is not 0 to 2"), (172, "bits is not 0 to 65535"), (100, "there is no such body"), (235, "paths is not 1 to 4"), (43, "k is not 1 to 4"), (61, "many is not 0 to 16"), (65, "there are not so many places"), (92, "value is out of range"), (108, "value is not -99 to 99"), (115, "by is out of range"), (147, "there is no saved state")]
def xIA : String := "java/lang/IllegalArgumentException"
def xIS : String := "java/lang/IllegalStateException"
def xIO : String := "java/lang/IndexOutOfBoundsException"
def gNcs : List (String × String) := []
def gCa (C T : String) (U : State) : Prop := ∃ c t : ClassId, U.vm.findClass C = some c ∧ U.vm.findClass T = some t ∧ U.vm.assignable c t = true
theorem gCa.moved {C T : String} {u U : State} (hvm : u.vm.Alike U.vm) (h : gCa C T u) : gCa C T U := by
  obtain ⟨c, t, h1, h2, h3⟩ := h
  exact ⟨c, t, by rw [hvm.findClass]; exact h1, by rw [hvm.findClass]; exact h2, by rw [hvm.assignable]; exact h3⟩
theorem gCa.of {args : Array Value} {s : State} {C T : String} (h : (Cond.castable C T).before args s = true) : gCa C T s := Cond.castable_spec h
theorem gCa.use {args : Array Value} {s : State} {C T : String} (h : gCa C T s) : (Cond.castable C T).before args s = true := by
  obtain ⟨c, t, h1, h2, h3⟩ := h
  simp [Cond.before, Cond.holds, Cond.value, h1, h2, h3]
def gDe (y : MethodName) (U : State) : Prop := va_Nw (.declares y) U
theorem gDe.moved {y : MethodName} {u U : State} (hvm : u.vm.Alike U.vm) (h : gDe y u) : gDe y U := by
  have h1 : (Cond.declares y).before #[] (u.setVm U.vm) = true := by
    rw [Cond.declares_setVm hvm]
    exact h
  have e := Cond.onTables_vm (A := #[]) (A' := #[]) (U := u) (U' := U) U.vm (Cond.declares y) rfl
  have hU : U.setVm U.vm = U := rfl
  rw [hU] at e
  show (Cond.declares y).before #[] U = true
  rw [← e]
  exact h1
def gCas : List (String × String) := [(xIA, xIA), (xIS, xIS), (xIO, xIO)]
def gNm : List String := ["java/lang/RuntimeException", "java/lang/Exception"]
def gDes : List MethodName := [Bundle.initS "java/lang/RuntimeException", Bundle.initS "java/lang/Exception", Bundle.initS "java/lang/Throwable"]
/-- what nobody writes: links between nest mates, the static tables, what a throw needs, the texts, which classes aren't castable -/
def gE (A : Nat → Prop) (U : State) (H : Heap) : Prop :=
  (∀ q ∈ gLinks, va_Nw (.methodLinkNest q.1 q.2.1 q.2.2 RX3) U) ∧
  (∀ q ∈ gTabs, ∃ t : Nat, va_Z RX3 q.1 "[I" (.ref t) A U H ∧ va_T .int t 4 (fun j => .int (q.2 j)) A U H) ∧
  (vx_Zq Bundle.tN "UNASSIGNED_STACK" Bundle.steD A U H ∧ vx_Zq Bundle.tN "SUPPRESSED_SENTINEL" Bundle.listD A U H) ∧
  (∀ q ∈ gStrs, ∃ a : Nat, vk_R RX3 q.1 q.2 a U) ∧ va_AO RX2 U ∧ (∀ q ∈ gNcs, va_Nc q.1 q.2 U) ∧ (∀ q ∈ gCas, gCa q.1 q.2 U) ∧ (∀ y ∈ gDes, gDe y U)
theorem gE.vm {A : Nat → Prop} {U U' : State} {H : Heap} (h : gE A U H) (hv : U'.vm = U.vm) : gE A U' H := by
  have ha : U.vm.Alike U'.vm := by rw [hv]; exact Vm.Alike.refl U.vm
  obtain ⟨h1, h2, h3, h4, h5, h6, h7, h8⟩ := h
  refine ⟨fun q hq => va_Nw.same rfl hv.symm (h1 q hq), fun q hq => ?_, ⟨vx_Zq.moved ha h3.1, vx_Zq.moved ha h3.2⟩, fun q hq => ?_, va_AO.moved ha h5, fun q hq => va_Nc.moved ha (h6 q hq), fun q hq => gCa.moved ha (h7 q hq), fun y hy => gDe.moved ha (h8 y hy)⟩
  · obtain ⟨t, a, b⟩ := h2 q hq
    exact ⟨t, va_Z.moved ha a, va_T.moved ha b⟩
  · obtain ⟨a, b⟩ := h4 q hq
    exact ⟨a, vk_R.same hv b⟩
theorem gE.call {A A1 : Nat → Prop} {s U : State} {H : Heap} {locs : List Loc} (h : gE A s s.heap) (hS : va_S A s.heap H locs) (hA : ∀ q, A1 q → A q) (hW : s.WarmedH U.vm) (hU : U.heap = H) : gE A1 U U.heap := by
  obtain ⟨h1, h2, h3, h4, h5, h6, h7, h8⟩ := h
  have ha : s.vm.Alike U.vm := hW.alike
  rw [hU]
  refine ⟨fun q hq => va_Nw.warmM hW (h1 q hq), fun q hq => ?_, ⟨vx_Zq.narrow (vx_Zq.kept (vx_Zq.moved ha h3.1) hS.2.1) hA, vx_Zq.narrow (vx_Zq.kept (vx_Zq.moved ha h3.2) hS.2.1) hA⟩, fun q hq => ?_, va_AO.moved ha h5, fun q hq => va_Nc.moved ha (h6 q hq), fun q hq => gCa.moved ha (h7 q hq), fun y hy => gDe.moved ha (h8 y hy)⟩
  · obtain ⟨t, a, b⟩ := h2 q hq
    exact ⟨t, va_Z.narrow (va_Z.kept (va_Z.moved ha a) hS.2.1) hA, va_T.narrow (va_T.kept (va_T.moved ha b) hS.2.1) hA⟩
  · obtain ⟨a, b⟩ := h4 q hq
    exact ⟨a, vk_R.warm hW b⟩
theorem gE.narrow {A A1 : Nat → Prop} {U : State} {H : Heap} (h : gE A U H) (hA : ∀ q, A1 q → A q) : gE A1 U H := by
  obtain ⟨h1, h2, h3, h4, h5, h6, h7, h8⟩ := h
  refine ⟨h1, fun q hq => ?_, ⟨vx_Zq.narrow h3.1 hA, vx_Zq.narrow h3.2 hA⟩, h4, h5, h6, h7, h8⟩
  obtain ⟨t, a, b⟩ := h2 q hq
  exact ⟨t, va_Z.narrow a hA, va_T.narrow b hA⟩
/-- the worlds -/
def gR (D : va_G) (tys : List (ClassId × FieldType)) (wd : va_W) : State → Prop := fun U => va_P D vwCl wd U.heap ∧ va_K D vwCl tys U ∧ gE gNo U U.heap
def gW (D : va_G) (tys : List (ClassId × FieldType)) (wd : va_W) (sz : Nat) : State → Prop := fun U => U.heap.size = sz ∧ va_P D vwCl wd U.heap ∧ va_K D vwCl tys U ∧ va_D (fun _ => True) wd ∧ gE (va_A wd sz) U U.heap
def gB {S : Type} (D : va_G) (tys : List (ClassId × FieldType)) (A : Nat → Prop) (W1 : S → va_W) : S → State → Prop := fun u t => va_P D vwCl (W1 u) t.heap ∧ va_K D vwCl tys t ∧ va_D A (W1 u)
theorem gR.blind (av : List Value) (D : va_G) (tys : List (ClassId × FieldType)) (wd : va_W) : FrameBlind (va_Pc av (gR D tys wd)) := fun a U g mk q => by
  obtain ⟨e, h1, h2, h3⟩ := q
  exact ⟨e, h1, va_K.moved (u := U) (U := U.calling g mk a) (Vm.Alike.refl U.vm) h2, gE.vm (U' := U.calling g mk a) h3 rfl⟩
theorem gW.blind (av : List Value) (D : va_G) (tys : List (ClassId × FieldType)) (wd : va_W) (sz : Nat) : FrameBlind (va_Pc av (gW D tys wd sz)) := fun a U g mk q => by
  obtain ⟨e, h0, h1, h2, h3, h4⟩ := q
  exact ⟨e, h0, h1, va_K.moved (u := U) (U := U.calling g mk a) (Vm.Alike.refl U.vm) h2, h3, gE.vm (U' := U.calling g mk a) h4 rfl⟩
/-- the contracts -/
def MRi (l : Launch) (y : MethodName) (ws : List Cond) (rm : Room) (D : va_G) (tys : List (ClassId × FieldType)) (av : List Value) (wd : va_W) (post : Int32 → Prop) : Prop :=
  Met l y ws rm (va_Pc av (gR D tys wd)) (va_Qi (fun r (_ : Unit) => post r) (fun _ _ => True) gNo) 0 0 gNo
def MRd (l : Launch) (y : MethodName) (ws : List Cond) (rm : Room) (D : va_G) (tys : List (ClassId × FieldType)) (av : List Value) (wd : va_W) (post : UInt64 → Prop) : Prop :=
  Met l y ws rm (va_Pc av (gR D tys wd)) (va_Qd (fun r (_ : Unit) => post r) (fun _ _ => True) gNo) 0 0 gNo
def MRl (l : Launch) (y : MethodName) (ws : List Cond) (rm : Room) (D : va_G) (tys : List (ClassId × FieldType)) (av : List Value) (wd : va_W) (post : Int64 → Prop) : Prop :=
  Met l y ws rm (va_Pc av (gR D tys wd)) (va_Ql (fun r (_ : Unit) => post r) (fun _ _ => True) gNo) 0 0 gNo
def MWi {S : Type} (l : Launch) (y : MethodName) (ws : List Cond) (rm : Room) (D : va_G) (tys : List (ClassId × FieldType)) (av : List Value) (wd : va_W) (W1 : S → va_W) (post : Int32 → S → Prop) (mc ms : Nat) : Prop :=
  ∀ sz : Nat, Met l y ws rm (va_Pc av (gW D tys wd sz)) (va_Qi post (gB D tys (va_A wd sz) W1) (va_A wd sz)) mc ms (va_A wd sz)
def MWl {S : Type} (l : Launch) (y : MethodName) (ws : List Cond) (rm : Room) (D : va_G) (tys : List (ClassId × FieldType)) (av : List Value) (wd : va_W) (W1 : S → va_W) (post : Int64 → S → Prop) (mc ms : Nat) : Prop :=
  ∀ sz : Nat, Met l y ws rm (va_Pc av (gW D tys wd sz)) (va_Ql post (gB D tys (va_A wd sz) W1) (va_A wd sz)) mc ms (va_A wd sz)
def MWd {S : Type} (l : Launch) (y : MethodName) (ws : List Cond) (rm : Room) (D : va_G) (tys : List (ClassId × FieldType)) (av : List Value) (wd : va_W) (W1 : S → va_W) (post : UInt64 → S → Prop) (mc ms : Nat) : Prop :=
  ∀ sz : Nat, Met l y ws rm (va_Pc av (gW D tys wd sz)) (va_Qd post (gB D tys (va_A wd sz) W1) (va_A wd sz)) mc ms (va_A wd sz)
def MWv {S : Type} (l : Launch) (y : MethodName) (ws : List Cond) (rm : Room) (D : va_G) (tys : List (ClassId × FieldType)) (av : List Value) (wd : va_W) (W1 : S → va_W) (post : S → Prop) (mc ms : Nat) : Prop :=
  ∀ sz : Nat, Met l y ws rm (va_Pc av (gW D tys wd sz)) (va_Qv post (gB D tys (va_A wd sz) W1) (va_A wd sz)) mc ms (va_A wd sz)
def gX {S : Type} (D : va_G) (tys : List (ClassId × FieldType)) (A : Nat → Prop) (W1 : S → va_W) (px : String → S → Prop) : String → State → State → Prop :=
  vx_X (fun _ : S => True) (fun E u t => px E u ∧ gB D tys A W1 u t) A
def MXi {S : Type} (l : Launch) (y : MethodName) (ws : List Cond) (rm : Room) (D : va_G) (tys : List (ClassId × FieldType)) (av : List Value) (wd : va_W) (W1 : S → va_W) (post : Int32 → S → Prop) (px : String → S → Prop) (mc ms : Nat) : Prop :=
  ∀ sz : Nat, vx_Met l y ws rm (va_Pc av (gW D tys wd sz)) (va_Qi post (gB D tys (va_A wd sz) W1) (va_A wd sz)) (gX D tys (va_A wd sz) W1 px) mc ms (va_A wd sz)
/-- what a body has at its entry -/
def gFix (p : Program) (s : State) (m : MethodId) (args : Array Value) (meth : Method) (c : Code) (cc : ByteArray) (ret : Option FieldType) (maxL : Nat) (own : String) (ws : List Cond) : Prop :=
  p.tables.exec = Jvm.exec ∧ c.code = cc ∧ meth.sig.returnType = ret ∧ c.maxLocals = maxL ∧ s.vm.findClass own = some m.cls ∧ (∀ w ∈ ws, w.before args s = true) ∧ meth.locks = false
section GB
variable {l : Launch} {y : MethodName} {ws ws' : List Cond} {rm : Room} {D : va_G} {tys : List (ClassId × FieldType)} {av : List Value} {wd : va_W} {cc : ByteArray} {maxL : Nat} {ret : Option FieldType} {own : String} {mc ms : Nat}
theorem g_ofR {Qc : Array Value → State → Outcome → State → Prop} (hy : plainName y.cls = true) (hw : ws = Cond.code y cc maxL ret :: ws') (ho : y.cls = own) (hav : (lg_sl av).length ≤ maxL)
    (body : ∀ p e s m below meth c, gFix p s m av.toArray meth c cc ret maxL own ws → va_K D vwCl tys s → va_P D vwCl wd s.heap → gE gNo s s.heap → va_S gNo s.heap s.heap [] → ∀ ls : Array Slot, lv_has ls maxL (lv_args 0 av) →
      W p l e rm s m av.toArray below meth c s.heap [] 0 0 (MQ below Qc av.toArray s 0 0 gNo) (F0 m 0 ls [])) : Met l y ws rm (va_Pc av (gR D tys wd)) Qc 0 0 gNo := by
  refine Met.ofW (cc := cc) (maxL := maxL) (ret := ret) hy hw ?_
  intro p e s m args below meth c s₁ B hml hv
  obtain ⟨rfl, hP, hK, hE⟩ := hv
  have hl := lv_entry av hav
  rw [lg_entry_eq]
  generalize (lg_sl av ++ List.replicate (maxL - (lg_sl av).length) Slot.unset).toArray = ls at hl ⊢
  exact body p e s m below meth c ⟨B.exec, B.bytes, B.returns, hml, by rw [← ho]; exact findClass_of_methodNamed B.named, atoms_spec (ws := ws) B.pre, B.notSynchronized⟩ hK hP hE va_S.rf ls hl
theorem g_ofW {Qc : (Nat → Prop) → Array Value → State → Outcome → State → Prop} (hy : plainName y.cls = true) (hw : ws = Cond.code y cc maxL ret :: ws') (ho : y.cls = own) (hav : (lg_sl av).length ≤ maxL)
    (body : ∀ p e s m below meth c (A : Nat → Prop), gFix p s m av.toArray meth c cc ret maxL own ws → meth.name = y.name → va_K D vwCl tys s → va_P D vwCl wd s.heap → va_D A wd → gE A s s.heap → va_S A s.heap s.heap [] → (∀ q, s.heap.size ≤ q → A q) → ∀ ls : Array Slot, lv_has ls maxL (lv_args 0 av) →
      W p l e rm s m av.toArray below meth c s.heap [] 0 0 (MQ below (Qc A) av.toArray s mc ms A) (F0 m 0 ls [])) : ∀ sz : Nat, Met l y ws rm (va_Pc av (gW D tys wd sz)) (Qc (va_A wd sz)) mc ms (va_A wd sz) := by
  intro sz
  refine Met.ofW (cc := cc) (maxL := maxL) (ret := ret) hy hw ?_
  intro p e s m args below meth c s₁ B hml hv
  obtain ⟨rfl, rfl, hP, hK, hD, hE⟩ := hv
  have hl := lv_entry av hav
  rw [lg_entry_eq]
  generalize (lg_sl av ++ List.replicate (maxL - (lg_sl av).length) Slot.unset).toArray = ls at hl ⊢
  exact body p e s m below meth c _ ⟨B.exec, B.bytes, B.returns, hml, by rw [← ho]; exact findClass_of_methodNamed B.named, atoms_spec (ws := ws) B.pre, B.notSynchronized⟩ (name_of_methodNamed B.named B.method).1 hK hP hD.self hE va_S.rf (fun q h => Or.inr h) ls hl
theorem g_ofX {Qc : (Nat → Prop) → Array Value → State → Outcome → State → Prop} {XC : (Nat → Prop) → String → State → State → Prop} (hy : plainName y.cls = true) (hw : ws = Cond.code y cc maxL ret :: ws') (ho : y.cls = own) (hav : (lg_sl av).length ≤ maxL)
    (body : ∀ p e s m below meth c (A : Nat → Prop), gFix p s m av.toArray meth c cc ret maxL own ws → (∀ x ∈ c.exceptionTable.toList, False) → va_K D vwCl tys s → va_P D vwCl wd s.heap → va_D A wd → gE A s s.heap → va_S A s.heap s.heap [] → (∀ q, s.heap.size ≤ q → A q) → ∀ ls : Array Slot, lv_has ls maxL (lv_args 0 av) →
      W p l e rm s m av.toArray below meth c s.heap [] 0 0 (vx_MQ below (Qc A) (XC A) av.toArray s mc ms A) (F0 m 0 ls [])) : ∀ sz : Nat, vx_Met l y ws rm (va_Pc av (gW D tys wd sz)) (Qc (va_A wd sz)) (XC (va_A wd sz)) mc ms (va_A wd sz) := by
  intro sz
  refine vx_ofW (cc := cc) (maxL := maxL) (ret := ret) hy hw ?_
  intro p e s m args below meth c s₁ B hml htab hv
  obtain ⟨rfl, rfl, hP, hK, hD, hE⟩ := hv
  have hl := lv_entry av hav
  rw [lg_entry_eq]
  generalize (lg_sl av ++ List.replicate (maxL - (lg_sl av).length) Slot.unset).toArray = ls at hl ⊢
  exact body p e s m below meth c _ ⟨B.exec, B.bytes, B.returns, hml, by rw [← ho]; exact findClass_of_methodNamed B.named, atoms_spec (ws := ws) B.pre, B.notSynchronized⟩ htab hK hP hD.self hE va_S.rf (fun q h => Or.inr h) ls hl
end GB
section GC
variable {p : Program} {l : Launch} {e : Env} {R : Room} {s : State} {m : MethodId} {args : Array Value} {below : List Frame} {meth : Method} {c : Code} {H : Heap} {locs : List Loc} {cells slots : Nat} {Q : State → Prop}
variable {cc : ByteArray} {pc : Nat} {ls : Array Slot} {rest st0 : List Value} {D : va_G} {A : Nat → Prop} {tys : List (ClassId × FieldType)} {wd w1 wr : va_W} {a : Array Value} {mc ms : Nat} {av : List Value}
/-- the start of a callee that only reads -/
theorem gR_pre (hE : gE A s s.heap) (hS : va_S A s.heap H locs) (hK : va_K D vwCl tys s) (hP : va_P D vwCl wd H) (is : List Nat) (hs : is.map (fun i => wd[i]?) = w1.map some) : PreS s H (va_Pc av (gR D tys w1)) av :=
  ⟨gR.blind av D tys w1, fun U hU hW => ⟨rfl, by rw [hU]; exact hP.sub is (g_mapf hs), va_K.moved hW.alike hK, gE.call hE hS (fun q h => h.elim) hW hU⟩⟩
theorem gR_preV {C : String} {b ci : Nat} {q : vw_C} {fs : List Value} {As : List Value} (hE : gE A s s.heap) (hS : va_S A s.heap H locs) (hK : va_K D vwCl tys s) (hP : va_P D vwCl wd H) (is : List Nat) (hs : is.map (fun i => wd[i]?) = w1.map some) (i0 : Nat) (he : wd[i0]? = some (b, .inr (ci, fs))) (hc : vwCl[ci]? = some q) (hC : q.1 = C) : PreV s H C b (va_Pc (.ref b :: As) (gR D tys w1)) As := by
  subst hC
  exact ⟨gR.blind _ D tys w1, va_recv hK hP hc he, (gR_pre hE hS hK hP is hs).2⟩
theorem gW_pre (hE : gE A s s.heap) (hS : va_S A s.heap H locs) (hK : va_K D vwCl tys s) (hP : va_P D vwCl wd H) (hD : va_D A wd) (hA : ∀ q, s.heap.size ≤ q → A q) (is : List Nat) (hs : is.map (fun i => wd[i]?) = w1.map some) (hn : va_nd is = true) : PreS s H (va_Pc av (gW D tys w1 H.size)) av :=
  ⟨gW.blind av D tys w1 H.size, fun U hU hW => ⟨rfl, by rw [hU], by rw [hU]; exact hP.sub is (g_mapf hs), va_K.moved hW.alike hK, (hD.sub is hn hs).weaken (fun _ _ _ _ => trivial), gE.call hE hS (va_free hD hS hA is hs) hW hU⟩⟩
theorem gW_preV {C : String} {b ci : Nat} {q : vw_C} {fs : List Value} {As : List Value} (hE : gE A s s.heap) (hS : va_S A s.heap H locs) (hK : va_K D vwCl tys s) (hP : va_P D vwCl wd H) (hD : va_D A wd) (hA : ∀ q, s.heap.size ≤ q → A q) (is : List Nat) (hs : is.map (fun i => wd[i]?) = w1.map some) (hn : va_nd is = true) (i0 : Nat) (he : wd[i0]? = some (b, .inr (ci, fs))) (hc : vwCl[ci]? = some q) (hC : q.1 = C) : PreV s H C b (va_Pc (.ref b :: As) (gW D tys w1 H.size)) As := by
  subst hC
  exact ⟨gW.blind _ D tys w1 H.size, va_recv hK hP hc he, (gW_pre hE hS hK hP hD hA is hs hn).2⟩
theorem gKept {H1 : Heap} (hP : va_P D vwCl wd H) (hk : ∀ q : Nat, q < H.size → ¬ gNo q → H1[q]? = H[q]?) : va_P D vwCl wd H1 :=
  hP.kept (fun k q h => hk q.1 ((hP k q h).lt) (fun z => z))
theorem gR_i {post : Int32 → Prop} (hr : va_Run p l e R s m args below meth c H locs cells slots 0 0 (F0 m pc ls st0) rest (va_Qi (fun r (_ : Unit) => post r) (fun _ _ => True) gNo a) gNo) (hS : va_S A s.heap H locs) (hP : va_P D vwCl wd H)
    (kk : ∀ (r : Int32) (H1 : Heap) (locs1 : List Loc), post r → va_P D vwCl wd H1 → va_S A s.heap H1 locs1 → W p l e R s m args below meth c H1 locs1 cells slots Q (F0 m (pc + 3) ls (.int r :: rest))) : W p l e R s m args below meth c H locs cells slots Q (F0 m pc ls st0) :=
  va_calli hr hS (fun q _ h => h.elim) (fun q h => h.elim) (fun r u t H1 locs1 ht hvm hw hB hz hk hS1 => kk r H1 locs1 hw (gKept hP hk) hS1)
theorem gR_l {post : Int64 → Prop} (hr : va_Run p l e R s m args below meth c H locs cells slots 0 0 (F0 m pc ls st0) rest (va_Ql (fun r (_ : Unit) => post r) (fun _ _ => True) gNo a) gNo) (hS : va_S A s.heap H locs) (hP : va_P D vwCl wd H)
    (kk : ∀ (r : Int64) (H1 : Heap) (locs1 : List Loc), post r → va_P D vwCl wd H1 → va_S A s.heap H1 locs1 → W p l e R s m args below meth c H1 locs1 cells slots Q (F0 m (pc + 3) ls (.long r :: rest))) : W p l e R s m args below meth c H locs cells slots Q (F0 m pc ls st0) :=
  va_calll hr hS (fun q _ h => h.elim) (fun q h => h.elim) (fun r u t H1 locs1 ht hvm hw hB hz hk hS1 => kk r H1 locs1 hw (gKept hP hk) hS1)
theorem gR_d {post : UInt64 → Prop} (hr : va_Run p l e R s m args below meth c H locs cells slots 0 0 (F0 m pc ls st0) rest (va_Qd (fun r (_ : Unit) => post r) (fun _ _ => True) gNo a) gNo) (hS : va_S A s.heap H locs) (hP : va_P D vwCl wd H)
    (kk : ∀ (r : UInt64) (H1 : Heap) (locs1 : List Loc), post r → va_P D vwCl wd H1 → va_S A s.heap H1 locs1 → W p l e R s m args below meth c H1 locs1 cells slots Q (F0 m (pc + 3) ls (.double r :: rest))) : W p l e R s m args below meth c H locs cells slots Q (F0 m pc ls st0) :=
  va_calld hr hS (fun q _ h => h.elim) (fun q h => h.elim) (fun r u t H1 locs1 ht hvm hw hB hz hk hS1 => kk r H1 locs1 hw (gKept hP hk) hS1)
/-- behind a call that wrote: the caller's world, its cells in their own order -/
theorem gJoin {S : Type} {W1 W2 : S → va_W} {u : S} {t : State} {H1 : Heap} (hS : va_S A s.heap H locs) (hP : va_P D vwCl wd H) (hD : va_D A wd) (hA : ∀ q, s.heap.size ≤ q → A q) (is isR js : List Nat) (hC : is.map (fun i => wd[i]?) = w1.map some) (hR : isR.map (fun i => wd[i]?) = wr.map some) (hn : va_nd isR = true) (hdis : ∀ i ∈ isR, i ∉ is) (hjn : va_nd js = true) (hj : ∀ u, js.map (fun i => (wr ++ W1 u)[i]?) = (W2 u).map some)
    (ht : t.heap = H1) (hB : gB D tys (va_A w1 H.size) W1 u t) (hk : ∀ q : Nat, q < H.size → ¬ va_A w1 H.size q → H1[q]? = H[q]?) : va_P D vwCl (W2 u) H1 ∧ va_D A (W2 u) := by
  obtain ⟨hP1, -, hD1⟩ := hB
  rw [ht] at hP1
  obtain ⟨h1, h2⟩ := va_join hP hD is isR hC hR hn hdis hk (va_free hD hS hA is hC) hP1 hD1
  exact ⟨h1.sub js (g_mapf (hj u)), h2.sub js hjn (hj u)⟩
theorem gW_i {S : Type} {W1 W2 : S → va_W} {post : Int32 → S → Prop} (hr : va_Run p l e R s m args below meth c H locs cells slots mc ms (F0 m pc ls st0) rest (va_Qi post (gB D tys (va_A w1 H.size) W1) (va_A w1 H.size) a) (va_A w1 H.size)) (hS : va_S A s.heap H locs) (hP : va_P D vwCl wd H) (hD : va_D A wd) (hA : ∀ q, s.heap.size ≤ q → A q) (is isR js : List Nat) (hC : is.map (fun i => wd[i]?) = w1.map some) (hR : isR.map (fun i => wd[i]?) = wr.map some) (hn : va_nd isR = true) (hdis : ∀ i ∈ isR, i ∉ is) (hjn : va_nd js = true) (hj : ∀ u, js.map (fun i => (wr ++ W1 u)[i]?) = (W2 u).map some)
    (kk : ∀ (r : Int32) (u : S) (H1 : Heap) (locs1 : List Loc), post r u → va_P D vwCl (W2 u) H1 → va_D A (W2 u) → va_S A s.heap H1 locs1 → W p l e R s m args below meth c H1 locs1 (cells + mc) (slots + ms) Q (F0 m (pc + 3) ls (.int r :: rest))) : W p l e R s m args below meth c H locs cells slots Q (F0 m pc ls st0) :=
  va_calli hr hS (fun q _ h => va_free hD hS hA is hC q h) (va_free hD hS hA is hC) (fun r u t H1 locs1 ht hvm hw hB hz hk hS1 => by
    obtain ⟨h1, h2⟩ := gJoin (W2 := W2) hS hP hD hA is isR js hC hR hn hdis hjn hj ht hB hk
    exact kk r u H1 locs1 hw h1 h2 hS1)
theorem gW_l {S : Type} {W1 W2 : S → va_W} {post : Int64 → S → Prop} (hr : va_Run p l e R s m args below meth c H locs cells slots mc ms (F0 m pc ls st0) rest (va_Ql post (gB D tys (va_A w1 H.size) W1) (va_A w1 H.size) a) (va_A w1 H.size)) (hS : va_S A s.heap H locs) (hP : va_P D vwCl wd H) (hD : va_D A wd) (hA : ∀ q, s.heap.size ≤ q → A q) (is isR js : List Nat) (hC : is.map (fun i => wd[i]?) = w1.map some) (hR : isR.map (fun i => wd[i]?) = wr.map some) (hn : va_nd isR = true) (hdis : ∀ i ∈ isR, i ∉ is) (hjn : va_nd js = true) (hj : ∀ u, js.map (fun i => (wr ++ W1 u)[i]?) = (W2 u).map some)
    (kk : ∀ (r : Int64) (u : S) (H1 : Heap) (locs1 : List Loc), post r u → va_P D vwCl (W2 u) H1 → va_D A (W2 u) → va_S A s.heap H1 locs1 → W p l e R s m args below meth c H1 locs1 (cells + mc) (slots + ms) Q (F0 m (pc + 3) ls (.long r :: rest))) : W p l e R s m args below meth c H locs cells slots Q (F0 m pc ls st0) :=
  va_calll hr hS (fun q _ h => va_free hD hS hA is hC q h) (va_free hD hS hA is hC) (fun r u t H1 locs1 ht hvm hw hB hz hk hS1 => by
    obtain ⟨h1, h2⟩ := gJoin (W2 := W2) hS hP hD hA is isR js hC hR hn hdis hjn hj ht hB hk
    exact kk r u H1 locs1 hw h1 h2 hS1)
theorem gW_d {S : Type} {W1 W2 : S → va_W} {post : UInt64 → S → Prop} (hr : va_Run p l e R s m args below meth c H locs cells slots mc ms (F0 m pc ls st0) rest (va_Qd post (gB D tys (va_A w1 H.size) W1) (va_A w1 H.size) a) (va_A w1 H.size)) (hS : va_S A s.heap H locs) (hP : va_P D vwCl wd H) (hD : va_D A wd) (hA : ∀ q, s.heap.size ≤ q → A q) (is isR js : List Nat) (hC : is.map (fun i => wd[i]?) = w1.map some) (hR : isR.map (fun i => wd[i]?) = wr.map some) (hn : va_nd isR = true) (hdis : ∀ i ∈ isR, i ∉ is) (hjn : va_nd js = true) (hj : ∀ u, js.map (fun i => (wr ++ W1 u)[i]?) = (W2 u).map some)
    (kk : ∀ (r : UInt64) (u : S) (H1 : Heap) (locs1 : List Loc), post r u → va_P D vwCl (W2 u) H1 → va_D A (W2 u) → va_S A s.heap H1 locs1 → W p l e R s m args below meth c H1 locs1 (cells + mc) (slots + ms) Q (F0 m (pc + 3) ls (.double r :: rest))) : W p l e R s m args below meth c H locs cells slots Q (F0 m pc ls st0) :=
  va_calld hr hS (fun q _ h => va_free hD hS hA is hC q h) (va_free hD hS hA is hC) (fun r u t H1 locs1 ht hvm hw hB hz hk hS1 => by
    obtain ⟨h1, h2⟩ := gJoin (W2 := W2) hS hP hD hA is isR js hC hR hn hdis hjn hj ht hB hk
    exact kk r u H1 locs1 hw h1 h2 hS1)
theorem gW_v {S : Type} {W1 W2 : S → va_W} {post : S → Prop} (hr : va_Run p l e R s m args below meth c H locs cells slots mc ms (F0 m pc ls st0) rest (va_Qv post (gB D tys (va_A w1 H.size) W1) (va_A w1 H.size) a) (va_A w1 H.size)) (hS : va_S A s.heap H locs) (hP : va_P D vwCl wd H) (hD : va_D A wd) (hA : ∀ q, s.heap.size ≤ q → A q) (is isR js : List Nat) (hC : is.map (fun i => wd[i]?) = w1.map some) (hR : isR.map (fun i => wd[i]?) = wr.map some) (hn : va_nd isR = true) (hdis : ∀ i ∈ isR, i ∉ is) (hjn : va_nd js = true) (hj : ∀ u, js.map (fun i => (wr ++ W1 u)[i]?) = (W2 u).map some)
    (kk : ∀ (u : S) (H1 : Heap) (locs1 : List Loc), post u → va_P D vwCl (W2 u) H1 → va_D A (W2 u) → va_S A s.heap H1 locs1 → W p l e R s m args below meth c H1 locs1 (cells + mc) (slots + ms) Q (F0 m (pc + 3) ls rest)) : W p l e R s m args below meth c H locs cells slots Q (F0 m pc ls st0) :=
  va_callv hr hS (fun q _ h => va_free hD hS hA is hC q h) (va_free hD hS hA is hC) (fun u t H1 locs1 ht hvm hw hB hz hk hS1 => by
    obtain ⟨h1, h2⟩ := gJoin (W2 := W2) hS hP hD hA is isR js hC hR hn hdis hjn hj ht hB hk
    exact kk u H1 locs1 hw h1 h2 hS1)
/-- ends -/
theorem gR_iret {post : Int32 → Prop} {v : Int32} {ty : FieldType} (hx : p.tables.exec = Jvm.exec) (hb : c.code = cc) (hr : meth.sig.returnType = some ty) (hlk : meth.locks = false) (hn : narrow ty (.int v) = .int v) (hS : va_S gNo s.heap H locs) (hp : post v) (hdg : decode cc pc = .ok (.ireturn, 1)) :
    W p l e R s m args below meth c H locs 0 0 (MQ below (va_Qi (fun r (_ : Unit) => post r) (fun _ _ => True) gNo) args s 0 0 gNo) (F0 m pc ls [.int v]) :=
  W.zret hx hb hr hn (fun t ht hW => ⟨⟨v, (), rfl, hp, trivial⟩, hS.F ht⟩) hS.2.2 hdg hlk
theorem gR_lret {post : Int64 → Prop} {v : Int64} (hx : p.tables.exec = Jvm.exec) (hb : c.code = cc) (hr : meth.sig.returnType = some .long) (hlk : meth.locks = false) (hS : va_S gNo s.heap H locs) (hp : post v) (hdg : decode cc pc = .ok (.lreturn, 1)) :
    W p l e R s m args below meth c H locs 0 0 (MQ below (va_Ql (fun r (_ : Unit) => post r) (fun _ _ => True) gNo) args s 0 0 gNo) (F0 m pc ls [.long v]) :=
  W.lret hx hb hr (fun t ht hW => ⟨⟨v, (), rfl, hp, trivial⟩, hS.F ht⟩) hS.2.2 hdg hlk
theorem gR_dret {post : UInt64 → Prop} {v : UInt64} (hx : p.tables.exec = Jvm.exec) (hb : c.code = cc) (hr : meth.sig.returnType = some .double) (hlk : meth.locks = false) (hS : va_S gNo s.heap H locs) (hp : post v) (hdg : decode cc pc = .ok (.dreturn, 1)) :
    W p l e R s m args below meth c H locs 0 0 (MQ below (va_Qd (fun r (_ : Unit) => post r) (fun _ _ => True) gNo) args s 0 0 gNo) (F0 m pc ls [.double v]) :=
  W.dret hx hb hr (fun t ht hW => ⟨⟨v, (), rfl, hp, trivial⟩, hS.F ht⟩) hS.2.2 hdg hlk
theorem gW_iret {S : Type} {W1 : S → va_W} {post : Int32 → S → Prop} {v : Int32} {ty : FieldType} (u : S) (hx : p.tables.exec = Jvm.exec) (hb : c.code = cc) (hr : meth.sig.returnType = some ty) (hlk : meth.locks = false) (hn : narrow ty (.int v) = .int v) (hK : va_K D vwCl tys s) (hP : va_P D vwCl (W1 u) H) (hD : va_D A (W1 u)) (hS : va_S A s.heap H locs) (hp : post v u) (hdg : decode cc pc = .ok (.ireturn, 1)) :
    W p l e R s m args below meth c H locs cells slots (MQ below (va_Qi post (gB D tys A W1) A) args s cells slots A) (F0 m pc ls [.int v]) :=
  W.zret hx hb hr hn (fun t ht hW => ⟨⟨v, u, rfl, hp, by rw [ht]; exact hP, va_K.moved hW.alike hK, hD⟩, hS.F ht⟩) hS.2.2 hdg hlk
theorem gW_lret {S : Type} {W1 : S → va_W} {post : Int64 → S → Prop} {v : Int64} (u : S) (hx : p.tables.exec = Jvm.exec) (hb : c.code = cc) (hr : meth.sig.returnType = some .long) (hlk : meth.locks = false) (hK : va_K D vwCl tys s) (hP : va_P D vwCl (W1 u) H) (hD : va_D A (W1 u)) (hS : va_S A s.heap H locs) (hp : post v u) (hdg : decode cc pc = .ok (.lreturn, 1)) :
    W p l e R s m args below meth c H locs cells slots (MQ below (va_Ql post (gB D tys A W1) A) args s cells slots A) (F0 m pc ls [.long v]) :=
  W.lret hx hb hr (fun t ht hW => ⟨⟨v, u, rfl, hp, by rw [ht]; exact hP, va_K.moved hW.alike hK, hD⟩, hS.F ht⟩) hS.2.2 hdg hlk
theorem gW_dret {S : Type} {W1 : S → va_W} {post : UInt64 → S → Prop} {v : UInt64} (u : S) (hx : p.tables.exec = Jvm.exec) (hb : c.code = cc) (hr : meth.sig.returnType = some .double) (hlk : meth.locks = false) (hK : va_K D vwCl tys s) (hP : va_P D vwCl (W1 u) H) (hD : va_D A (W1 u)) (hS : va_S A s.heap H locs) (hp : post v u) (hdg : decode cc pc = .ok (.dreturn, 1)) :
    W p l e R s m args below meth c H locs cells slots (MQ below (va_Qd post (gB D tys A W1) A) args s cells slots A) (F0 m pc ls [.double v]) :=
  W.dret hx hb hr (fun t ht hW => ⟨⟨v, u, rfl, hp, by rw [ht]; exact hP, va_K.moved hW.alike hK, hD⟩, hS.F ht⟩) hS.2.2 hdg hlk
theorem gW_vret {S : Type} {W1 : S → va_W} {post : S → Prop} (u : S) (hx : p.tables.exec = Jvm.exec) (hb : c.code = cc) (hr : meth.sig.returnType = none) (hlk : meth.locks = false) (hK : va_K D vwCl tys s) (hP : va_P D vwCl (W1 u) H) (hD : va_D A (W1 u)) (hS : va_S A s.heap H locs) (hp : post u) (hdg : decode cc pc = .ok (.return_, 1)) :
    W p l e R s m args below meth c H locs cells slots (MQ below (va_Qv post (gB D tys A W1) A) args s cells slots A) (F0 m pc ls []) :=
  W.vret hx hb hr (fun t ht hW => ⟨⟨u, rfl, hp, by rw [ht]; exact hP, va_K.moved hW.alike hK, hD⟩, hS.F ht⟩) hS.2.2 hdg hlk
/-- rows with the index as a natural number -/
theorem wa_iald (hx : p.tables.exec = Jvm.exec) (hb : c.code = cc) (hK : va_K D vwCl tys s) (hP : va_P D vwCl wd H) (q0 t0 : Nat) {a : Nat} {cA : ClassId} {n : Nat} {f : Nat → Int32} (ha : wd[q0]? = some (a, .inl (cA, n, .inl f))) (ht : tys[t0]? = some (cA, .int)) {i : Int32} (j : Nat) (hi : i = nI j) (hj : j < n) (hn : n < 2 ^ 31) (hdg : decode cc pc = .ok (.iaload, 1))
    (kk : W p l e R s m args below meth c H locs cells slots Q (F0 m (pc + 1) ls (.int (f j) :: rest))) : W p l e R s m args below meth c H locs cells slots Q (F0 m pc ls (.int i :: .ref a :: rest)) := by
  subst hi
  refine va_iald hx hb hK hP q0 t0 ha ht (vp_in_nI hj hn) hdg ?_
  rw [nI_clamp (by omega)]
  exact kk
theorem wa_zald (hx : p.tables.exec = Jvm.exec) (hb : c.code = cc) (hK : va_K D vwCl tys s) (hP : va_P D vwCl wd H) (q0 t0 : Nat) {a : Nat} {cA : ClassId} {n : Nat} {f : Nat → Int32} (ha : wd[q0]? = some (a, .inl (cA, n, .inl f))) (ht : tys[t0]? = some (cA, .boolean)) {i : Int32} (j : Nat) (hi : i = nI j) (hj : j < n) (hn : n < 2 ^ 31) (hdg : decode cc pc = .ok (.baload, 1))
    (kk : W p l e R s m args below meth c H locs cells slots Q (F0 m (pc + 1) ls (.int (f j) :: rest))) : W p l e R s m args below meth c H locs cells slots Q (F0 m pc ls (.int i :: .ref a :: rest)) := by
  subst hi
  refine va_zald hx hb hK hP q0 t0 ha ht (vp_in_nI hj hn) hdg ?_
  rw [nI_clamp (by omega)]
  exact kk
theorem wa_cald (hx : p.tables.exec = Jvm.exec) (hb : c.code = cc) (hK : va_K D vwCl tys s) (hP : va_P D vwCl wd H) (q0 t0 : Nat) {a : Nat} {cA : ClassId} {n : Nat} {f : Nat → Int32} (ha : wd[q0]? = some (a, .inl (cA, n, .inl f))) (ht : tys[t0]? = some (cA, .char)) {i : Int32} (j : Nat) (hi : i = nI j) (hj : j < n) (hn : n < 2 ^ 31) (hdg : decode cc pc = .ok (.caload, 1))
    (kk : W p l e R s m args below meth c H locs cells slots Q (F0 m (pc + 1) ls (.int (f j) :: rest))) : W p l e R s m args below meth c H locs cells slots Q (F0 m pc ls (.int i :: .ref a :: rest)) := by
  subst hi
  refine va_cald hx hb hK hP q0 t0 ha ht (vp_in_nI hj hn) hdg ?_
  rw [nI_clamp (by omega)]
  exact kk
theorem wa_iast (hx : p.tables.exec = Jvm.exec) (hb : c.code = cc) (hK : va_K D vwCl tys s) (hP : va_P D vwCl wd H) (hD : va_D A wd) (hS : va_S A s.heap H locs) (q0 t0 : Nat) {a : Nat} {cA : ClassId} {n : Nat} {f : Nat → Int32} (ha : wd[q0]? = some (a, .inl (cA, n, .inl f))) (ht : tys[t0]? = some (cA, .int)) {i x : Int32} (j : Nat) (hi : i = nI j) (hj : j < n) (hn : n < 2 ^ 31) (hdg : decode cc pc = .ok (.iastore, 1))
    (kk : ∀ (H1 : Heap) (locs1 : List Loc), va_P D vwCl (wd.set q0 (a, .inl (cA, n, .inl (upd f j x)))) H1 → va_D A (wd.set q0 (a, .inl (cA, n, .inl (upd f j x)))) → va_S A s.heap H1 locs1 → W p l e R s m args below meth c H1 locs1 cells slots Q (F0 m (pc + 1) ls rest)) : W p l e R s m args below meth c H locs cells slots Q (F0 m pc ls (.int x :: .int i :: .ref a :: rest)) := by
  subst hi
  refine va_iast hx hb hK hP hD hS q0 t0 ha ht (vp_in_nI hj hn) hdg ?_
  rw [nI_clamp (by omega)]
  exact kk
theorem wa_zast (hx : p.tables.exec = Jvm.exec) (hb : c.code = cc) (hK : va_K D vwCl tys s) (hP : va_P D vwCl wd H) (hD : va_D A wd) (hS : va_S A s.heap H locs) (q0 t0 : Nat) {a : Nat} {cA : ClassId} {n : Nat} {f : Nat → Int32} (ha : wd[q0]? = some (a, .inl (cA, n, .inl f))) (ht : tys[t0]? = some (cA, .boolean)) {i x : Int32} (j : Nat) (hi : i = nI j) (hj : j < n) (hn : n < 2 ^ 31) (hx1 : vp_nar .boolean x = x) (hdg : decode cc pc = .ok (.bastore, 1))
    (kk : ∀ (H1 : Heap) (locs1 : List Loc), va_P D vwCl (wd.set q0 (a, .inl (cA, n, .inl (upd f j x)))) H1 → va_D A (wd.set q0 (a, .inl (cA, n, .inl (upd f j x)))) → va_S A s.heap H1 locs1 → W p l e R s m args below meth c H1 locs1 cells slots Q (F0 m (pc + 1) ls rest)) : W p l e R s m args below meth c H locs cells slots Q (F0 m pc ls (.int x :: .int i :: .ref a :: rest)) := by
  subst hi
  refine va_zast hx hb hK hP hD hS q0 t0 ha ht (vp_in_nI hj hn) hdg ?_
  rw [nI_clamp (by omega), hx1]
  exact kk
theorem wa_cast (hx : p.tables.exec = Jvm.exec) (hb : c.code = cc) (hK : va_K D vwCl tys s) (hP : va_P D vwCl wd H) (hD : va_D A wd) (hS : va_S A s.heap H locs) (q0 t0 : Nat) {a : Nat} {cA : ClassId} {n : Nat} {f : Nat → Int32} (ha : wd[q0]? = some (a, .inl (cA, n, .inl f))) (ht : tys[t0]? = some (cA, .char)) {i x : Int32} (j : Nat) (hi : i = nI j) (hj : j < n) (hn : n < 2 ^ 31) (hx1 : vp_nar .char x = x) (hdg : decode cc pc = .ok (.castore, 1))
    (kk : ∀ (H1 : Heap) (locs1 : List Loc), va_P D vwCl (wd.set q0 (a, .inl (cA, n, .inl (upd f j x)))) H1 → va_D A (wd.set q0 (a, .inl (cA, n, .inl (upd f j x)))) → va_S A s.heap H1 locs1 → W p l e R s m args below meth c H1 locs1 cells slots Q (F0 m (pc + 1) ls rest)) : W p l e R s m args below meth c H locs cells slots Q (F0 m pc ls (.int x :: .int i :: .ref a :: rest)) := by
  subst hi
  refine va_cast hx hb hK hP hD hS q0 t0 ha ht (vp_in_nI hj hn) hdg ?_
  rw [nI_clamp (by omega), hx1]
  exact kk
/-- the static tables -/
theorem wa_tab (hx : p.tables.exec = Jvm.exec) (hb : c.code = cc) (hE : gE A s s.heap) (hS : va_S A s.heap H locs) {nm : String} {f : Nat → Int32} (hq : (nm, f) ∈ gTabs) {own : String} {index : Nat} (hown : s.vm.findClass own = some m.cls) (hlink : (Cond.fieldLink own index RX3 nm "[I").before args s = true) (hdg : decode cc pc = .ok (.getstatic index, 3))
    (kk : ∀ t : Nat, va_T .int t 4 (fun j => .int (f j)) A s s.heap → W p l e R s m args below meth c H locs cells slots Q (F0 m (pc + 3) ls (.ref t :: rest))) : W p l e R s m args below meth c H locs cells slots Q (F0 m pc ls rest) := by
  obtain ⟨t, h1, h2⟩ := hE.2.1 _ hq
  exact va_gets hx hb h1 hS hown hlink (fun x h => h) hdg (kk t h2)
theorem wa_tald (hx : p.tables.exec = Jvm.exec) (hb : c.code = cc) {t : Nat} {f : Nat → Int32} (hT : va_T .int t 4 (fun j => .int (f j)) A s s.heap) (hS : va_S A s.heap H locs) {i : Int32} (j : Nat) (hi : i = nI j) (hj : j < 4) (hdg : decode cc pc = .ok (.iaload, 1))
    (kk : W p l e R s m args below meth c H locs cells slots Q (F0 m (pc + 1) ls (.int (f j) :: rest))) : W p l e R s m args below meth c H locs cells slots Q (F0 m pc ls (.int i :: .ref t :: rest)) := by
  subst hi
  exact va_ti hx hb hT hS (vp_in_nI hj (by decide)) (by rw [nI_clamp (by omega)]) hdg kk
/-- a value in another form -/
theorem lv_eqi {x : Int32} (y : Int32) (h : x = y) (k : W p l e R s m args below meth c H locs cells slots Q (F0 m pc ls (.int y :: rest))) : W p l e R s m args below meth c H locs cells slots Q (F0 m pc ls (.int x :: rest)) := by rw [h]; exact k
theorem lv_eql {x : Int64} (y : Int64) (h : x = y) (k : W p l e R s m args below meth c H locs cells slots Q (F0 m pc ls (.long y :: rest))) : W p l e R s m args below meth c H locs cells slots Q (F0 m pc ls (.long x :: rest)) := by rw [h]; exact k
theorem lv_eqd {x : UInt64} (y : UInt64) (h : x = y) (k : W p l e R s m args below meth c H locs cells slots Q (F0 m pc ls (.double y :: rest))) : W p l e R s m args below meth c H locs cells slots Q (F0 m pc ls (.double x :: rest)) := by rw [h]; exact k
/-- a place where roads meet -/
theorem g_cut (gJ : JFrame) {g0 : JFrame} (h1 : W p l e R s m args below meth c H locs cells slots Q gJ → W p l e R s m args below meth c H locs cells slots Q g0) (h2 : W p l e R s m args below meth c H locs cells slots Q gJ) : W p l e R s m args below meth c H locs cells slots Q g0 := h1 h2
end GC
/-- loops -/
theorem g_loop (N : Nat) (G : Nat → Prop) (hx : G N) (hs : ∀ i, i < N → G (i + 1) → G i) : ∀ i, i ≤ N → G i := by
  intro i hi
  obtain ⟨k, rfl⟩ : ∃ k, N = i + k := ⟨N - i, by omega⟩
  clear hi
  induction k generalizing i with
  | zero => exact hx
  | succ k ih =>
    refine hs i (by omega) (ih (i + 1) ?_ ?_)
    · rw [show i + 1 + k = i + (k + 1) by omega]; exact hx
    · rw [show i + 1 + k = i + (k + 1) by omega]; exact hs
theorem g_down (G : Nat → Prop) (h0 : G 0) (hs : ∀ k, G k → G (k + 1)) : ∀ k, G k := fun k => Nat.rec h0 (fun k ih => hs k ih) k
theorem g_tabF : ("FORMER_PLACES", tF) ∈ gTabs := List.mem_cons_self
theorem g_tabL : ("LEAST_SETTING", tL) ∈ gTabs := List.mem_cons_of_mem _ List.mem_cons_self
theorem g_tabM : ("MOST_SETTING", tM) ∈ gTabs := List.mem_cons_of_mem _ (List.mem_cons_of_mem _ List.mem_cons_self)
section GL
variable {p : Program} {l : Launch} {e : Env} {R : Room} {s : State} {m : MethodId} {args : Array Value} {below : List Frame} {meth : Method} {c : Code} {H : Heap} {locs : List Loc} {cells slots : Nat} {Q : State → Prop} {pc : Nat} {ls : Array Slot}
/-- a loop at pc that counts from i0 up to N; Inv: what holds at its head -/
theorem g_loopW {st : List Value} {N : Nat} (Inv : Nat → Heap → List Loc → Array Slot → Prop) (i0 : Nat) (hi0 : i0 ≤ N)
    (hx : ∀ H locs ls, Inv N H locs ls → W p l e R s m args below meth c H locs cells slots Q (F0 m pc ls st))
    (hs : ∀ i, i < N → (∀ H locs ls, Inv (i + 1) H locs ls → W p l e R s m args below meth c H locs cells slots Q (F0 m pc ls st)) → ∀ H locs ls, Inv i H locs ls → W p l e R s m args below meth c H locs cells slots Q (F0 m pc ls st))
    (h0 : Inv i0 H locs ls) : W p l e R s m args below meth c H locs cells slots Q (F0 m pc ls st) :=
  g_loop N (fun i => ∀ H locs ls, Inv i H locs ls → W p l e R s m args below meth c H locs cells slots Q (F0 m pc ls st)) hx hs i0 hi0 H locs ls h0
/-- .. that counts down from N to 0 -/
theorem g_loopD {st : List Value} {N : Nat} (Inv : Nat → Heap → List Loc → Array Slot → Prop)
    (hx : ∀ H locs ls, Inv 0 H locs ls → W p l e R s m args below meth c H locs cells slots Q (F0 m pc ls st))
    (hs : ∀ i, (∀ H locs ls, Inv i H locs ls → W p l e R s m args below meth c H locs cells slots Q (F0 m pc ls st)) → ∀ H locs ls, Inv (i + 1) H locs ls → W p l e R s m args below meth c H locs cells slots Q (F0 m pc ls st))
    (h0 : Inv N H locs ls) : W p l e R s m args below meth c H locs cells slots Q (F0 m pc ls st) :=
  g_down (fun i => ∀ H locs ls, Inv i H locs ls → W p l e R s m args below meth c H locs cells slots Q (F0 m pc ls st)) hx hs N H locs ls h0
end GL
abbrev gTy (K : Nat → ClassId) : List (ClassId × FieldType) := [(K 0, .int), (K 1, .boolean), (K 2, .char), (K 3, .int), (K 4, .object RX2)]
theorem b_eq0 {c : Prop} [Decidable c] (h : (if c then (1 : Int32) else 0) = 0) : ¬ c := fun hc => by rw [if_pos hc] at h; exact absurd h (by decide)
theorem b_ne0 {c : Prop} [Decidable c] (h : ¬ (if c then (1 : Int32) else 0) = 0) : c := by
  by_cases hc : c
  · exact hc
  · rw [if_neg hc] at h; exact absurd rfl h
theorem nar_b (c : Prop) [Decidable c] : narrow .boolean (.int (if c then 1 else 0)) = .int (if c then 1 else 0) := by
  by_cases hc : c
  · rw [if_pos hc]; rfl
  · rw [if_neg hc]; rfl
