/-! PLUMBING 2: methods that answer a known reference; calls of methods that could throw but don't here; rows of references -/
def MWr {S : Type} (l : Launch) (y : MethodName) (ws : List Cond) (rm : Room) (D : va_G) (tys : List (ClassId × FieldType)) (av : List Value) (wd : va_W) (W1 : S → va_W) (post : S → Prop) (ra : Nat) (mc ms : Nat) : Prop :=
  ∀ sz : Nat, Met l y ws rm (va_Pc av (gW D tys wd sz)) (va_Qr post (fun u a t => a = ra ∧ gB D tys (va_A wd sz) W1 u t) (va_A wd sz)) mc ms (va_A wd sz)
section GC2
variable {p : Program} {l : Launch} {e : Env} {R : Room} {s : State} {m : MethodId} {args : Array Value} {below : List Frame} {meth : Method} {c : Code} {H : Heap} {locs : List Loc} {cells slots : Nat} {Q : State → Prop}
variable {cc : ByteArray} {pc : Nat} {ls : Array Slot} {rest st0 : List Value} {D : va_G} {A : Nat → Prop} {tys : List (ClassId × FieldType)} {wd w1 wr : va_W} {a : Array Value} {mc ms : Nat} {av : List Value}
theorem gW_r {S : Type} {W1 W2 : S → va_W} {post : S → Prop} {ra : Nat} (hr : va_Run p l e R s m args below meth c H locs cells slots mc ms (F0 m pc ls st0) rest (va_Qr post (fun u a t => a = ra ∧ gB D tys (va_A w1 H.size) W1 u t) (va_A w1 H.size) a) (va_A w1 H.size)) (hS : va_S A s.heap H locs) (hP : va_P D vwCl wd H) (hD : va_D A wd) (hA : ∀ q, s.heap.size ≤ q → A q) (is isR js : List Nat) (hC : is.map (fun i => wd[i]?) = w1.map some) (hR : isR.map (fun i => wd[i]?) = wr.map some) (hn : va_nd isR = true) (hdis : ∀ i ∈ isR, i ∉ is) (hjn : va_nd js = true) (hj : ∀ u, js.map (fun i => (wr ++ W1 u)[i]?) = (W2 u).map some)
    (kk : ∀ (u : S) (H1 : Heap) (locs1 : List Loc), post u → va_P D vwCl (W2 u) H1 → va_D A (W2 u) → va_S A s.heap H1 locs1 → W p l e R s m args below meth c H1 locs1 (cells + mc) (slots + ms) Q (F0 m (pc + 3) ls (.ref ra :: rest))) : W p l e R s m args below meth c H locs cells slots Q (F0 m pc ls st0) :=
  va_callr hr hS (fun q _ h => va_free hD hS hA is hC q h) (va_free hD hS hA is hC) (fun u b t H1 locs1 ht hvm hw hB hz hk hS1 => by
    obtain ⟨rfl, hB⟩ := hB
    obtain ⟨h1, h2⟩ := gJoin (W2 := W2) hS hP hD hA is isR js hC hR hn hdis hjn hj ht hB hk
    exact kk u H1 locs1 hw h1 h2 hS1)
theorem gW_aret {S : Type} {W1 : S → va_W} {post : S → Prop} {ra : Nat} {rt : FieldType} (u : S) (hx : p.tables.exec = Jvm.exec) (hb : c.code = cc) (hr : meth.sig.returnType = some rt) (hrt : (∃ n, rt = .object n) ∨ ∃ t, rt = .array t) (hlk : meth.locks = false) (hK : va_K D vwCl tys s) (hP : va_P D vwCl (W1 u) H) (hD : va_D A (W1 u)) (hS : va_S A s.heap H locs) (hp : post u) (hdg : decode cc pc = .ok (.areturn, 1)) :
    W p l e R s m args below meth c H locs cells slots (MQ below (va_Qr post (fun u a t => a = ra ∧ gB D tys A W1 u t) A) args s cells slots A) (F0 m pc ls [.ref ra]) :=
  W.aret hx hb hr hrt (Or.inr ⟨ra, rfl⟩) (fun t ht hW => ⟨⟨u, ra, rfl, hp, rfl, by rw [ht]; exact hP, va_K.moved hW.alike hK, hD⟩, hS.F ht⟩) hS.2.2 hdg hlk
/-- a call of a method that might throw, but not here -/
theorem gX_i {S : Type} {W1 W2 : S → va_W} {post : Int32 → S → Prop} {px : String → S → Prop} (hr : vx_Run p l e R s m args below meth c H locs cells slots mc ms (F0 m pc ls st0) rest (va_Qi post (gB D tys (va_A w1 H.size) W1) (va_A w1 H.size) a) (gX D tys (va_A w1 H.size) W1 px) (va_A w1 H.size)) (hno : ∀ E u, ¬ px E u) (hS : va_S A s.heap H locs) (hP : va_P D vwCl wd H) (hD : va_D A wd) (hA : ∀ q, s.heap.size ≤ q → A q) (is isR js : List Nat) (hC : is.map (fun i => wd[i]?) = w1.map some) (hR : isR.map (fun i => wd[i]?) = wr.map some) (hn : va_nd isR = true) (hdis : ∀ i ∈ isR, i ∉ is) (hjn : va_nd js = true) (hj : ∀ u, js.map (fun i => (wr ++ W1 u)[i]?) = (W2 u).map some)
    (kk : ∀ (r : Int32) (u : S) (H1 : Heap) (locs1 : List Loc), post r u → va_P D vwCl (W2 u) H1 → va_D A (W2 u) → va_S A s.heap H1 locs1 → W p l e R s m args below meth c H1 locs1 (cells + mc) (slots + ms) Q (F0 m (pc + 3) ls (.int r :: rest))) : W p l e R s m args below meth c H locs cells slots Q (F0 m pc ls st0) :=
  vx_calli hr hS (fun q _ h => va_free hD hS hA is hC q h) (va_free hD hS hA is hC) (fun q _ h => va_free hD hS hA is hC q h)
    (fun E ce q9 u t H1 locs1 ht hvm hpx hB hz hk hS1 hce hcv hcl => absurd hB.1 (hno E u))
    (fun r u t H1 locs1 ht hvm hw hB hz hk hS1 => by
      obtain ⟨h1, h2⟩ := gJoin (W2 := W2) hS hP hD hA is isR js hC hR hn hdis hjn hj ht hB hk
      exact kk r u H1 locs1 hw h1 h2 hS1)
theorem wa_aald (hx : p.tables.exec = Jvm.exec) (hb : c.code = cc) (hK : va_K D vwCl tys s) (hP : va_P D vwCl wd H) (q0 t0 : Nat) {a : Nat} {cA : ClassId} {C : String} {n : Nat} {f : Nat → Option Nat} (ha : wd[q0]? = some (a, .inl (cA, n, .inr (.inr (.inr (.inr f)))))) (ht : tys[t0]? = some (cA, .object C)) {i : Int32} (j : Nat) (hi : i = nI j) (hj : j < n) (hn : n < 2 ^ 31) {v : Nat} (hv : f j = some v) (hdg : decode cc pc = .ok (.aaload, 1))
    (kk : W p l e R s m args below meth c H locs cells slots Q (F0 m (pc + 1) ls (.ref v :: rest))) : W p l e R s m args below meth c H locs cells slots Q (F0 m pc ls (.int i :: .ref a :: rest)) := by
  subst hi
  refine va_aldq hx hb hK hP q0 t0 ha ht (vp_in_nI hj hn) hdg ?_
  rw [nI_clamp (by omega), hv]
  exact kk
end GC2
theorem mod6 (k : Nat) : k % 6 = 0 ∨ k % 6 = 1 ∨ k % 6 = 2 ∨ k % 6 = 3 ∨ k % 6 = 4 ∨ k % 6 = 5 := by omega
