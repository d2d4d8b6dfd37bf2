/-! THROWS: new E("text"); dup; ldc; <init>; athrow, in one row -/
def gBad (cls : String) : List Cond := [.declares (Bundle.initS "java/lang/RuntimeException"), .declares (Bundle.initS "java/lang/Exception"), .declares (Bundle.initS "java/lang/Throwable"), .castable cls cls]
section GT
variable {p : Program} {l : Launch} {e : Env} {R : Room} {s : State} {m : MethodId} {args : Array Value} {below : List Frame} {meth : Method} {c : Code} {H : Heap} {locs : List Loc} {cells slots : Nat}
variable {cc : ByteArray} {pc : Nat} {ls : Array Slot} {rest : List Value} {D : va_G} {A : Nat → Prop} {tys : List (ClassId × FieldType)} {mc ms : Nat} {Qc : Array Value → State → Outcome → State → Prop}
theorem g_throw {S : Type} {W1 : S → va_W} {px : String → S → Prop} (u : S) (hx : p.tables.exec = Jvm.exec) (hb : c.code = cc) (hl : l.stackTraces = false) (hE : gE A s s.heap) (hS : va_S A s.heap H locs) (hK : va_K D vwCl tys s) (hP : va_P D vwCl (W1 u) H) (hD : va_D A (W1 u))
    {cls text : String} {ik is ic : Nat} (hpx : px cls u) (hown : s.vm.findClass RX3 = some m.cls) (hq : (is, text) ∈ gStrs) (hcl : (cls, cls) ∈ gCas)
    (hfit : Bundle.fit cls = true) (hk : (Cond.classLink RX3 ik cls).before args s = true) (hini : (Cond.initialized cls).before args s = true)
    (h1 : ∀ w ∈ (vx_atS RX3 ic cls gNm).filter goodWord, w.before args s = true) (h2 : ∀ w ∈ (vx_atS RX3 ic cls gNm).filter (fun w => !goodWord w), w ∈ gBad cls)
    (hgood : ∀ w ∈ Cond.classLink RX3 ik cls :: Cond.initialized cls :: vx_atS RX3 ic cls gNm, vx_ot w = true)
    (hsize : ls.size = c.maxLocals)
    (d0 : decode cc pc = .ok (.new ik, 3)) (d3 : decode cc (pc + 3) = .ok (.dup, 1)) (d4 : decode cc (pc + 4) = .ok (.ldc is, 2)) (d6 : decode cc (pc + 6) = .ok (.invokespecial ic, 3)) (d9 : decode cc (pc + 9) = .ok (.athrow, 1))
    (htab : ∀ x ∈ c.exceptionTable.toList, False) (hRf : 5 < R.frames) (hRl : (rest.map fun v => v.category).sum + 82 ≤ R.locals) (hRc : cells + 1 ≤ R.cells) (hRs : slots + 6 ≤ R.slots) (hlk : meth.locks = false) (hc : cells + 1 ≤ mc) (hs : slots + 6 ≤ ms) :
    W p l e R s m args below meth c H locs cells slots (vx_MQ below Qc (gX D tys A W1 px) args s mc ms A) (F0 m pc ls rest) := by
  obtain ⟨sa, hstr⟩ := hE.2.2.2.1 _ hq
  have hbad : ∀ w ∈ gBad cls, w.before args s = true := by
    have h8 := hE.2.2.2.2.2.2.2
    have h7 := hE.2.2.2.2.2.2.1
    intro w hw
    simp only [gBad, List.mem_cons, List.not_mem_nil, or_false] at hw
    rcases hw with rfl | rfl | rfl | rfl
    · exact va_Nw.use rfl (h8 _ (by simp [gDes]))
    · exact va_Nw.use rfl (h8 _ (by simp [gDes]))
    · exact va_Nw.use rfl (h8 _ (by simp [gDes]))
    · exact gCa.use (h7 _ hcl)
  refine vx_throwS (A := A) (names := gNm) hx hb hl hown hfit (by decide +kernel) hk hini hstr (vx_hat h1 h2 hbad) hgood hE.2.2.1.1 hE.2.2.1.2 hS hsize d0 d3 d4 d6 d9 (fun x h => (htab x h).elim) (show gNm.length + 3 < R.frames from hRf) (show (rest.map fun v => v.category).sum + (13 * (gNm.length + 1) + 43) ≤ R.locals from hRl) hRc hRs hlk (fun t hvm hz hh => ?_) hS.2.2 hc hs
  refine ⟨u, trivial, ⟨hpx, hP.kept (fun k q h => hh q.1 ((hP k q h).lt)), va_K.moved hvm hK, hD⟩, Nat.le_trans hS.1 hz, fun q hq1 hq2 => ?_⟩
  rw [hh q (Nat.lt_of_lt_of_le hq1 hS.1)]
  exact hS.2.1 q hq1 hq2
end GT
