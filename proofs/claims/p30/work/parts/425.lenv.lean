/-! THE LAW: what the start gives -/
theorem lw_tb {args : Array Value} {s : State} (hts : ∀ w ∈ lw_tbl, w.before args s = true) (w : Cond) (h : w ∈ tables_1) : w.before args s = true := hts w (List.mem_append_right _ h)
theorem lw_links {args : Array Value} {s : State} (hts : ∀ w ∈ lw_tbl, w.before args s = true) : ∀ q ∈ gLinks, va_Nw (.methodLinkNest q.1 q.2.1 q.2.2 RX3) s := by
  intro q hq
  simp only [gLinks, List.mem_cons, List.not_mem_nil, or_false] at hq
  rcases hq with rfl | rfl | rfl | rfl | rfl | rfl
  · exact va_Nw.of rfl (lw_tb hts (.methodLinkNest RX3 22 yX1_init RX3) (List.mem_of_getElem? (i := 51) (by decide +kernel)))
  · exact va_Nw.of rfl (lw_tb hts (.methodLinkNest RX3 33 yX0_init RX3) (List.mem_of_getElem? (i := 75) (by decide +kernel)))
  · exact va_Nw.of rfl (lw_tb hts (.methodLinkNest RX0 110 yX3_coded RX3) (List.mem_of_getElem? (i := 292) (by decide +kernel)))
  · exact va_Nw.of rfl (lw_tb hts (.methodLinkNest RX0 83 yX3_checkNumber RX3) (List.mem_of_getElem? (i := 328) (by decide +kernel)))
  · exact va_Nw.of rfl (lw_tb hts (.methodLinkNest RX2 73 yX3_coded RX3) (List.mem_of_getElem? (i := 436) (by decide +kernel)))
  · exact va_Nw.of rfl (lw_tb hts (.methodLinkNest RX2 69 yX3_checkNumber RX3) (List.mem_of_getElem? (i := 467) (by decide +kernel)))
abbrev lwG : Cond := Jvm.Cond.and given_1 narrow_1
theorem lw_tabtF {args : Array Value} {s : State} {A : Nat → Prop} (hA : ∀ a : Nat, a < s.heap.size → ¬ A a) (hts : ∀ w ∈ lw_tbl, w.before args s = true) (hf : ∀ c ∈ flatC lwG, c.before args s = true) : ∃ t : Nat, va_Z RX3 "FORMER_PLACES" "[I" (.ref t) A s s.heap ∧ va_T .int t 4 (fun j => .int (tF j)) A s s.heap := by
  obtain ⟨t, ht, hT⟩ := va_Tof (tm := (.static RX3 "FORMER_PLACES" "[I")) (ty := .int) (N := 4) (f := fun j => .int (tF j)) (A := A) (by decide) (hf (.arrayOf (.static RX3 "FORMER_PLACES" "[I") .int) (by decide +kernel)) (va_eqt (hf (.eq (.length (.static RX3 "FORMER_PLACES" "[I")) (.int 4)) (by decide +kernel))) (fun j hj => by
    rcases (show j = 0 ∨ j = 1 ∨ j = 2 ∨ j = 3 by omega) with rfl | rfl | rfl | rfl
    · exact va_eqt (z := 21845) (hf (.eq (.elem (.static RX3 "FORMER_PLACES" "[I") (.int 0)) (.int 21845)) (by decide +kernel))
    · exact va_eqt (z := 13107) (hf (.eq (.elem (.static RX3 "FORMER_PLACES" "[I") (.int 1)) (.int 13107)) (by decide +kernel))
    · exact va_eqt (z := 3855) (hf (.eq (.elem (.static RX3 "FORMER_PLACES" "[I") (.int 2)) (.int 3855)) (by decide +kernel))
    · exact va_eqt (z := 255) (hf (.eq (.elem (.static RX3 "FORMER_PLACES" "[I") (.int 3)) (.int 255)) (by decide +kernel))) hA
  exact ⟨t, va_Zref (lw_tb hts (.laysStatic RX3 "FORMER_PLACES" "[I") (List.mem_of_getElem? (i := 296) (by decide +kernel))) (lw_tb hts (.initialized RX3) (List.mem_of_getElem? (i := 1) (by decide +kernel))) ht hA, hT⟩
theorem lw_tabtL {args : Array Value} {s : State} {A : Nat → Prop} (hA : ∀ a : Nat, a < s.heap.size → ¬ A a) (hts : ∀ w ∈ lw_tbl, w.before args s = true) (hf : ∀ c ∈ flatC lwG, c.before args s = true) : ∃ t : Nat, va_Z RX3 "LEAST_SETTING" "[I" (.ref t) A s s.heap ∧ va_T .int t 4 (fun j => .int (tL j)) A s s.heap := by
  obtain ⟨t, ht, hT⟩ := va_Tof (tm := (.static RX3 "LEAST_SETTING" "[I")) (ty := .int) (N := 4) (f := fun j => .int (tL j)) (A := A) (by decide) (hf (.arrayOf (.static RX3 "LEAST_SETTING" "[I") .int) (by decide +kernel)) (va_eqt (hf (.eq (.length (.static RX3 "LEAST_SETTING" "[I")) (.int 4)) (by decide +kernel))) (fun j hj => by
    rcases (show j = 0 ∨ j = 1 ∨ j = 2 ∨ j = 3 by omega) with rfl | rfl | rfl | rfl
    · exact va_eqt (z := 1) (hf (.eq (.elem (.static RX3 "LEAST_SETTING" "[I") (.int 0)) (.int 1)) (by decide +kernel))
    · exact va_eqt (z := 1) (hf (.eq (.elem (.static RX3 "LEAST_SETTING" "[I") (.int 1)) (.int 1)) (by decide +kernel))
    · exact va_eqt (z := 0) (hf (.eq (.elem (.static RX3 "LEAST_SETTING" "[I") (.int 2)) (.int 0)) (by decide +kernel))
    · exact va_eqt (z := 1) (hf (.eq (.elem (.static RX3 "LEAST_SETTING" "[I") (.int 3)) (.int 1)) (by decide +kernel))) hA
  exact ⟨t, va_Zref (lw_tb hts (.laysStatic RX3 "LEAST_SETTING" "[I") (List.mem_of_getElem? (i := 534) (by decide +kernel))) (lw_tb hts (.initialized RX3) (List.mem_of_getElem? (i := 1) (by decide +kernel))) ht hA, hT⟩
theorem lw_tabtM {args : Array Value} {s : State} {A : Nat → Prop} (hA : ∀ a : Nat, a < s.heap.size → ¬ A a) (hts : ∀ w ∈ lw_tbl, w.before args s = true) (hf : ∀ c ∈ flatC lwG, c.before args s = true) : ∃ t : Nat, va_Z RX3 "MOST_SETTING" "[I" (.ref t) A s s.heap ∧ va_T .int t 4 (fun j => .int (tM j)) A s s.heap := by
  obtain ⟨t, ht, hT⟩ := va_Tof (tm := (.static RX3 "MOST_SETTING" "[I")) (ty := .int) (N := 4) (f := fun j => .int (tM j)) (A := A) (by decide) (hf (.arrayOf (.static RX3 "MOST_SETTING" "[I") .int) (by decide +kernel)) (va_eqt (hf (.eq (.length (.static RX3 "MOST_SETTING" "[I")) (.int 4)) (by decide +kernel))) (fun j hj => by
    rcases (show j = 0 ∨ j = 1 ∨ j = 2 ∨ j = 3 by omega) with rfl | rfl | rfl | rfl
    · exact va_eqt (z := 999) (hf (.eq (.elem (.static RX3 "MOST_SETTING" "[I") (.int 0)) (.int 999)) (by decide +kernel))
    · exact va_eqt (z := 4) (hf (.eq (.elem (.static RX3 "MOST_SETTING" "[I") (.int 1)) (.int 4)) (by decide +kernel))
    · exact va_eqt (z := 3) (hf (.eq (.elem (.static RX3 "MOST_SETTING" "[I") (.int 2)) (.int 3)) (by decide +kernel))
    · exact va_eqt (z := 99) (hf (.eq (.elem (.static RX3 "MOST_SETTING" "[I") (.int 3)) (.int 99)) (by decide +kernel))) hA
  exact ⟨t, va_Zref (lw_tb hts (.laysStatic RX3 "MOST_SETTING" "[I") (List.mem_of_getElem? (i := 536) (by decide +kernel))) (lw_tb hts (.initialized RX3) (List.mem_of_getElem? (i := 1) (by decide +kernel))) ht hA, hT⟩
theorem lw_str {args : Array Value} {s : State} {k : Nat} {tx : String} (h1 : (Cond.stringRef RX3 k tx).before args s = true) (h2 : (Cond.exactly (.string RX3 k) "java/lang/String").before args s = true) : ∃ a : Nat, vk_R RX3 k tx a s := by
  obtain ⟨a, c, cA, kA, q1, -⟩ := Cond.exactly_spec (args := args) (first := s) (o := none) (s := s) (idx := []) (t := .string RX3 k) (cls := "java/lang/String") h2
  exact ⟨a, h1, by
    have e : ∀ B : Array Value, (Term.string RX3 k).eval B s none [] s = (Term.string RX3 k).eval args s none [] s := fun B => rfl
    exact (e _).trans q1⟩
theorem lw_strs0 {args : Array Value} {s : State} (hts : ∀ w ∈ lw_tbl, w.before args s = true) (hf : ∀ c ∈ flatC lwG, c.before args s = true) : ∀ q ∈ (gStrs.drop 0).take 8, ∃ a : Nat, vk_R RX3 q.1 q.2 a s := by
  intro q hq
  have hq : q ∈ ([(229, "what is not 0 to 8"), (84, "there is no such setting"), (78, "there is no such place"), (169, "what is not 0 to 5"), (178, "what is not 0 to 4"), (199, "rank is below 0, or what is not 0 to 2"), (172, "bits is not 0 to 65535"), (100, "there is no such body")] : List (Nat × String)) := hq
  simp only [List.mem_cons, List.not_mem_nil, or_false] at hq
  rcases hq with rfl | rfl | rfl | rfl | rfl | rfl | rfl | rfl
  · exact lw_str (lw_tb hts (.stringRef RX3 229 "what is not 0 to 8") (List.mem_of_getElem? (i := 344) (by decide +kernel))) (hf (.exactly (.string RX3 229) "java/lang/String") (by decide +kernel))
  · exact lw_str (lw_tb hts (.stringRef RX3 84 "there is no such setting") (List.mem_of_getElem? (i := 371) (by decide +kernel))) (hf (.exactly (.string RX3 84) "java/lang/String") (by decide +kernel))
  · exact lw_str (lw_tb hts (.stringRef RX3 78 "there is no such place") (List.mem_of_getElem? (i := 386) (by decide +kernel))) (hf (.exactly (.string RX3 78) "java/lang/String") (by decide +kernel))
  · exact lw_str (lw_tb hts (.stringRef RX3 169 "what is not 0 to 5") (List.mem_of_getElem? (i := 410) (by decide +kernel))) (hf (.exactly (.string RX3 169) "java/lang/String") (by decide +kernel))
  · exact lw_str (lw_tb hts (.stringRef RX3 178 "what is not 0 to 4") (List.mem_of_getElem? (i := 427) (by decide +kernel))) (hf (.exactly (.string RX3 178) "java/lang/String") (by decide +kernel))
  · exact lw_str (lw_tb hts (.stringRef RX3 199 "rank is below 0, or what is not 0 to 2") (List.mem_of_getElem? (i := 445) (by decide +kernel))) (hf (.exactly (.string RX3 199) "java/lang/String") (by decide +kernel))
  · exact lw_str (lw_tb hts (.stringRef RX3 172 "bits is not 0 to 65535") (List.mem_of_getElem? (i := 451) (by decide +kernel))) (hf (.exactly (.string RX3 172) "java/lang/String") (by decide +kernel))
  · exact lw_str (lw_tb hts (.stringRef RX3 100 "there is no such body") (List.mem_of_getElem? (i := 462) (by decide +kernel))) (hf (.exactly (.string RX3 100) "java/lang/String") (by decide +kernel))
theorem lw_strs1 {args : Array Value} {s : State} (hts : ∀ w ∈ lw_tbl, w.before args s = true) (hf : ∀ c ∈ flatC lwG, c.before args s = true) : ∀ q ∈ (gStrs.drop 8).take 8, ∃ a : Nat, vk_R RX3 q.1 q.2 a s := by
  intro q hq
  have hq : q ∈ ([(235, "paths is not 1 to 4"), (43, "k is not 1 to 4"), (61, "many is not 0 to 16"), (65, "there are not so many places"), (92, "value is out of range"), (108, "value is not -99 to 99"), (115, "by is out of range"), (147, "there is no saved state")] : List (Nat × String)) := hq
  simp only [List.mem_cons, List.not_mem_nil, or_false] at hq
  rcases hq with rfl | rfl | rfl | rfl | rfl | rfl | rfl | rfl
  · exact lw_str (lw_tb hts (.stringRef RX3 235 "paths is not 1 to 4") (List.mem_of_getElem? (i := 472) (by decide +kernel))) (hf (.exactly (.string RX3 235) "java/lang/String") (by decide +kernel))
  · exact lw_str (lw_tb hts (.stringRef RX3 43 "k is not 1 to 4") (List.mem_of_getElem? (i := 514) (by decide +kernel))) (hf (.exactly (.string RX3 43) "java/lang/String") (by decide +kernel))
  · exact lw_str (lw_tb hts (.stringRef RX3 61 "many is not 0 to 16") (List.mem_of_getElem? (i := 523) (by decide +kernel))) (hf (.exactly (.string RX3 61) "java/lang/String") (by decide +kernel))
  · exact lw_str (lw_tb hts (.stringRef RX3 65 "there are not so many places") (List.mem_of_getElem? (i := 524) (by decide +kernel))) (hf (.exactly (.string RX3 65) "java/lang/String") (by decide +kernel))
  · exact lw_str (lw_tb hts (.stringRef RX3 92 "value is out of range") (List.mem_of_getElem? (i := 537) (by decide +kernel))) (hf (.exactly (.string RX3 92) "java/lang/String") (by decide +kernel))
  · exact lw_str (lw_tb hts (.stringRef RX3 108 "value is not -99 to 99") (List.mem_of_getElem? (i := 556) (by decide +kernel))) (hf (.exactly (.string RX3 108) "java/lang/String") (by decide +kernel))
  · exact lw_str (lw_tb hts (.stringRef RX3 115 "by is out of range") (List.mem_of_getElem? (i := 551) (by decide +kernel))) (hf (.exactly (.string RX3 115) "java/lang/String") (by decide +kernel))
  · exact lw_str (lw_tb hts (.stringRef RX3 147 "there is no saved state") (List.mem_of_getElem? (i := 195) (by decide +kernel))) (hf (.exactly (.string RX3 147) "java/lang/String") (by decide +kernel))
theorem lw_strs {args : Array Value} {s : State} (hts : ∀ w ∈ lw_tbl, w.before args s = true) (hf : ∀ c ∈ flatC lwG, c.before args s = true) : ∀ q ∈ gStrs, ∃ a : Nat, vk_R RX3 q.1 q.2 a s := by
  intro q hq
  have e : gStrs = (gStrs.drop 0).take 8 ++ (gStrs.drop 8).take 8 := rfl
  rw [e] at hq
  exact (List.mem_append.mp hq).elim (lw_strs0 hts hf q) (lw_strs1 hts hf q)
theorem lw_env {args : Array Value} {s : State} {A : Nat → Prop} (hA : ∀ a : Nat, a < s.heap.size → ¬ A a) (hts : ∀ w ∈ lw_tbl, w.before args s = true) (hgv : lwG.before args s = true) : gE A s s.heap := by
  have hf := flat_of_before _ hgv
  refine ⟨lw_links hts, ?_, ⟨?_, ?_⟩, lw_strs hts hf, va_AO.of (lw_tb hts (.arrayOver (.object RX2)) (List.mem_of_getElem? (i := 48) (by decide +kernel))), ?_, ?_, ?_⟩
  · intro q hq
    simp only [gTabs, List.mem_cons, List.not_mem_nil, or_false] at hq
    rcases hq with rfl | rfl | rfl
    · exact lw_tabtF hA hts hf
    · exact lw_tabtL hA hts hf
    · exact lw_tabtM hA hts hf
  · exact vx_Zqof (lw_tb hts (.laysStatic Bundle.tN "UNASSIGNED_STACK" Bundle.steD) (List.mem_of_getElem? (i := 181) (by decide +kernel))) (lw_tb hts (.initialized Bundle.tN) (List.mem_of_getElem? (i := 8) (by decide +kernel))) (hf (.isRef (.static Bundle.tN "UNASSIGNED_STACK" Bundle.steD)) (by decide +kernel)) hA
  · exact vx_Zqof (lw_tb hts (.laysStatic Bundle.tN "SUPPRESSED_SENTINEL" Bundle.listD) (List.mem_of_getElem? (i := 183) (by decide +kernel))) (lw_tb hts (.initialized Bundle.tN) (List.mem_of_getElem? (i := 8) (by decide +kernel))) (hf (.isRef (.static Bundle.tN "SUPPRESSED_SENTINEL" Bundle.listD)) (by decide +kernel)) hA
  · intro q hq
    exact absurd hq List.not_mem_nil
  · intro q hq
    simp only [gCas, List.mem_cons, List.not_mem_nil, or_false] at hq
    rcases hq with rfl | rfl | rfl
    · exact gCa.of (lw_tb hts (.castable xIA xIA) (List.mem_of_getElem? (i := 337) (by decide +kernel)))
    · exact gCa.of (lw_tb hts (.castable xIS xIS) (List.mem_of_getElem? (i := 156) (by decide +kernel)))
    · exact gCa.of (lw_tb hts (.castable xIO xIO) (List.mem_of_getElem? (i := 364) (by decide +kernel)))
  · intro q hq
    simp only [gDes, List.mem_cons, List.not_mem_nil, or_false] at hq
    rcases hq with rfl | rfl | rfl
    · exact va_Nw.of rfl (lw_tb hts (.declares (Bundle.initS "java/lang/RuntimeException")) (List.mem_of_getElem? (i := 158) (by decide +kernel)))
    · exact va_Nw.of rfl (lw_tb hts (.declares (Bundle.initS "java/lang/Exception")) (List.mem_of_getElem? (i := 160) (by decide +kernel)))
    · exact va_Nw.of rfl (lw_tb hts (.declares (Bundle.initS "java/lang/Throwable")) (List.mem_of_getElem? (i := 162) (by decide +kernel)))
theorem lw_K {args : Array Value} {s : State} (hts : ∀ w ∈ wsL_law, w.before args s = true) (hov : (Cond.arrayOver (.object RX2)).before args s = true) : ∃ (D : va_G) (K : Nat → ClassId), va_K D vwCl (gTy K) s := by
  obtain ⟨c0, i0, k0⟩ := u_known (N := 12) hts inlX0 (hts (.instantiable RX0 12) (List.mem_of_getElem? (i := 21) (by decide +kernel)))
  obtain ⟨c1, i1, k1⟩ := u_known (N := 6) hts inlX1 (hts (.instantiable RX1 6) (List.mem_of_getElem? (i := 15) (by decide +kernel)))
  obtain ⟨c2, i2, k2⟩ := u_known (N := 4) hts inlX2 (hts (.instantiable RX2 4) (List.mem_of_getElem? (i := 10) (by decide +kernel)))
  obtain ⟨c3, i3, k3⟩ := u_known (N := 9) hts inlX3 (hts (.instantiable RX3 9) (List.mem_of_getElem? (i := 1) (by decide +kernel)))
  obtain ⟨a0, b0, p0, q0, r0, t0⟩ := Cond.arrayClass_spec (hts (.arrayClass .int) (List.mem_of_getElem? (i := 18) (by decide +kernel)))
  obtain ⟨a1, b1, p1, q1, r1, t1⟩ := Cond.arrayClass_spec (hts (.arrayClass .boolean) (List.mem_of_getElem? (i := 46) (by decide +kernel)))
  obtain ⟨a2, b2, p2, q2, r2, t2⟩ := Cond.arrayClass_spec (hts (.arrayClass .char) (List.mem_of_getElem? (i := 35) (by decide +kernel)))
  obtain ⟨p4, a4, b4, q4, -, r4, t4, u4⟩ := Cond.arrayOver_spec hov
  refine ⟨(fun k => [c0, c1, c2, c3].getD k 0, fun k => [i0, i1, i2, i3].getD k i0), fun k => [a0, a1, a2, a0, a4].getD k a0, ?_, ?_⟩
  · intro c q hq
    have hc : c < 4 := (List.getElem?_eq_some_iff.mp hq).1
    rcases (show c = 0 ∨ c = 1 ∨ c = 2 ∨ c = 3 by omega) with rfl | rfl | rfl | rfl
    · cases hq; exact k0
    · cases hq; exact k1
    · cases hq; exact k2
    · cases hq; exact k3
  · intro c q hq
    have hc : c < 5 := (List.getElem?_eq_some_iff.mp hq).1
    rcases (show c = 0 ∨ c = 1 ∨ c = 2 ∨ c = 3 ∨ c = 4 by omega) with rfl | rfl | rfl | rfl | rfl
    · cases hq; exact ⟨fun N z => ⟨fun k h => (by cases h), b0, r0, p0, t0⟩, q0⟩
    · cases hq; exact ⟨fun N z => ⟨fun k h => (by cases h), b1, r1, p1, t1⟩, q1⟩
    · cases hq; exact ⟨fun N z => ⟨fun k h => (by cases h), b2, r2, p2, t2⟩, q2⟩
    · cases hq; exact ⟨fun N z => ⟨fun k h => (by cases h), b0, r0, p0, t0⟩, q0⟩
    · cases hq; exact ⟨fun N z => ⟨fun k h => (by cases h), b4, r4, p4, t4⟩, b4, p4, r4, t4, q4, u4⟩
