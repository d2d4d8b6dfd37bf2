theorem c_L_cell (l : Launch) (b lx k : Nat) (xs : Nat → Int32) (hk : k < 1000) (hlx : lx ≤ 260) : Met l yL_cell wsL_cell ({ frames := 0, cells := 0, slots := 0, locals := 0 } : Room) (va_Pc [.ref b, .int (nI k)] (gC b lx xs)) (va_Qi (fun r (_ : Unit) => r = celF lx xs k) (fun _ _ => True) gNo) 0 0 gNo := by
  refine Met.ofW (cc := cL_cell) (maxL := 2) (ret := (some .int)) (by decide) rfl ?_
  intro pp ee s mm args below meth cc s₁ B hml hv
  obtain ⟨rfl, hX, hbl⟩ := hv
  have hl := lv_entry ([.ref b, .int (nI k)]) (n := 2) (Nat.le_of_ble_eq_true rfl)
  rw [lg_entry_eq]
  generalize (lg_sl ([.ref b, .int (nI k)]) ++ List.replicate (2 - (lg_sl ([.ref b, .int (nI k)])).length) Slot.unset).toArray = ls at hl ⊢
  have hl : lv_has ls 2 [(0, .ref b), (1, .int (nI k))] := hl
  have hx := B.exec
  have hb := B.bytes
  have hr := B.returns
  have hlk := B.notSynchronized
  have hS : va_S gNo s.heap s.heap [] := va_S.rf
  refine lv_iload_n hx hb dL_cell_0 rfl (lv_at hl 1 rfl) ?_
  refine lv_aload_n hx hb dL_cell_1 rfl (lv_at hl 0 rfl) ?_
  refine va_slen hx hb hX hbl (fun h => h) hS dL_cell_2 ?_
  refine lv_eqi (nI lx) rfl ?_
  refine lv_icmp_ge (tgt := 12) hx hb dL_cell_3 (by decide) (fun c3 => ?_) (fun c3 => ?_)
  · skip
    have c3 : lx ≤ k := (nI_leI (a := lx) (b := k) (by omega) (by omega)).mp c3
    refine lv_sipush (v := 7919) hx hb dL_cell_12 (by decide) ?_
    refine lv_iload_n hx hb dL_cell_15 rfl (lv_at hl 1 rfl) ?_
    refine lv_iconst (v := 3) hx hb dL_cell_16 (by decide) ?_
    refine lv_iadd hx hb dL_cell_17 ?_
    refine lv_eqi (nI (k + 3)) (nI_add k 3) ?_
    refine lv_imul hx hb dL_cell_18 ?_
    refine lv_iload_n hx hb dL_cell_19 rfl (lv_at hl 1 rfl) ?_
    refine lv_bipush (v := 11) hx hb dL_cell_20 (by decide) ?_
    refine lv_iadd hx hb dL_cell_22 ?_
    refine lv_eqi (nI (k + 11)) (nI_add k 11) ?_
    refine lv_imul hx hb dL_cell_23 ?_
    exact gR_iret (v := ((7919 * nI (k + 3)) * nI (k + 11))) hx hb hr hlk (rfl) hS (by unfold celF; first | (rw [if_pos (Nat.not_le.mp c3)]; done) | (rw [if_neg (Nat.not_lt.mpr c3)]; done)) dL_cell_24
  · skip
    have c3 : ¬ lx ≤ k := fun h9 => c3 ((nI_leI (a := lx) (b := k) (by omega) (by omega)).mpr h9)
    refine lv_aload_n hx hb dL_cell_6 rfl (lv_at hl 0 rfl) ?_
    refine lv_iload_n hx hb dL_cell_7 rfl (lv_at hl 1 rfl) ?_
    refine wl_sld (A := gNo) hx hb hX hbl (fun h => h) hS (k) rfl (by omega) (by omega) dL_cell_8 ?_
    refine lv_goto (tgt := 24) hx hb dL_cell_9 (by decide) ?_
    exact gR_iret (v := (xs (k))) hx hb hr hlk (rfl) hS (by unfold celF; first | (rw [if_pos (Nat.not_le.mp c3)]; done) | (rw [if_neg (Nat.not_lt.mpr c3)]; done)) dL_cell_24
