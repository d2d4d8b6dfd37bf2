set_option maxHeartbeats 4000000 in
set_option maxRecDepth 100000 in
theorem c_X4_clearBuffer (l : Launch) (D : va_G) (K : Nat → ClassId) (m0 : Nat) (m1 : Nat) (m2 : Nat) (m3 : Nat) (m4 : Nat) (m5 : Nat) (m6 : Nat) (m7 : Nat) (m8 : Nat) (m9 : Nat) (m10 : Nat) (th : Int32) (sy : Nat) (ly : Nat) (py : Nat) (ay : Nat) (iw : Bool) (ty : Nat) (hy : Int64)  : MWi l yX4_clearBuffer wsX4_clearBuffer ({ frames := 0, cells := 0, slots := 0, locals := 0 } : Room) D (gTy K) [.ref m0] [(m0, .inr (4, [.int th, .ref m1, .ref m2, .ref m3, .int (nI sy), .ref m4, .int (nI ly), .ref m5, .ref m6, .int (nI py), .ref m7, .ref m8, .ref m9, .int (nI ay), .int (if iw = true then 1 else 0), .ref m10, .int (nI ty), .long hy]))] (fun (u : Unit) => [(m0, .inr (4, [.int 0, .ref m1, .ref m2, .ref m3, .int (nI sy), .ref m4, .int (nI 0), .ref m5, .ref m6, .int (nI py), .ref m7, .ref m8, .ref m9, .int (nI ay), .int (if iw = true then 1 else 0), .ref m10, .int (nI ty), .long hy]))]) (fun r (u : Unit) => r = nI ly) 0 0 := by
  refine g_ofW (Qc := fun A => va_Qi _ (gB D (gTy K) A _) A) (cc := cX4_clearBuffer) (maxL := 2) (ret := (some .int)) (own := RX4) (by decide) rfl rfl (Nat.le_of_ble_eq_true rfl) ?_
  intro pp ee s mm below meth cc A hfx hnm hK hP hD hE hS hA ls hl
  obtain ⟨hx, hb, hr, hml, hown, hts, hlk⟩ := hfx
  have hl : lv_has ls 2 [(0, .ref m0)] := hl
  have hi4 : ∀ w ∈ u_ws RX4 TX4 18, w ∈ wsX4_clearBuffer := fun w h => List.mem_cons_of_mem _ (List.mem_append_right _ (h))
  refine lv_aload_n hx hb dX4_clearBuffer_0 rfl (lv_at hl 0 rfl) ?_
  refine lv_iconst (v := 0) hx hb dX4_clearBuffer_1 (by decide) ?_
  refine va_put (D := D) (ci := 4) (v := .int 0) (ty := .int) (C := RX4) (T := TX4) (N := 18) hx hb hts hi4 tyX4 tyX4_ok nmX4 hown hK hP hD hS 0 rfl rfl 0 (by decide) (hts (.fieldLink RX4 40 "PairedChannelsModel" "thrown" "I") (List.mem_of_getElem? (i := 1) (by decide +kernel))) (fun _ h9 => h9) rfl (by decide +kernel) (rfl) (rfl) (Nat.le_of_ble_eq_true rfl) dX4_clearBuffer_2 (fun H locs hP hD hS => ?_)
  have hP : va_P D vwCl [(m0, .inr (4, [.int 0, .ref m1, .ref m2, .ref m3, .int (nI sy), .ref m4, .int (nI ly), .ref m5, .ref m6, .int (nI py), .ref m7, .ref m8, .ref m9, .int (nI ay), .int (if iw = true then 1 else 0), .ref m10, .int (nI ty), .long hy]))] _ := hP
  have hD : va_D A [(m0, .inr (4, [.int 0, .ref m1, .ref m2, .ref m3, .int (nI sy), .ref m4, .int (nI ly), .ref m5, .ref m6, .int (nI py), .ref m7, .ref m8, .ref m9, .int (nI ay), .int (if iw = true then 1 else 0), .ref m10, .int (nI ty), .long hy]))] := hD
  refine lv_aload_n hx hb dX4_clearBuffer_5 rfl (lv_at hl 0 rfl) ?_
  refine va_get (D := D) (ci := 4) (v := .int (nI ly)) (C := RX4) (T := TX4) (N := 18) hx hb hts hi4 hown hK hP 0 rfl rfl 6 (by decide) (hts (.fieldLink RX4 153 "PairedChannelsModel" "length" "I") (List.mem_of_getElem? (i := 2) (by decide +kernel))) (fun _ h9 => h9) rfl dX4_clearBuffer_6 ?_
  refine lv_istore_n (lv' := [(1, .int (nI ly)), (0, .ref m0)]) hx hb dX4_clearBuffer_9 rfl hl (by decide) rfl (fun ls hl => ?_)
  refine lv_aload_n hx hb dX4_clearBuffer_10 rfl (lv_at hl 1 rfl) ?_
  refine lv_iconst (v := 0) hx hb dX4_clearBuffer_11 (by decide) ?_
  refine va_put (D := D) (ci := 4) (v := .int 0) (ty := .int) (C := RX4) (T := TX4) (N := 18) hx hb hts hi4 tyX4 tyX4_ok nmX4 hown hK hP hD hS 0 rfl rfl 6 (by decide) (hts (.fieldLink RX4 153 "PairedChannelsModel" "length" "I") (List.mem_of_getElem? (i := 2) (by decide +kernel))) (fun _ h9 => h9) rfl (by decide +kernel) (rfl) (rfl) (Nat.le_of_ble_eq_true rfl) dX4_clearBuffer_12 (fun H locs hP hD hS => ?_)
  have hP : va_P D vwCl [(m0, .inr (4, [.int 0, .ref m1, .ref m2, .ref m3, .int (nI sy), .ref m4, .int 0, .ref m5, .ref m6, .int (nI py), .ref m7, .ref m8, .ref m9, .int (nI ay), .int (if iw = true then 1 else 0), .ref m10, .int (nI ty), .long hy]))] _ := hP
  have hD : va_D A [(m0, .inr (4, [.int 0, .ref m1, .ref m2, .ref m3, .int (nI sy), .ref m4, .int 0, .ref m5, .ref m6, .int (nI py), .ref m7, .ref m8, .ref m9, .int (nI ay), .int (if iw = true then 1 else 0), .ref m10, .int (nI ty), .long hy]))] := hD
  refine lv_iload_n hx hb dX4_clearBuffer_15 rfl (lv_at hl 0 rfl) ?_
  exact gW_iret (v := nI ly) () hx hb hr hlk (rfl) hK hP hD hS (rfl) dX4_clearBuffer_16

set_option maxHeartbeats 4000000 in
set_option maxRecDepth 100000 in
theorem c_X4_undo (l : Launch) (D : va_G) (K : Nat → ClassId) (m0 : Nat) (m1 : Nat) (m2 : Nat) (m3 : Nat) (m4 : Nat) (m5 : Nat) (m6 : Nat) (m7 : Nat) (m8 : Nat) (m9 : Nat) (m10 : Nat) (th : Int32) (sy : Nat) (ly : Nat) (py : Nat) (ay : Nat) (iw : Bool) (ty : Nat) (hy : Int64) (n : Nat) (mask : Int32) (vf : Nat → Int32) (sf : Nat → Int32) (z : Nat → Wd) (hsy : sy ≤ 6) : MWi l yX4_undo wsX4_undo ({ frames := 1, cells := 0, slots := 0, locals := 21 } : Room) D (gTy K) [.ref m0] [(m0, .inr (4, [.int th, .ref m1, .ref m2, .ref m3, .int (nI sy), .ref m4, .int (nI ly), .ref m5, .ref m6, .int (nI py), .ref m7, .ref m8, .ref m9, .int (nI ay), .int (if iw = true then 1 else 0), .ref m10, .int (nI ty), .long hy])), (m1, .inl (K 0, 22, .inl (mst n mask vf sf))), (m3, .inl (K 0, 132, .inl (msv z)))] (fun (u : Wd × (Nat → Wd) × Nat × Int32) => [(m0, .inr (4, [.int u.2.2.2, .ref m1, .ref m2, .ref m3, .int (nI u.2.2.1), .ref m4, .int (nI ly), .ref m5, .ref m6, .int (nI py), .ref m7, .ref m8, .ref m9, .int (nI ay), .int (if iw = true then 1 else 0), .ref m10, .int (nI ty), .long hy])), (m1, .inl (K 0, 22, .inl (mst u.1.1 u.1.2.1 u.1.2.2.1 u.1.2.2.2))), (m3, .inl (K 0, 132, .inl (msv u.2.1)))]) (fun r (u : Wd × (Nat → Wd) × Nat × Int32) => (thUndo sy = 0 ∧ u = (z (sy - 1), z, sy - 1, 0) ∧ r = nI (sy - 1)) ∨ (¬ thUndo sy = 0 ∧ u = ((n, mask, vf, sf), z, sy, nI (thUndo sy)) ∧ r = 0)) 0 0 := by
  refine g_ofW (Qc := fun A => va_Qi _ (gB D (gTy K) A _) A) (cc := cX4_undo) (maxL := 2) (ret := (some .int)) (own := RX4) (by decide) rfl rfl (Nat.le_of_ble_eq_true rfl) ?_
  intro pp ee s mm below meth cc A hfx hnm hK hP hD hE hS hA ls hl
  obtain ⟨hx, hb, hr, hml, hown, hts, hlk⟩ := hfx
  have hl : lv_has ls 2 [(0, .ref m0)] := hl
  have hi4 : ∀ w ∈ u_ws RX4 TX4 18, w ∈ wsX4_undo := fun w h => List.mem_cons_of_mem _ (List.mem_append_right _ (h))
  refine lv_aload_n hx hb dX4_undo_0 rfl (lv_at hl 0 rfl) ?_
  refine lv_iconst (v := 0) hx hb dX4_undo_1 (by decide) ?_
  refine va_put (D := D) (ci := 4) (v := .int 0) (ty := .int) (C := RX4) (T := TX4) (N := 18) hx hb hts hi4 tyX4 tyX4_ok nmX4 hown hK hP hD hS 0 rfl rfl 0 (by decide) (hts (.fieldLink RX4 40 "PairedChannelsModel" "thrown" "I") (List.mem_of_getElem? (i := 1) (by decide +kernel))) (fun _ h9 => h9) rfl (by decide +kernel) (rfl) (rfl) (Nat.le_of_ble_eq_true rfl) dX4_undo_2 (fun H locs hP hD hS => ?_)
  have hP : va_P D vwCl [(m0, .inr (4, [.int 0, .ref m1, .ref m2, .ref m3, .int (nI sy), .ref m4, .int (nI ly), .ref m5, .ref m6, .int (nI py), .ref m7, .ref m8, .ref m9, .int (nI ay), .int (if iw = true then 1 else 0), .ref m10, .int (nI ty), .long hy])), (m1, .inl (K 0, 22, .inl (mst n mask vf sf))), (m3, .inl (K 0, 132, .inl (msv z)))] _ := hP
  have hD : va_D A [(m0, .inr (4, [.int 0, .ref m1, .ref m2, .ref m3, .int (nI sy), .ref m4, .int (nI ly), .ref m5, .ref m6, .int (nI py), .ref m7, .ref m8, .ref m9, .int (nI ay), .int (if iw = true then 1 else 0), .ref m10, .int (nI ty), .long hy])), (m1, .inl (K 0, 22, .inl (mst n mask vf sf))), (m3, .inl (K 0, 132, .inl (msv z)))] := hD
  refine lv_aload_n hx hb dX4_undo_5 rfl (lv_at hl 0 rfl) ?_
  refine va_get (D := D) (ci := 4) (v := .int (nI sy)) (C := RX4) (T := TX4) (N := 18) hx hb hts hi4 hown hK hP 0 rfl rfl 4 (by decide) (hts (.fieldLink RX4 48 "PairedChannelsModel" "savedMany" "I") (List.mem_of_getElem? (i := 2) (by decide +kernel))) (fun _ h9 => h9) rfl dX4_undo_6 ?_
  refine lv_if_ne (tgt := 18) hx hb dX4_undo_9 (by decide) (fun c9 => ?_) (fun c9 => ?_)
  · skip
    have c9 : ¬ sy = 0 := fun h9 => c9 ((nI_eq (a := sy) (b := 0) (by omega) (by omega)).mpr h9)
    refine lv_aload_n hx hb dX4_undo_18 rfl (lv_at hl 0 rfl) ?_
    refine lv_dup hx hb dX4_undo_19 rfl ?_
    refine va_get (D := D) (ci := 4) (v := .int (nI sy)) (C := RX4) (T := TX4) (N := 18) hx hb hts hi4 hown hK hP 0 rfl rfl 4 (by decide) (hts (.fieldLink RX4 48 "PairedChannelsModel" "savedMany" "I") (List.mem_of_getElem? (i := 2) (by decide +kernel))) (fun _ h9 => h9) rfl dX4_undo_20 ?_
    refine lv_iconst (v := 1) hx hb dX4_undo_23 (by decide) ?_
    refine lv_isub hx hb dX4_undo_24 ?_
    refine lv_eqi (nI (sy - 1)) (pk_sub (a := sy) (b := 1) (by omega)) ?_
    refine va_put (D := D) (ci := 4) (v := .int (nI (sy - 1))) (ty := .int) (C := RX4) (T := TX4) (N := 18) hx hb hts hi4 tyX4 tyX4_ok nmX4 hown hK hP hD hS 0 rfl rfl 4 (by decide) (hts (.fieldLink RX4 48 "PairedChannelsModel" "savedMany" "I") (List.mem_of_getElem? (i := 2) (by decide +kernel))) (fun _ h9 => h9) rfl (by decide +kernel) (rfl) (rfl) (Nat.le_of_ble_eq_true rfl) dX4_undo_25 (fun H locs hP hD hS => ?_)
    have hP : va_P D vwCl [(m0, .inr (4, [.int 0, .ref m1, .ref m2, .ref m3, .int (nI (sy - 1)), .ref m4, .int (nI ly), .ref m5, .ref m6, .int (nI py), .ref m7, .ref m8, .ref m9, .int (nI ay), .int (if iw = true then 1 else 0), .ref m10, .int (nI ty), .long hy])), (m1, .inl (K 0, 22, .inl (mst n mask vf sf))), (m3, .inl (K 0, 132, .inl (msv z)))] _ := hP
    have hD : va_D A [(m0, .inr (4, [.int 0, .ref m1, .ref m2, .ref m3, .int (nI (sy - 1)), .ref m4, .int (nI ly), .ref m5, .ref m6, .int (nI py), .ref m7, .ref m8, .ref m9, .int (nI ay), .int (if iw = true then 1 else 0), .ref m10, .int (nI ty), .long hy])), (m1, .inl (K 0, 22, .inl (mst n mask vf sf))), (m3, .inl (K 0, 132, .inl (msv z)))] := hD
    refine lv_iconst (v := 0) hx hb dX4_undo_28 (by decide) ?_
    refine lv_istore_n (lv' := [(1, .int 0), (0, .ref m0)]) hx hb dX4_undo_29 rfl hl (by decide) rfl (fun ls hl => ?_)
    refine g_loopW (st := []) (N := 22) (fun t H locs ls => ∃ g2 : Nat → Int32, (∀ i, i < t → g2 i = mrw (z (sy - 1)) i) ∧ va_P D vwCl [(m0, .inr (4, [.int 0, .ref m1, .ref m2, .ref m3, .int (nI (sy - 1)), .ref m4, .int (nI ly), .ref m5, .ref m6, .int (nI py), .ref m7, .ref m8, .ref m9, .int (nI ay), .int (if iw = true then 1 else 0), .ref m10, .int (nI ty), .long hy])), (m1, .inl (K 0, 22, .inl g2)), (m3, .inl (K 0, 132, .inl (msv z)))] H ∧ va_D A [(m0, .inr (4, [.int 0, .ref m1, .ref m2, .ref m3, .int (nI (sy - 1)), .ref m4, .int (nI ly), .ref m5, .ref m6, .int (nI py), .ref m7, .ref m8, .ref m9, .int (nI ay), .int (if iw = true then 1 else 0), .ref m10, .int (nI ty), .long hy])), (m1, .inl (K 0, 22, .inl g2)), (m3, .inl (K 0, 132, .inl (msv z)))] ∧ va_S A s.heap H locs ∧ lv_has ls 2 [(1, .int (nI t)), (0, .ref m0)]) 0 (Nat.zero_le _) ?_ ?_ ?_
    · intro H locs ls hI
      obtain ⟨g2, hh, hP, hD, hS, hl⟩ := hI
      refine lv_iload_n hx hb dX4_undo_30 rfl (lv_at hl 0 rfl) ?_
      refine lv_bipush (v := 22) hx hb dX4_undo_31 (by decide) ?_
      refine lv_icmp_ge (tgt := 62) hx hb dX4_undo_33 (by decide) (fun c3 => ?_) (fun c3 => ?_)
      · skip
        have c3 : 22 ≤ 22 := (nI_leI (a := 22) (b := 22) (by omega) (by omega)).mp c3
        have hP : va_P D vwCl [(m0, .inr (4, [.int 0, .ref m1, .ref m2, .ref m3, .int (nI (sy - 1)), .ref m4, .int (nI ly), .ref m5, .ref m6, .int (nI py), .ref m7, .ref m8, .ref m9, .int (nI ay), .int (if iw = true then 1 else 0), .ref m10, .int (nI ty), .long hy])), (m1, .inl (K 0, 22, .inl (mst (z (sy - 1)).1 (z (sy - 1)).2.1 (z (sy - 1)).2.2.1 (z (sy - 1)).2.2.2))), (m3, .inl (K 0, 132, .inl (msv z)))] _ := gP_ext hP 1 rfl (fun i hi => hh i hi)
        have hD : va_D A [(m0, .inr (4, [.int 0, .ref m1, .ref m2, .ref m3, .int (nI (sy - 1)), .ref m4, .int (nI ly), .ref m5, .ref m6, .int (nI py), .ref m7, .ref m8, .ref m9, .int (nI ay), .int (if iw = true then 1 else 0), .ref m10, .int (nI ty), .long hy])), (m1, .inl (K 0, 22, .inl (mst (z (sy - 1)).1 (z (sy - 1)).2.1 (z (sy - 1)).2.2.1 (z (sy - 1)).2.2.2))), (m3, .inl (K 0, 132, .inl (msv z)))] := gD_ext hD 1 rfl
        refine lv_aload_n hx hb dX4_undo_62 rfl (lv_at hl 1 rfl) ?_
        refine va_get (D := D) (ci := 4) (v := .int (nI (sy - 1))) (C := RX4) (T := TX4) (N := 18) hx hb hts hi4 hown hK hP 0 rfl rfl 4 (by decide) (hts (.fieldLink RX4 48 "PairedChannelsModel" "savedMany" "I") (List.mem_of_getElem? (i := 2) (by decide +kernel))) (fun _ h9 => h9) rfl dX4_undo_63 ?_
        exact gW_iret (v := nI (sy - 1)) (z (sy - 1), z, sy - 1, 0) hx hb hr hlk (rfl) hK hP hD hS (Or.inl ⟨by unfold thUndo; exact if_neg c9, rfl, rfl⟩) dX4_undo_66
      · skip
        have c3 : ¬ 22 ≤ 22 := fun h9 => c3 ((nI_leI (a := 22) (b := 22) (by omega) (by omega)).mpr h9)
        omega
    · intro t ht ih2 H locs ls hI
      obtain ⟨g2, hh, hP, hD, hS, hl⟩ := hI
      refine lv_iload_n hx hb dX4_undo_30 rfl (lv_at hl 0 rfl) ?_
      refine lv_bipush (v := 22) hx hb dX4_undo_31 (by decide) ?_
      refine lv_icmp_ge (tgt := 62) hx hb dX4_undo_33 (by decide) (fun c4 => ?_) (fun c4 => ?_)
      · skip
        have c4 : 22 ≤ t := (nI_leI (a := 22) (b := t) (by omega) (by omega)).mp c4
        omega
      · skip
        have c4 : ¬ 22 ≤ t := fun h9 => c4 ((nI_leI (a := 22) (b := t) (by omega) (by omega)).mpr h9)
        refine lv_aload_n hx hb dX4_undo_36 rfl (lv_at hl 1 rfl) ?_
        refine va_get (D := D) (ci := 4) (v := .ref m1) (C := RX4) (T := TX4) (N := 18) hx hb hts hi4 hown hK hP 0 rfl rfl 1 (by decide) (hts (.fieldLink RX4 7 "PairedChannelsModel" "s" "[I") (List.mem_of_getElem? (i := 3) (by decide +kernel))) (fun _ h9 => h9) rfl dX4_undo_37 ?_
        refine lv_iload_n hx hb dX4_undo_40 rfl (lv_at hl 0 rfl) ?_
        refine lv_aload_n hx hb dX4_undo_41 rfl (lv_at hl 1 rfl) ?_
        refine va_get (D := D) (ci := 4) (v := .ref m3) (C := RX4) (T := TX4) (N := 18) hx hb hts hi4 hown hK hP 0 rfl rfl 3 (by decide) (hts (.fieldLink RX4 16 "PairedChannelsModel" "saved" "[I") (List.mem_of_getElem? (i := 4) (by decide +kernel))) (fun _ h9 => h9) rfl dX4_undo_42 ?_
        refine lv_bipush (v := 22) hx hb dX4_undo_45 (by decide) ?_
        refine lv_aload_n hx hb dX4_undo_47 rfl (lv_at hl 1 rfl) ?_
        refine va_get (D := D) (ci := 4) (v := .int (nI (sy - 1))) (C := RX4) (T := TX4) (N := 18) hx hb hts hi4 hown hK hP 0 rfl rfl 4 (by decide) (hts (.fieldLink RX4 48 "PairedChannelsModel" "savedMany" "I") (List.mem_of_getElem? (i := 2) (by decide +kernel))) (fun _ h9 => h9) rfl dX4_undo_48 ?_
        refine lv_imul hx hb dX4_undo_51 ?_
        refine lv_eqi (nI (22 * (sy - 1))) (pk_mul 22 (sy - 1)) ?_
        refine lv_iload_n hx hb dX4_undo_52 rfl (lv_at hl 0 rfl) ?_
        refine lv_iadd hx hb dX4_undo_53 ?_
        refine lv_eqi (nI ((22 * (sy - 1)) + t)) ((nI_add (22 * (sy - 1)) t).trans (congrArg nI (by omega))) ?_
        refine wa_iald hx hb hK hP 2 0 rfl rfl ((22 * (sy - 1)) + t) rfl (by omega) (by decide) dX4_undo_54 ?_
        refine lv_eqi (mrw (z (sy - 1)) t) (msv_at z (sy - 1) ht) ?_
        refine wa_iast (x := mrw (z (sy - 1)) t) hx hb hK hP hD hS 1 0 rfl rfl (t) rfl (by omega) (by decide) dX4_undo_55 (fun H locs hP hD hS => ?_)
        have hP : va_P D vwCl [(m0, .inr (4, [.int 0, .ref m1, .ref m2, .ref m3, .int (nI (sy - 1)), .ref m4, .int (nI ly), .ref m5, .ref m6, .int (nI py), .ref m7, .ref m8, .ref m9, .int (nI ay), .int (if iw = true then 1 else 0), .ref m10, .int (nI ty), .long hy])), (m1, .inl (K 0, 22, .inl (upd g2 t (mrw (z (sy - 1)) t)))), (m3, .inl (K 0, 132, .inl (msv z)))] _ := hP
        have hD : va_D A [(m0, .inr (4, [.int 0, .ref m1, .ref m2, .ref m3, .int (nI (sy - 1)), .ref m4, .int (nI ly), .ref m5, .ref m6, .int (nI py), .ref m7, .ref m8, .ref m9, .int (nI ay), .int (if iw = true then 1 else 0), .ref m10, .int (nI ty), .long hy])), (m1, .inl (K 0, 22, .inl (upd g2 t (mrw (z (sy - 1)) t)))), (m3, .inl (K 0, 132, .inl (msv z)))] := hD
        refine lv_iinc (v := nI (t + 1)) (lv' := [(1, .int (nI (t + 1))), (0, .ref m0)]) hx hb dX4_undo_56 hl (k := 0) rfl (nI_add t 1) (by decide) rfl (fun ls hl => ?_)
        refine lv_goto (tgt := 30) hx hb dX4_undo_59 (by decide) ?_
        exact ih2 H locs ls ⟨(upd g2 t (mrw (z (sy - 1)) t)), (fun i hi => by by_cases e : i = t; subst e; exact pk_us; rw [pk_un e]; exact hh i (by omega)), hP, hD, hS, lv_sub hl [0, 1] rfl⟩
    · exact ⟨(mst n mask vf sf), (fun i hi => absurd hi (Nat.not_lt_zero i)), hP, hD, hS, lv_sub hl [0, 1] rfl⟩
  · skip
    have c9 : sy = 0 := (nI_eq (a := sy) (b := 0) (by omega) (by omega)).mp c9
    refine lv_aload_n hx hb dX4_undo_12 rfl (lv_at hl 0 rfl) ?_
    refine lv_iconst (v := 1) hx hb dX4_undo_13 (by decide) ?_
    refine gW_i (wr := [(m1, .inl (K 0, 22, .inl (mst n mask vf sf))), (m3, .inl (K 0, 132, .inl (msv z)))]) (W2 := (fun (u : Unit) => [(m0, .inr (4, [.int 1, .ref m1, .ref m2, .ref m3, .int (nI sy), .ref m4, .int (nI ly), .ref m5, .ref m6, .int (nI py), .ref m7, .ref m8, .ref m9, .int (nI ay), .int (if iw = true then 1 else 0), .ref m10, .int (nI ty), .long hy])), (m1, .inl (K 0, 22, .inl (mst n mask vf sf))), (m3, .inl (K 0, 132, .inl (msv z)))])) (va_runV (As := [.int 1]) (rest := []) ⟨hx, hb, hml, hown, hts⟩ ((c_X4_fails l D K m0 m1 m2 m3 m4 m5 m6 m7 m8 m9 m10 0 sy ly py ay iw ty hy 1 ) _) (cwV 1 hts gX4_undo_X4_fails rfl rfl rfl (by decide +kernel) ⟨Nat.le_of_ble_eq_true rfl, Nat.le_of_ble_eq_true rfl⟩) (gW_preV hE hS hK hP hD hA [0] rfl (by decide) 0 rfl rfl rfl) rfl rfl hl.1 rfl (lv_room (Nat.le_of_ble_eq_true rfl)) dX4_undo_14 ⟨Nat.le_of_ble_eq_true rfl, Nat.le_of_ble_eq_true rfl⟩) hS hP hD hA [0] [1, 2] [2, 0, 1] rfl rfl (by decide) (by decide) (by decide) (fun _ => rfl) (fun rv7 u5 H locs h6 hP hD hS => ?_)
    have hP : va_P D vwCl [(m0, .inr (4, [.int 1, .ref m1, .ref m2, .ref m3, .int (nI sy), .ref m4, .int (nI ly), .ref m5, .ref m6, .int (nI py), .ref m7, .ref m8, .ref m9, .int (nI ay), .int (if iw = true then 1 else 0), .ref m10, .int (nI ty), .long hy])), (m1, .inl (K 0, 22, .inl (mst n mask vf sf))), (m3, .inl (K 0, 132, .inl (msv z)))] _ := hP
    have hD : va_D A [(m0, .inr (4, [.int 1, .ref m1, .ref m2, .ref m3, .int (nI sy), .ref m4, .int (nI ly), .ref m5, .ref m6, .int (nI py), .ref m7, .ref m8, .ref m9, .int (nI ay), .int (if iw = true then 1 else 0), .ref m10, .int (nI ty), .long hy])), (m1, .inl (K 0, 22, .inl (mst n mask vf sf))), (m3, .inl (K 0, 132, .inl (msv z)))] := hD
    have h6 : rv7 = 0 := h6
    exact gW_iret (v := rv7) ((n, mask, vf, sf), z, sy, 1) hx hb hr hlk (rfl) hK hP hD hS (Or.inr (by have hh9 : thUndo sy = 1 := (by unfold thUndo; exact if_pos c9); rw [hh9]; exact ⟨by decide, rfl, h6⟩)) dX4_undo_17

set_option maxHeartbeats 4000000 in
set_option maxRecDepth 100000 in
theorem c_X4_takeBack (l : Launch) (D : va_G) (K : Nat → ClassId) (m0 : Nat) (m1 : Nat) (m2 : Nat) (m3 : Nat) (m4 : Nat) (m5 : Nat) (m6 : Nat) (m7 : Nat) (m8 : Nat) (m9 : Nat) (m10 : Nat) (th : Int32) (sy : Nat) (ly : Nat) (py : Nat) (ay : Nat) (iw : Bool) (ty : Nat) (hy : Int64) (n : Nat) (mask : Int32) (vf : Nat → Int32) (sf : Nat → Int32) (ga : Nat → Int32) (gs : Nat → Int32) (hga : ∀ i, i < 22 → ga i = mst n mask vf sf i) : MWv l yX4_takeBack wsX4_takeBack ({ frames := 0, cells := 0, slots := 0, locals := 0 } : Room) D (gTy K) [.ref m0] [(m0, .inr (4, [.int th, .ref m1, .ref m2, .ref m3, .int (nI sy), .ref m4, .int (nI ly), .ref m5, .ref m6, .int (nI py), .ref m7, .ref m8, .ref m9, .int (nI ay), .int (if iw = true then 1 else 0), .ref m10, .int (nI ty), .long hy])), (m1, .inl (K 0, 22, .inl gs)), (m2, .inl (K 0, 22, .inl ga))] (fun (u : Unit) => [(m0, .inr (4, [.int th, .ref m1, .ref m2, .ref m3, .int (nI sy), .ref m4, .int (nI ly), .ref m5, .ref m6, .int (nI py), .ref m7, .ref m8, .ref m9, .int (nI ay), .int (if iw = true then 1 else 0), .ref m10, .int (nI ty), .long hy])), (m1, .inl (K 0, 22, .inl (mst n mask vf sf))), (m2, .inl (K 0, 22, .inl ga))]) (fun (u : Unit) => True) 0 0 := by
  refine g_ofW (Qc := fun A => va_Qv _ (gB D (gTy K) A _) A) (cc := cX4_takeBack) (maxL := 2) (ret := none) (own := RX4) (by decide) rfl rfl (Nat.le_of_ble_eq_true rfl) ?_
  intro pp ee s mm below meth cc A hfx hnm hK hP hD hE hS hA ls hl
  obtain ⟨hx, hb, hr, hml, hown, hts, hlk⟩ := hfx
  have hl : lv_has ls 2 [(0, .ref m0)] := hl
  have hi4 : ∀ w ∈ u_ws RX4 TX4 18, w ∈ wsX4_takeBack := fun w h => List.mem_cons_of_mem _ (List.mem_append_right _ (h))
  refine lv_iconst (v := 0) hx hb dX4_takeBack_0 (by decide) ?_
  refine lv_istore_n (lv' := [(1, .int 0), (0, .ref m0)]) hx hb dX4_takeBack_1 rfl hl (by decide) rfl (fun ls hl => ?_)
  refine g_loopW (st := []) (N := 22) (fun t H locs ls => ∃ g2 : Nat → Int32, (∀ i, i < t → g2 i = ga i) ∧ va_P D vwCl [(m0, .inr (4, [.int th, .ref m1, .ref m2, .ref m3, .int (nI sy), .ref m4, .int (nI ly), .ref m5, .ref m6, .int (nI py), .ref m7, .ref m8, .ref m9, .int (nI ay), .int (if iw = true then 1 else 0), .ref m10, .int (nI ty), .long hy])), (m1, .inl (K 0, 22, .inl g2)), (m2, .inl (K 0, 22, .inl ga))] H ∧ va_D A [(m0, .inr (4, [.int th, .ref m1, .ref m2, .ref m3, .int (nI sy), .ref m4, .int (nI ly), .ref m5, .ref m6, .int (nI py), .ref m7, .ref m8, .ref m9, .int (nI ay), .int (if iw = true then 1 else 0), .ref m10, .int (nI ty), .long hy])), (m1, .inl (K 0, 22, .inl g2)), (m2, .inl (K 0, 22, .inl ga))] ∧ va_S A s.heap H locs ∧ lv_has ls 2 [(1, .int (nI t)), (0, .ref m0)]) 0 (Nat.zero_le _) ?_ ?_ ?_
  · intro H locs ls hI
    obtain ⟨g2, hh, hP, hD, hS, hl⟩ := hI
    refine lv_iload_n hx hb dX4_takeBack_2 rfl (lv_at hl 0 rfl) ?_
    refine lv_bipush (v := 22) hx hb dX4_takeBack_3 (by decide) ?_
    refine lv_icmp_ge (tgt := 26) hx hb dX4_takeBack_5 (by decide) (fun c2 => ?_) (fun c2 => ?_)
    · skip
      have c2 : 22 ≤ 22 := (nI_leI (a := 22) (b := 22) (by omega) (by omega)).mp c2
      have hP : va_P D vwCl [(m0, .inr (4, [.int th, .ref m1, .ref m2, .ref m3, .int (nI sy), .ref m4, .int (nI ly), .ref m5, .ref m6, .int (nI py), .ref m7, .ref m8, .ref m9, .int (nI ay), .int (if iw = true then 1 else 0), .ref m10, .int (nI ty), .long hy])), (m1, .inl (K 0, 22, .inl (mst n mask vf sf))), (m2, .inl (K 0, 22, .inl ga))] _ := gP_ext hP 1 rfl (fun i hi => (hh i hi).trans (hga i hi))
      have hD : va_D A [(m0, .inr (4, [.int th, .ref m1, .ref m2, .ref m3, .int (nI sy), .ref m4, .int (nI ly), .ref m5, .ref m6, .int (nI py), .ref m7, .ref m8, .ref m9, .int (nI ay), .int (if iw = true then 1 else 0), .ref m10, .int (nI ty), .long hy])), (m1, .inl (K 0, 22, .inl (mst n mask vf sf))), (m2, .inl (K 0, 22, .inl ga))] := gD_ext hD 1 rfl
      exact gW_vret () hx hb hr hlk hK hP hD hS (trivial) dX4_takeBack_26
    · skip
      have c2 : ¬ 22 ≤ 22 := fun h9 => c2 ((nI_leI (a := 22) (b := 22) (by omega) (by omega)).mpr h9)
      omega
  · intro t ht ih1 H locs ls hI
    obtain ⟨g2, hh, hP, hD, hS, hl⟩ := hI
    refine lv_iload_n hx hb dX4_takeBack_2 rfl (lv_at hl 0 rfl) ?_
    refine lv_bipush (v := 22) hx hb dX4_takeBack_3 (by decide) ?_
    refine lv_icmp_ge (tgt := 26) hx hb dX4_takeBack_5 (by decide) (fun c3 => ?_) (fun c3 => ?_)
    · skip
      have c3 : 22 ≤ t := (nI_leI (a := 22) (b := t) (by omega) (by omega)).mp c3
      omega
    · skip
      have c3 : ¬ 22 ≤ t := fun h9 => c3 ((nI_leI (a := 22) (b := t) (by omega) (by omega)).mpr h9)
      refine lv_aload_n hx hb dX4_takeBack_8 rfl (lv_at hl 1 rfl) ?_
      refine va_get (D := D) (ci := 4) (v := .ref m1) (C := RX4) (T := TX4) (N := 18) hx hb hts hi4 hown hK hP 0 rfl rfl 1 (by decide) (hts (.fieldLink RX4 7 "PairedChannelsModel" "s" "[I") (List.mem_of_getElem? (i := 1) (by decide +kernel))) (fun _ h9 => h9) rfl dX4_takeBack_9 ?_
      refine lv_iload_n hx hb dX4_takeBack_12 rfl (lv_at hl 0 rfl) ?_
      refine lv_aload_n hx hb dX4_takeBack_13 rfl (lv_at hl 1 rfl) ?_
      refine va_get (D := D) (ci := 4) (v := .ref m2) (C := RX4) (T := TX4) (N := 18) hx hb hts hi4 hown hK hP 0 rfl rfl 2 (by decide) (hts (.fieldLink RX4 13 "PairedChannelsModel" "aside" "[I") (List.mem_of_getElem? (i := 2) (by decide +kernel))) (fun _ h9 => h9) rfl dX4_takeBack_14 ?_
      refine lv_iload_n hx hb dX4_takeBack_17 rfl (lv_at hl 0 rfl) ?_
      refine wa_iald hx hb hK hP 2 0 rfl rfl (t) rfl (by omega) (by decide) dX4_takeBack_18 ?_
      refine wa_iast (x := ga t) hx hb hK hP hD hS 1 0 rfl rfl (t) rfl (by omega) (by decide) dX4_takeBack_19 (fun H locs hP hD hS => ?_)
      have hP : va_P D vwCl [(m0, .inr (4, [.int th, .ref m1, .ref m2, .ref m3, .int (nI sy), .ref m4, .int (nI ly), .ref m5, .ref m6, .int (nI py), .ref m7, .ref m8, .ref m9, .int (nI ay), .int (if iw = true then 1 else 0), .ref m10, .int (nI ty), .long hy])), (m1, .inl (K 0, 22, .inl (upd g2 t (ga t)))), (m2, .inl (K 0, 22, .inl ga))] _ := hP
      have hD : va_D A [(m0, .inr (4, [.int th, .ref m1, .ref m2, .ref m3, .int (nI sy), .ref m4, .int (nI ly), .ref m5, .ref m6, .int (nI py), .ref m7, .ref m8, .ref m9, .int (nI ay), .int (if iw = true then 1 else 0), .ref m10, .int (nI ty), .long hy])), (m1, .inl (K 0, 22, .inl (upd g2 t (ga t)))), (m2, .inl (K 0, 22, .inl ga))] := hD
      refine lv_iinc (v := nI (t + 1)) (lv' := [(1, .int (nI (t + 1))), (0, .ref m0)]) hx hb dX4_takeBack_20 hl (k := 0) rfl (nI_add t 1) (by decide) rfl (fun ls hl => ?_)
      refine lv_goto (tgt := 2) hx hb dX4_takeBack_23 (by decide) ?_
      exact ih1 H locs ls ⟨(upd g2 t (ga t)), (fun i hi => by by_cases e : i = t; subst e; exact pk_us; rw [pk_un e]; exact hh i (by omega)), hP, hD, hS, lv_sub hl [0, 1] rfl⟩
  · exact ⟨gs, (fun i hi => absurd hi (Nat.not_lt_zero i)), hP, hD, hS, lv_sub hl [0, 1] rfl⟩
