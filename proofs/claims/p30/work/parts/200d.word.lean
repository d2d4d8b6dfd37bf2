set_option maxHeartbeats 4000000 in
set_option maxRecDepth 100000 in
theorem c_X2_zeroValues (l : Launch) (D : va_G) (K : Nat → ClassId) (h0 : Nat) (hv : Nat) (hs : Nat) (n : Nat) (mask : Int32) (vf : Nat → Int32) (hn : okN n) : MRi l yX2_zeroValues wsX2_zeroValues ({ frames := 0, cells := 0, slots := 0, locals := 0 } : Room) D (gTy K) [.ref h0] [(h0, .inr (2, [.ref hv, .ref hs, .int (nI n), .int mask])), (hv, .inl (K 0, 16, .inl vf))] (fun r => r = nI (zerS vf n)) := by
  refine g_ofR (cc := cX2_zeroValues) (maxL := 3) (ret := (some .int)) (own := RX2) (by decide) rfl rfl (Nat.le_of_ble_eq_true rfl) ?_
  intro pp ee s mm below meth cc hfx hK hP hE hS ls hl
  obtain ⟨hx, hb, hr, hml, hown, hts, hlk⟩ := hfx
  have hl : lv_has ls 3 [(0, .ref h0)] := hl
  have hi2 : ∀ w ∈ u_ws RX2 TX2 4, w ∈ wsX2_zeroValues := fun w h => List.mem_cons_of_mem _ (List.mem_append_right _ (h))
  have hnl := hn.le
  refine lv_iconst (v := 0) hx hb dX2_zeroValues_0 (by decide) ?_
  refine lv_istore_n (lv' := [(1, .int 0), (0, .ref h0)]) hx hb dX2_zeroValues_1 rfl hl (by decide) rfl (fun ls hl => ?_)
  refine lv_iconst (v := 0) hx hb dX2_zeroValues_2 (by decide) ?_
  refine lv_istore_n (lv' := [(2, .int 0), (1, .int 0), (0, .ref h0)]) hx hb dX2_zeroValues_3 rfl hl (by decide) rfl (fun ls hl => ?_)
  refine g_loopW (st := []) (N := n) (fun i H locs ls => va_P D vwCl [(h0, .inr (2, [.ref hv, .ref hs, .int (nI n), .int mask])), (hv, .inl (K 0, 16, .inl vf))] H ∧ va_S gNo s.heap H locs ∧ lv_has ls 3 [(2, .int (nI i)), (1, .int (nI (zerS vf i))), (0, .ref h0)]) 0 (Nat.zero_le _) ?_ ?_ ?_
  · intro H locs ls hI
    obtain ⟨hP, hS, hl⟩ := hI
    refine lv_iload_n hx hb dX2_zeroValues_4 rfl (lv_at hl 0 rfl) ?_
    refine lv_aload_n hx hb dX2_zeroValues_5 rfl (lv_at hl 2 rfl) ?_
    refine va_get (D := D) (ci := 2) (v := .int (nI n)) (C := RX2) (T := TX2) (N := 4) hx hb hts hi2 hown hK hP 0 rfl rfl 2 (by decide) (hts (.fieldLink RX2 18 "PairedChannels$Word" "places" "I") (List.mem_of_getElem? (i := 1) (by decide +kernel))) (fun _ h9 => h9) rfl dX2_zeroValues_6 ?_
    refine lv_icmp_ge (tgt := 35) hx hb dX2_zeroValues_9 (by decide) (fun c2 => ?_) (fun c2 => ?_)
    · skip
      have c2 : n ≤ n := (nI_leI (a := n) (b := n) (by omega) (by omega)).mp c2
      refine lv_iload_n hx hb dX2_zeroValues_35 rfl (lv_at hl 1 rfl) ?_
      exact gR_iret (v := nI (zerS vf n)) hx hb hr hlk (rfl) hS (rfl) dX2_zeroValues_36
    · skip
      have c2 : ¬ n ≤ n := fun h9 => c2 ((nI_leI (a := n) (b := n) (by omega) (by omega)).mpr h9)
      omega
  · intro i hi ih1 H locs ls hI
    obtain ⟨hP, hS, hl⟩ := hI
    refine lv_iload_n hx hb dX2_zeroValues_4 rfl (lv_at hl 0 rfl) ?_
    refine lv_aload_n hx hb dX2_zeroValues_5 rfl (lv_at hl 2 rfl) ?_
    refine va_get (D := D) (ci := 2) (v := .int (nI n)) (C := RX2) (T := TX2) (N := 4) hx hb hts hi2 hown hK hP 0 rfl rfl 2 (by decide) (hts (.fieldLink RX2 18 "PairedChannels$Word" "places" "I") (List.mem_of_getElem? (i := 1) (by decide +kernel))) (fun _ h9 => h9) rfl dX2_zeroValues_6 ?_
    refine lv_icmp_ge (tgt := 35) hx hb dX2_zeroValues_9 (by decide) (fun c3 => ?_) (fun c3 => ?_)
    · skip
      have c3 : n ≤ i := (nI_leI (a := n) (b := i) (by omega) (by omega)).mp c3
      omega
    · skip
      have c3 : ¬ n ≤ i := fun h9 => c3 ((nI_leI (a := n) (b := i) (by omega) (by omega)).mpr h9)
      refine lv_iload_n hx hb dX2_zeroValues_12 rfl (lv_at hl 1 rfl) ?_
      refine lv_aload_n hx hb dX2_zeroValues_13 rfl (lv_at hl 2 rfl) ?_
      refine va_get (D := D) (ci := 2) (v := .ref hv) (C := RX2) (T := TX2) (N := 4) hx hb hts hi2 hown hK hP 0 rfl rfl 0 (by decide) (hts (.fieldLink RX2 9 "PairedChannels$Word" "values" "[I") (List.mem_of_getElem? (i := 2) (by decide +kernel))) (fun _ h9 => h9) rfl dX2_zeroValues_14 ?_
      refine lv_iload_n hx hb dX2_zeroValues_17 rfl (lv_at hl 0 rfl) ?_
      refine wa_iald hx hb hK hP 1 0 rfl rfl (i) rfl (by omega) (by decide) dX2_zeroValues_18 ?_
      refine g_cut (F0 mm 27 ls [.int (if vf i = 0 then 1 else 0), .int (nI (zerS vf i))]) (fun hJ => ?_) ?_
      · refine lv_if_ne (tgt := 26) hx hb dX2_zeroValues_19 (by decide) (fun c4 => ?_) (fun c4 => ?_)
        · skip
          refine lv_iconst (v := 0) hx hb dX2_zeroValues_26 (by decide) ?_
          refine lv_eqi ((if vf i = 0 then 1 else 0)) (if_neg c4).symm ?_
          exact hJ
        · skip
          refine lv_iconst (v := 1) hx hb dX2_zeroValues_22 (by decide) ?_
          refine lv_goto (tgt := 27) hx hb dX2_zeroValues_23 (by decide) ?_
          refine lv_eqi ((if vf i = 0 then 1 else 0)) (if_pos c4).symm ?_
          exact hJ
      · skip
        refine lv_iadd hx hb dX2_zeroValues_27 ?_
        refine lv_istore_n (lv' := [(1, .int (nI (zerS vf i) + (if vf i = 0 then 1 else 0))), (2, .int (nI i)), (0, .ref h0)]) hx hb dX2_zeroValues_28 rfl hl (by decide) rfl (fun ls hl => ?_)
        refine lv_iinc (v := nI (i + 1)) (lv' := [(2, .int (nI (i + 1))), (1, .int (nI (zerS vf i) + (if vf i = 0 then 1 else 0))), (0, .ref h0)]) hx hb dX2_zeroValues_29 hl (k := 1) rfl (nI_add i 1) (by decide) rfl (fun ls hl => ?_)
        refine lv_goto (tgt := 4) hx hb dX2_zeroValues_32 (by decide) ?_
        have e9 : (nI (zerS vf i) + (if vf i = 0 then 1 else 0)) = (nI (zerS vf (i + 1))) := nI_ite _ _
        rw [e9] at hl
        exact ih1 H locs ls ⟨hP, hS, lv_sub hl [0, 1, 2] rfl⟩
  · exact ⟨hP, hS, lv_sub hl [0, 1, 2] rfl⟩

set_option maxHeartbeats 4000000 in
set_option maxRecDepth 100000 in
theorem c_X2_sumOfSizes (l : Launch) (D : va_G) (K : Nat → ClassId) (h0 : Nat) (hv : Nat) (hs : Nat) (n : Nat) (mask : Int32) (vf : Nat → Int32) (hn : okN n) : MRi l yX2_sumOfSizes wsX2_sumOfSizes ({ frames := 1, cells := 0, slots := 0, locals := 21 } : Room) D (gTy K) [.ref h0] [(h0, .inr (2, [.ref hv, .ref hs, .int (nI n), .int mask])), (hv, .inl (K 0, 16, .inl vf))] (fun r => r = sizS vf n) := by
  refine g_ofR (cc := cX2_sumOfSizes) (maxL := 3) (ret := (some .int)) (own := RX2) (by decide) rfl rfl (Nat.le_of_ble_eq_true rfl) ?_
  intro pp ee s mm below meth cc hfx hK hP hE hS ls hl
  obtain ⟨hx, hb, hr, hml, hown, hts, hlk⟩ := hfx
  have hl : lv_has ls 3 [(0, .ref h0)] := hl
  have hi2 : ∀ w ∈ u_ws RX2 TX2 4, w ∈ wsX2_sumOfSizes := fun w h => List.mem_cons_of_mem _ (List.mem_append_right _ (h))
  have hnl := hn.le
  refine lv_iconst (v := 0) hx hb dX2_sumOfSizes_0 (by decide) ?_
  refine lv_istore_n (lv' := [(1, .int 0), (0, .ref h0)]) hx hb dX2_sumOfSizes_1 rfl hl (by decide) rfl (fun ls hl => ?_)
  refine lv_iconst (v := 0) hx hb dX2_sumOfSizes_2 (by decide) ?_
  refine lv_istore_n (lv' := [(2, .int 0), (1, .int 0), (0, .ref h0)]) hx hb dX2_sumOfSizes_3 rfl hl (by decide) rfl (fun ls hl => ?_)
  refine g_loopW (st := []) (N := n) (fun i H locs ls => va_P D vwCl [(h0, .inr (2, [.ref hv, .ref hs, .int (nI n), .int mask])), (hv, .inl (K 0, 16, .inl vf))] H ∧ va_S gNo s.heap H locs ∧ lv_has ls 3 [(2, .int (nI i)), (1, .int (sizS vf i)), (0, .ref h0)]) 0 (Nat.zero_le _) ?_ ?_ ?_
  · intro H locs ls hI
    obtain ⟨hP, hS, hl⟩ := hI
    refine lv_iload_n hx hb dX2_sumOfSizes_4 rfl (lv_at hl 0 rfl) ?_
    refine lv_aload_n hx hb dX2_sumOfSizes_5 rfl (lv_at hl 2 rfl) ?_
    refine va_get (D := D) (ci := 2) (v := .int (nI n)) (C := RX2) (T := TX2) (N := 4) hx hb hts hi2 hown hK hP 0 rfl rfl 2 (by decide) (hts (.fieldLink RX2 18 "PairedChannels$Word" "places" "I") (List.mem_of_getElem? (i := 1) (by decide +kernel))) (fun _ h9 => h9) rfl dX2_sumOfSizes_6 ?_
    refine lv_icmp_ge (tgt := 30) hx hb dX2_sumOfSizes_9 (by decide) (fun c2 => ?_) (fun c2 => ?_)
    · skip
      have c2 : n ≤ n := (nI_leI (a := n) (b := n) (by omega) (by omega)).mp c2
      refine lv_iload_n hx hb dX2_sumOfSizes_30 rfl (lv_at hl 1 rfl) ?_
      exact gR_iret (v := sizS vf n) hx hb hr hlk (rfl) hS (rfl) dX2_sumOfSizes_31
    · skip
      have c2 : ¬ n ≤ n := fun h9 => c2 ((nI_leI (a := n) (b := n) (by omega) (by omega)).mpr h9)
      omega
  · intro i hi ih1 H locs ls hI
    obtain ⟨hP, hS, hl⟩ := hI
    refine lv_iload_n hx hb dX2_sumOfSizes_4 rfl (lv_at hl 0 rfl) ?_
    refine lv_aload_n hx hb dX2_sumOfSizes_5 rfl (lv_at hl 2 rfl) ?_
    refine va_get (D := D) (ci := 2) (v := .int (nI n)) (C := RX2) (T := TX2) (N := 4) hx hb hts hi2 hown hK hP 0 rfl rfl 2 (by decide) (hts (.fieldLink RX2 18 "PairedChannels$Word" "places" "I") (List.mem_of_getElem? (i := 1) (by decide +kernel))) (fun _ h9 => h9) rfl dX2_sumOfSizes_6 ?_
    refine lv_icmp_ge (tgt := 30) hx hb dX2_sumOfSizes_9 (by decide) (fun c3 => ?_) (fun c3 => ?_)
    · skip
      have c3 : n ≤ i := (nI_leI (a := n) (b := i) (by omega) (by omega)).mp c3
      omega
    · skip
      have c3 : ¬ n ≤ i := fun h9 => c3 ((nI_leI (a := n) (b := i) (by omega) (by omega)).mpr h9)
      refine lv_iload_n hx hb dX2_sumOfSizes_12 rfl (lv_at hl 1 rfl) ?_
      refine lv_aload_n hx hb dX2_sumOfSizes_13 rfl (lv_at hl 2 rfl) ?_
      refine va_get (D := D) (ci := 2) (v := .ref hv) (C := RX2) (T := TX2) (N := 4) hx hb hts hi2 hown hK hP 0 rfl rfl 0 (by decide) (hts (.fieldLink RX2 9 "PairedChannels$Word" "values" "[I") (List.mem_of_getElem? (i := 2) (by decide +kernel))) (fun _ h9 => h9) rfl dX2_sumOfSizes_14 ?_
      refine lv_iload_n hx hb dX2_sumOfSizes_17 rfl (lv_at hl 0 rfl) ?_
      refine wa_iald hx hb hK hP 1 0 rfl rfl (i) rfl (by omega) (by decide) dX2_sumOfSizes_18 ?_
      refine va_mabs hx hb (hml.trans hl.1.symm) hown (hts (.methodLink RX2 76 Lib.Math.abs.name) (List.mem_of_getElem? (i := 3) (by decide +kernel))) (hts (.static Lib.Math.abs.name) (List.mem_of_getElem? (i := 4) (by decide +kernel))) (hts (.initialized "java/lang/Math") (List.mem_of_getElem? (i := 5) (by decide +kernel))) (hts (.code Lib.Math.abs.name Lib.Math.abs.code 1 (some .int)) (List.mem_of_getElem? (i := 6) (by decide +kernel))) (Nat.le_of_ble_eq_true rfl) (Nat.le_of_ble_eq_true rfl) (Nat.le_of_ble_eq_true rfl) (Nat.le_of_ble_eq_true rfl) dX2_sumOfSizes_19 ?_
      refine lv_eqi (absI (vf i)) (abs_eq _) ?_
      refine lv_iadd hx hb dX2_sumOfSizes_22 ?_
      refine lv_istore_n (lv' := [(1, .int (sizS vf i + absI (vf i))), (2, .int (nI i)), (0, .ref h0)]) hx hb dX2_sumOfSizes_23 rfl hl (by decide) rfl (fun ls hl => ?_)
      refine lv_iinc (v := nI (i + 1)) (lv' := [(2, .int (nI (i + 1))), (1, .int (sizS vf i + absI (vf i))), (0, .ref h0)]) hx hb dX2_sumOfSizes_24 hl (k := 1) rfl (nI_add i 1) (by decide) rfl (fun ls hl => ?_)
      refine lv_goto (tgt := 4) hx hb dX2_sumOfSizes_27 (by decide) ?_
      have e9 : (sizS vf i + absI (vf i)) = (sizS vf (i + 1)) := rfl
      rw [e9] at hl
      exact ih1 H locs ls ⟨hP, hS, lv_sub hl [0, 1, 2] rfl⟩
  · exact ⟨hP, hS, lv_sub hl [0, 1, 2] rfl⟩

set_option maxHeartbeats 4000000 in
set_option maxRecDepth 100000 in
theorem c_X2_copyFrom (l : Launch) (D : va_G) (K : Nat → ClassId) (h0 : Nat) (hv : Nat) (hs : Nat) (n : Nat) (mask : Int32) (vf : Nat → Int32) (sf : Nat → Int32) (g0 : Nat) (gv : Nat) (gs : Nat) (n2 : Nat) (mask2 : Int32) (vf2 : Nat → Int32) (sf2 : Nat → Int32)  : MWv l yX2_copyFrom wsX2_copyFrom ({ frames := 1, cells := 0, slots := 0, locals := 40 } : Room) D (gTy K) [.ref h0, .ref g0] [(h0, .inr (2, [.ref hv, .ref hs, .int (nI n), .int mask])), (hv, .inl (K 0, 16, .inl vf)), (hs, .inl (K 0, 4, .inl sf)), (g0, .inr (2, [.ref gv, .ref gs, .int (nI n2), .int mask2])), (gv, .inl (K 0, 16, .inl vf2)), (gs, .inl (K 0, 4, .inl sf2))] (fun (u : Unit) => [(h0, .inr (2, [.ref hv, .ref hs, .int (nI n2), .int mask2])), (hv, .inl (K 0, 16, .inl vf2)), (hs, .inl (K 0, 4, .inl sf2)), (g0, .inr (2, [.ref gv, .ref gs, .int (nI n2), .int mask2])), (gv, .inl (K 0, 16, .inl vf2)), (gs, .inl (K 0, 4, .inl sf2))]) (fun (u : Unit) => True) 0 0 := by
  refine g_ofW (Qc := fun A => va_Qv _ (gB D (gTy K) A _) A) (cc := cX2_copyFrom) (maxL := 2) (ret := none) (own := RX2) (by decide) rfl rfl (Nat.le_of_ble_eq_true rfl) ?_
  intro pp ee s mm below meth cc A hfx hnm hK hP hD hE hS hA ls hl
  obtain ⟨hx, hb, hr, hml, hown, hts, hlk⟩ := hfx
  have hl : lv_has ls 2 [(0, .ref h0), (1, .ref g0)] := hl
  have hi2 : ∀ w ∈ u_ws RX2 TX2 4, w ∈ wsX2_copyFrom := fun w h => List.mem_cons_of_mem _ (List.mem_append_right _ (h))
  refine lv_aload_n hx hb dX2_copyFrom_0 rfl (lv_at hl 1 rfl) ?_
  refine va_get (D := D) (ci := 2) (v := .ref gv) (C := RX2) (T := TX2) (N := 4) hx hb hts hi2 hown hK hP 3 rfl rfl 0 (by decide) (hts (.fieldLink RX2 9 "PairedChannels$Word" "values" "[I") (List.mem_of_getElem? (i := 1) (by decide +kernel))) (fun _ h9 => h9) rfl dX2_copyFrom_1 ?_
  refine lv_iconst (v := 0) hx hb dX2_copyFrom_4 (by decide) ?_
  refine lv_aload_n hx hb dX2_copyFrom_5 rfl (lv_at hl 0 rfl) ?_
  refine va_get (D := D) (ci := 2) (v := .ref hv) (C := RX2) (T := TX2) (N := 4) hx hb hts hi2 hown hK hP 0 rfl rfl 0 (by decide) (hts (.fieldLink RX2 9 "PairedChannels$Word" "values" "[I") (List.mem_of_getElem? (i := 1) (by decide +kernel))) (fun _ h9 => h9) rfl dX2_copyFrom_6 ?_
  refine lv_iconst (v := 0) hx hb dX2_copyFrom_9 (by decide) ?_
  refine lv_bipush (v := 16) hx hb dX2_copyFrom_10 (by decide) ?_
  refine va_copyi (ty := .int) hx hb (hml.trans hl.1.symm) hown (hts (.methodLink RX2 22 arraycopyName) (List.mem_of_getElem? (i := 2) (by decide +kernel))) (hts (.native arraycopyName) (List.mem_of_getElem? (i := 3) (by decide +kernel))) (hts (.static arraycopyName) (List.mem_of_getElem? (i := 4) (by decide +kernel))) (hts (.initialized "java/lang/System") (List.mem_of_getElem? (i := 5) (by decide +kernel))) hK hP hD hS 4 1 0 0 rfl rfl rfl rfl rfl (by decide) (by decide) (by decide) (by decide) (by decide) (fun _ _ => rfl) (Nat.le_of_ble_eq_true rfl) (by decide) dX2_copyFrom_12 (fun H locs hP hD hS => ?_)
  have hP : va_P D vwCl [(h0, .inr (2, [.ref hv, .ref hs, .int (nI n), .int mask])), (hv, .inl (K 0, 16, .inl (va_cpy vf2 vf (0 : Int32).toNatClampNeg (0 : Int32).toNatClampNeg (16 : Int32).toNatClampNeg))), (hs, .inl (K 0, 4, .inl sf)), (g0, .inr (2, [.ref gv, .ref gs, .int (nI n2), .int mask2])), (gv, .inl (K 0, 16, .inl vf2)), (gs, .inl (K 0, 4, .inl sf2))] _ := hP
  have hD : va_D A [(h0, .inr (2, [.ref hv, .ref hs, .int (nI n), .int mask])), (hv, .inl (K 0, 16, .inl (va_cpy vf2 vf (0 : Int32).toNatClampNeg (0 : Int32).toNatClampNeg (16 : Int32).toNatClampNeg))), (hs, .inl (K 0, 4, .inl sf)), (g0, .inr (2, [.ref gv, .ref gs, .int (nI n2), .int mask2])), (gv, .inl (K 0, 16, .inl vf2)), (gs, .inl (K 0, 4, .inl sf2))] := hD
  have hP : va_P D vwCl [(h0, .inr (2, [.ref hv, .ref hs, .int (nI n), .int mask])), (hv, .inl (K 0, 16, .inl vf2)), (hs, .inl (K 0, 4, .inl sf)), (g0, .inr (2, [.ref gv, .ref gs, .int (nI n2), .int mask2])), (gv, .inl (K 0, 16, .inl vf2)), (gs, .inl (K 0, 4, .inl sf2))] _ := gP_ext hP 1 rfl (cpy_in 16 rfl)
  have hD : va_D A [(h0, .inr (2, [.ref hv, .ref hs, .int (nI n), .int mask])), (hv, .inl (K 0, 16, .inl vf2)), (hs, .inl (K 0, 4, .inl sf)), (g0, .inr (2, [.ref gv, .ref gs, .int (nI n2), .int mask2])), (gv, .inl (K 0, 16, .inl vf2)), (gs, .inl (K 0, 4, .inl sf2))] := gD_ext hD 1 rfl
  refine lv_aload_n hx hb dX2_copyFrom_15 rfl (lv_at hl 1 rfl) ?_
  refine va_get (D := D) (ci := 2) (v := .ref gs) (C := RX2) (T := TX2) (N := 4) hx hb hts hi2 hown hK hP 3 rfl rfl 1 (by decide) (hts (.fieldLink RX2 15 "PairedChannels$Word" "settings" "[I") (List.mem_of_getElem? (i := 6) (by decide +kernel))) (fun _ h9 => h9) rfl dX2_copyFrom_16 ?_
  refine lv_iconst (v := 0) hx hb dX2_copyFrom_19 (by decide) ?_
  refine lv_aload_n hx hb dX2_copyFrom_20 rfl (lv_at hl 0 rfl) ?_
  refine va_get (D := D) (ci := 2) (v := .ref hs) (C := RX2) (T := TX2) (N := 4) hx hb hts hi2 hown hK hP 0 rfl rfl 1 (by decide) (hts (.fieldLink RX2 15 "PairedChannels$Word" "settings" "[I") (List.mem_of_getElem? (i := 6) (by decide +kernel))) (fun _ h9 => h9) rfl dX2_copyFrom_21 ?_
  refine lv_iconst (v := 0) hx hb dX2_copyFrom_24 (by decide) ?_
  refine lv_iconst (v := 4) hx hb dX2_copyFrom_25 (by decide) ?_
  refine va_copyi (ty := .int) hx hb (hml.trans hl.1.symm) hown (hts (.methodLink RX2 22 arraycopyName) (List.mem_of_getElem? (i := 2) (by decide +kernel))) (hts (.native arraycopyName) (List.mem_of_getElem? (i := 3) (by decide +kernel))) (hts (.static arraycopyName) (List.mem_of_getElem? (i := 4) (by decide +kernel))) (hts (.initialized "java/lang/System") (List.mem_of_getElem? (i := 5) (by decide +kernel))) hK hP hD hS 5 2 0 0 rfl rfl rfl rfl rfl (by decide) (by decide) (by decide) (by decide) (by decide) (fun _ _ => rfl) (Nat.le_of_ble_eq_true rfl) (by decide) dX2_copyFrom_26 (fun H locs hP hD hS => ?_)
  have hP : va_P D vwCl [(h0, .inr (2, [.ref hv, .ref hs, .int (nI n), .int mask])), (hv, .inl (K 0, 16, .inl vf2)), (hs, .inl (K 0, 4, .inl (va_cpy sf2 sf (0 : Int32).toNatClampNeg (0 : Int32).toNatClampNeg (4 : Int32).toNatClampNeg))), (g0, .inr (2, [.ref gv, .ref gs, .int (nI n2), .int mask2])), (gv, .inl (K 0, 16, .inl vf2)), (gs, .inl (K 0, 4, .inl sf2))] _ := hP
  have hD : va_D A [(h0, .inr (2, [.ref hv, .ref hs, .int (nI n), .int mask])), (hv, .inl (K 0, 16, .inl vf2)), (hs, .inl (K 0, 4, .inl (va_cpy sf2 sf (0 : Int32).toNatClampNeg (0 : Int32).toNatClampNeg (4 : Int32).toNatClampNeg))), (g0, .inr (2, [.ref gv, .ref gs, .int (nI n2), .int mask2])), (gv, .inl (K 0, 16, .inl vf2)), (gs, .inl (K 0, 4, .inl sf2))] := hD
  have hP : va_P D vwCl [(h0, .inr (2, [.ref hv, .ref hs, .int (nI n), .int mask])), (hv, .inl (K 0, 16, .inl vf2)), (hs, .inl (K 0, 4, .inl sf2)), (g0, .inr (2, [.ref gv, .ref gs, .int (nI n2), .int mask2])), (gv, .inl (K 0, 16, .inl vf2)), (gs, .inl (K 0, 4, .inl sf2))] _ := gP_ext hP 2 rfl (cpy_in 4 rfl)
  have hD : va_D A [(h0, .inr (2, [.ref hv, .ref hs, .int (nI n), .int mask])), (hv, .inl (K 0, 16, .inl vf2)), (hs, .inl (K 0, 4, .inl sf2)), (g0, .inr (2, [.ref gv, .ref gs, .int (nI n2), .int mask2])), (gv, .inl (K 0, 16, .inl vf2)), (gs, .inl (K 0, 4, .inl sf2))] := gD_ext hD 2 rfl
  refine lv_aload_n hx hb dX2_copyFrom_29 rfl (lv_at hl 0 rfl) ?_
  refine lv_aload_n hx hb dX2_copyFrom_30 rfl (lv_at hl 1 rfl) ?_
  refine va_get (D := D) (ci := 2) (v := .int (nI n2)) (C := RX2) (T := TX2) (N := 4) hx hb hts hi2 hown hK hP 3 rfl rfl 2 (by decide) (hts (.fieldLink RX2 18 "PairedChannels$Word" "places" "I") (List.mem_of_getElem? (i := 7) (by decide +kernel))) (fun _ h9 => h9) rfl dX2_copyFrom_31 ?_
  refine va_put (D := D) (ci := 2) (v := .int (nI n2)) (ty := .int) (C := RX2) (T := TX2) (N := 4) hx hb hts hi2 tyX2 tyX2_ok nmX2 hown hK hP hD hS 0 rfl rfl 2 (by decide) (hts (.fieldLink RX2 18 "PairedChannels$Word" "places" "I") (List.mem_of_getElem? (i := 7) (by decide +kernel))) (fun _ h9 => h9) rfl (by decide +kernel) (rfl) (rfl) (Nat.le_of_ble_eq_true rfl) dX2_copyFrom_34 (fun H locs hP hD hS => ?_)
  have hP : va_P D vwCl [(h0, .inr (2, [.ref hv, .ref hs, .int (nI n2), .int mask])), (hv, .inl (K 0, 16, .inl vf2)), (hs, .inl (K 0, 4, .inl sf2)), (g0, .inr (2, [.ref gv, .ref gs, .int (nI n2), .int mask2])), (gv, .inl (K 0, 16, .inl vf2)), (gs, .inl (K 0, 4, .inl sf2))] _ := hP
  have hD : va_D A [(h0, .inr (2, [.ref hv, .ref hs, .int (nI n2), .int mask])), (hv, .inl (K 0, 16, .inl vf2)), (hs, .inl (K 0, 4, .inl sf2)), (g0, .inr (2, [.ref gv, .ref gs, .int (nI n2), .int mask2])), (gv, .inl (K 0, 16, .inl vf2)), (gs, .inl (K 0, 4, .inl sf2))] := hD
  refine lv_aload_n hx hb dX2_copyFrom_37 rfl (lv_at hl 0 rfl) ?_
  refine lv_aload_n hx hb dX2_copyFrom_38 rfl (lv_at hl 1 rfl) ?_
  refine va_get (D := D) (ci := 2) (v := .int mask2) (C := RX2) (T := TX2) (N := 4) hx hb hts hi2 hown hK hP 3 rfl rfl 3 (by decide) (hts (.fieldLink RX2 28 "PairedChannels$Word" "openMask" "I") (List.mem_of_getElem? (i := 8) (by decide +kernel))) (fun _ h9 => h9) rfl dX2_copyFrom_39 ?_
  refine va_put (D := D) (ci := 2) (v := .int mask2) (ty := .int) (C := RX2) (T := TX2) (N := 4) hx hb hts hi2 tyX2 tyX2_ok nmX2 hown hK hP hD hS 0 rfl rfl 3 (by decide) (hts (.fieldLink RX2 28 "PairedChannels$Word" "openMask" "I") (List.mem_of_getElem? (i := 8) (by decide +kernel))) (fun _ h9 => h9) rfl (by decide +kernel) (rfl) (rfl) (Nat.le_of_ble_eq_true rfl) dX2_copyFrom_42 (fun H locs hP hD hS => ?_)
  have hP : va_P D vwCl [(h0, .inr (2, [.ref hv, .ref hs, .int (nI n2), .int mask2])), (hv, .inl (K 0, 16, .inl vf2)), (hs, .inl (K 0, 4, .inl sf2)), (g0, .inr (2, [.ref gv, .ref gs, .int (nI n2), .int mask2])), (gv, .inl (K 0, 16, .inl vf2)), (gs, .inl (K 0, 4, .inl sf2))] _ := hP
  have hD : va_D A [(h0, .inr (2, [.ref hv, .ref hs, .int (nI n2), .int mask2])), (hv, .inl (K 0, 16, .inl vf2)), (hs, .inl (K 0, 4, .inl sf2)), (g0, .inr (2, [.ref gv, .ref gs, .int (nI n2), .int mask2])), (gv, .inl (K 0, 16, .inl vf2)), (gs, .inl (K 0, 4, .inl sf2))] := hD
  exact gW_vret () hx hb hr hlk hK hP hD hS (trivial) dX2_copyFrom_45
