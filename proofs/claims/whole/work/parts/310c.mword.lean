set_option maxHeartbeats 4000000 in
set_option maxRecDepth 100000 in
theorem c_X4_messageOf (l : Launch) (D : va_G) (K : Nat → ClassId) (m0 : Nat) (m1 : Nat) (m2 : Nat) (m3 : Nat) (m4 : Nat) (m5 : Nat) (m6 : Nat) (m7 : Nat) (m8 : Nat) (m9 : Nat) (m10 : Nat) (th : Int32) (sy : Nat) (ly : Nat) (py : Nat) (ay : Nat) (iw : Bool) (ty : Nat) (hy : Int64) (n : Nat) (mask : Int32) (vf : Nat → Int32) (sf : Nat → Int32) (x : Int32) (hn : okN n) : MRi l yX4_messageOf wsX4_messageOf ({ frames := 1, cells := 0, slots := 0, locals := 21 } : Room) D (gTy K) [.ref m0, .int x] [(m0, .inr (4, [.int th, .ref m1, .ref m2, .ref m3, .int (nI sy), .ref m4, .int (nI ly), .ref m5, .ref m6, .int (nI py), .ref m7, .ref m8, .ref m9, .int (nI ay), .int (if iw = true then 1 else 0), .ref m10, .int (nI ty), .long hy])), (m1, .inl (K 0, 22, .inl (mst n mask vf sf)))] (fun r => r = mso mask x n) := by
  refine g_ofR (cc := cX4_messageOf) (maxL := 5) (ret := (some .int)) (own := RX4) (by decide) rfl rfl (Nat.le_of_ble_eq_true rfl) ?_
  intro pp ee s mm below meth cc hfx hK hP hE hS ls hl
  obtain ⟨hx, hb, hr, hml, hown, hts, hlk⟩ := hfx
  have hl : lv_has ls 5 [(0, .ref m0), (1, .int x)] := hl
  have hi4 : ∀ w ∈ u_ws RX4 TX4 18, w ∈ wsX4_messageOf := fun w h => List.mem_cons_of_mem _ (List.mem_append_right _ (h))
  have hnl := hn.le
  refine lv_iconst (v := 0) hx hb dX4_messageOf_0 (by decide) ?_
  refine lv_istore_n (lv' := [(2, .int 0), (0, .ref m0), (1, .int x)]) hx hb dX4_messageOf_1 rfl hl (by decide) rfl (fun ls hl => ?_)
  refine lv_iconst (v := 0) hx hb dX4_messageOf_2 (by decide) ?_
  refine lv_istore_n (lv' := [(3, .int 0), (2, .int 0), (0, .ref m0), (1, .int x)]) hx hb dX4_messageOf_3 rfl hl (by decide) rfl (fun ls hl => ?_)
  refine lv_iconst (v := 0) hx hb dX4_messageOf_4 (by decide) ?_
  refine lv_istore (lv' := [(4, .int 0), (3, .int 0), (2, .int 0), (0, .ref m0), (1, .int x)]) hx hb dX4_messageOf_5 hl (by decide) rfl (fun ls hl => ?_)
  refine g_loopW (st := []) (N := n) (fun i H locs ls => va_P D vwCl [(m0, .inr (4, [.int th, .ref m1, .ref m2, .ref m3, .int (nI sy), .ref m4, .int (nI ly), .ref m5, .ref m6, .int (nI py), .ref m7, .ref m8, .ref m9, .int (nI ay), .int (if iw = true then 1 else 0), .ref m10, .int (nI ty), .long hy])), (m1, .inl (K 0, 22, .inl (mst n mask vf sf)))] H ∧ va_S gNo s.heap H locs ∧ lv_has ls 5 [(4, .int (nI i)), (3, .int (nI (cntO mask i))), (2, .int (mso mask x i)), (0, .ref m0), (1, .int x)]) 0 (Nat.zero_le _) ?_ ?_ ?_
  · intro H locs ls hI
    obtain ⟨hP, hS, hl⟩ := hI
    refine lv_iload hx hb dX4_messageOf_7 (lv_at hl 0 rfl) ?_
    refine lv_aload_n hx hb dX4_messageOf_9 rfl (lv_at hl 3 rfl) ?_
    refine va_get (D := D) (ci := 4) (v := .ref m1) (C := RX4) (T := TX4) (N := 18) hx hb hts hi4 hown hK hP 0 rfl rfl 1 (by decide) (hts (.fieldLink RX4 7 "PairedChannelsModel" "s" "[I") (List.mem_of_getElem? (i := 1) (by decide +kernel))) (fun _ h9 => h9) rfl dX4_messageOf_10 ?_
    refine lv_iconst (v := 0) hx hb dX4_messageOf_13 (by decide) ?_
    refine wa_iald hx hb hK hP 1 0 rfl rfl (0) rfl (by omega) (by decide) dX4_messageOf_14 ?_
    refine lv_eqi (nI n) (rfl) ?_
    refine lv_icmp_ge (tgt := 65) hx hb dX4_messageOf_15 (by decide) (fun c2 => ?_) (fun c2 => ?_)
    · skip
      have c2 : n ≤ n := (nI_leI (a := n) (b := n) (by omega) (by omega)).mp c2
      refine lv_iload_n hx hb dX4_messageOf_65 rfl (lv_at hl 2 rfl) ?_
      exact gR_iret (v := mso mask x n) hx hb hr hlk (rfl) hS (rfl) dX4_messageOf_66
    · skip
      have c2 : ¬ n ≤ n := fun h9 => c2 ((nI_leI (a := n) (b := n) (by omega) (by omega)).mpr h9)
      omega
  · intro i hi ih1 H locs ls hI
    obtain ⟨hP, hS, hl⟩ := hI
    refine lv_iload hx hb dX4_messageOf_7 (lv_at hl 0 rfl) ?_
    refine lv_aload_n hx hb dX4_messageOf_9 rfl (lv_at hl 3 rfl) ?_
    refine va_get (D := D) (ci := 4) (v := .ref m1) (C := RX4) (T := TX4) (N := 18) hx hb hts hi4 hown hK hP 0 rfl rfl 1 (by decide) (hts (.fieldLink RX4 7 "PairedChannelsModel" "s" "[I") (List.mem_of_getElem? (i := 1) (by decide +kernel))) (fun _ h9 => h9) rfl dX4_messageOf_10 ?_
    refine lv_iconst (v := 0) hx hb dX4_messageOf_13 (by decide) ?_
    refine wa_iald hx hb hK hP 1 0 rfl rfl (0) rfl (by omega) (by decide) dX4_messageOf_14 ?_
    refine lv_eqi (nI n) (rfl) ?_
    refine lv_icmp_ge (tgt := 65) hx hb dX4_messageOf_15 (by decide) (fun c3 => ?_) (fun c3 => ?_)
    · skip
      have c3 : n ≤ i := (nI_leI (a := n) (b := i) (by omega) (by omega)).mp c3
      omega
    · skip
      have c3 : ¬ n ≤ i := fun h9 => c3 ((nI_leI (a := n) (b := i) (by omega) (by omega)).mpr h9)
      refine lv_iload_n hx hb dX4_messageOf_18 rfl (lv_at hl 2 rfl) ?_
      refine lv_aload_n hx hb dX4_messageOf_19 rfl (lv_at hl 3 rfl) ?_
      refine lv_iload hx hb dX4_messageOf_20 (lv_at hl 0 rfl) ?_
      refine gR_i (va_runV (As := [.int (nI i)]) (rest := [.int (mso mask x i)]) ⟨hx, hb, hml, hown, hts⟩ (c_X4_isOpen l D K m0 m1 m2 m3 m4 m5 m6 m7 m8 m9 m10 th sy ly py ay iw ty hy n mask vf sf i ) (cwV 1 hts gX4_messageOf_X4_isOpen rfl rfl rfl (by decide +kernel) ⟨Nat.le_of_ble_eq_true rfl, Nat.le_of_ble_eq_true rfl⟩) (gR_preV hE hS hK hP [0, 1] rfl 0 rfl rfl rfl) rfl rfl hl.1 rfl (lv_room (Nat.le_of_ble_eq_true rfl)) dX4_messageOf_22 ⟨Nat.le_of_ble_eq_true rfl, Nat.le_of_ble_eq_true rfl⟩) hS hP (fun rv5 H locs h4 hP hS => ?_)
      have h4 : rv5 = (if opn mask i then 1 else 0) := h4
      subst h4
      refine g_cut (F0 mm 40 ls [.int (if opn mask i then ((bitI x i) <<< ((nI (cntO mask i)) &&& 31)) else 0), .int (mso mask x i)]) (fun hJ => ?_) ?_
      · refine lv_if_eq (tgt := 39) hx hb dX4_messageOf_25 (by decide) (fun c6 => ?_) (fun c6 => ?_)
        · skip
          have c6 : ¬ (opn mask i) := b_eq0 c6
          refine lv_iconst (v := 0) hx hb dX4_messageOf_39 (by decide) ?_
          refine lv_eqi ((if opn mask i then ((bitI x i) <<< ((nI (cntO mask i)) &&& 31)) else 0)) (if_neg c6).symm ?_
          exact hJ
        · skip
          have c6 : opn mask i := b_ne0 c6
          refine lv_iload_n hx hb dX4_messageOf_28 rfl (lv_at hl 4 rfl) ?_
          refine lv_iload hx hb dX4_messageOf_29 (lv_at hl 0 rfl) ?_
          refine lv_ishr hx hb dX4_messageOf_31 ?_
          refine lv_iconst (v := 1) hx hb dX4_messageOf_32 (by decide) ?_
          refine lv_iand hx hb dX4_messageOf_33 ?_
          refine lv_eqi (bitI x i) rfl ?_
          refine lv_iload_n hx hb dX4_messageOf_34 rfl (lv_at hl 1 rfl) ?_
          refine lv_ishl hx hb dX4_messageOf_35 ?_
          refine lv_goto (tgt := 40) hx hb dX4_messageOf_36 (by decide) ?_
          refine lv_eqi ((if opn mask i then ((bitI x i) <<< ((nI (cntO mask i)) &&& 31)) else 0)) (if_pos c6).symm ?_
          exact hJ
      · skip
        refine lv_ior hx hb dX4_messageOf_40 ?_
        refine lv_istore_n (lv' := [(2, .int (mso mask x i ||| (if opn mask i then ((bitI x i) <<< ((nI (cntO mask i)) &&& 31)) else 0))), (4, .int (nI i)), (3, .int (nI (cntO mask i))), (0, .ref m0), (1, .int x)]) hx hb dX4_messageOf_41 rfl hl (by decide) rfl (fun ls hl => ?_)
        refine lv_iload_n hx hb dX4_messageOf_42 rfl (lv_at hl 2 rfl) ?_
        refine lv_aload_n hx hb dX4_messageOf_43 rfl (lv_at hl 3 rfl) ?_
        refine lv_iload hx hb dX4_messageOf_44 (lv_at hl 1 rfl) ?_
        refine gR_i (va_runV (As := [.int (nI i)]) (rest := [.int (nI (cntO mask i))]) ⟨hx, hb, hml, hown, hts⟩ (c_X4_isOpen l D K m0 m1 m2 m3 m4 m5 m6 m7 m8 m9 m10 th sy ly py ay iw ty hy n mask vf sf i ) (cwV 1 hts gX4_messageOf_X4_isOpen rfl rfl rfl (by decide +kernel) ⟨Nat.le_of_ble_eq_true rfl, Nat.le_of_ble_eq_true rfl⟩) (gR_preV hE hS hK hP [0, 1] rfl 0 rfl rfl rfl) rfl rfl hl.1 rfl (lv_room (Nat.le_of_ble_eq_true rfl)) dX4_messageOf_46 ⟨Nat.le_of_ble_eq_true rfl, Nat.le_of_ble_eq_true rfl⟩) hS hP (fun rv8 H locs h7 hP hS => ?_)
        have h7 : rv8 = (if opn mask i then 1 else 0) := h7
        subst h7
        refine g_cut (F0 mm 57 ls [.int (if opn mask i then 1 else 0), .int (nI (cntO mask i))]) (fun hJ => ?_) ?_
        · refine lv_if_eq (tgt := 56) hx hb dX4_messageOf_49 (by decide) (fun c9 => ?_) (fun c9 => ?_)
          · skip
            have c9 : ¬ (opn mask i) := b_eq0 c9
            refine lv_iconst (v := 0) hx hb dX4_messageOf_56 (by decide) ?_
            refine lv_eqi ((if opn mask i then 1 else 0)) (if_neg c9).symm ?_
            exact hJ
          · skip
            have c9 : opn mask i := b_ne0 c9
            refine lv_iconst (v := 1) hx hb dX4_messageOf_52 (by decide) ?_
            refine lv_goto (tgt := 57) hx hb dX4_messageOf_53 (by decide) ?_
            refine lv_eqi ((if opn mask i then 1 else 0)) (if_pos c9).symm ?_
            exact hJ
        · skip
          refine lv_iadd hx hb dX4_messageOf_57 ?_
          refine lv_istore_n (lv' := [(3, .int (nI (cntO mask i) + (if opn mask i then 1 else 0))), (2, .int (mso mask x i ||| (if opn mask i then ((bitI x i) <<< ((nI (cntO mask i)) &&& 31)) else 0))), (4, .int (nI i)), (0, .ref m0), (1, .int x)]) hx hb dX4_messageOf_58 rfl hl (by decide) rfl (fun ls hl => ?_)
          refine lv_iinc (v := nI (i + 1)) (lv' := [(4, .int (nI (i + 1))), (3, .int (nI (cntO mask i) + (if opn mask i then 1 else 0))), (2, .int (mso mask x i ||| (if opn mask i then ((bitI x i) <<< ((nI (cntO mask i)) &&& 31)) else 0))), (0, .ref m0), (1, .int x)]) hx hb dX4_messageOf_59 hl (k := 2) rfl (nI_add i 1) (by decide) rfl (fun ls hl => ?_)
          refine lv_goto (tgt := 7) hx hb dX4_messageOf_62 (by decide) ?_
          have e9 : (mso mask x i ||| (if opn mask i then ((bitI x i) <<< ((nI (cntO mask i)) &&& 31)) else 0)) = (mso mask x (i + 1)) := or_if _ _ _
          rw [e9] at hl
          have e9 : (nI (cntO mask i) + (if opn mask i then 1 else 0)) = (nI (cntO mask (i + 1))) := nI_ite _ _
          rw [e9] at hl
          exact ih1 H locs ls ⟨hP, hS, lv_sub hl [0, 1, 2, 3, 4] rfl⟩
  · exact ⟨hP, hS, lv_sub hl [0, 1, 2, 3, 4] rfl⟩

set_option maxHeartbeats 4000000 in
set_option maxRecDepth 100000 in
theorem c_X4_bitsOf (l : Launch) (D : va_G) (K : Nat → ClassId) (m0 : Nat) (m1 : Nat) (m2 : Nat) (m3 : Nat) (m4 : Nat) (m5 : Nat) (m6 : Nat) (m7 : Nat) (m8 : Nat) (m9 : Nat) (m10 : Nat) (th : Int32) (sy : Nat) (ly : Nat) (py : Nat) (ay : Nat) (iw : Bool) (ty : Nat) (hy : Int64) (n : Nat) (mask : Int32) (vf : Nat → Int32) (sf : Nat → Int32) (x : Int32) (hn : okN n) : MRi l yX4_bitsOf wsX4_bitsOf ({ frames := 1, cells := 0, slots := 0, locals := 21 } : Room) D (gTy K) [.ref m0, .int x] [(m0, .inr (4, [.int th, .ref m1, .ref m2, .ref m3, .int (nI sy), .ref m4, .int (nI ly), .ref m5, .ref m6, .int (nI py), .ref m7, .ref m8, .ref m9, .int (nI ay), .int (if iw = true then 1 else 0), .ref m10, .int (nI ty), .long hy])), (m1, .inl (K 0, 22, .inl (mst n mask vf sf)))] (fun r => r = wrd mask x n) := by
  refine g_ofR (cc := cX4_bitsOf) (maxL := 5) (ret := (some .int)) (own := RX4) (by decide) rfl rfl (Nat.le_of_ble_eq_true rfl) ?_
  intro pp ee s mm below meth cc hfx hK hP hE hS ls hl
  obtain ⟨hx, hb, hr, hml, hown, hts, hlk⟩ := hfx
  have hl : lv_has ls 5 [(0, .ref m0), (1, .int x)] := hl
  have hi4 : ∀ w ∈ u_ws RX4 TX4 18, w ∈ wsX4_bitsOf := fun w h => List.mem_cons_of_mem _ (List.mem_append_right _ (h))
  have hnl := hn.le
  refine lv_iconst (v := 0) hx hb dX4_bitsOf_0 (by decide) ?_
  refine lv_istore_n (lv' := [(2, .int 0), (0, .ref m0), (1, .int x)]) hx hb dX4_bitsOf_1 rfl hl (by decide) rfl (fun ls hl => ?_)
  refine lv_iconst (v := 0) hx hb dX4_bitsOf_2 (by decide) ?_
  refine lv_istore_n (lv' := [(3, .int 0), (2, .int 0), (0, .ref m0), (1, .int x)]) hx hb dX4_bitsOf_3 rfl hl (by decide) rfl (fun ls hl => ?_)
  refine lv_iconst (v := 0) hx hb dX4_bitsOf_4 (by decide) ?_
  refine lv_istore (lv' := [(4, .int 0), (3, .int 0), (2, .int 0), (0, .ref m0), (1, .int x)]) hx hb dX4_bitsOf_5 hl (by decide) rfl (fun ls hl => ?_)
  refine g_loopW (st := []) (N := n) (fun i H locs ls => va_P D vwCl [(m0, .inr (4, [.int th, .ref m1, .ref m2, .ref m3, .int (nI sy), .ref m4, .int (nI ly), .ref m5, .ref m6, .int (nI py), .ref m7, .ref m8, .ref m9, .int (nI ay), .int (if iw = true then 1 else 0), .ref m10, .int (nI ty), .long hy])), (m1, .inl (K 0, 22, .inl (mst n mask vf sf)))] H ∧ va_S gNo s.heap H locs ∧ lv_has ls 5 [(4, .int (nI i)), (3, .int (nI (cntO mask i))), (2, .int (wrd mask x i)), (0, .ref m0), (1, .int x)]) 0 (Nat.zero_le _) ?_ ?_ ?_
  · intro H locs ls hI
    obtain ⟨hP, hS, hl⟩ := hI
    refine lv_iload hx hb dX4_bitsOf_7 (lv_at hl 0 rfl) ?_
    refine lv_aload_n hx hb dX4_bitsOf_9 rfl (lv_at hl 3 rfl) ?_
    refine va_get (D := D) (ci := 4) (v := .ref m1) (C := RX4) (T := TX4) (N := 18) hx hb hts hi4 hown hK hP 0 rfl rfl 1 (by decide) (hts (.fieldLink RX4 7 "PairedChannelsModel" "s" "[I") (List.mem_of_getElem? (i := 1) (by decide +kernel))) (fun _ h9 => h9) rfl dX4_bitsOf_10 ?_
    refine lv_iconst (v := 0) hx hb dX4_bitsOf_13 (by decide) ?_
    refine wa_iald hx hb hK hP 1 0 rfl rfl (0) rfl (by omega) (by decide) dX4_bitsOf_14 ?_
    refine lv_eqi (nI n) (rfl) ?_
    refine lv_icmp_ge (tgt := 65) hx hb dX4_bitsOf_15 (by decide) (fun c2 => ?_) (fun c2 => ?_)
    · skip
      have c2 : n ≤ n := (nI_leI (a := n) (b := n) (by omega) (by omega)).mp c2
      refine lv_iload_n hx hb dX4_bitsOf_65 rfl (lv_at hl 2 rfl) ?_
      exact gR_iret (v := wrd mask x n) hx hb hr hlk (rfl) hS (rfl) dX4_bitsOf_66
    · skip
      have c2 : ¬ n ≤ n := fun h9 => c2 ((nI_leI (a := n) (b := n) (by omega) (by omega)).mpr h9)
      omega
  · intro i hi ih1 H locs ls hI
    obtain ⟨hP, hS, hl⟩ := hI
    refine lv_iload hx hb dX4_bitsOf_7 (lv_at hl 0 rfl) ?_
    refine lv_aload_n hx hb dX4_bitsOf_9 rfl (lv_at hl 3 rfl) ?_
    refine va_get (D := D) (ci := 4) (v := .ref m1) (C := RX4) (T := TX4) (N := 18) hx hb hts hi4 hown hK hP 0 rfl rfl 1 (by decide) (hts (.fieldLink RX4 7 "PairedChannelsModel" "s" "[I") (List.mem_of_getElem? (i := 1) (by decide +kernel))) (fun _ h9 => h9) rfl dX4_bitsOf_10 ?_
    refine lv_iconst (v := 0) hx hb dX4_bitsOf_13 (by decide) ?_
    refine wa_iald hx hb hK hP 1 0 rfl rfl (0) rfl (by omega) (by decide) dX4_bitsOf_14 ?_
    refine lv_eqi (nI n) (rfl) ?_
    refine lv_icmp_ge (tgt := 65) hx hb dX4_bitsOf_15 (by decide) (fun c3 => ?_) (fun c3 => ?_)
    · skip
      have c3 : n ≤ i := (nI_leI (a := n) (b := i) (by omega) (by omega)).mp c3
      omega
    · skip
      have c3 : ¬ n ≤ i := fun h9 => c3 ((nI_leI (a := n) (b := i) (by omega) (by omega)).mpr h9)
      refine lv_iload_n hx hb dX4_bitsOf_18 rfl (lv_at hl 2 rfl) ?_
      refine lv_aload_n hx hb dX4_bitsOf_19 rfl (lv_at hl 3 rfl) ?_
      refine lv_iload hx hb dX4_bitsOf_20 (lv_at hl 0 rfl) ?_
      refine gR_i (va_runV (As := [.int (nI i)]) (rest := [.int (wrd mask x i)]) ⟨hx, hb, hml, hown, hts⟩ (c_X4_isOpen l D K m0 m1 m2 m3 m4 m5 m6 m7 m8 m9 m10 th sy ly py ay iw ty hy n mask vf sf i ) (cwV 1 hts gX4_bitsOf_X4_isOpen rfl rfl rfl (by decide +kernel) ⟨Nat.le_of_ble_eq_true rfl, Nat.le_of_ble_eq_true rfl⟩) (gR_preV hE hS hK hP [0, 1] rfl 0 rfl rfl rfl) rfl rfl hl.1 rfl (lv_room (Nat.le_of_ble_eq_true rfl)) dX4_bitsOf_22 ⟨Nat.le_of_ble_eq_true rfl, Nat.le_of_ble_eq_true rfl⟩) hS hP (fun rv5 H locs h4 hP hS => ?_)
      have h4 : rv5 = (if opn mask i then 1 else 0) := h4
      subst h4
      refine g_cut (F0 mm 40 ls [.int (if opn mask i then ((bitI x (cntO mask i)) <<< ((nI i) &&& 31)) else 0), .int (wrd mask x i)]) (fun hJ => ?_) ?_
      · refine lv_if_eq (tgt := 39) hx hb dX4_bitsOf_25 (by decide) (fun c6 => ?_) (fun c6 => ?_)
        · skip
          have c6 : ¬ (opn mask i) := b_eq0 c6
          refine lv_iconst (v := 0) hx hb dX4_bitsOf_39 (by decide) ?_
          refine lv_eqi ((if opn mask i then ((bitI x (cntO mask i)) <<< ((nI i) &&& 31)) else 0)) (if_neg c6).symm ?_
          exact hJ
        · skip
          have c6 : opn mask i := b_ne0 c6
          refine lv_iload_n hx hb dX4_bitsOf_28 rfl (lv_at hl 4 rfl) ?_
          refine lv_iload_n hx hb dX4_bitsOf_29 rfl (lv_at hl 1 rfl) ?_
          refine lv_ishr hx hb dX4_bitsOf_30 ?_
          refine lv_iconst (v := 1) hx hb dX4_bitsOf_31 (by decide) ?_
          refine lv_iand hx hb dX4_bitsOf_32 ?_
          refine lv_eqi (bitI x (cntO mask i)) rfl ?_
          refine lv_iload hx hb dX4_bitsOf_33 (lv_at hl 0 rfl) ?_
          refine lv_ishl hx hb dX4_bitsOf_35 ?_
          refine lv_goto (tgt := 40) hx hb dX4_bitsOf_36 (by decide) ?_
          refine lv_eqi ((if opn mask i then ((bitI x (cntO mask i)) <<< ((nI i) &&& 31)) else 0)) (if_pos c6).symm ?_
          exact hJ
      · skip
        refine lv_ior hx hb dX4_bitsOf_40 ?_
        refine lv_istore_n (lv' := [(2, .int (wrd mask x i ||| (if opn mask i then ((bitI x (cntO mask i)) <<< ((nI i) &&& 31)) else 0))), (4, .int (nI i)), (3, .int (nI (cntO mask i))), (0, .ref m0), (1, .int x)]) hx hb dX4_bitsOf_41 rfl hl (by decide) rfl (fun ls hl => ?_)
        refine lv_iload_n hx hb dX4_bitsOf_42 rfl (lv_at hl 2 rfl) ?_
        refine lv_aload_n hx hb dX4_bitsOf_43 rfl (lv_at hl 3 rfl) ?_
        refine lv_iload hx hb dX4_bitsOf_44 (lv_at hl 1 rfl) ?_
        refine gR_i (va_runV (As := [.int (nI i)]) (rest := [.int (nI (cntO mask i))]) ⟨hx, hb, hml, hown, hts⟩ (c_X4_isOpen l D K m0 m1 m2 m3 m4 m5 m6 m7 m8 m9 m10 th sy ly py ay iw ty hy n mask vf sf i ) (cwV 1 hts gX4_bitsOf_X4_isOpen rfl rfl rfl (by decide +kernel) ⟨Nat.le_of_ble_eq_true rfl, Nat.le_of_ble_eq_true rfl⟩) (gR_preV hE hS hK hP [0, 1] rfl 0 rfl rfl rfl) rfl rfl hl.1 rfl (lv_room (Nat.le_of_ble_eq_true rfl)) dX4_bitsOf_46 ⟨Nat.le_of_ble_eq_true rfl, Nat.le_of_ble_eq_true rfl⟩) hS hP (fun rv8 H locs h7 hP hS => ?_)
        have h7 : rv8 = (if opn mask i then 1 else 0) := h7
        subst h7
        refine g_cut (F0 mm 57 ls [.int (if opn mask i then 1 else 0), .int (nI (cntO mask i))]) (fun hJ => ?_) ?_
        · refine lv_if_eq (tgt := 56) hx hb dX4_bitsOf_49 (by decide) (fun c9 => ?_) (fun c9 => ?_)
          · skip
            have c9 : ¬ (opn mask i) := b_eq0 c9
            refine lv_iconst (v := 0) hx hb dX4_bitsOf_56 (by decide) ?_
            refine lv_eqi ((if opn mask i then 1 else 0)) (if_neg c9).symm ?_
            exact hJ
          · skip
            have c9 : opn mask i := b_ne0 c9
            refine lv_iconst (v := 1) hx hb dX4_bitsOf_52 (by decide) ?_
            refine lv_goto (tgt := 57) hx hb dX4_bitsOf_53 (by decide) ?_
            refine lv_eqi ((if opn mask i then 1 else 0)) (if_pos c9).symm ?_
            exact hJ
        · skip
          refine lv_iadd hx hb dX4_bitsOf_57 ?_
          refine lv_istore_n (lv' := [(3, .int (nI (cntO mask i) + (if opn mask i then 1 else 0))), (2, .int (wrd mask x i ||| (if opn mask i then ((bitI x (cntO mask i)) <<< ((nI i) &&& 31)) else 0))), (4, .int (nI i)), (0, .ref m0), (1, .int x)]) hx hb dX4_bitsOf_58 rfl hl (by decide) rfl (fun ls hl => ?_)
          refine lv_iinc (v := nI (i + 1)) (lv' := [(4, .int (nI (i + 1))), (3, .int (nI (cntO mask i) + (if opn mask i then 1 else 0))), (2, .int (wrd mask x i ||| (if opn mask i then ((bitI x (cntO mask i)) <<< ((nI i) &&& 31)) else 0))), (0, .ref m0), (1, .int x)]) hx hb dX4_bitsOf_59 hl (k := 2) rfl (nI_add i 1) (by decide) rfl (fun ls hl => ?_)
          refine lv_goto (tgt := 7) hx hb dX4_bitsOf_62 (by decide) ?_
          have e9 : (wrd mask x i ||| (if opn mask i then ((bitI x (cntO mask i)) <<< ((nI i) &&& 31)) else 0)) = (wrd mask x (i + 1)) := or_if _ _ _
          rw [e9] at hl
          have e9 : (nI (cntO mask i) + (if opn mask i then 1 else 0)) = (nI (cntO mask (i + 1))) := nI_ite _ _
          rw [e9] at hl
          exact ih1 H locs ls ⟨hP, hS, lv_sub hl [0, 1, 2, 3, 4] rfl⟩
  · exact ⟨hP, hS, lv_sub hl [0, 1, 2, 3, 4] rfl⟩

set_option maxHeartbeats 4000000 in
set_option maxRecDepth 100000 in
theorem c_X4_sumOf (l : Launch) (D : va_G) (K : Nat → ClassId) (m0 : Nat) (m1 : Nat) (m2 : Nat) (m3 : Nat) (m4 : Nat) (m5 : Nat) (m6 : Nat) (m7 : Nat) (m8 : Nat) (m9 : Nat) (m10 : Nat) (th : Int32) (sy : Nat) (ly : Nat) (py : Nat) (ay : Nat) (iw : Bool) (ty : Nat) (hy : Int64) (n : Nat) (mask : Int32) (vf : Nat → Int32) (sf : Nat → Int32) (x : Int32) (hn : okN n) (hsf : okS sf) : MRi l yX4_sumOf wsX4_sumOf ({ frames := 4, cells := 0, slots := 0, locals := 84 } : Room) D (gTy K) [.ref m0, .int x] [(m0, .inr (4, [.int th, .ref m1, .ref m2, .ref m3, .int (nI sy), .ref m4, .int (nI ly), .ref m5, .ref m6, .int (nI py), .ref m7, .ref m8, .ref m9, .int (nI ay), .int (if iw = true then 1 else 0), .ref m10, .int (nI ty), .long hy])), (m1, .inl (K 0, 22, .inl (mst n mask vf sf)))] (fun r => r = chk x (bdB mask n sf) (ckB mask n sf)) := by
  refine g_ofR (cc := cX4_sumOf) (maxL := 4) (ret := (some .int)) (own := RX4) (by decide) rfl rfl (Nat.le_of_ble_eq_true rfl) ?_
  intro pp ee s mm below meth cc hfx hK hP hE hS ls hl
  obtain ⟨hx, hb, hr, hml, hown, hts, hlk⟩ := hfx
  have hl : lv_has ls 4 [(0, .ref m0), (1, .int x)] := hl
  have hnl := hn.le
  have hbd := bdB_le mask n sf
  refine lv_iconst (v := 0) hx hb dX4_sumOf_0 (by decide) ?_
  refine lv_istore_n (lv' := [(2, .int 0), (0, .ref m0), (1, .int x)]) hx hb dX4_sumOf_1 rfl hl (by decide) rfl (fun ls hl => ?_)
  refine lv_iconst (v := 0) hx hb dX4_sumOf_2 (by decide) ?_
  refine lv_istore_n (lv' := [(3, .int 0), (2, .int 0), (0, .ref m0), (1, .int x)]) hx hb dX4_sumOf_3 rfl hl (by decide) rfl (fun ls hl => ?_)
  refine g_loopW (st := []) (N := bdB mask n sf) (fun i H locs ls => va_P D vwCl [(m0, .inr (4, [.int th, .ref m1, .ref m2, .ref m3, .int (nI sy), .ref m4, .int (nI ly), .ref m5, .ref m6, .int (nI py), .ref m7, .ref m8, .ref m9, .int (nI ay), .int (if iw = true then 1 else 0), .ref m10, .int (nI ty), .long hy])), (m1, .inl (K 0, 22, .inl (mst n mask vf sf)))] H ∧ va_S gNo s.heap H locs ∧ lv_has ls 4 [(3, .int (nI i)), (2, .int (sumC x i)), (0, .ref m0), (1, .int x)]) 0 (Nat.zero_le _) ?_ ?_ ?_
  · intro H locs ls hI
    obtain ⟨hP, hS, hl⟩ := hI
    refine lv_iload_n hx hb dX4_sumOf_4 rfl (lv_at hl 0 rfl) ?_
    refine lv_aload_n hx hb dX4_sumOf_5 rfl (lv_at hl 2 rfl) ?_
    refine gR_i (va_runV (As := []) (rest := [.int (nI (bdB mask n sf))]) ⟨hx, hb, hml, hown, hts⟩ (c_X4_bodyMany l D K m0 m1 m2 m3 m4 m5 m6 m7 m8 m9 m10 th sy ly py ay iw ty hy n mask vf sf (by first | assumption | omega) (by first | assumption | omega)) (cwV 0 hts gX4_sumOf_X4_bodyMany rfl rfl rfl (by decide +kernel) ⟨Nat.le_of_ble_eq_true rfl, Nat.le_of_ble_eq_true rfl⟩) (gR_preV hE hS hK hP [0, 1] rfl 0 rfl rfl rfl) rfl rfl hl.1 rfl (lv_room (Nat.le_of_ble_eq_true rfl)) dX4_sumOf_6 ⟨Nat.le_of_ble_eq_true rfl, Nat.le_of_ble_eq_true rfl⟩) hS hP (fun rv3 H locs h2 hP hS => ?_)
    have h2 : rv3 = nI (bdB mask n sf) := h2
    subst h2
    refine lv_icmp_ge (tgt := 30) hx hb dX4_sumOf_9 (by decide) (fun c4 => ?_) (fun c4 => ?_)
    · skip
      have c4 : bdB mask n sf ≤ (bdB mask n sf) := (nI_leI (a := bdB mask n sf) (b := (bdB mask n sf)) (by omega) (by omega)).mp c4
      refine lv_iload_n hx hb dX4_sumOf_30 rfl (lv_at hl 1 rfl) ?_
      refine lv_iconst (v := 1) hx hb dX4_sumOf_31 (by decide) ?_
      refine lv_aload_n hx hb dX4_sumOf_32 rfl (lv_at hl 2 rfl) ?_
      refine gR_i (va_runV (As := []) (rest := [.int 1, .int (sumC x (bdB mask n sf))]) ⟨hx, hb, hml, hown, hts⟩ (c_X4_checkMany l D K m0 m1 m2 m3 m4 m5 m6 m7 m8 m9 m10 th sy ly py ay iw ty hy n mask vf sf (by first | assumption | omega) (by first | assumption | omega)) (cwV 0 hts gX4_sumOf_X4_checkMany rfl rfl rfl (by decide +kernel) ⟨Nat.le_of_ble_eq_true rfl, Nat.le_of_ble_eq_true rfl⟩) (gR_preV hE hS hK hP [0, 1] rfl 0 rfl rfl rfl) rfl rfl hl.1 rfl (lv_room (Nat.le_of_ble_eq_true rfl)) dX4_sumOf_33 ⟨Nat.le_of_ble_eq_true rfl, Nat.le_of_ble_eq_true rfl⟩) hS hP (fun rv6 H locs h5 hP hS => ?_)
      have h5 : rv6 = nI (ckB mask n sf) := h5
      subst h5
      refine lv_ishl hx hb dX4_sumOf_36 ?_
      refine lv_iconst (v := 1) hx hb dX4_sumOf_37 (by decide) ?_
      refine lv_isub hx hb dX4_sumOf_38 ?_
      refine lv_iand hx hb dX4_sumOf_39 ?_
      exact gR_iret (v := (sumC x (bdB mask n sf) &&& ((1 <<< ((nI (ckB mask n sf)) &&& 31)) - 1))) hx hb hr hlk (rfl) hS (rfl) dX4_sumOf_40
    · skip
      have c4 : ¬ bdB mask n sf ≤ (bdB mask n sf) := fun h9 => c4 ((nI_leI (a := bdB mask n sf) (b := (bdB mask n sf)) (by omega) (by omega)).mpr h9)
      omega
  · intro i hi ih1 H locs ls hI
    obtain ⟨hP, hS, hl⟩ := hI
    refine lv_iload_n hx hb dX4_sumOf_4 rfl (lv_at hl 0 rfl) ?_
    refine lv_aload_n hx hb dX4_sumOf_5 rfl (lv_at hl 2 rfl) ?_
    refine gR_i (va_runV (As := []) (rest := [.int (nI i)]) ⟨hx, hb, hml, hown, hts⟩ (c_X4_bodyMany l D K m0 m1 m2 m3 m4 m5 m6 m7 m8 m9 m10 th sy ly py ay iw ty hy n mask vf sf (by first | assumption | omega) (by first | assumption | omega)) (cwV 0 hts gX4_sumOf_X4_bodyMany rfl rfl rfl (by decide +kernel) ⟨Nat.le_of_ble_eq_true rfl, Nat.le_of_ble_eq_true rfl⟩) (gR_preV hE hS hK hP [0, 1] rfl 0 rfl rfl rfl) rfl rfl hl.1 rfl (lv_room (Nat.le_of_ble_eq_true rfl)) dX4_sumOf_6 ⟨Nat.le_of_ble_eq_true rfl, Nat.le_of_ble_eq_true rfl⟩) hS hP (fun rv8 H locs h7 hP hS => ?_)
    have h7 : rv8 = nI (bdB mask n sf) := h7
    subst h7
    refine lv_icmp_ge (tgt := 30) hx hb dX4_sumOf_9 (by decide) (fun c9 => ?_) (fun c9 => ?_)
    · skip
      have c9 : bdB mask n sf ≤ i := (nI_leI (a := bdB mask n sf) (b := i) (by omega) (by omega)).mp c9
      omega
    · skip
      have c9 : ¬ bdB mask n sf ≤ i := fun h9 => c9 ((nI_leI (a := bdB mask n sf) (b := i) (by omega) (by omega)).mpr h9)
      refine lv_iload_n hx hb dX4_sumOf_12 rfl (lv_at hl 1 rfl) ?_
      refine lv_iload_n hx hb dX4_sumOf_13 rfl (lv_at hl 3 rfl) ?_
      refine lv_iload_n hx hb dX4_sumOf_14 rfl (lv_at hl 0 rfl) ?_
      refine lv_ishr hx hb dX4_sumOf_15 ?_
      refine lv_iconst (v := 1) hx hb dX4_sumOf_16 (by decide) ?_
      refine lv_iand hx hb dX4_sumOf_17 ?_
      refine lv_eqi (bitI x i) rfl ?_
      refine lv_iload_n hx hb dX4_sumOf_18 rfl (lv_at hl 0 rfl) ?_
      refine lv_iconst (v := 1) hx hb dX4_sumOf_19 (by decide) ?_
      refine lv_iadd hx hb dX4_sumOf_20 ?_
      refine lv_eqi (nI (i + 1)) (nI_add i 1) ?_
      refine lv_imul hx hb dX4_sumOf_21 ?_
      refine lv_iadd hx hb dX4_sumOf_22 ?_
      refine lv_istore_n (lv' := [(2, .int (sumC x i + (bitI x i * nI (i + 1)))), (3, .int (nI i)), (0, .ref m0), (1, .int x)]) hx hb dX4_sumOf_23 rfl hl (by decide) rfl (fun ls hl => ?_)
      refine lv_iinc (v := nI (i + 1)) (lv' := [(3, .int (nI (i + 1))), (2, .int (sumC x i + (bitI x i * nI (i + 1)))), (0, .ref m0), (1, .int x)]) hx hb dX4_sumOf_24 hl (k := 1) rfl (nI_add i 1) (by decide) rfl (fun ls hl => ?_)
      refine lv_goto (tgt := 4) hx hb dX4_sumOf_27 (by decide) ?_
      have e9 : (sumC x i + (bitI x i * nI (i + 1))) = (sumC x (i + 1)) := rfl
      rw [e9] at hl
      exact ih1 H locs ls ⟨hP, hS, lv_sub hl [0, 1, 2, 3] rfl⟩
  · exact ⟨hP, hS, lv_sub hl [0, 1, 2, 3] rfl⟩
