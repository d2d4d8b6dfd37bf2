set_option maxHeartbeats 4000000 in
set_option maxRecDepth 100000 in
theorem c_X4_pairs (l : Launch) (D : va_G) (K : Nat → ClassId) (m0 : Nat) (m1 : Nat) (m2 : Nat) (m3 : Nat) (m4 : Nat) (m5 : Nat) (m6 : Nat) (m7 : Nat) (m8 : Nat) (m9 : Nat) (m10 : Nat) (th : Int32) (sy : Nat) (ly : Nat) (py : Nat) (ay : Nat) (iw : Bool) (ty : Nat) (hy : Int64) (h : Nat) (fw : Nat → Int32) (hh : 2 * h ≤ 16) : MWv l yX4_pairs wsX4_pairs ({ frames := 1, cells := 0, slots := 0, locals := 20 } : Room) D (gTy K) [.ref m0, .int (nI h)] [(m0, .inr (4, [.int th, .ref m1, .ref m2, .ref m3, .int (nI sy), .ref m4, .int (nI ly), .ref m5, .ref m6, .int (nI py), .ref m7, .ref m8, .ref m9, .int (nI ay), .int (if iw = true then 1 else 0), .ref m10, .int (nI ty), .long hy])), (m9, .inl (K 0, 16, .inl fw))] (fun (u : Unit) => [(m0, .inr (4, [.int th, .ref m1, .ref m2, .ref m3, .int (nI sy), .ref m4, .int (nI ly), .ref m5, .ref m6, .int (nI py), .ref m7, .ref m8, .ref m9, .int (nI ay), .int (if iw = true then 1 else 0), .ref m10, .int (nI ty), .long hy])), (m9, .inl (K 0, 16, .inl (puR h fw h)))]) (fun (u : Unit) => True) 0 0 := by
  refine g_ofW (Qc := fun A => va_Qv _ (gB D (gTy K) A _) A) (cc := cX4_pairs) (maxL := 6) (ret := none) (own := RX4) (by decide) rfl rfl (Nat.le_of_ble_eq_true rfl) ?_
  intro pp ee s mm below meth cc A hfx hnm hK hP hD hE hS hA ls hl
  obtain ⟨hx, hb, hr, hml, hown, hts, hlk⟩ := hfx
  have hl : lv_has ls 6 [(0, .ref m0), (1, .int (nI h))] := hl
  have hi4 : ∀ w ∈ u_ws RX4 TX4 18, w ∈ wsX4_pairs := fun w h => List.mem_cons_of_mem _ (List.mem_append_right _ (h))
  refine lv_iconst (v := 0) hx hb dX4_pairs_0 (by decide) ?_
  refine lv_istore_n (lv' := [(2, .int 0), (0, .ref m0), (1, .int (nI h))]) hx hb dX4_pairs_1 rfl hl (by decide) rfl (fun ls hl => ?_)
  have e1 : fw = (puR h fw 0) := (puR_0 h fw).symm
  rw [e1] at hP hD
  have hP : va_P D vwCl [(m0, .inr (4, [.int th, .ref m1, .ref m2, .ref m3, .int (nI sy), .ref m4, .int (nI ly), .ref m5, .ref m6, .int (nI py), .ref m7, .ref m8, .ref m9, .int (nI ay), .int (if iw = true then 1 else 0), .ref m10, .int (nI ty), .long hy])), (m9, .inl (K 0, 16, .inl (puR h fw 0)))] _ := hP
  have hD : va_D A [(m0, .inr (4, [.int th, .ref m1, .ref m2, .ref m3, .int (nI sy), .ref m4, .int (nI ly), .ref m5, .ref m6, .int (nI py), .ref m7, .ref m8, .ref m9, .int (nI ay), .int (if iw = true then 1 else 0), .ref m10, .int (nI ty), .long hy])), (m9, .inl (K 0, 16, .inl (puR h fw 0)))] := hD
  refine g_loopW (st := []) (N := h) (fun i H locs ls => va_P D vwCl [(m0, .inr (4, [.int th, .ref m1, .ref m2, .ref m3, .int (nI sy), .ref m4, .int (nI ly), .ref m5, .ref m6, .int (nI py), .ref m7, .ref m8, .ref m9, .int (nI ay), .int (if iw = true then 1 else 0), .ref m10, .int (nI ty), .long hy])), (m9, .inl (K 0, 16, .inl (puR h fw i)))] H ∧ va_D A [(m0, .inr (4, [.int th, .ref m1, .ref m2, .ref m3, .int (nI sy), .ref m4, .int (nI ly), .ref m5, .ref m6, .int (nI py), .ref m7, .ref m8, .ref m9, .int (nI ay), .int (if iw = true then 1 else 0), .ref m10, .int (nI ty), .long hy])), (m9, .inl (K 0, 16, .inl (puR h fw i)))] ∧ va_S A s.heap H locs ∧ lv_has ls 6 [(2, .int (nI i)), (0, .ref m0), (1, .int (nI h))]) 0 (Nat.zero_le _) ?_ ?_ ?_
  · intro H locs ls hI
    obtain ⟨hP, hD, hS, hl⟩ := hI
    refine lv_iload_n hx hb dX4_pairs_2 rfl (lv_at hl 0 rfl) ?_
    refine lv_iload_n hx hb dX4_pairs_3 rfl (lv_at hl 2 rfl) ?_
    refine lv_icmp_ge (tgt := 92) hx hb dX4_pairs_4 (by decide) (fun c3 => ?_) (fun c3 => ?_)
    · skip
      have c3 : h ≤ h := (nI_leI (a := h) (b := h) (by omega) (by omega)).mp c3
      exact gW_vret () hx hb hr hlk hK hP hD hS (trivial) dX4_pairs_92
    · skip
      have c3 : ¬ h ≤ h := fun h9 => c3 ((nI_leI (a := h) (b := h) (by omega) (by omega)).mpr h9)
      omega
  · intro i hi ih2 H locs ls hI
    obtain ⟨hP, hD, hS, hl⟩ := hI
    refine lv_iload_n hx hb dX4_pairs_2 rfl (lv_at hl 0 rfl) ?_
    refine lv_iload_n hx hb dX4_pairs_3 rfl (lv_at hl 2 rfl) ?_
    refine lv_icmp_ge (tgt := 92) hx hb dX4_pairs_4 (by decide) (fun c4 => ?_) (fun c4 => ?_)
    · skip
      have c4 : h ≤ i := (nI_leI (a := h) (b := i) (by omega) (by omega)).mp c4
      omega
    · skip
      have c4 : ¬ h ≤ i := fun h9 => c4 ((nI_leI (a := h) (b := i) (by omega) (by omega)).mpr h9)
      refine lv_aload_n hx hb dX4_pairs_7 rfl (lv_at hl 1 rfl) ?_
      refine va_get (D := D) (ci := 4) (v := .ref m9) (C := RX4) (T := TX4) (N := 18) hx hb hts hi4 hown hK hP 0 rfl rfl 12 (by decide) (hts (.fieldLink RX4 34 "PairedChannelsModel" "row" "[I") (List.mem_of_getElem? (i := 1) (by decide +kernel))) (fun _ h9 => h9) rfl dX4_pairs_8 ?_
      refine lv_iload_n hx hb dX4_pairs_11 rfl (lv_at hl 0 rfl) ?_
      refine wa_iald hx hb hK hP 1 0 rfl rfl (i) rfl (by omega) (by decide) dX4_pairs_12 ?_
      refine lv_eqi (fw i) (puR_ge (Nat.le_refl i)) ?_
      refine lv_istore_n (lv' := [(3, .int (fw i)), (2, .int (nI i)), (0, .ref m0), (1, .int (nI h))]) hx hb dX4_pairs_13 rfl hl (by decide) rfl (fun ls hl => ?_)
      refine lv_aload_n hx hb dX4_pairs_14 rfl (lv_at hl 2 rfl) ?_
      refine va_get (D := D) (ci := 4) (v := .ref m9) (C := RX4) (T := TX4) (N := 18) hx hb hts hi4 hown hK hP 0 rfl rfl 12 (by decide) (hts (.fieldLink RX4 34 "PairedChannelsModel" "row" "[I") (List.mem_of_getElem? (i := 1) (by decide +kernel))) (fun _ h9 => h9) rfl dX4_pairs_15 ?_
      refine lv_iload_n hx hb dX4_pairs_18 rfl (lv_at hl 1 rfl) ?_
      refine lv_iload_n hx hb dX4_pairs_19 rfl (lv_at hl 3 rfl) ?_
      refine lv_iadd hx hb dX4_pairs_20 ?_
      refine lv_eqi (nI (i + h)) (nI_add i h) ?_
      refine wa_iald hx hb hK hP 1 0 rfl rfl (i + h) rfl (by omega) (by decide) dX4_pairs_21 ?_
      refine lv_eqi (fw (i + h)) (puR_ge (by omega)) ?_
      refine lv_istore (lv' := [(4, .int (fw (i + h))), (3, .int (fw i)), (2, .int (nI i)), (0, .ref m0), (1, .int (nI h))]) hx hb dX4_pairs_22 hl (by decide) rfl (fun ls hl => ?_)
      refine lv_iload_n hx hb dX4_pairs_24 rfl (lv_at hl 1 rfl) ?_
      refine gR_i (va_runS (As := [.int (fw i)]) (rest := []) ⟨hx, hb, hml, hown, hts⟩ (c_X4_size l D K (fw i) ) (va_cwS 1 hts gX4_pairs_X4_size rfl rfl rfl (by decide +kernel) ⟨Nat.le_of_ble_eq_true rfl, Nat.le_of_ble_eq_true rfl⟩) (gR_pre hE hS hK hP [] rfl) rfl rfl hl.1 rfl (lv_room (Nat.le_of_ble_eq_true rfl)) dX4_pairs_25 ⟨Nat.le_of_ble_eq_true rfl, Nat.le_of_ble_eq_true rfl⟩) hS hP (fun rv6 H locs h5 hP hS => ?_)
      have h5 : rv6 = absI (fw i) := h5
      subst h5
      refine lv_iload hx hb dX4_pairs_28 (lv_at hl 0 rfl) ?_
      refine gR_i (va_runS (As := [.int (fw (i + h))]) (rest := [.int (absI (fw i))]) ⟨hx, hb, hml, hown, hts⟩ (c_X4_size l D K (fw (i + h)) ) (va_cwS 1 hts gX4_pairs_X4_size rfl rfl rfl (by decide +kernel) ⟨Nat.le_of_ble_eq_true rfl, Nat.le_of_ble_eq_true rfl⟩) (gR_pre hE hS hK hP [] rfl) rfl rfl hl.1 rfl (lv_room (Nat.le_of_ble_eq_true rfl)) dX4_pairs_30 ⟨Nat.le_of_ble_eq_true rfl, Nat.le_of_ble_eq_true rfl⟩) hS hP (fun rv8 H locs h7 hP hS => ?_)
      have h7 : rv8 = absI (fw (i + h)) := h7
      subst h7
      refine lv_icmp_ge (tgt := 43) hx hb dX4_pairs_33 (by decide) (fun c33 => ?_) (fun c33 => ?_)
      · skip
        refine lv_iload hx hb dX4_pairs_43 (lv_at hl 0 rfl) ?_
        refine gR_i (va_runS (As := [.int (fw (i + h))]) (rest := []) ⟨hx, hb, hml, hown, hts⟩ (c_X4_size l D K (fw (i + h)) ) (va_cwS 1 hts gX4_pairs_X4_size rfl rfl rfl (by decide +kernel) ⟨Nat.le_of_ble_eq_true rfl, Nat.le_of_ble_eq_true rfl⟩) (gR_pre hE hS hK hP [] rfl) rfl rfl hl.1 rfl (lv_room (Nat.le_of_ble_eq_true rfl)) dX4_pairs_45 ⟨Nat.le_of_ble_eq_true rfl, Nat.le_of_ble_eq_true rfl⟩) hS hP (fun rv11 H locs h10 hP hS => ?_)
        have h10 : rv11 = absI (fw (i + h)) := h10
        subst h10
        refine lv_eqi ((if absI (fw i) < absI (fw (i + h)) then absI (fw i) else absI (fw (i + h)))) (by first | exact (if_pos c33).symm | exact (if_pos (Int32.not_le.mp c33)).symm | exact (if_neg (Int32.not_lt.mpr c33)).symm | exact (if_neg c33).symm) ?_
        refine lv_istore (lv' := [(5, .int (if absI (fw i) < absI (fw (i + h)) then absI (fw i) else absI (fw (i + h)))), (4, .int (fw (i + h))), (3, .int (fw i)), (2, .int (nI i)), (0, .ref m0), (1, .int (nI h))]) hx hb dX4_pairs_48 hl (by decide) rfl (fun ls hl => ?_)
        refine lv_aload_n hx hb dX4_pairs_50 rfl (lv_at hl 4 rfl) ?_
        refine va_get (D := D) (ci := 4) (v := .ref m9) (C := RX4) (T := TX4) (N := 18) hx hb hts hi4 hown hK hP 0 rfl rfl 12 (by decide) (hts (.fieldLink RX4 34 "PairedChannelsModel" "row" "[I") (List.mem_of_getElem? (i := 1) (by decide +kernel))) (fun _ h9 => h9) rfl dX4_pairs_51 ?_
        refine lv_iload_n hx hb dX4_pairs_54 rfl (lv_at hl 3 rfl) ?_
        refine lv_iload_n hx hb dX4_pairs_55 rfl (lv_at hl 2 rfl) ?_
        refine g_cut (F0 mm 64 ls [.int (if ¬ (fw i ≤ 0) then 1 else 0), .int (nI i), .ref m9]) (fun hJ => ?_) ?_
        · refine lv_if_le (tgt := 63) hx hb dX4_pairs_56 (by decide) (fun c12 => ?_) (fun c12 => ?_)
          · skip
            refine lv_iconst (v := 0) hx hb dX4_pairs_63 (by decide) ?_
            refine lv_eqi ((if ¬ (fw i ≤ 0) then 1 else 0)) (if_neg (fun h => h c12)).symm ?_
            exact hJ
          · skip
            refine lv_iconst (v := 1) hx hb dX4_pairs_59 (by decide) ?_
            refine lv_goto (tgt := 64) hx hb dX4_pairs_60 (by decide) ?_
            refine lv_eqi ((if ¬ (fw i ≤ 0) then 1 else 0)) (if_pos c12).symm ?_
            exact hJ
        · skip
          refine lv_iload hx hb dX4_pairs_64 (lv_at hl 1 rfl) ?_
          refine g_cut (F0 mm 74 ls [.int (if ¬ (fw (i + h) ≤ 0) then 1 else 0), .int (if ¬ (fw i ≤ 0) then 1 else 0), .int (nI i), .ref m9]) (fun hJ => ?_) ?_
          · refine lv_if_le (tgt := 73) hx hb dX4_pairs_66 (by decide) (fun c14 => ?_) (fun c14 => ?_)
            · skip
              refine lv_iconst (v := 0) hx hb dX4_pairs_73 (by decide) ?_
              refine lv_eqi ((if ¬ (fw (i + h) ≤ 0) then 1 else 0)) (if_neg (fun h => h c14)).symm ?_
              exact hJ
            · skip
              refine lv_iconst (v := 1) hx hb dX4_pairs_69 (by decide) ?_
              refine lv_goto (tgt := 74) hx hb dX4_pairs_70 (by decide) ?_
              refine lv_eqi ((if ¬ (fw (i + h) ≤ 0) then 1 else 0)) (if_pos c14).symm ?_
              exact hJ
          · skip
            refine g_cut (F0 mm 85 ls [.int (if ((if ¬ (fw i ≤ 0) then 1 else 0) : Int32) = ((if ¬ (fw (i + h) ≤ 0) then 1 else 0) : Int32) then (if absI (fw i) < absI (fw (i + h)) then absI (fw i) else absI (fw (i + h))) else (-(if absI (fw i) < absI (fw (i + h)) then absI (fw i) else absI (fw (i + h))))), .int (nI i), .ref m9]) (fun hJ => ?_) ?_
            · refine lv_icmp_ne (tgt := 82) hx hb dX4_pairs_74 (by decide) (fun c16 => ?_) (fun c16 => ?_)
              · skip
                refine lv_iload hx hb dX4_pairs_82 (lv_at hl 0 rfl) ?_
                refine lv_ineg hx hb dX4_pairs_84 ?_
                refine lv_eqi ((if ((if ¬ (fw i ≤ 0) then 1 else 0) : Int32) = ((if ¬ (fw (i + h) ≤ 0) then 1 else 0) : Int32) then (if absI (fw i) < absI (fw (i + h)) then absI (fw i) else absI (fw (i + h))) else (-(if absI (fw i) < absI (fw (i + h)) then absI (fw i) else absI (fw (i + h)))))) (if_neg c16).symm ?_
                exact hJ
              · skip
                refine lv_iload hx hb dX4_pairs_77 (lv_at hl 0 rfl) ?_
                refine lv_goto (tgt := 85) hx hb dX4_pairs_79 (by decide) ?_
                refine lv_eqi ((if ((if ¬ (fw i ≤ 0) then 1 else 0) : Int32) = ((if ¬ (fw (i + h) ≤ 0) then 1 else 0) : Int32) then (if absI (fw i) < absI (fw (i + h)) then absI (fw i) else absI (fw (i + h))) else (-(if absI (fw i) < absI (fw (i + h)) then absI (fw i) else absI (fw (i + h)))))) (if_pos c16).symm ?_
                exact hJ
            · skip
              refine lv_eqi (pu (fw i) (fw (i + h))) (pu_eq2 _ _) ?_
              refine wa_iast (x := pu (fw i) (fw (i + h))) hx hb hK hP hD hS 1 0 rfl rfl (i) rfl (by omega) (by decide) dX4_pairs_85 (fun H locs hP hD hS => ?_)
              have hP : va_P D vwCl [(m0, .inr (4, [.int th, .ref m1, .ref m2, .ref m3, .int (nI sy), .ref m4, .int (nI ly), .ref m5, .ref m6, .int (nI py), .ref m7, .ref m8, .ref m9, .int (nI ay), .int (if iw = true then 1 else 0), .ref m10, .int (nI ty), .long hy])), (m9, .inl (K 0, 16, .inl (upd (puR h fw i) i (pu (fw i) (fw (i + h))))))] _ := hP
              have hD : va_D A [(m0, .inr (4, [.int th, .ref m1, .ref m2, .ref m3, .int (nI sy), .ref m4, .int (nI ly), .ref m5, .ref m6, .int (nI py), .ref m7, .ref m8, .ref m9, .int (nI ay), .int (if iw = true then 1 else 0), .ref m10, .int (nI ty), .long hy])), (m9, .inl (K 0, 16, .inl (upd (puR h fw i) i (pu (fw i) (fw (i + h))))))] := hD
              have e17 : (upd (puR h fw i) i (pu (fw i) (fw (i + h)))) = (puR h fw (i + 1)) := puR_s h fw i
              rw [e17] at hP hD
              have hP : va_P D vwCl [(m0, .inr (4, [.int th, .ref m1, .ref m2, .ref m3, .int (nI sy), .ref m4, .int (nI ly), .ref m5, .ref m6, .int (nI py), .ref m7, .ref m8, .ref m9, .int (nI ay), .int (if iw = true then 1 else 0), .ref m10, .int (nI ty), .long hy])), (m9, .inl (K 0, 16, .inl (puR h fw (i + 1))))] _ := hP
              have hD : va_D A [(m0, .inr (4, [.int th, .ref m1, .ref m2, .ref m3, .int (nI sy), .ref m4, .int (nI ly), .ref m5, .ref m6, .int (nI py), .ref m7, .ref m8, .ref m9, .int (nI ay), .int (if iw = true then 1 else 0), .ref m10, .int (nI ty), .long hy])), (m9, .inl (K 0, 16, .inl (puR h fw (i + 1))))] := hD
              refine lv_iinc (v := nI (i + 1)) (lv' := [(2, .int (nI (i + 1))), (5, .int (if absI (fw i) < absI (fw (i + h)) then absI (fw i) else absI (fw (i + h)))), (4, .int (fw (i + h))), (3, .int (fw i)), (0, .ref m0), (1, .int (nI h))]) hx hb dX4_pairs_86 hl (k := 3) rfl (nI_add i 1) (by decide) rfl (fun ls hl => ?_)
              refine lv_goto (tgt := 2) hx hb dX4_pairs_89 (by decide) ?_
              exact ih2 H locs ls ⟨hP, hD, hS, lv_sub hl [0, 4, 5] rfl⟩
      · skip
        refine lv_iload_n hx hb dX4_pairs_36 rfl (lv_at hl 1 rfl) ?_
        refine gR_i (va_runS (As := [.int (fw i)]) (rest := []) ⟨hx, hb, hml, hown, hts⟩ (c_X4_size l D K (fw i) ) (va_cwS 1 hts gX4_pairs_X4_size rfl rfl rfl (by decide +kernel) ⟨Nat.le_of_ble_eq_true rfl, Nat.le_of_ble_eq_true rfl⟩) (gR_pre hE hS hK hP [] rfl) rfl rfl hl.1 rfl (lv_room (Nat.le_of_ble_eq_true rfl)) dX4_pairs_37 ⟨Nat.le_of_ble_eq_true rfl, Nat.le_of_ble_eq_true rfl⟩) hS hP (fun rv19 H locs h18 hP hS => ?_)
        have h18 : rv19 = absI (fw i) := h18
        subst h18
        refine lv_goto (tgt := 48) hx hb dX4_pairs_40 (by decide) ?_
        refine lv_eqi ((if absI (fw i) < absI (fw (i + h)) then absI (fw i) else absI (fw (i + h)))) (by first | exact (if_pos c33).symm | exact (if_pos (Int32.not_le.mp c33)).symm | exact (if_neg (Int32.not_lt.mpr c33)).symm | exact (if_neg c33).symm) ?_
        refine lv_istore (lv' := [(5, .int (if absI (fw i) < absI (fw (i + h)) then absI (fw i) else absI (fw (i + h)))), (4, .int (fw (i + h))), (3, .int (fw i)), (2, .int (nI i)), (0, .ref m0), (1, .int (nI h))]) hx hb dX4_pairs_48 hl (by decide) rfl (fun ls hl => ?_)
        refine lv_aload_n hx hb dX4_pairs_50 rfl (lv_at hl 4 rfl) ?_
        refine va_get (D := D) (ci := 4) (v := .ref m9) (C := RX4) (T := TX4) (N := 18) hx hb hts hi4 hown hK hP 0 rfl rfl 12 (by decide) (hts (.fieldLink RX4 34 "PairedChannelsModel" "row" "[I") (List.mem_of_getElem? (i := 1) (by decide +kernel))) (fun _ h9 => h9) rfl dX4_pairs_51 ?_
        refine lv_iload_n hx hb dX4_pairs_54 rfl (lv_at hl 3 rfl) ?_
        refine lv_iload_n hx hb dX4_pairs_55 rfl (lv_at hl 2 rfl) ?_
        refine g_cut (F0 mm 64 ls [.int (if ¬ (fw i ≤ 0) then 1 else 0), .int (nI i), .ref m9]) (fun hJ => ?_) ?_
        · refine lv_if_le (tgt := 63) hx hb dX4_pairs_56 (by decide) (fun c20 => ?_) (fun c20 => ?_)
          · skip
            refine lv_iconst (v := 0) hx hb dX4_pairs_63 (by decide) ?_
            refine lv_eqi ((if ¬ (fw i ≤ 0) then 1 else 0)) (if_neg (fun h => h c20)).symm ?_
            exact hJ
          · skip
            refine lv_iconst (v := 1) hx hb dX4_pairs_59 (by decide) ?_
            refine lv_goto (tgt := 64) hx hb dX4_pairs_60 (by decide) ?_
            refine lv_eqi ((if ¬ (fw i ≤ 0) then 1 else 0)) (if_pos c20).symm ?_
            exact hJ
        · skip
          refine lv_iload hx hb dX4_pairs_64 (lv_at hl 1 rfl) ?_
          refine g_cut (F0 mm 74 ls [.int (if ¬ (fw (i + h) ≤ 0) then 1 else 0), .int (if ¬ (fw i ≤ 0) then 1 else 0), .int (nI i), .ref m9]) (fun hJ => ?_) ?_
          · refine lv_if_le (tgt := 73) hx hb dX4_pairs_66 (by decide) (fun c22 => ?_) (fun c22 => ?_)
            · skip
              refine lv_iconst (v := 0) hx hb dX4_pairs_73 (by decide) ?_
              refine lv_eqi ((if ¬ (fw (i + h) ≤ 0) then 1 else 0)) (if_neg (fun h => h c22)).symm ?_
              exact hJ
            · skip
              refine lv_iconst (v := 1) hx hb dX4_pairs_69 (by decide) ?_
              refine lv_goto (tgt := 74) hx hb dX4_pairs_70 (by decide) ?_
              refine lv_eqi ((if ¬ (fw (i + h) ≤ 0) then 1 else 0)) (if_pos c22).symm ?_
              exact hJ
          · skip
            refine g_cut (F0 mm 85 ls [.int (if ((if ¬ (fw i ≤ 0) then 1 else 0) : Int32) = ((if ¬ (fw (i + h) ≤ 0) then 1 else 0) : Int32) then (if absI (fw i) < absI (fw (i + h)) then absI (fw i) else absI (fw (i + h))) else (-(if absI (fw i) < absI (fw (i + h)) then absI (fw i) else absI (fw (i + h))))), .int (nI i), .ref m9]) (fun hJ => ?_) ?_
            · refine lv_icmp_ne (tgt := 82) hx hb dX4_pairs_74 (by decide) (fun c24 => ?_) (fun c24 => ?_)
              · skip
                refine lv_iload hx hb dX4_pairs_82 (lv_at hl 0 rfl) ?_
                refine lv_ineg hx hb dX4_pairs_84 ?_
                refine lv_eqi ((if ((if ¬ (fw i ≤ 0) then 1 else 0) : Int32) = ((if ¬ (fw (i + h) ≤ 0) then 1 else 0) : Int32) then (if absI (fw i) < absI (fw (i + h)) then absI (fw i) else absI (fw (i + h))) else (-(if absI (fw i) < absI (fw (i + h)) then absI (fw i) else absI (fw (i + h)))))) (if_neg c24).symm ?_
                exact hJ
              · skip
                refine lv_iload hx hb dX4_pairs_77 (lv_at hl 0 rfl) ?_
                refine lv_goto (tgt := 85) hx hb dX4_pairs_79 (by decide) ?_
                refine lv_eqi ((if ((if ¬ (fw i ≤ 0) then 1 else 0) : Int32) = ((if ¬ (fw (i + h) ≤ 0) then 1 else 0) : Int32) then (if absI (fw i) < absI (fw (i + h)) then absI (fw i) else absI (fw (i + h))) else (-(if absI (fw i) < absI (fw (i + h)) then absI (fw i) else absI (fw (i + h)))))) (if_pos c24).symm ?_
                exact hJ
            · skip
              refine lv_eqi (pu (fw i) (fw (i + h))) (pu_eq2 _ _) ?_
              refine wa_iast (x := pu (fw i) (fw (i + h))) hx hb hK hP hD hS 1 0 rfl rfl (i) rfl (by omega) (by decide) dX4_pairs_85 (fun H locs hP hD hS => ?_)
              have hP : va_P D vwCl [(m0, .inr (4, [.int th, .ref m1, .ref m2, .ref m3, .int (nI sy), .ref m4, .int (nI ly), .ref m5, .ref m6, .int (nI py), .ref m7, .ref m8, .ref m9, .int (nI ay), .int (if iw = true then 1 else 0), .ref m10, .int (nI ty), .long hy])), (m9, .inl (K 0, 16, .inl (upd (puR h fw i) i (pu (fw i) (fw (i + h))))))] _ := hP
              have hD : va_D A [(m0, .inr (4, [.int th, .ref m1, .ref m2, .ref m3, .int (nI sy), .ref m4, .int (nI ly), .ref m5, .ref m6, .int (nI py), .ref m7, .ref m8, .ref m9, .int (nI ay), .int (if iw = true then 1 else 0), .ref m10, .int (nI ty), .long hy])), (m9, .inl (K 0, 16, .inl (upd (puR h fw i) i (pu (fw i) (fw (i + h))))))] := hD
              have e25 : (upd (puR h fw i) i (pu (fw i) (fw (i + h)))) = (puR h fw (i + 1)) := puR_s h fw i
              rw [e25] at hP hD
              have hP : va_P D vwCl [(m0, .inr (4, [.int th, .ref m1, .ref m2, .ref m3, .int (nI sy), .ref m4, .int (nI ly), .ref m5, .ref m6, .int (nI py), .ref m7, .ref m8, .ref m9, .int (nI ay), .int (if iw = true then 1 else 0), .ref m10, .int (nI ty), .long hy])), (m9, .inl (K 0, 16, .inl (puR h fw (i + 1))))] _ := hP
              have hD : va_D A [(m0, .inr (4, [.int th, .ref m1, .ref m2, .ref m3, .int (nI sy), .ref m4, .int (nI ly), .ref m5, .ref m6, .int (nI py), .ref m7, .ref m8, .ref m9, .int (nI ay), .int (if iw = true then 1 else 0), .ref m10, .int (nI ty), .long hy])), (m9, .inl (K 0, 16, .inl (puR h fw (i + 1))))] := hD
              refine lv_iinc (v := nI (i + 1)) (lv' := [(2, .int (nI (i + 1))), (5, .int (if absI (fw i) < absI (fw (i + h)) then absI (fw i) else absI (fw (i + h)))), (4, .int (fw (i + h))), (3, .int (fw i)), (0, .ref m0), (1, .int (nI h))]) hx hb dX4_pairs_86 hl (k := 3) rfl (nI_add i 1) (by decide) rfl (fun ls hl => ?_)
              refine lv_goto (tgt := 2) hx hb dX4_pairs_89 (by decide) ?_
              exact ih2 H locs ls ⟨hP, hD, hS, lv_sub hl [0, 4, 5] rfl⟩
  · exact ⟨hP, hD, hS, lv_sub hl [0, 1, 2] rfl⟩

set_option maxHeartbeats 4000000 in
set_option maxRecDepth 100000 in
theorem c_X4_adds (l : Launch) (D : va_G) (K : Nat → ClassId) (m0 : Nat) (m1 : Nat) (m2 : Nat) (m3 : Nat) (m4 : Nat) (m5 : Nat) (m6 : Nat) (m7 : Nat) (m8 : Nat) (m9 : Nat) (m10 : Nat) (th : Int32) (sy : Nat) (ly : Nat) (py : Nat) (ay : Nat) (iw : Bool) (ty : Nat) (hy : Int64) (h : Nat) (mk : Int32) (fw : Nat → Int32) (hh : 2 * h ≤ 16) : MWv l yX4_adds wsX4_adds ({ frames := 0, cells := 0, slots := 0, locals := 0 } : Room) D (gTy K) [.ref m0, .int (nI h), .int mk] [(m0, .inr (4, [.int th, .ref m1, .ref m2, .ref m3, .int (nI sy), .ref m4, .int (nI ly), .ref m5, .ref m6, .int (nI py), .ref m7, .ref m8, .ref m9, .int (nI ay), .int (if iw = true then 1 else 0), .ref m10, .int (nI ty), .long hy])), (m9, .inl (K 0, 16, .inl fw))] (fun (u : Unit) => [(m0, .inr (4, [.int th, .ref m1, .ref m2, .ref m3, .int (nI sy), .ref m4, .int (nI ly), .ref m5, .ref m6, .int (nI py), .ref m7, .ref m8, .ref m9, .int (nI ay), .int (if iw = true then 1 else 0), .ref m10, .int (nI ty), .long hy])), (m9, .inl (K 0, 16, .inl (prR h mk fw h)))]) (fun (u : Unit) => True) 0 0 := by
  refine g_ofW (Qc := fun A => va_Qv _ (gB D (gTy K) A _) A) (cc := cX4_adds) (maxL := 4) (ret := none) (own := RX4) (by decide) rfl rfl (Nat.le_of_ble_eq_true rfl) ?_
  intro pp ee s mm below meth cc A hfx hnm hK hP hD hE hS hA ls hl
  obtain ⟨hx, hb, hr, hml, hown, hts, hlk⟩ := hfx
  have hl : lv_has ls 4 [(0, .ref m0), (1, .int (nI h)), (2, .int mk)] := hl
  have hi4 : ∀ w ∈ u_ws RX4 TX4 18, w ∈ wsX4_adds := fun w h => List.mem_cons_of_mem _ (List.mem_append_right _ (h))
  refine lv_iconst (v := 0) hx hb dX4_adds_0 (by decide) ?_
  refine lv_istore_n (lv' := [(3, .int 0), (0, .ref m0), (1, .int (nI h)), (2, .int mk)]) hx hb dX4_adds_1 rfl hl (by decide) rfl (fun ls hl => ?_)
  have e1 : fw = (prR h mk fw 0) := (prR_0 h mk fw).symm
  rw [e1] at hP hD
  have hP : va_P D vwCl [(m0, .inr (4, [.int th, .ref m1, .ref m2, .ref m3, .int (nI sy), .ref m4, .int (nI ly), .ref m5, .ref m6, .int (nI py), .ref m7, .ref m8, .ref m9, .int (nI ay), .int (if iw = true then 1 else 0), .ref m10, .int (nI ty), .long hy])), (m9, .inl (K 0, 16, .inl (prR h mk fw 0)))] _ := hP
  have hD : va_D A [(m0, .inr (4, [.int th, .ref m1, .ref m2, .ref m3, .int (nI sy), .ref m4, .int (nI ly), .ref m5, .ref m6, .int (nI py), .ref m7, .ref m8, .ref m9, .int (nI ay), .int (if iw = true then 1 else 0), .ref m10, .int (nI ty), .long hy])), (m9, .inl (K 0, 16, .inl (prR h mk fw 0)))] := hD
  refine g_loopW (st := []) (N := h) (fun i H locs ls => va_P D vwCl [(m0, .inr (4, [.int th, .ref m1, .ref m2, .ref m3, .int (nI sy), .ref m4, .int (nI ly), .ref m5, .ref m6, .int (nI py), .ref m7, .ref m8, .ref m9, .int (nI ay), .int (if iw = true then 1 else 0), .ref m10, .int (nI ty), .long hy])), (m9, .inl (K 0, 16, .inl (prR h mk fw i)))] H ∧ va_D A [(m0, .inr (4, [.int th, .ref m1, .ref m2, .ref m3, .int (nI sy), .ref m4, .int (nI ly), .ref m5, .ref m6, .int (nI py), .ref m7, .ref m8, .ref m9, .int (nI ay), .int (if iw = true then 1 else 0), .ref m10, .int (nI ty), .long hy])), (m9, .inl (K 0, 16, .inl (prR h mk fw i)))] ∧ va_S A s.heap H locs ∧ lv_has ls 4 [(3, .int (nI i)), (0, .ref m0), (1, .int (nI h)), (2, .int mk)]) 0 (Nat.zero_le _) ?_ ?_ ?_
  · intro H locs ls hI
    obtain ⟨hP, hD, hS, hl⟩ := hI
    refine lv_iload_n hx hb dX4_adds_2 rfl (lv_at hl 0 rfl) ?_
    refine lv_iload_n hx hb dX4_adds_3 rfl (lv_at hl 2 rfl) ?_
    refine lv_icmp_ge (tgt := 53) hx hb dX4_adds_4 (by decide) (fun c3 => ?_) (fun c3 => ?_)
    · skip
      have c3 : h ≤ h := (nI_leI (a := h) (b := h) (by omega) (by omega)).mp c3
      exact gW_vret () hx hb hr hlk hK hP hD hS (trivial) dX4_adds_53
    · skip
      have c3 : ¬ h ≤ h := fun h9 => c3 ((nI_leI (a := h) (b := h) (by omega) (by omega)).mpr h9)
      omega
  · intro i hi ih2 H locs ls hI
    obtain ⟨hP, hD, hS, hl⟩ := hI
    refine lv_iload_n hx hb dX4_adds_2 rfl (lv_at hl 0 rfl) ?_
    refine lv_iload_n hx hb dX4_adds_3 rfl (lv_at hl 2 rfl) ?_
    refine lv_icmp_ge (tgt := 53) hx hb dX4_adds_4 (by decide) (fun c4 => ?_) (fun c4 => ?_)
    · skip
      have c4 : h ≤ i := (nI_leI (a := h) (b := i) (by omega) (by omega)).mp c4
      omega
    · skip
      have c4 : ¬ h ≤ i := fun h9 => c4 ((nI_leI (a := h) (b := i) (by omega) (by omega)).mpr h9)
      refine lv_aload_n hx hb dX4_adds_7 rfl (lv_at hl 1 rfl) ?_
      refine va_get (D := D) (ci := 4) (v := .ref m9) (C := RX4) (T := TX4) (N := 18) hx hb hts hi4 hown hK hP 0 rfl rfl 12 (by decide) (hts (.fieldLink RX4 34 "PairedChannelsModel" "row" "[I") (List.mem_of_getElem? (i := 1) (by decide +kernel))) (fun _ h9 => h9) rfl dX4_adds_8 ?_
      refine lv_iload_n hx hb dX4_adds_11 rfl (lv_at hl 0 rfl) ?_
      refine lv_aload_n hx hb dX4_adds_12 rfl (lv_at hl 1 rfl) ?_
      refine va_get (D := D) (ci := 4) (v := .ref m9) (C := RX4) (T := TX4) (N := 18) hx hb hts hi4 hown hK hP 0 rfl rfl 12 (by decide) (hts (.fieldLink RX4 34 "PairedChannelsModel" "row" "[I") (List.mem_of_getElem? (i := 1) (by decide +kernel))) (fun _ h9 => h9) rfl dX4_adds_13 ?_
      refine lv_iload_n hx hb dX4_adds_16 rfl (lv_at hl 0 rfl) ?_
      refine lv_iload_n hx hb dX4_adds_17 rfl (lv_at hl 2 rfl) ?_
      refine lv_iadd hx hb dX4_adds_18 ?_
      refine lv_eqi (nI (i + h)) (nI_add i h) ?_
      refine wa_iald hx hb hK hP 1 0 rfl rfl (i + h) rfl (by omega) (by decide) dX4_adds_19 ?_
      refine lv_eqi (fw (i + h)) (prR_ge (by omega)) ?_
      refine lv_iload_n hx hb dX4_adds_20 rfl (lv_at hl 3 rfl) ?_
      refine lv_iload_n hx hb dX4_adds_21 rfl (lv_at hl 0 rfl) ?_
      refine lv_ishr hx hb dX4_adds_22 ?_
      refine lv_iconst (v := 1) hx hb dX4_adds_23 (by decide) ?_
      refine lv_iand hx hb dX4_adds_24 ?_
      refine lv_eqi (bitI mk i) rfl ?_
      refine lv_iconst (v := 1) hx hb dX4_adds_25 (by decide) ?_
      refine g_cut (F0 mm 45 ls [.int (if bitI mk i = 1 then (-(fw i)) else (prR h mk fw i) i), .int (fw (i + h)), .int (nI i), .ref m9]) (fun hJ => ?_) ?_
      · refine lv_icmp_ne (tgt := 39) hx hb dX4_adds_26 (by decide) (fun c5 => ?_) (fun c5 => ?_)
        · skip
          refine lv_aload_n hx hb dX4_adds_39 rfl (lv_at hl 1 rfl) ?_
          refine va_get (D := D) (ci := 4) (v := .ref m9) (C := RX4) (T := TX4) (N := 18) hx hb hts hi4 hown hK hP 0 rfl rfl 12 (by decide) (hts (.fieldLink RX4 34 "PairedChannelsModel" "row" "[I") (List.mem_of_getElem? (i := 1) (by decide +kernel))) (fun _ h9 => h9) rfl dX4_adds_40 ?_
          refine lv_iload_n hx hb dX4_adds_43 rfl (lv_at hl 0 rfl) ?_
          refine wa_iald hx hb hK hP 1 0 rfl rfl (i) rfl (by omega) (by decide) dX4_adds_44 ?_
          refine lv_eqi ((if bitI mk i = 1 then (-(fw i)) else (prR h mk fw i) i)) (if_neg c5).symm ?_
          exact hJ
        · skip
          refine lv_aload_n hx hb dX4_adds_29 rfl (lv_at hl 1 rfl) ?_
          refine va_get (D := D) (ci := 4) (v := .ref m9) (C := RX4) (T := TX4) (N := 18) hx hb hts hi4 hown hK hP 0 rfl rfl 12 (by decide) (hts (.fieldLink RX4 34 "PairedChannelsModel" "row" "[I") (List.mem_of_getElem? (i := 1) (by decide +kernel))) (fun _ h9 => h9) rfl dX4_adds_30 ?_
          refine lv_iload_n hx hb dX4_adds_33 rfl (lv_at hl 0 rfl) ?_
          refine wa_iald hx hb hK hP 1 0 rfl rfl (i) rfl (by omega) (by decide) dX4_adds_34 ?_
          refine lv_eqi (fw i) (prR_ge (Nat.le_refl i)) ?_
          refine lv_ineg hx hb dX4_adds_35 ?_
          refine lv_goto (tgt := 45) hx hb dX4_adds_36 (by decide) ?_
          refine lv_eqi ((if bitI mk i = 1 then (-(fw i)) else (prR h mk fw i) i)) (if_pos c5).symm ?_
          exact hJ
      · skip
        refine lv_eqi ((if bitI mk i = 1 then -(fw i) else fw i)) (by rw [prR_ge (Nat.le_refl i)]) ?_
        refine lv_iadd hx hb dX4_adds_45 ?_
        refine lv_eqi ((if bitI mk i = 1 then fw (i + h) - fw i else fw (i + h) + fw i)) (add_if _ _ _) ?_
        refine wa_iast (x := (if bitI mk i = 1 then fw (i + h) - fw i else fw (i + h) + fw i)) hx hb hK hP hD hS 1 0 rfl rfl (i) rfl (by omega) (by decide) dX4_adds_46 (fun H locs hP hD hS => ?_)
        have hP : va_P D vwCl [(m0, .inr (4, [.int th, .ref m1, .ref m2, .ref m3, .int (nI sy), .ref m4, .int (nI ly), .ref m5, .ref m6, .int (nI py), .ref m7, .ref m8, .ref m9, .int (nI ay), .int (if iw = true then 1 else 0), .ref m10, .int (nI ty), .long hy])), (m9, .inl (K 0, 16, .inl (upd (prR h mk fw i) i (if bitI mk i = 1 then fw (i + h) - fw i else fw (i + h) + fw i))))] _ := hP
        have hD : va_D A [(m0, .inr (4, [.int th, .ref m1, .ref m2, .ref m3, .int (nI sy), .ref m4, .int (nI ly), .ref m5, .ref m6, .int (nI py), .ref m7, .ref m8, .ref m9, .int (nI ay), .int (if iw = true then 1 else 0), .ref m10, .int (nI ty), .long hy])), (m9, .inl (K 0, 16, .inl (upd (prR h mk fw i) i (if bitI mk i = 1 then fw (i + h) - fw i else fw (i + h) + fw i))))] := hD
        have e6 : (upd (prR h mk fw i) i (if bitI mk i = 1 then fw (i + h) - fw i else fw (i + h) + fw i)) = (prR h mk fw (i + 1)) := prR_s h mk fw i
        rw [e6] at hP hD
        have hP : va_P D vwCl [(m0, .inr (4, [.int th, .ref m1, .ref m2, .ref m3, .int (nI sy), .ref m4, .int (nI ly), .ref m5, .ref m6, .int (nI py), .ref m7, .ref m8, .ref m9, .int (nI ay), .int (if iw = true then 1 else 0), .ref m10, .int (nI ty), .long hy])), (m9, .inl (K 0, 16, .inl (prR h mk fw (i + 1))))] _ := hP
        have hD : va_D A [(m0, .inr (4, [.int th, .ref m1, .ref m2, .ref m3, .int (nI sy), .ref m4, .int (nI ly), .ref m5, .ref m6, .int (nI py), .ref m7, .ref m8, .ref m9, .int (nI ay), .int (if iw = true then 1 else 0), .ref m10, .int (nI ty), .long hy])), (m9, .inl (K 0, 16, .inl (prR h mk fw (i + 1))))] := hD
        refine lv_iinc (v := nI (i + 1)) (lv' := [(3, .int (nI (i + 1))), (0, .ref m0), (1, .int (nI h)), (2, .int mk)]) hx hb dX4_adds_47 hl (k := 0) rfl (nI_add i 1) (by decide) rfl (fun ls hl => ?_)
        refine lv_goto (tgt := 2) hx hb dX4_adds_50 (by decide) ?_
        exact ih2 H locs ls ⟨hP, hD, hS, lv_sub hl [0, 1, 2, 3] rfl⟩
  · exact ⟨hP, hD, hS, lv_sub hl [0, 1, 2, 3] rfl⟩
