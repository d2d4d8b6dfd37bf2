set_option maxHeartbeats 4000000 in
set_option maxRecDepth 100000 in
theorem c_X4_letter (l : Launch) (D : va_G) (K : Nat → ClassId) (m0 : Nat) (m1 : Nat) (m2 : Nat) (m3 : Nat) (m4 : Nat) (m5 : Nat) (m6 : Nat) (m7 : Nat) (m8 : Nat) (m9 : Nat) (m10 : Nat) (th : Int32) (sy : Nat) (ly : Nat) (py : Nat) (ay : Nat) (iw : Bool) (ty : Nat) (hy : Int64) (bf : Nat → Int32) (hln : ly ≤ 60) (hay : ay ≤ 100) : MRi l yX4_letter wsX4_letter ({ frames := 0, cells := 0, slots := 0, locals := 0 } : Room) D (gTy K) [.ref m0] [(m0, .inr (4, [.int th, .ref m1, .ref m2, .ref m3, .int (nI sy), .ref m4, .int (nI ly), .ref m5, .ref m6, .int (nI py), .ref m7, .ref m8, .ref m9, .int (nI ay), .int (if iw = true then 1 else 0), .ref m10, .int (nI ty), .long hy])), (m4, .inl (K 0, 60, .inl bf))] (fun r => r = letA bf ly ay) := by
  refine g_ofR (cc := cX4_letter) (maxL := 1) (ret := (some .int)) (own := RX4) (by decide) rfl rfl (Nat.le_of_ble_eq_true rfl) ?_
  intro pp ee s mm below meth cc hfx hK hP hE hS ls hl
  obtain ⟨hx, hb, hr, hml, hown, hts, hlk⟩ := hfx
  have hl : lv_has ls 1 [(0, .ref m0)] := hl
  have hi4 : ∀ w ∈ u_ws RX4 TX4 18, w ∈ wsX4_letter := fun w h => List.mem_cons_of_mem _ (List.mem_append_right _ (h))
  refine lv_aload_n hx hb dX4_letter_0 rfl (lv_at hl 0 rfl) ?_
  refine va_get (D := D) (ci := 4) (v := .int (nI ay)) (C := RX4) (T := TX4) (N := 18) hx hb hts hi4 hown hK hP 0 rfl rfl 13 (by decide) (hts (.fieldLink RX4 156 "PairedChannelsModel" "at" "I") (List.mem_of_getElem? (i := 1) (by decide +kernel))) (fun _ h9 => h9) rfl dX4_letter_1 ?_
  refine lv_aload_n hx hb dX4_letter_4 rfl (lv_at hl 0 rfl) ?_
  refine va_get (D := D) (ci := 4) (v := .int (nI ly)) (C := RX4) (T := TX4) (N := 18) hx hb hts hi4 hown hK hP 0 rfl rfl 6 (by decide) (hts (.fieldLink RX4 153 "PairedChannelsModel" "length" "I") (List.mem_of_getElem? (i := 2) (by decide +kernel))) (fun _ h9 => h9) rfl dX4_letter_5 ?_
  refine g_cut (F0 mm 24 ls [.int (if ly ≤ ay then (0 : Int32) else bf ay)]) (fun hJ => ?_) ?_
  · refine lv_icmp_ge (tgt := 23) hx hb dX4_letter_8 (by decide) (fun c8 => ?_) (fun c8 => ?_)
    · skip
      have c8 : ly ≤ ay := (nI_leI (a := ly) (b := ay) (by omega) (by omega)).mp c8
      refine lv_iconst (v := 0) hx hb dX4_letter_23 (by decide) ?_
      refine lv_eqi ((if ly ≤ ay then (0 : Int32) else bf ay)) (if_pos c8).symm ?_
      exact hJ
    · skip
      have c8 : ¬ ly ≤ ay := fun h9 => c8 ((nI_leI (a := ly) (b := ay) (by omega) (by omega)).mpr h9)
      refine lv_aload_n hx hb dX4_letter_11 rfl (lv_at hl 0 rfl) ?_
      refine va_get (D := D) (ci := 4) (v := .ref m4) (C := RX4) (T := TX4) (N := 18) hx hb hts hi4 hown hK hP 0 rfl rfl 5 (by decide) (hts (.fieldLink RX4 19 "PairedChannelsModel" "buffer" "[I") (List.mem_of_getElem? (i := 3) (by decide +kernel))) (fun _ h9 => h9) rfl dX4_letter_12 ?_
      refine lv_aload_n hx hb dX4_letter_15 rfl (lv_at hl 0 rfl) ?_
      refine va_get (D := D) (ci := 4) (v := .int (nI ay)) (C := RX4) (T := TX4) (N := 18) hx hb hts hi4 hown hK hP 0 rfl rfl 13 (by decide) (hts (.fieldLink RX4 156 "PairedChannelsModel" "at" "I") (List.mem_of_getElem? (i := 1) (by decide +kernel))) (fun _ h9 => h9) rfl dX4_letter_16 ?_
      refine wa_iald hx hb hK hP 1 0 rfl rfl (ay) rfl (by omega) (by decide) dX4_letter_19 ?_
      refine lv_goto (tgt := 24) hx hb dX4_letter_20 (by decide) ?_
      refine lv_eqi ((if ly ≤ ay then (0 : Int32) else bf ay)) (if_neg c8).symm ?_
      exact hJ
  · skip
    exact gR_iret (v := (if ly ≤ ay then (0 : Int32) else bf ay)) hx hb hr hlk (rfl) hS (by unfold letA; exact if_le_lt _ _ _) dX4_letter_24

set_option maxHeartbeats 4000000 in
set_option maxRecDepth 100000 in
theorem c_X4_readsValue (l : Launch) (D : va_G) (K : Nat → ClassId) (m0 : Nat) (m1 : Nat) (m2 : Nat) (m3 : Nat) (m4 : Nat) (m5 : Nat) (m6 : Nat) (m7 : Nat) (m8 : Nat) (m9 : Nat) (m10 : Nat) (th : Int32) (sy : Nat) (ly : Nat) (py : Nat) (ay : Nat) (iw : Bool) (ty : Nat) (hy : Int64) (bf : Nat → Int32) (tf : Nat → Int32) (hln : ly ≤ 60) (hay : ay ≤ 60) (hty : ty ≤ 16) : MWv l yX4_readsValue wsX4_readsValue ({ frames := 1, cells := 0, slots := 0, locals := 22 } : Room) D (gTy K) [.ref m0] [(m0, .inr (4, [.int th, .ref m1, .ref m2, .ref m3, .int (nI sy), .ref m4, .int (nI ly), .ref m5, .ref m6, .int (nI py), .ref m7, .ref m8, .ref m9, .int (nI ay), .int (if iw = true then 1 else 0), .ref m10, .int (nI ty), .long hy])), (m4, .inl (K 0, 60, .inl bf)), (m10, .inl (K 0, 32, .inl tf))] (fun (u : Nat × Bool × Int32) => [(m0, .inr (4, [.int th, .ref m1, .ref m2, .ref m3, .int (nI sy), .ref m4, .int (nI ly), .ref m5, .ref m6, .int (nI py), .ref m7, .ref m8, .ref m9, .int (nI u.1), .int (if u.2.1 = true then 1 else 0), .ref m10, .int (nI (ty + 1)), .long hy])), (m4, .inl (K 0, 60, .inl bf)), (m10, .inl (K 0, 32, .inl (upd tf ty u.2.2)))]) (fun (u : Nat × Bool × Int32) => u = rvA bf ly ay) 0 0 := by
  refine g_ofW (Qc := fun A => va_Qv _ (gB D (gTy K) A _) A) (cc := cX4_readsValue) (maxL := 3) (ret := none) (own := RX4) (by decide) rfl rfl (Nat.le_of_ble_eq_true rfl) ?_
  intro pp ee s mm below meth cc A hfx hnm hK hP hD hE hS hA ls hl
  obtain ⟨hx, hb, hr, hml, hown, hts, hlk⟩ := hfx
  have hl : lv_has ls 3 [(0, .ref m0)] := hl
  have hi4 : ∀ w ∈ u_ws RX4 TX4 18, w ∈ wsX4_readsValue := fun w h => List.mem_cons_of_mem _ (List.mem_append_right _ (h))
  have hvi := rvI_b bf ly ay
  have hvj := rvJ_b bf ly ay
  refine lv_aload_n hx hb dX4_readsValue_0 rfl (lv_at hl 0 rfl) ?_
  refine gR_i (va_runV (As := []) (rest := []) ⟨hx, hb, hml, hown, hts⟩ (c_X4_letter l D K m0 m1 m2 m3 m4 m5 m6 m7 m8 m9 m10 th sy ly py ay iw ty hy bf (by first | assumption | omega) (by first | assumption | omega)) (cwV 0 hts gX4_readsValue_X4_letter rfl rfl rfl (by decide +kernel) ⟨Nat.le_of_ble_eq_true rfl, Nat.le_of_ble_eq_true rfl⟩) (gR_preV hE hS hK hP [0, 1] rfl 0 rfl rfl rfl) rfl rfl hl.1 rfl (lv_room (Nat.le_of_ble_eq_true rfl)) dX4_readsValue_1 ⟨Nat.le_of_ble_eq_true rfl, Nat.le_of_ble_eq_true rfl⟩) hS hP (fun rv2 H locs h1 hP hS => ?_)
  have h1 : rv2 = (letA bf ly ay) := h1
  subst h1
  refine lv_bipush (v := 45) hx hb dX4_readsValue_4 (by decide) ?_
  refine g_cut (F0 mm 14 ls [.int (if (letA bf ly ay) = 45 then 1 else 0)]) (fun hJ => ?_) ?_
  · refine lv_icmp_ne (tgt := 13) hx hb dX4_readsValue_6 (by decide) (fun c3 => ?_) (fun c3 => ?_)
    · skip
      refine lv_iconst (v := 0) hx hb dX4_readsValue_13 (by decide) ?_
      refine lv_eqi ((if (letA bf ly ay) = 45 then 1 else 0)) (if_neg c3).symm ?_
      exact hJ
    · skip
      refine lv_iconst (v := 1) hx hb dX4_readsValue_9 (by decide) ?_
      refine lv_goto (tgt := 14) hx hb dX4_readsValue_10 (by decide) ?_
      refine lv_eqi ((if (letA bf ly ay) = 45 then 1 else 0)) (if_pos c3).symm ?_
      exact hJ
  · skip
    refine lv_istore_n (lv' := [(1, .int (if (letA bf ly ay) = 45 then 1 else 0)), (0, .ref m0)]) hx hb dX4_readsValue_14 rfl hl (by decide) rfl (fun ls hl => ?_)
    refine lv_aload_n hx hb dX4_readsValue_15 rfl (lv_at hl 1 rfl) ?_
    refine lv_dup hx hb dX4_readsValue_16 rfl ?_
    refine va_get (D := D) (ci := 4) (v := .int (nI ay)) (C := RX4) (T := TX4) (N := 18) hx hb hts hi4 hown hK hP 0 rfl rfl 13 (by decide) (hts (.fieldLink RX4 156 "PairedChannelsModel" "at" "I") (List.mem_of_getElem? (i := 1) (by decide +kernel))) (fun _ h9 => h9) rfl dX4_readsValue_17 ?_
    refine lv_iload_n hx hb dX4_readsValue_20 rfl (lv_at hl 0 rfl) ?_
    refine g_cut (F0 mm 29 ls [.int (if (letA bf ly ay) = 45 then 1 else 0), .int (nI ay), .ref m0]) (fun hJ => ?_) ?_
    · refine lv_if_eq (tgt := 28) hx hb dX4_readsValue_21 (by decide) (fun c5 => ?_) (fun c5 => ?_)
      · skip
        have c5 : ¬ ((letA bf ly ay) = 45) := b_eq0 c5
        refine lv_iconst (v := 0) hx hb dX4_readsValue_28 (by decide) ?_
        refine lv_eqi ((if (letA bf ly ay) = 45 then 1 else 0)) (if_neg c5).symm ?_
        exact hJ
      · skip
        have c5 : (letA bf ly ay) = 45 := b_ne0 c5
        refine lv_iconst (v := 1) hx hb dX4_readsValue_24 (by decide) ?_
        refine lv_goto (tgt := 29) hx hb dX4_readsValue_25 (by decide) ?_
        refine lv_eqi ((if (letA bf ly ay) = 45 then 1 else 0)) (if_pos c5).symm ?_
        exact hJ
    · skip
      refine lv_iadd hx hb dX4_readsValue_29 ?_
      refine lv_eqi (nI (rvI bf ly ay)) (nI_it _ _) ?_
      refine va_put (D := D) (ci := 4) (v := .int (nI (rvI bf ly ay))) (ty := .int) (C := RX4) (T := TX4) (N := 18) hx hb hts hi4 tyX4 tyX4_ok nmX4 hown hK hP hD hS 0 rfl rfl 13 (by decide) (hts (.fieldLink RX4 156 "PairedChannelsModel" "at" "I") (List.mem_of_getElem? (i := 1) (by decide +kernel))) (fun _ h9 => h9) rfl (by decide +kernel) (rfl) (rfl) (Nat.le_of_ble_eq_true rfl) dX4_readsValue_30 (fun H locs hP hD hS => ?_)
      have hP : va_P D vwCl [(m0, .inr (4, [.int th, .ref m1, .ref m2, .ref m3, .int (nI sy), .ref m4, .int (nI ly), .ref m5, .ref m6, .int (nI py), .ref m7, .ref m8, .ref m9, .int (nI (rvI bf ly ay)), .int (if iw = true then 1 else 0), .ref m10, .int (nI ty), .long hy])), (m4, .inl (K 0, 60, .inl bf)), (m10, .inl (K 0, 32, .inl tf))] _ := hP
      have hD : va_D A [(m0, .inr (4, [.int th, .ref m1, .ref m2, .ref m3, .int (nI sy), .ref m4, .int (nI ly), .ref m5, .ref m6, .int (nI py), .ref m7, .ref m8, .ref m9, .int (nI (rvI bf ly ay)), .int (if iw = true then 1 else 0), .ref m10, .int (nI ty), .long hy])), (m4, .inl (K 0, 60, .inl bf)), (m10, .inl (K 0, 32, .inl tf))] := hD
      refine lv_aload_n hx hb dX4_readsValue_33 rfl (lv_at hl 1 rfl) ?_
      refine lv_aload_n hx hb dX4_readsValue_34 rfl (lv_at hl 1 rfl) ?_
      refine gR_i (va_runV (As := []) (rest := [.ref m0]) ⟨hx, hb, hml, hown, hts⟩ (c_X4_letter l D K m0 m1 m2 m3 m4 m5 m6 m7 m8 m9 m10 th sy ly py (rvI bf ly ay) iw ty hy bf (by first | assumption | omega) (by first | assumption | omega)) (cwV 0 hts gX4_readsValue_X4_letter rfl rfl rfl (by decide +kernel) ⟨Nat.le_of_ble_eq_true rfl, Nat.le_of_ble_eq_true rfl⟩) (gR_preV hE hS hK hP [0, 1] rfl 0 rfl rfl rfl) rfl rfl hl.1 rfl (lv_room (Nat.le_of_ble_eq_true rfl)) dX4_readsValue_35 ⟨Nat.le_of_ble_eq_true rfl, Nat.le_of_ble_eq_true rfl⟩) hS hP (fun rv8 H locs h7 hP hS => ?_)
      have h7 : rv8 = (letA bf ly (rvI bf ly ay)) := h7
      subst h7
      refine lv_bipush (v := 48) hx hb dX4_readsValue_38 (by decide) ?_
      refine lv_bipush (v := 57) hx hb dX4_readsValue_40 (by decide) ?_
      refine gR_i (va_runS (As := [.int (letA bf ly (rvI bf ly ay)), .int 48, .int 57]) (rest := [.ref m0]) ⟨hx, hb, hml, hown, hts⟩ (c_X4_in l D K (letA bf ly (rvI bf ly ay)) 48 57 ) (va_cwS 3 hts gX4_readsValue_X4_in rfl rfl rfl (by decide +kernel) ⟨Nat.le_of_ble_eq_true rfl, Nat.le_of_ble_eq_true rfl⟩) (gR_pre hE hS hK hP [] rfl) rfl rfl hl.1 rfl (lv_room (Nat.le_of_ble_eq_true rfl)) dX4_readsValue_42 ⟨Nat.le_of_ble_eq_true rfl, Nat.le_of_ble_eq_true rfl⟩) hS hP (fun rv10 H locs h9 hP hS => ?_)
      have h9 : rv10 = (if 48 ≤ (letA bf ly (rvI bf ly ay)) ∧ (letA bf ly (rvI bf ly ay)) ≤ 57 then 1 else 0) := h9
      subst h9
      refine lv_eqi ((if rvB bf ly ay = true then 1 else 0)) (b_dec _) ?_
      refine va_put (D := D) (ci := 4) (v := .int (if rvB bf ly ay = true then 1 else 0)) (ty := .boolean) (C := RX4) (T := TX4) (N := 18) hx hb hts hi4 tyX4 tyX4_ok nmX4 hown hK hP hD hS 0 rfl rfl 14 (by decide) (hts (.fieldLink RX4 162 "PairedChannelsModel" "isWell" "Z") (List.mem_of_getElem? (i := 2) (by decide +kernel))) (fun _ h9 => h9) rfl (by decide +kernel) (nar_b _) (fit_b _) (Nat.le_of_ble_eq_true rfl) dX4_readsValue_45 (fun H locs hP hD hS => ?_)
      have hP : va_P D vwCl [(m0, .inr (4, [.int th, .ref m1, .ref m2, .ref m3, .int (nI sy), .ref m4, .int (nI ly), .ref m5, .ref m6, .int (nI py), .ref m7, .ref m8, .ref m9, .int (nI (rvI bf ly ay)), .int (if rvB bf ly ay = true then 1 else 0), .ref m10, .int (nI ty), .long hy])), (m4, .inl (K 0, 60, .inl bf)), (m10, .inl (K 0, 32, .inl tf))] _ := hP
      have hD : va_D A [(m0, .inr (4, [.int th, .ref m1, .ref m2, .ref m3, .int (nI sy), .ref m4, .int (nI ly), .ref m5, .ref m6, .int (nI py), .ref m7, .ref m8, .ref m9, .int (nI (rvI bf ly ay)), .int (if rvB bf ly ay = true then 1 else 0), .ref m10, .int (nI ty), .long hy])), (m4, .inl (K 0, 60, .inl bf)), (m10, .inl (K 0, 32, .inl tf))] := hD
      refine lv_aload_n hx hb dX4_readsValue_48 rfl (lv_at hl 1 rfl) ?_
      refine gR_i (va_runV (As := []) (rest := []) ⟨hx, hb, hml, hown, hts⟩ (c_X4_letter l D K m0 m1 m2 m3 m4 m5 m6 m7 m8 m9 m10 th sy ly py (rvI bf ly ay) (rvB bf ly ay) ty hy bf (by first | assumption | omega) (by first | assumption | omega)) (cwV 0 hts gX4_readsValue_X4_letter rfl rfl rfl (by decide +kernel) ⟨Nat.le_of_ble_eq_true rfl, Nat.le_of_ble_eq_true rfl⟩) (gR_preV hE hS hK hP [0, 1] rfl 0 rfl rfl rfl) rfl rfl hl.1 rfl (lv_room (Nat.le_of_ble_eq_true rfl)) dX4_readsValue_49 ⟨Nat.le_of_ble_eq_true rfl, Nat.le_of_ble_eq_true rfl⟩) hS hP (fun rv12 H locs h11 hP hS => ?_)
      have h11 : rv12 = (letA bf ly (rvI bf ly ay)) := h11
      subst h11
      refine lv_bipush (v := 48) hx hb dX4_readsValue_52 (by decide) ?_
      refine lv_isub hx hb dX4_readsValue_54 ?_
      refine lv_eqi ((rvD bf ly ay)) (rfl) ?_
      refine lv_istore_n (lv' := [(2, .int (rvD bf ly ay)), (1, .int (if (letA bf ly ay) = 45 then 1 else 0)), (0, .ref m0)]) hx hb dX4_readsValue_55 rfl hl (by decide) rfl (fun ls hl => ?_)
      refine lv_aload_n hx hb dX4_readsValue_56 rfl (lv_at hl 2 rfl) ?_
      refine lv_dup hx hb dX4_readsValue_57 rfl ?_
      refine va_get (D := D) (ci := 4) (v := .int (nI (rvI bf ly ay))) (C := RX4) (T := TX4) (N := 18) hx hb hts hi4 hown hK hP 0 rfl rfl 13 (by decide) (hts (.fieldLink RX4 156 "PairedChannelsModel" "at" "I") (List.mem_of_getElem? (i := 1) (by decide +kernel))) (fun _ h9 => h9) rfl dX4_readsValue_58 ?_
      refine lv_aload_n hx hb dX4_readsValue_61 rfl (lv_at hl 2 rfl) ?_
      refine va_get (D := D) (ci := 4) (v := .int (if rvB bf ly ay = true then 1 else 0)) (C := RX4) (T := TX4) (N := 18) hx hb hts hi4 hown hK hP 0 rfl rfl 14 (by decide) (hts (.fieldLink RX4 162 "PairedChannelsModel" "isWell" "Z") (List.mem_of_getElem? (i := 2) (by decide +kernel))) (fun _ h9 => h9) rfl dX4_readsValue_62 ?_
      refine g_cut (F0 mm 73 ls [.int (if rvB bf ly ay = true then 1 else 0), .int (nI (rvI bf ly ay)), .ref m0]) (fun hJ => ?_) ?_
      · refine lv_if_eq (tgt := 72) hx hb dX4_readsValue_65 (by decide) (fun c13 => ?_) (fun c13 => ?_)
        · skip
          have c13 : ¬ (rvB bf ly ay = true) := b_eq0 c13
          refine lv_iconst (v := 0) hx hb dX4_readsValue_72 (by decide) ?_
          refine lv_eqi ((if rvB bf ly ay = true then 1 else 0)) (if_neg c13).symm ?_
          exact hJ
        · skip
          have c13 : rvB bf ly ay = true := b_ne0 c13
          refine lv_iconst (v := 1) hx hb dX4_readsValue_68 (by decide) ?_
          refine lv_goto (tgt := 73) hx hb dX4_readsValue_69 (by decide) ?_
          refine lv_eqi ((if rvB bf ly ay = true then 1 else 0)) (if_pos c13).symm ?_
          exact hJ
      · skip
        refine lv_iadd hx hb dX4_readsValue_73 ?_
        refine lv_eqi (nI (rvJ bf ly ay)) (nI_it _ _) ?_
        refine va_put (D := D) (ci := 4) (v := .int (nI (rvJ bf ly ay))) (ty := .int) (C := RX4) (T := TX4) (N := 18) hx hb hts hi4 tyX4 tyX4_ok nmX4 hown hK hP hD hS 0 rfl rfl 13 (by decide) (hts (.fieldLink RX4 156 "PairedChannelsModel" "at" "I") (List.mem_of_getElem? (i := 1) (by decide +kernel))) (fun _ h9 => h9) rfl (by decide +kernel) (rfl) (rfl) (Nat.le_of_ble_eq_true rfl) dX4_readsValue_74 (fun H locs hP hD hS => ?_)
        have hP : va_P D vwCl [(m0, .inr (4, [.int th, .ref m1, .ref m2, .ref m3, .int (nI sy), .ref m4, .int (nI ly), .ref m5, .ref m6, .int (nI py), .ref m7, .ref m8, .ref m9, .int (nI (rvJ bf ly ay)), .int (if rvB bf ly ay = true then 1 else 0), .ref m10, .int (nI ty), .long hy])), (m4, .inl (K 0, 60, .inl bf)), (m10, .inl (K 0, 32, .inl tf))] _ := hP
        have hD : va_D A [(m0, .inr (4, [.int th, .ref m1, .ref m2, .ref m3, .int (nI sy), .ref m4, .int (nI ly), .ref m5, .ref m6, .int (nI py), .ref m7, .ref m8, .ref m9, .int (nI (rvJ bf ly ay)), .int (if rvB bf ly ay = true then 1 else 0), .ref m10, .int (nI ty), .long hy])), (m4, .inl (K 0, 60, .inl bf)), (m10, .inl (K 0, 32, .inl tf))] := hD
        refine lv_aload_n hx hb dX4_readsValue_77 rfl (lv_at hl 2 rfl) ?_
        refine va_get (D := D) (ci := 4) (v := .int (if rvB bf ly ay = true then 1 else 0)) (C := RX4) (T := TX4) (N := 18) hx hb hts hi4 hown hK hP 0 rfl rfl 14 (by decide) (hts (.fieldLink RX4 162 "PairedChannelsModel" "isWell" "Z") (List.mem_of_getElem? (i := 2) (by decide +kernel))) (fun _ h9 => h9) rfl dX4_readsValue_78 ?_
        refine lv_if_eq (tgt := 125) hx hb dX4_readsValue_81 (by decide) (fun c81 => ?_) (fun c81 => ?_)
        · skip
          have c81 : ¬ (rvB bf ly ay = true) := b_eq0 c81
          refine lv_aload_n hx hb dX4_readsValue_125 rfl (lv_at hl 2 rfl) ?_
          refine va_get (D := D) (ci := 4) (v := .ref m10) (C := RX4) (T := TX4) (N := 18) hx hb hts hi4 hown hK hP 0 rfl rfl 15 (by decide) (hts (.fieldLink RX4 37 "PairedChannelsModel" "told" "[I") (List.mem_of_getElem? (i := 3) (by decide +kernel))) (fun _ h9 => h9) rfl dX4_readsValue_126 ?_
          refine lv_aload_n hx hb dX4_readsValue_129 rfl (lv_at hl 2 rfl) ?_
          refine va_get (D := D) (ci := 4) (v := .int (nI ty)) (C := RX4) (T := TX4) (N := 18) hx hb hts hi4 hown hK hP 0 rfl rfl 16 (by decide) (hts (.fieldLink RX4 166 "PairedChannelsModel" "toldMany" "I") (List.mem_of_getElem? (i := 4) (by decide +kernel))) (fun _ h9 => h9) rfl dX4_readsValue_130 ?_
          refine lv_iload_n hx hb dX4_readsValue_133 rfl (lv_at hl 1 rfl) ?_
          refine g_cut (F0 mm 143 ls [.int (if (letA bf ly ay) = 45 then (-(rvD bf ly ay)) else (rvD bf ly ay)), .int (nI ty), .ref m10]) (fun hJ => ?_) ?_
          · refine lv_if_eq (tgt := 142) hx hb dX4_readsValue_134 (by decide) (fun c16 => ?_) (fun c16 => ?_)
            · skip
              have c16 : ¬ ((letA bf ly ay) = 45) := b_eq0 c16
              refine lv_iload_n hx hb dX4_readsValue_142 rfl (lv_at hl 0 rfl) ?_
              refine lv_eqi ((if (letA bf ly ay) = 45 then (-(rvD bf ly ay)) else (rvD bf ly ay))) (if_neg c16).symm ?_
              exact hJ
            · skip
              have c16 : (letA bf ly ay) = 45 := b_ne0 c16
              refine lv_iload_n hx hb dX4_readsValue_137 rfl (lv_at hl 0 rfl) ?_
              refine lv_ineg hx hb dX4_readsValue_138 ?_
              refine lv_goto (tgt := 143) hx hb dX4_readsValue_139 (by decide) ?_
              refine lv_eqi ((if (letA bf ly ay) = 45 then (-(rvD bf ly ay)) else (rvD bf ly ay))) (if_pos c16).symm ?_
              exact hJ
          · skip
            refine lv_eqi ((rvS bf ly ay (rvD bf ly ay))) (rfl) ?_
            refine wa_iast (x := (rvS bf ly ay (rvD bf ly ay))) hx hb hK hP hD hS 2 0 rfl rfl (ty) rfl (by omega) (by decide) dX4_readsValue_143 (fun H locs hP hD hS => ?_)
            have hP : va_P D vwCl [(m0, .inr (4, [.int th, .ref m1, .ref m2, .ref m3, .int (nI sy), .ref m4, .int (nI ly), .ref m5, .ref m6, .int (nI py), .ref m7, .ref m8, .ref m9, .int (nI (rvJ bf ly ay)), .int (if rvB bf ly ay = true then 1 else 0), .ref m10, .int (nI ty), .long hy])), (m4, .inl (K 0, 60, .inl bf)), (m10, .inl (K 0, 32, .inl (upd tf ty (rvS bf ly ay (rvD bf ly ay)))))] _ := hP
            have hD : va_D A [(m0, .inr (4, [.int th, .ref m1, .ref m2, .ref m3, .int (nI sy), .ref m4, .int (nI ly), .ref m5, .ref m6, .int (nI py), .ref m7, .ref m8, .ref m9, .int (nI (rvJ bf ly ay)), .int (if rvB bf ly ay = true then 1 else 0), .ref m10, .int (nI ty), .long hy])), (m4, .inl (K 0, 60, .inl bf)), (m10, .inl (K 0, 32, .inl (upd tf ty (rvS bf ly ay (rvD bf ly ay)))))] := hD
            refine lv_aload_n hx hb dX4_readsValue_144 rfl (lv_at hl 2 rfl) ?_
            refine lv_dup hx hb dX4_readsValue_145 rfl ?_
            refine va_get (D := D) (ci := 4) (v := .int (nI ty)) (C := RX4) (T := TX4) (N := 18) hx hb hts hi4 hown hK hP 0 rfl rfl 16 (by decide) (hts (.fieldLink RX4 166 "PairedChannelsModel" "toldMany" "I") (List.mem_of_getElem? (i := 4) (by decide +kernel))) (fun _ h9 => h9) rfl dX4_readsValue_146 ?_
            refine lv_iconst (v := 1) hx hb dX4_readsValue_149 (by decide) ?_
            refine lv_iadd hx hb dX4_readsValue_150 ?_
            refine lv_eqi (nI (ty + 1)) (nI_add ty 1) ?_
            refine va_put (D := D) (ci := 4) (v := .int (nI (ty + 1))) (ty := .int) (C := RX4) (T := TX4) (N := 18) hx hb hts hi4 tyX4 tyX4_ok nmX4 hown hK hP hD hS 0 rfl rfl 16 (by decide) (hts (.fieldLink RX4 166 "PairedChannelsModel" "toldMany" "I") (List.mem_of_getElem? (i := 4) (by decide +kernel))) (fun _ h9 => h9) rfl (by decide +kernel) (rfl) (rfl) (Nat.le_of_ble_eq_true rfl) dX4_readsValue_151 (fun H locs hP hD hS => ?_)
            have hP : va_P D vwCl [(m0, .inr (4, [.int th, .ref m1, .ref m2, .ref m3, .int (nI sy), .ref m4, .int (nI ly), .ref m5, .ref m6, .int (nI py), .ref m7, .ref m8, .ref m9, .int (nI (rvJ bf ly ay)), .int (if rvB bf ly ay = true then 1 else 0), .ref m10, .int (nI (ty + 1)), .long hy])), (m4, .inl (K 0, 60, .inl bf)), (m10, .inl (K 0, 32, .inl (upd tf ty (rvS bf ly ay (rvD bf ly ay)))))] _ := hP
            have hD : va_D A [(m0, .inr (4, [.int th, .ref m1, .ref m2, .ref m3, .int (nI sy), .ref m4, .int (nI ly), .ref m5, .ref m6, .int (nI py), .ref m7, .ref m8, .ref m9, .int (nI (rvJ bf ly ay)), .int (if rvB bf ly ay = true then 1 else 0), .ref m10, .int (nI (ty + 1)), .long hy])), (m4, .inl (K 0, 60, .inl bf)), (m10, .inl (K 0, 32, .inl (upd tf ty (rvS bf ly ay (rvD bf ly ay)))))] := hD
            exact gW_vret ((rvJ bf ly ay), rvB bf ly ay, (rvS bf ly ay (rvD bf ly ay))) hx hb hr hlk hK hP hD hS (by unfold rvA; first | exact g_ip ⟨c81, Int32.not_le.mp c85, c99⟩ rfl | exact g_in (fun h => c99 h.2.2) rfl | exact g_in (fun h => absurd h.2.1 (Int32.not_lt.mpr c85)) rfl | exact g_in (fun h => c81 h.1) rfl) dX4_readsValue_154
        · skip
          have c81 : rvB bf ly ay = true := b_ne0 c81
          refine lv_iload_n hx hb dX4_readsValue_84 rfl (lv_at hl 0 rfl) ?_
          refine lv_if_le (tgt := 125) hx hb dX4_readsValue_85 (by decide) (fun c85 => ?_) (fun c85 => ?_)
          · skip
            refine lv_aload_n hx hb dX4_readsValue_125 rfl (lv_at hl 2 rfl) ?_
            refine va_get (D := D) (ci := 4) (v := .ref m10) (C := RX4) (T := TX4) (N := 18) hx hb hts hi4 hown hK hP 0 rfl rfl 15 (by decide) (hts (.fieldLink RX4 37 "PairedChannelsModel" "told" "[I") (List.mem_of_getElem? (i := 3) (by decide +kernel))) (fun _ h9 => h9) rfl dX4_readsValue_126 ?_
            refine lv_aload_n hx hb dX4_readsValue_129 rfl (lv_at hl 2 rfl) ?_
            refine va_get (D := D) (ci := 4) (v := .int (nI ty)) (C := RX4) (T := TX4) (N := 18) hx hb hts hi4 hown hK hP 0 rfl rfl 16 (by decide) (hts (.fieldLink RX4 166 "PairedChannelsModel" "toldMany" "I") (List.mem_of_getElem? (i := 4) (by decide +kernel))) (fun _ h9 => h9) rfl dX4_readsValue_130 ?_
            refine lv_iload_n hx hb dX4_readsValue_133 rfl (lv_at hl 1 rfl) ?_
            refine g_cut (F0 mm 143 ls [.int (if (letA bf ly ay) = 45 then (-(rvD bf ly ay)) else (rvD bf ly ay)), .int (nI ty), .ref m10]) (fun hJ => ?_) ?_
            · refine lv_if_eq (tgt := 142) hx hb dX4_readsValue_134 (by decide) (fun c18 => ?_) (fun c18 => ?_)
              · skip
                have c18 : ¬ ((letA bf ly ay) = 45) := b_eq0 c18
                refine lv_iload_n hx hb dX4_readsValue_142 rfl (lv_at hl 0 rfl) ?_
                refine lv_eqi ((if (letA bf ly ay) = 45 then (-(rvD bf ly ay)) else (rvD bf ly ay))) (if_neg c18).symm ?_
                exact hJ
              · skip
                have c18 : (letA bf ly ay) = 45 := b_ne0 c18
                refine lv_iload_n hx hb dX4_readsValue_137 rfl (lv_at hl 0 rfl) ?_
                refine lv_ineg hx hb dX4_readsValue_138 ?_
                refine lv_goto (tgt := 143) hx hb dX4_readsValue_139 (by decide) ?_
                refine lv_eqi ((if (letA bf ly ay) = 45 then (-(rvD bf ly ay)) else (rvD bf ly ay))) (if_pos c18).symm ?_
                exact hJ
            · skip
              refine lv_eqi ((rvS bf ly ay (rvD bf ly ay))) (rfl) ?_
              refine wa_iast (x := (rvS bf ly ay (rvD bf ly ay))) hx hb hK hP hD hS 2 0 rfl rfl (ty) rfl (by omega) (by decide) dX4_readsValue_143 (fun H locs hP hD hS => ?_)
              have hP : va_P D vwCl [(m0, .inr (4, [.int th, .ref m1, .ref m2, .ref m3, .int (nI sy), .ref m4, .int (nI ly), .ref m5, .ref m6, .int (nI py), .ref m7, .ref m8, .ref m9, .int (nI (rvJ bf ly ay)), .int (if rvB bf ly ay = true then 1 else 0), .ref m10, .int (nI ty), .long hy])), (m4, .inl (K 0, 60, .inl bf)), (m10, .inl (K 0, 32, .inl (upd tf ty (rvS bf ly ay (rvD bf ly ay)))))] _ := hP
              have hD : va_D A [(m0, .inr (4, [.int th, .ref m1, .ref m2, .ref m3, .int (nI sy), .ref m4, .int (nI ly), .ref m5, .ref m6, .int (nI py), .ref m7, .ref m8, .ref m9, .int (nI (rvJ bf ly ay)), .int (if rvB bf ly ay = true then 1 else 0), .ref m10, .int (nI ty), .long hy])), (m4, .inl (K 0, 60, .inl bf)), (m10, .inl (K 0, 32, .inl (upd tf ty (rvS bf ly ay (rvD bf ly ay)))))] := hD
              refine lv_aload_n hx hb dX4_readsValue_144 rfl (lv_at hl 2 rfl) ?_
              refine lv_dup hx hb dX4_readsValue_145 rfl ?_
              refine va_get (D := D) (ci := 4) (v := .int (nI ty)) (C := RX4) (T := TX4) (N := 18) hx hb hts hi4 hown hK hP 0 rfl rfl 16 (by decide) (hts (.fieldLink RX4 166 "PairedChannelsModel" "toldMany" "I") (List.mem_of_getElem? (i := 4) (by decide +kernel))) (fun _ h9 => h9) rfl dX4_readsValue_146 ?_
              refine lv_iconst (v := 1) hx hb dX4_readsValue_149 (by decide) ?_
              refine lv_iadd hx hb dX4_readsValue_150 ?_
              refine lv_eqi (nI (ty + 1)) (nI_add ty 1) ?_
              refine va_put (D := D) (ci := 4) (v := .int (nI (ty + 1))) (ty := .int) (C := RX4) (T := TX4) (N := 18) hx hb hts hi4 tyX4 tyX4_ok nmX4 hown hK hP hD hS 0 rfl rfl 16 (by decide) (hts (.fieldLink RX4 166 "PairedChannelsModel" "toldMany" "I") (List.mem_of_getElem? (i := 4) (by decide +kernel))) (fun _ h9 => h9) rfl (by decide +kernel) (rfl) (rfl) (Nat.le_of_ble_eq_true rfl) dX4_readsValue_151 (fun H locs hP hD hS => ?_)
              have hP : va_P D vwCl [(m0, .inr (4, [.int th, .ref m1, .ref m2, .ref m3, .int (nI sy), .ref m4, .int (nI ly), .ref m5, .ref m6, .int (nI py), .ref m7, .ref m8, .ref m9, .int (nI (rvJ bf ly ay)), .int (if rvB bf ly ay = true then 1 else 0), .ref m10, .int (nI (ty + 1)), .long hy])), (m4, .inl (K 0, 60, .inl bf)), (m10, .inl (K 0, 32, .inl (upd tf ty (rvS bf ly ay (rvD bf ly ay)))))] _ := hP
              have hD : va_D A [(m0, .inr (4, [.int th, .ref m1, .ref m2, .ref m3, .int (nI sy), .ref m4, .int (nI ly), .ref m5, .ref m6, .int (nI py), .ref m7, .ref m8, .ref m9, .int (nI (rvJ bf ly ay)), .int (if rvB bf ly ay = true then 1 else 0), .ref m10, .int (nI (ty + 1)), .long hy])), (m4, .inl (K 0, 60, .inl bf)), (m10, .inl (K 0, 32, .inl (upd tf ty (rvS bf ly ay (rvD bf ly ay)))))] := hD
              exact gW_vret ((rvJ bf ly ay), rvB bf ly ay, (rvS bf ly ay (rvD bf ly ay))) hx hb hr hlk hK hP hD hS (by unfold rvA; first | exact g_ip ⟨c81, Int32.not_le.mp c85, c99⟩ rfl | exact g_in (fun h => c99 h.2.2) rfl | exact g_in (fun h => absurd h.2.1 (Int32.not_lt.mpr c85)) rfl | exact g_in (fun h => c81 h.1) rfl) dX4_readsValue_154
          · skip
            refine lv_aload_n hx hb dX4_readsValue_88 rfl (lv_at hl 2 rfl) ?_
            refine gR_i (va_runV (As := []) (rest := []) ⟨hx, hb, hml, hown, hts⟩ (c_X4_letter l D K m0 m1 m2 m3 m4 m5 m6 m7 m8 m9 m10 th sy ly py (rvJ bf ly ay) (rvB bf ly ay) ty hy bf (by first | assumption | omega) (by first | assumption | omega)) (cwV 0 hts gX4_readsValue_X4_letter rfl rfl rfl (by decide +kernel) ⟨Nat.le_of_ble_eq_true rfl, Nat.le_of_ble_eq_true rfl⟩) (gR_preV hE hS hK hP [0, 1] rfl 0 rfl rfl rfl) rfl rfl hl.1 rfl (lv_room (Nat.le_of_ble_eq_true rfl)) dX4_readsValue_89 ⟨Nat.le_of_ble_eq_true rfl, Nat.le_of_ble_eq_true rfl⟩) hS hP (fun rv20 H locs h19 hP hS => ?_)
            have h19 : rv20 = (letA bf ly (rvJ bf ly ay)) := h19
            subst h19
            refine lv_bipush (v := 48) hx hb dX4_readsValue_92 (by decide) ?_
            refine lv_bipush (v := 57) hx hb dX4_readsValue_94 (by decide) ?_
            refine gR_i (va_runS (As := [.int (letA bf ly (rvJ bf ly ay)), .int 48, .int 57]) (rest := []) ⟨hx, hb, hml, hown, hts⟩ (c_X4_in l D K (letA bf ly (rvJ bf ly ay)) 48 57 ) (va_cwS 3 hts gX4_readsValue_X4_in rfl rfl rfl (by decide +kernel) ⟨Nat.le_of_ble_eq_true rfl, Nat.le_of_ble_eq_true rfl⟩) (gR_pre hE hS hK hP [] rfl) rfl rfl hl.1 rfl (lv_room (Nat.le_of_ble_eq_true rfl)) dX4_readsValue_96 ⟨Nat.le_of_ble_eq_true rfl, Nat.le_of_ble_eq_true rfl⟩) hS hP (fun rv22 H locs h21 hP hS => ?_)
            have h21 : rv22 = (if 48 ≤ (letA bf ly (rvJ bf ly ay)) ∧ (letA bf ly (rvJ bf ly ay)) ≤ 57 then 1 else 0) := h21
            subst h21
            refine lv_if_eq (tgt := 125) hx hb dX4_readsValue_99 (by decide) (fun c99 => ?_) (fun c99 => ?_)
            · skip
              have c99 : ¬ (48 ≤ (letA bf ly (rvJ bf ly ay)) ∧ (letA bf ly (rvJ bf ly ay)) ≤ 57) := b_eq0 c99
              refine lv_aload_n hx hb dX4_readsValue_125 rfl (lv_at hl 2 rfl) ?_
              refine va_get (D := D) (ci := 4) (v := .ref m10) (C := RX4) (T := TX4) (N := 18) hx hb hts hi4 hown hK hP 0 rfl rfl 15 (by decide) (hts (.fieldLink RX4 37 "PairedChannelsModel" "told" "[I") (List.mem_of_getElem? (i := 3) (by decide +kernel))) (fun _ h9 => h9) rfl dX4_readsValue_126 ?_
              refine lv_aload_n hx hb dX4_readsValue_129 rfl (lv_at hl 2 rfl) ?_
              refine va_get (D := D) (ci := 4) (v := .int (nI ty)) (C := RX4) (T := TX4) (N := 18) hx hb hts hi4 hown hK hP 0 rfl rfl 16 (by decide) (hts (.fieldLink RX4 166 "PairedChannelsModel" "toldMany" "I") (List.mem_of_getElem? (i := 4) (by decide +kernel))) (fun _ h9 => h9) rfl dX4_readsValue_130 ?_
              refine lv_iload_n hx hb dX4_readsValue_133 rfl (lv_at hl 1 rfl) ?_
              refine g_cut (F0 mm 143 ls [.int (if (letA bf ly ay) = 45 then (-(rvD bf ly ay)) else (rvD bf ly ay)), .int (nI ty), .ref m10]) (fun hJ => ?_) ?_
              · refine lv_if_eq (tgt := 142) hx hb dX4_readsValue_134 (by decide) (fun c24 => ?_) (fun c24 => ?_)
                · skip
                  have c24 : ¬ ((letA bf ly ay) = 45) := b_eq0 c24
                  refine lv_iload_n hx hb dX4_readsValue_142 rfl (lv_at hl 0 rfl) ?_
                  refine lv_eqi ((if (letA bf ly ay) = 45 then (-(rvD bf ly ay)) else (rvD bf ly ay))) (if_neg c24).symm ?_
                  exact hJ
                · skip
                  have c24 : (letA bf ly ay) = 45 := b_ne0 c24
                  refine lv_iload_n hx hb dX4_readsValue_137 rfl (lv_at hl 0 rfl) ?_
                  refine lv_ineg hx hb dX4_readsValue_138 ?_
                  refine lv_goto (tgt := 143) hx hb dX4_readsValue_139 (by decide) ?_
                  refine lv_eqi ((if (letA bf ly ay) = 45 then (-(rvD bf ly ay)) else (rvD bf ly ay))) (if_pos c24).symm ?_
                  exact hJ
              · skip
                refine lv_eqi ((rvS bf ly ay (rvD bf ly ay))) (rfl) ?_
                refine wa_iast (x := (rvS bf ly ay (rvD bf ly ay))) hx hb hK hP hD hS 2 0 rfl rfl (ty) rfl (by omega) (by decide) dX4_readsValue_143 (fun H locs hP hD hS => ?_)
                have hP : va_P D vwCl [(m0, .inr (4, [.int th, .ref m1, .ref m2, .ref m3, .int (nI sy), .ref m4, .int (nI ly), .ref m5, .ref m6, .int (nI py), .ref m7, .ref m8, .ref m9, .int (nI (rvJ bf ly ay)), .int (if rvB bf ly ay = true then 1 else 0), .ref m10, .int (nI ty), .long hy])), (m4, .inl (K 0, 60, .inl bf)), (m10, .inl (K 0, 32, .inl (upd tf ty (rvS bf ly ay (rvD bf ly ay)))))] _ := hP
                have hD : va_D A [(m0, .inr (4, [.int th, .ref m1, .ref m2, .ref m3, .int (nI sy), .ref m4, .int (nI ly), .ref m5, .ref m6, .int (nI py), .ref m7, .ref m8, .ref m9, .int (nI (rvJ bf ly ay)), .int (if rvB bf ly ay = true then 1 else 0), .ref m10, .int (nI ty), .long hy])), (m4, .inl (K 0, 60, .inl bf)), (m10, .inl (K 0, 32, .inl (upd tf ty (rvS bf ly ay (rvD bf ly ay)))))] := hD
                refine lv_aload_n hx hb dX4_readsValue_144 rfl (lv_at hl 2 rfl) ?_
                refine lv_dup hx hb dX4_readsValue_145 rfl ?_
                refine va_get (D := D) (ci := 4) (v := .int (nI ty)) (C := RX4) (T := TX4) (N := 18) hx hb hts hi4 hown hK hP 0 rfl rfl 16 (by decide) (hts (.fieldLink RX4 166 "PairedChannelsModel" "toldMany" "I") (List.mem_of_getElem? (i := 4) (by decide +kernel))) (fun _ h9 => h9) rfl dX4_readsValue_146 ?_
                refine lv_iconst (v := 1) hx hb dX4_readsValue_149 (by decide) ?_
                refine lv_iadd hx hb dX4_readsValue_150 ?_
                refine lv_eqi (nI (ty + 1)) (nI_add ty 1) ?_
                refine va_put (D := D) (ci := 4) (v := .int (nI (ty + 1))) (ty := .int) (C := RX4) (T := TX4) (N := 18) hx hb hts hi4 tyX4 tyX4_ok nmX4 hown hK hP hD hS 0 rfl rfl 16 (by decide) (hts (.fieldLink RX4 166 "PairedChannelsModel" "toldMany" "I") (List.mem_of_getElem? (i := 4) (by decide +kernel))) (fun _ h9 => h9) rfl (by decide +kernel) (rfl) (rfl) (Nat.le_of_ble_eq_true rfl) dX4_readsValue_151 (fun H locs hP hD hS => ?_)
                have hP : va_P D vwCl [(m0, .inr (4, [.int th, .ref m1, .ref m2, .ref m3, .int (nI sy), .ref m4, .int (nI ly), .ref m5, .ref m6, .int (nI py), .ref m7, .ref m8, .ref m9, .int (nI (rvJ bf ly ay)), .int (if rvB bf ly ay = true then 1 else 0), .ref m10, .int (nI (ty + 1)), .long hy])), (m4, .inl (K 0, 60, .inl bf)), (m10, .inl (K 0, 32, .inl (upd tf ty (rvS bf ly ay (rvD bf ly ay)))))] _ := hP
                have hD : va_D A [(m0, .inr (4, [.int th, .ref m1, .ref m2, .ref m3, .int (nI sy), .ref m4, .int (nI ly), .ref m5, .ref m6, .int (nI py), .ref m7, .ref m8, .ref m9, .int (nI (rvJ bf ly ay)), .int (if rvB bf ly ay = true then 1 else 0), .ref m10, .int (nI (ty + 1)), .long hy])), (m4, .inl (K 0, 60, .inl bf)), (m10, .inl (K 0, 32, .inl (upd tf ty (rvS bf ly ay (rvD bf ly ay)))))] := hD
                exact gW_vret ((rvJ bf ly ay), rvB bf ly ay, (rvS bf ly ay (rvD bf ly ay))) hx hb hr hlk hK hP hD hS (by unfold rvA; first | exact g_ip ⟨c81, Int32.not_le.mp c85, c99⟩ rfl | exact g_in (fun h => c99 h.2.2) rfl | exact g_in (fun h => absurd h.2.1 (Int32.not_lt.mpr c85)) rfl | exact g_in (fun h => c81 h.1) rfl) dX4_readsValue_154
            · skip
              have c99 : 48 ≤ (letA bf ly (rvJ bf ly ay)) ∧ (letA bf ly (rvJ bf ly ay)) ≤ 57 := b_ne0 c99
              refine lv_bipush (v := 10) hx hb dX4_readsValue_102 (by decide) ?_
              refine lv_iload_n hx hb dX4_readsValue_104 rfl (lv_at hl 0 rfl) ?_
              refine lv_imul hx hb dX4_readsValue_105 ?_
              refine lv_aload_n hx hb dX4_readsValue_106 rfl (lv_at hl 2 rfl) ?_
              refine gR_i (va_runV (As := []) (rest := [.int (10 * (rvD bf ly ay))]) ⟨hx, hb, hml, hown, hts⟩ (c_X4_letter l D K m0 m1 m2 m3 m4 m5 m6 m7 m8 m9 m10 th sy ly py (rvJ bf ly ay) (rvB bf ly ay) ty hy bf (by first | assumption | omega) (by first | assumption | omega)) (cwV 0 hts gX4_readsValue_X4_letter rfl rfl rfl (by decide +kernel) ⟨Nat.le_of_ble_eq_true rfl, Nat.le_of_ble_eq_true rfl⟩) (gR_preV hE hS hK hP [0, 1] rfl 0 rfl rfl rfl) rfl rfl hl.1 rfl (lv_room (Nat.le_of_ble_eq_true rfl)) dX4_readsValue_107 ⟨Nat.le_of_ble_eq_true rfl, Nat.le_of_ble_eq_true rfl⟩) hS hP (fun rv26 H locs h25 hP hS => ?_)
              have h25 : rv26 = (letA bf ly (rvJ bf ly ay)) := h25
              subst h25
              refine lv_iadd hx hb dX4_readsValue_110 ?_
              refine lv_bipush (v := 48) hx hb dX4_readsValue_111 (by decide) ?_
              refine lv_isub hx hb dX4_readsValue_113 ?_
              refine lv_istore_n (lv' := [(2, .int (((10 * (rvD bf ly ay)) + (letA bf ly (rvJ bf ly ay))) - 48)), (1, .int (if (letA bf ly ay) = 45 then 1 else 0)), (0, .ref m0)]) hx hb dX4_readsValue_114 rfl hl (by decide) rfl (fun ls hl => ?_)
              refine lv_aload_n hx hb dX4_readsValue_115 rfl (lv_at hl 2 rfl) ?_
              refine lv_dup hx hb dX4_readsValue_116 rfl ?_
              refine va_get (D := D) (ci := 4) (v := .int (nI (rvJ bf ly ay))) (C := RX4) (T := TX4) (N := 18) hx hb hts hi4 hown hK hP 0 rfl rfl 13 (by decide) (hts (.fieldLink RX4 156 "PairedChannelsModel" "at" "I") (List.mem_of_getElem? (i := 1) (by decide +kernel))) (fun _ h9 => h9) rfl dX4_readsValue_117 ?_
              refine lv_iconst (v := 1) hx hb dX4_readsValue_120 (by decide) ?_
              refine lv_iadd hx hb dX4_readsValue_121 ?_
              refine lv_eqi (nI (rvJ bf ly ay + 1)) (nI_add (rvJ bf ly ay) 1) ?_
              refine va_put (D := D) (ci := 4) (v := .int (nI (rvJ bf ly ay + 1))) (ty := .int) (C := RX4) (T := TX4) (N := 18) hx hb hts hi4 tyX4 tyX4_ok nmX4 hown hK hP hD hS 0 rfl rfl 13 (by decide) (hts (.fieldLink RX4 156 "PairedChannelsModel" "at" "I") (List.mem_of_getElem? (i := 1) (by decide +kernel))) (fun _ h9 => h9) rfl (by decide +kernel) (rfl) (rfl) (Nat.le_of_ble_eq_true rfl) dX4_readsValue_122 (fun H locs hP hD hS => ?_)
              have hP : va_P D vwCl [(m0, .inr (4, [.int th, .ref m1, .ref m2, .ref m3, .int (nI sy), .ref m4, .int (nI ly), .ref m5, .ref m6, .int (nI py), .ref m7, .ref m8, .ref m9, .int (nI (rvJ bf ly ay + 1)), .int (if rvB bf ly ay = true then 1 else 0), .ref m10, .int (nI ty), .long hy])), (m4, .inl (K 0, 60, .inl bf)), (m10, .inl (K 0, 32, .inl tf))] _ := hP
              have hD : va_D A [(m0, .inr (4, [.int th, .ref m1, .ref m2, .ref m3, .int (nI sy), .ref m4, .int (nI ly), .ref m5, .ref m6, .int (nI py), .ref m7, .ref m8, .ref m9, .int (nI (rvJ bf ly ay + 1)), .int (if rvB bf ly ay = true then 1 else 0), .ref m10, .int (nI ty), .long hy])), (m4, .inl (K 0, 60, .inl bf)), (m10, .inl (K 0, 32, .inl tf))] := hD
              refine lv_aload_n hx hb dX4_readsValue_125 rfl (lv_at hl 2 rfl) ?_
              refine va_get (D := D) (ci := 4) (v := .ref m10) (C := RX4) (T := TX4) (N := 18) hx hb hts hi4 hown hK hP 0 rfl rfl 15 (by decide) (hts (.fieldLink RX4 37 "PairedChannelsModel" "told" "[I") (List.mem_of_getElem? (i := 3) (by decide +kernel))) (fun _ h9 => h9) rfl dX4_readsValue_126 ?_
              refine lv_aload_n hx hb dX4_readsValue_129 rfl (lv_at hl 2 rfl) ?_
              refine va_get (D := D) (ci := 4) (v := .int (nI ty)) (C := RX4) (T := TX4) (N := 18) hx hb hts hi4 hown hK hP 0 rfl rfl 16 (by decide) (hts (.fieldLink RX4 166 "PairedChannelsModel" "toldMany" "I") (List.mem_of_getElem? (i := 4) (by decide +kernel))) (fun _ h9 => h9) rfl dX4_readsValue_130 ?_
              refine lv_iload_n hx hb dX4_readsValue_133 rfl (lv_at hl 1 rfl) ?_
              refine g_cut (F0 mm 143 ls [.int (if (letA bf ly ay) = 45 then (-(((10 * (rvD bf ly ay)) + (letA bf ly (rvJ bf ly ay))) - 48)) else (((10 * (rvD bf ly ay)) + (letA bf ly (rvJ bf ly ay))) - 48)), .int (nI ty), .ref m10]) (fun hJ => ?_) ?_
              · refine lv_if_eq (tgt := 142) hx hb dX4_readsValue_134 (by decide) (fun c27 => ?_) (fun c27 => ?_)
                · skip
                  have c27 : ¬ ((letA bf ly ay) = 45) := b_eq0 c27
                  refine lv_iload_n hx hb dX4_readsValue_142 rfl (lv_at hl 0 rfl) ?_
                  refine lv_eqi ((if (letA bf ly ay) = 45 then (-(((10 * (rvD bf ly ay)) + (letA bf ly (rvJ bf ly ay))) - 48)) else (((10 * (rvD bf ly ay)) + (letA bf ly (rvJ bf ly ay))) - 48))) (if_neg c27).symm ?_
                  exact hJ
                · skip
                  have c27 : (letA bf ly ay) = 45 := b_ne0 c27
                  refine lv_iload_n hx hb dX4_readsValue_137 rfl (lv_at hl 0 rfl) ?_
                  refine lv_ineg hx hb dX4_readsValue_138 ?_
                  refine lv_goto (tgt := 143) hx hb dX4_readsValue_139 (by decide) ?_
                  refine lv_eqi ((if (letA bf ly ay) = 45 then (-(((10 * (rvD bf ly ay)) + (letA bf ly (rvJ bf ly ay))) - 48)) else (((10 * (rvD bf ly ay)) + (letA bf ly (rvJ bf ly ay))) - 48))) (if_pos c27).symm ?_
                  exact hJ
              · skip
                refine lv_eqi ((rvS bf ly ay (((10 * (rvD bf ly ay)) + (letA bf ly (rvJ bf ly ay))) - 48))) (rfl) ?_
                refine wa_iast (x := (rvS bf ly ay (((10 * (rvD bf ly ay)) + (letA bf ly (rvJ bf ly ay))) - 48))) hx hb hK hP hD hS 2 0 rfl rfl (ty) rfl (by omega) (by decide) dX4_readsValue_143 (fun H locs hP hD hS => ?_)
                have hP : va_P D vwCl [(m0, .inr (4, [.int th, .ref m1, .ref m2, .ref m3, .int (nI sy), .ref m4, .int (nI ly), .ref m5, .ref m6, .int (nI py), .ref m7, .ref m8, .ref m9, .int (nI (rvJ bf ly ay + 1)), .int (if rvB bf ly ay = true then 1 else 0), .ref m10, .int (nI ty), .long hy])), (m4, .inl (K 0, 60, .inl bf)), (m10, .inl (K 0, 32, .inl (upd tf ty (rvS bf ly ay (((10 * (rvD bf ly ay)) + (letA bf ly (rvJ bf ly ay))) - 48)))))] _ := hP
                have hD : va_D A [(m0, .inr (4, [.int th, .ref m1, .ref m2, .ref m3, .int (nI sy), .ref m4, .int (nI ly), .ref m5, .ref m6, .int (nI py), .ref m7, .ref m8, .ref m9, .int (nI (rvJ bf ly ay + 1)), .int (if rvB bf ly ay = true then 1 else 0), .ref m10, .int (nI ty), .long hy])), (m4, .inl (K 0, 60, .inl bf)), (m10, .inl (K 0, 32, .inl (upd tf ty (rvS bf ly ay (((10 * (rvD bf ly ay)) + (letA bf ly (rvJ bf ly ay))) - 48)))))] := hD
                refine lv_aload_n hx hb dX4_readsValue_144 rfl (lv_at hl 2 rfl) ?_
                refine lv_dup hx hb dX4_readsValue_145 rfl ?_
                refine va_get (D := D) (ci := 4) (v := .int (nI ty)) (C := RX4) (T := TX4) (N := 18) hx hb hts hi4 hown hK hP 0 rfl rfl 16 (by decide) (hts (.fieldLink RX4 166 "PairedChannelsModel" "toldMany" "I") (List.mem_of_getElem? (i := 4) (by decide +kernel))) (fun _ h9 => h9) rfl dX4_readsValue_146 ?_
                refine lv_iconst (v := 1) hx hb dX4_readsValue_149 (by decide) ?_
                refine lv_iadd hx hb dX4_readsValue_150 ?_
                refine lv_eqi (nI (ty + 1)) (nI_add ty 1) ?_
                refine va_put (D := D) (ci := 4) (v := .int (nI (ty + 1))) (ty := .int) (C := RX4) (T := TX4) (N := 18) hx hb hts hi4 tyX4 tyX4_ok nmX4 hown hK hP hD hS 0 rfl rfl 16 (by decide) (hts (.fieldLink RX4 166 "PairedChannelsModel" "toldMany" "I") (List.mem_of_getElem? (i := 4) (by decide +kernel))) (fun _ h9 => h9) rfl (by decide +kernel) (rfl) (rfl) (Nat.le_of_ble_eq_true rfl) dX4_readsValue_151 (fun H locs hP hD hS => ?_)
                have hP : va_P D vwCl [(m0, .inr (4, [.int th, .ref m1, .ref m2, .ref m3, .int (nI sy), .ref m4, .int (nI ly), .ref m5, .ref m6, .int (nI py), .ref m7, .ref m8, .ref m9, .int (nI (rvJ bf ly ay + 1)), .int (if rvB bf ly ay = true then 1 else 0), .ref m10, .int (nI (ty + 1)), .long hy])), (m4, .inl (K 0, 60, .inl bf)), (m10, .inl (K 0, 32, .inl (upd tf ty (rvS bf ly ay (((10 * (rvD bf ly ay)) + (letA bf ly (rvJ bf ly ay))) - 48)))))] _ := hP
                have hD : va_D A [(m0, .inr (4, [.int th, .ref m1, .ref m2, .ref m3, .int (nI sy), .ref m4, .int (nI ly), .ref m5, .ref m6, .int (nI py), .ref m7, .ref m8, .ref m9, .int (nI (rvJ bf ly ay + 1)), .int (if rvB bf ly ay = true then 1 else 0), .ref m10, .int (nI (ty + 1)), .long hy])), (m4, .inl (K 0, 60, .inl bf)), (m10, .inl (K 0, 32, .inl (upd tf ty (rvS bf ly ay (((10 * (rvD bf ly ay)) + (letA bf ly (rvJ bf ly ay))) - 48)))))] := hD
                exact gW_vret ((rvJ bf ly ay + 1), rvB bf ly ay, (rvS bf ly ay (((10 * (rvD bf ly ay)) + (letA bf ly (rvJ bf ly ay))) - 48))) hx hb hr hlk hK hP hD hS (by unfold rvA; first | exact g_ip ⟨c81, Int32.not_le.mp c85, c99⟩ rfl | exact g_in (fun h => c99 h.2.2) rfl | exact g_in (fun h => absurd h.2.1 (Int32.not_lt.mpr c85)) rfl | exact g_in (fun h => c81 h.1) rfl) dX4_readsValue_154
