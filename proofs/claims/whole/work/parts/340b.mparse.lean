set_option maxHeartbeats 4000000 in
set_option maxRecDepth 100000 in
theorem c_X4_readsAll (l : Launch) (D : va_G) (K : Nat → ClassId) (m0 : Nat) (m1 : Nat) (m2 : Nat) (m3 : Nat) (m4 : Nat) (m5 : Nat) (m6 : Nat) (m7 : Nat) (m8 : Nat) (m9 : Nat) (m10 : Nat) (th : Int32) (sy : Nat) (ly : Nat) (py : Nat) (ay : Nat) (iw : Bool) (ty : Nat) (hy : Int64) (bf : Nat → Int32) (tf : Nat → Int32) (tv : Nat → Int32) (hln : ly ≤ 60) : MWv l yX4_readsAll wsX4_readsAll ({ frames := 2, cells := 0, slots := 0, locals := 44 } : Room) D (gTy K) [.ref m0] [(m0, .inr (4, [.int th, .ref m1, .ref m2, .ref m3, .int (nI sy), .ref m4, .int (nI ly), .ref m5, .ref m6, .int (nI py), .ref m7, .ref m8, .ref m9, .int (nI ay), .int (if iw = true then 1 else 0), .ref m10, .int (nI ty), .long hy])), (m4, .inl (K 0, 60, .inl bf)), (m10, .inl (K 0, 32, .inl tf))] (fun (u : Nat × Bool × Nat × (Nat → Int32)) => [(m0, .inr (4, [.int th, .ref m1, .ref m2, .ref m3, .int (nI sy), .ref m4, .int (nI ly), .ref m5, .ref m6, .int (nI py), .ref m7, .ref m8, .ref m9, .int (nI u.1), .int (if u.2.1 = true then 1 else 0), .ref m10, .int (nI u.2.2.1), .long hy])), (m4, .inl (K 0, 60, .inl bf)), (m10, .inl (K 0, 32, .inl u.2.2.2))]) (fun (u : Nat × Bool × Nat × (Nat → Int32)) => raE bf ly tv u.1 u.2.1 u.2.2.1 u.2.2.2 ∧ u.1 ≤ ly ∧ u.2.2.1 ≤ 17) 0 0 := by
  refine g_ofW (Qc := fun A => va_Qv _ (gB D (gTy K) A _) A) (cc := cX4_readsAll) (maxL := 1) (ret := none) (own := RX4) (by decide) rfl rfl (Nat.le_of_ble_eq_true rfl) ?_
  intro pp ee s mm below meth cc A hfx hnm hK hP hD hE hS hA ls hl
  obtain ⟨hx, hb, hr, hml, hown, hts, hlk⟩ := hfx
  have hl : lv_has ls 1 [(0, .ref m0)] := hl
  have hi4 : ∀ w ∈ u_ws RX4 TX4 18, w ∈ wsX4_readsAll := fun w h => List.mem_cons_of_mem _ (List.mem_append_right _ (h))
  refine lv_aload_n hx hb dX4_readsAll_0 rfl (lv_at hl 0 rfl) ?_
  refine lv_iconst (v := 0) hx hb dX4_readsAll_1 (by decide) ?_
  refine va_put (D := D) (ci := 4) (v := .int 0) (ty := .int) (C := RX4) (T := TX4) (N := 18) hx hb hts hi4 tyX4 tyX4_ok nmX4 hown hK hP hD hS 0 rfl rfl 13 (by decide) (hts (.fieldLink RX4 156 "PairedChannelsModel" "at" "I") (List.mem_of_getElem? (i := 1) (by decide +kernel))) (fun _ h9 => h9) rfl (by decide +kernel) (rfl) (rfl) (Nat.le_of_ble_eq_true rfl) dX4_readsAll_2 (fun H locs hP hD hS => ?_)
  have hP : va_P D vwCl [(m0, .inr (4, [.int th, .ref m1, .ref m2, .ref m3, .int (nI sy), .ref m4, .int (nI ly), .ref m5, .ref m6, .int (nI py), .ref m7, .ref m8, .ref m9, .int 0, .int (if iw = true then 1 else 0), .ref m10, .int (nI ty), .long hy])), (m4, .inl (K 0, 60, .inl bf)), (m10, .inl (K 0, 32, .inl tf))] _ := hP
  have hD : va_D A [(m0, .inr (4, [.int th, .ref m1, .ref m2, .ref m3, .int (nI sy), .ref m4, .int (nI ly), .ref m5, .ref m6, .int (nI py), .ref m7, .ref m8, .ref m9, .int 0, .int (if iw = true then 1 else 0), .ref m10, .int (nI ty), .long hy])), (m4, .inl (K 0, 60, .inl bf)), (m10, .inl (K 0, 32, .inl tf))] := hD
  refine lv_aload_n hx hb dX4_readsAll_5 rfl (lv_at hl 0 rfl) ?_
  refine lv_iconst (v := 1) hx hb dX4_readsAll_6 (by decide) ?_
  refine va_put (D := D) (ci := 4) (v := .int 1) (ty := .boolean) (C := RX4) (T := TX4) (N := 18) hx hb hts hi4 tyX4 tyX4_ok nmX4 hown hK hP hD hS 0 rfl rfl 14 (by decide) (hts (.fieldLink RX4 162 "PairedChannelsModel" "isWell" "Z") (List.mem_of_getElem? (i := 2) (by decide +kernel))) (fun _ h9 => h9) rfl (by decide +kernel) (rfl) (rfl) (Nat.le_of_ble_eq_true rfl) dX4_readsAll_7 (fun H locs hP hD hS => ?_)
  have hP : va_P D vwCl [(m0, .inr (4, [.int th, .ref m1, .ref m2, .ref m3, .int (nI sy), .ref m4, .int (nI ly), .ref m5, .ref m6, .int (nI py), .ref m7, .ref m8, .ref m9, .int 0, .int 1, .ref m10, .int (nI ty), .long hy])), (m4, .inl (K 0, 60, .inl bf)), (m10, .inl (K 0, 32, .inl tf))] _ := hP
  have hD : va_D A [(m0, .inr (4, [.int th, .ref m1, .ref m2, .ref m3, .int (nI sy), .ref m4, .int (nI ly), .ref m5, .ref m6, .int (nI py), .ref m7, .ref m8, .ref m9, .int 0, .int 1, .ref m10, .int (nI ty), .long hy])), (m4, .inl (K 0, 60, .inl bf)), (m10, .inl (K 0, 32, .inl tf))] := hD
  refine lv_aload_n hx hb dX4_readsAll_10 rfl (lv_at hl 0 rfl) ?_
  refine lv_iconst (v := 0) hx hb dX4_readsAll_11 (by decide) ?_
  refine va_put (D := D) (ci := 4) (v := .int 0) (ty := .int) (C := RX4) (T := TX4) (N := 18) hx hb hts hi4 tyX4 tyX4_ok nmX4 hown hK hP hD hS 0 rfl rfl 16 (by decide) (hts (.fieldLink RX4 166 "PairedChannelsModel" "toldMany" "I") (List.mem_of_getElem? (i := 3) (by decide +kernel))) (fun _ h9 => h9) rfl (by decide +kernel) (rfl) (rfl) (Nat.le_of_ble_eq_true rfl) dX4_readsAll_12 (fun H locs hP hD hS => ?_)
  have hP : va_P D vwCl [(m0, .inr (4, [.int th, .ref m1, .ref m2, .ref m3, .int (nI sy), .ref m4, .int (nI ly), .ref m5, .ref m6, .int (nI py), .ref m7, .ref m8, .ref m9, .int 0, .int 1, .ref m10, .int 0, .long hy])), (m4, .inl (K 0, 60, .inl bf)), (m10, .inl (K 0, 32, .inl tf))] _ := hP
  have hD : va_D A [(m0, .inr (4, [.int th, .ref m1, .ref m2, .ref m3, .int (nI sy), .ref m4, .int (nI ly), .ref m5, .ref m6, .int (nI py), .ref m7, .ref m8, .ref m9, .int 0, .int 1, .ref m10, .int 0, .long hy])), (m4, .inl (K 0, 60, .inl bf)), (m10, .inl (K 0, 32, .inl tf))] := hD
  refine lv_aload_n hx hb dX4_readsAll_15 rfl (lv_at hl 0 rfl) ?_
  refine gW_v (wr := []) (W2 := (fun (u : Nat × Bool × Int32) => [(m0, .inr (4, [.int th, .ref m1, .ref m2, .ref m3, .int (nI sy), .ref m4, .int (nI ly), .ref m5, .ref m6, .int (nI py), .ref m7, .ref m8, .ref m9, .int (nI u.1), .int (if u.2.1 = true then 1 else 0), .ref m10, .int (nI (0 + 1)), .long hy])), (m4, .inl (K 0, 60, .inl bf)), (m10, .inl (K 0, 32, .inl (upd tf 0 u.2.2)))])) (va_runV (As := []) (rest := []) ⟨hx, hb, hml, hown, hts⟩ ((c_X4_readsValue l D K m0 m1 m2 m3 m4 m5 m6 m7 m8 m9 m10 th sy ly py 0 true 0 hy bf tf (by first | assumption | omega) (by first | assumption | omega) (by first | assumption | omega)) _) (cwV 0 hts gX4_readsAll_X4_readsValue rfl rfl rfl (by decide +kernel) ⟨Nat.le_of_ble_eq_true rfl, Nat.le_of_ble_eq_true rfl⟩) (gW_preV hE hS hK hP hD hA [0, 1, 2] rfl (by decide) 0 rfl rfl rfl) rfl rfl hl.1 rfl (lv_room (Nat.le_of_ble_eq_true rfl)) dX4_readsAll_16 ⟨Nat.le_of_ble_eq_true rfl, Nat.le_of_ble_eq_true rfl⟩) hS hP hD hA [0, 1, 2] [] [0, 1, 2] rfl rfl (by decide) (by decide) (by decide) (fun _ => rfl) (fun u1 H locs h2 hP hD hS => ?_)
  have hP : va_P D vwCl [(m0, .inr (4, [.int th, .ref m1, .ref m2, .ref m3, .int (nI sy), .ref m4, .int (nI ly), .ref m5, .ref m6, .int (nI py), .ref m7, .ref m8, .ref m9, .int (nI u1.1), .int (if u1.2.1 = true then 1 else 0), .ref m10, .int (nI (0 + 1)), .long hy])), (m4, .inl (K 0, 60, .inl bf)), (m10, .inl (K 0, 32, .inl (upd tf 0 u1.2.2)))] _ := hP
  have hD : va_D A [(m0, .inr (4, [.int th, .ref m1, .ref m2, .ref m3, .int (nI sy), .ref m4, .int (nI ly), .ref m5, .ref m6, .int (nI py), .ref m7, .ref m8, .ref m9, .int (nI u1.1), .int (if u1.2.1 = true then 1 else 0), .ref m10, .int (nI (0 + 1)), .long hy])), (m4, .inl (K 0, 60, .inl bf)), (m10, .inl (K 0, 32, .inl (upd tf 0 u1.2.2)))] := hD
  have hrv0 : u1 = rvA bf ly 0 := h2
  refine g_loopW (st := []) (N := 16) (fun i9 H locs ls => ∃ a9 : Nat, ∃ w9 : Bool, ∃ t9 : Nat → Int32, (a9 ≤ ly ∧ raI bf ly tv a9 w9 (i9 + 1) t9) ∧ va_P D vwCl [(m0, .inr (4, [.int th, .ref m1, .ref m2, .ref m3, .int (nI sy), .ref m4, .int (nI ly), .ref m5, .ref m6, .int (nI py), .ref m7, .ref m8, .ref m9, .int (nI a9), .int (if w9 = true then 1 else 0), .ref m10, .int (nI (i9 + 1)), .long hy])), (m4, .inl (K 0, 60, .inl bf)), (m10, .inl (K 0, 32, .inl t9))] H ∧ va_D A [(m0, .inr (4, [.int th, .ref m1, .ref m2, .ref m3, .int (nI sy), .ref m4, .int (nI ly), .ref m5, .ref m6, .int (nI py), .ref m7, .ref m8, .ref m9, .int (nI a9), .int (if w9 = true then 1 else 0), .ref m10, .int (nI (i9 + 1)), .long hy])), (m4, .inl (K 0, 60, .inl bf)), (m10, .inl (K 0, 32, .inl t9))] ∧ va_S A s.heap H locs ∧ lv_has ls 1 [(0, .ref m0)]) 0 (Nat.zero_le _) ?_ ?_ ?_
  · intro H locs ls hI
    obtain ⟨a9, w9, t9, ⟨ha9, hra⟩, hP, hD, hS, hl⟩ := hI
    refine lv_aload_n hx hb dX4_readsAll_19 rfl (lv_at hl 0 rfl) ?_
    refine va_get (D := D) (ci := 4) (v := .int (if w9 = true then 1 else 0)) (C := RX4) (T := TX4) (N := 18) hx hb hts hi4 hown hK hP 0 rfl rfl 14 (by decide) (hts (.fieldLink RX4 162 "PairedChannelsModel" "isWell" "Z") (List.mem_of_getElem? (i := 2) (by decide +kernel))) (fun _ h9 => h9) rfl dX4_readsAll_20 ?_
    refine lv_if_eq (tgt := 99) hx hb dX4_readsAll_23 (by decide) (fun c23 => ?_) (fun c23 => ?_)
    · skip
      have c23 : ¬ (w9 = true) := b_eq0 c23
      exact gW_vret (a9, w9, (16 + 1), t9) hx hb hr hlk hK hP hD hS (⟨by first | exact ra_t hra c23 (by omega) | exact ra_f hra c23, ha9, show (16 + 1) ≤ 17 by omega⟩) dX4_readsAll_99
    · skip
      have c23 : w9 = true := b_ne0 c23
      exact absurd (hra.1 c23).1 (by decide)
  · intro i9 hi9 ih4 H locs ls hI
    obtain ⟨a9, w9, t9, ⟨ha9, hra⟩, hP, hD, hS, hl⟩ := hI
    refine lv_aload_n hx hb dX4_readsAll_19 rfl (lv_at hl 0 rfl) ?_
    refine va_get (D := D) (ci := 4) (v := .int (if w9 = true then 1 else 0)) (C := RX4) (T := TX4) (N := 18) hx hb hts hi4 hown hK hP 0 rfl rfl 14 (by decide) (hts (.fieldLink RX4 162 "PairedChannelsModel" "isWell" "Z") (List.mem_of_getElem? (i := 2) (by decide +kernel))) (fun _ h9 => h9) rfl dX4_readsAll_20 ?_
    refine lv_if_eq (tgt := 99) hx hb dX4_readsAll_23 (by decide) (fun c23 => ?_) (fun c23 => ?_)
    · skip
      have c23 : ¬ (w9 = true) := b_eq0 c23
      exact gW_vret (a9, w9, (i9 + 1), t9) hx hb hr hlk hK hP hD hS (⟨by first | exact ra_t hra c23 (by omega) | exact ra_f hra c23, ha9, show (i9 + 1) ≤ 17 by omega⟩) dX4_readsAll_99
    · skip
      have c23 : w9 = true := b_ne0 c23
      have hw9 := c23
      refine lv_aload_n hx hb dX4_readsAll_26 rfl (lv_at hl 0 rfl) ?_
      refine va_get (D := D) (ci := 4) (v := .int (nI a9)) (C := RX4) (T := TX4) (N := 18) hx hb hts hi4 hown hK hP 0 rfl rfl 13 (by decide) (hts (.fieldLink RX4 156 "PairedChannelsModel" "at" "I") (List.mem_of_getElem? (i := 1) (by decide +kernel))) (fun _ h9 => h9) rfl dX4_readsAll_27 ?_
      refine lv_aload_n hx hb dX4_readsAll_30 rfl (lv_at hl 0 rfl) ?_
      refine va_get (D := D) (ci := 4) (v := .int (nI ly)) (C := RX4) (T := TX4) (N := 18) hx hb hts hi4 hown hK hP 0 rfl rfl 6 (by decide) (hts (.fieldLink RX4 153 "PairedChannelsModel" "length" "I") (List.mem_of_getElem? (i := 4) (by decide +kernel))) (fun _ h9 => h9) rfl dX4_readsAll_31 ?_
      refine lv_icmp_ge (tgt := 99) hx hb dX4_readsAll_34 (by decide) (fun c34 => ?_) (fun c34 => ?_)
      · skip
        have c34 : ly ≤ a9 := (nI_leI (a := ly) (b := a9) (by omega) (by omega)).mp c34
        exact gW_vret (a9, w9, (i9 + 1), t9) hx hb hr hlk hK hP hD hS (⟨by first | exact ra_t hra c23 (by omega) | exact ra_f hra c23, ha9, show (i9 + 1) ≤ 17 by omega⟩) dX4_readsAll_99
      · skip
        have c34 : ¬ ly ≤ a9 := fun h9 => c34 ((nI_leI (a := ly) (b := a9) (by omega) (by omega)).mpr h9)
        refine lv_aload_n hx hb dX4_readsAll_37 rfl (lv_at hl 0 rfl) ?_
        refine lv_aload_n hx hb dX4_readsAll_38 rfl (lv_at hl 0 rfl) ?_
        refine gR_i (va_runV (As := []) (rest := [.ref m0]) ⟨hx, hb, hml, hown, hts⟩ (c_X4_letter l D K m0 m1 m2 m3 m4 m5 m6 m7 m8 m9 m10 th sy ly py a9 w9 (i9 + 1) hy bf (by first | assumption | omega) (by first | assumption | omega)) (cwV 0 hts gX4_readsAll_X4_letter rfl rfl rfl (by decide +kernel) ⟨Nat.le_of_ble_eq_true rfl, Nat.le_of_ble_eq_true rfl⟩) (gR_preV hE hS hK hP [0, 1] rfl 0 rfl rfl rfl) rfl rfl hl.1 rfl (lv_room (Nat.le_of_ble_eq_true rfl)) dX4_readsAll_39 ⟨Nat.le_of_ble_eq_true rfl, Nat.le_of_ble_eq_true rfl⟩) hS hP (fun rv9 H locs h8 hP hS => ?_)
        have h8 : rv9 = (letA bf ly a9) := h8
        subst h8
        refine lv_bipush (v := 44) hx hb dX4_readsAll_42 (by decide) ?_
        refine lv_icmp_ne (tgt := 60) hx hb dX4_readsAll_44 (by decide) (fun c44 => ?_) (fun c44 => ?_)
        · skip
          refine lv_iconst (v := 0) hx hb dX4_readsAll_60 (by decide) ?_
          refine va_put (D := D) (ci := 4) (v := .int 0) (ty := .boolean) (C := RX4) (T := TX4) (N := 18) hx hb hts hi4 tyX4 tyX4_ok nmX4 hown hK hP hD hS 0 rfl rfl 14 (by decide) (hts (.fieldLink RX4 162 "PairedChannelsModel" "isWell" "Z") (List.mem_of_getElem? (i := 2) (by decide +kernel))) (fun _ h9 => h9) rfl (by decide +kernel) (rfl) (rfl) (Nat.le_of_ble_eq_true rfl) dX4_readsAll_61 (fun H locs hP hD hS => ?_)
          have hP : va_P D vwCl [(m0, .inr (4, [.int th, .ref m1, .ref m2, .ref m3, .int (nI sy), .ref m4, .int (nI ly), .ref m5, .ref m6, .int (nI py), .ref m7, .ref m8, .ref m9, .int (nI a9), .int 0, .ref m10, .int (nI (i9 + 1)), .long hy])), (m4, .inl (K 0, 60, .inl bf)), (m10, .inl (K 0, 32, .inl t9))] _ := hP
          have hD : va_D A [(m0, .inr (4, [.int th, .ref m1, .ref m2, .ref m3, .int (nI sy), .ref m4, .int (nI ly), .ref m5, .ref m6, .int (nI py), .ref m7, .ref m8, .ref m9, .int (nI a9), .int 0, .ref m10, .int (nI (i9 + 1)), .long hy])), (m4, .inl (K 0, 60, .inl bf)), (m10, .inl (K 0, 32, .inl t9))] := hD
          refine lv_aload_n hx hb dX4_readsAll_64 rfl (lv_at hl 0 rfl) ?_
          refine lv_dup hx hb dX4_readsAll_65 rfl ?_
          refine va_get (D := D) (ci := 4) (v := .int (nI a9)) (C := RX4) (T := TX4) (N := 18) hx hb hts hi4 hown hK hP 0 rfl rfl 13 (by decide) (hts (.fieldLink RX4 156 "PairedChannelsModel" "at" "I") (List.mem_of_getElem? (i := 1) (by decide +kernel))) (fun _ h9 => h9) rfl dX4_readsAll_66 ?_
          refine lv_aload_n hx hb dX4_readsAll_69 rfl (lv_at hl 0 rfl) ?_
          refine va_get (D := D) (ci := 4) (v := .int 0) (C := RX4) (T := TX4) (N := 18) hx hb hts hi4 hown hK hP 0 rfl rfl 14 (by decide) (hts (.fieldLink RX4 162 "PairedChannelsModel" "isWell" "Z") (List.mem_of_getElem? (i := 2) (by decide +kernel))) (fun _ h9 => h9) rfl dX4_readsAll_70 ?_
          refine lv_if_eq (tgt := 80) hx hb dX4_readsAll_73 (by decide) (fun c11 => ?_) (fun c11 => ?_)
          · skip
            have c11 : 0 = 0 := (nI_eq (a := 0) (b := 0) (by omega) (by omega)).mp c11
            refine lv_iconst (v := 0) hx hb dX4_readsAll_80 (by decide) ?_
            refine lv_iadd hx hb dX4_readsAll_81 ?_
            refine lv_eqi (nI (a9 + 0)) (nI_add a9 0) ?_
            refine lv_eqi (nI a9) (rfl) ?_
            refine va_put (D := D) (ci := 4) (v := .int (nI a9)) (ty := .int) (C := RX4) (T := TX4) (N := 18) hx hb hts hi4 tyX4 tyX4_ok nmX4 hown hK hP hD hS 0 rfl rfl 13 (by decide) (hts (.fieldLink RX4 156 "PairedChannelsModel" "at" "I") (List.mem_of_getElem? (i := 1) (by decide +kernel))) (fun _ h9 => h9) rfl (by decide +kernel) (rfl) (rfl) (Nat.le_of_ble_eq_true rfl) dX4_readsAll_82 (fun H locs hP hD hS => ?_)
            have hP : va_P D vwCl [(m0, .inr (4, [.int th, .ref m1, .ref m2, .ref m3, .int (nI sy), .ref m4, .int (nI ly), .ref m5, .ref m6, .int (nI py), .ref m7, .ref m8, .ref m9, .int (nI a9), .int 0, .ref m10, .int (nI (i9 + 1)), .long hy])), (m4, .inl (K 0, 60, .inl bf)), (m10, .inl (K 0, 32, .inl t9))] _ := hP
            have hD : va_D A [(m0, .inr (4, [.int th, .ref m1, .ref m2, .ref m3, .int (nI sy), .ref m4, .int (nI ly), .ref m5, .ref m6, .int (nI py), .ref m7, .ref m8, .ref m9, .int (nI a9), .int 0, .ref m10, .int (nI (i9 + 1)), .long hy])), (m4, .inl (K 0, 60, .inl bf)), (m10, .inl (K 0, 32, .inl t9))] := hD
            refine lv_aload_n hx hb dX4_readsAll_85 rfl (lv_at hl 0 rfl) ?_
            refine va_get (D := D) (ci := 4) (v := .int 0) (C := RX4) (T := TX4) (N := 18) hx hb hts hi4 hown hK hP 0 rfl rfl 14 (by decide) (hts (.fieldLink RX4 162 "PairedChannelsModel" "isWell" "Z") (List.mem_of_getElem? (i := 2) (by decide +kernel))) (fun _ h9 => h9) rfl dX4_readsAll_86 ?_
            refine lv_if_eq (tgt := 19) hx hb dX4_readsAll_89 (by decide) (fun c12 => ?_) (fun c12 => ?_)
            · skip
              have c12 : 0 = 0 := (nI_eq (a := 0) (b := 0) (by omega) (by omega)).mp c12
              refine lv_aload_n hx hb dX4_readsAll_19 rfl (lv_at hl 0 rfl) ?_
              refine va_get (D := D) (ci := 4) (v := .int 0) (C := RX4) (T := TX4) (N := 18) hx hb hts hi4 hown hK hP 0 rfl rfl 14 (by decide) (hts (.fieldLink RX4 162 "PairedChannelsModel" "isWell" "Z") (List.mem_of_getElem? (i := 2) (by decide +kernel))) (fun _ h9 => h9) rfl dX4_readsAll_20 ?_
              refine lv_if_eq (tgt := 99) hx hb dX4_readsAll_23 (by decide) (fun c23 => ?_) (fun c23 => ?_)
              · skip
                have c23 : 0 = 0 := (nI_eq (a := 0) (b := 0) (by omega) (by omega)).mp c23
                exact gW_vret (a9, false, (i9 + 1), t9) hx hb hr hlk hK hP hD hS (⟨ra_stop (hra.1 hw9) (by omega) (by first | exact Or.inl c44 | exact Or.inr (show ¬ i9 + 1 < 16 by omega)), ha9, show (i9 + 1) ≤ 17 by omega⟩) dX4_readsAll_99
              · skip
                have c23 : ¬ 0 = 0 := fun h9 => c23 ((nI_eq (a := 0) (b := 0) (by omega) (by omega)).mpr h9)
                omega
            · skip
              have c12 : ¬ 0 = 0 := fun h9 => c12 ((nI_eq (a := 0) (b := 0) (by omega) (by omega)).mpr h9)
              omega
          · skip
            have c11 : ¬ 0 = 0 := fun h9 => c11 ((nI_eq (a := 0) (b := 0) (by omega) (by omega)).mpr h9)
            omega
        · skip
          refine lv_aload_n hx hb dX4_readsAll_47 rfl (lv_at hl 0 rfl) ?_
          refine va_get (D := D) (ci := 4) (v := .int (nI (i9 + 1))) (C := RX4) (T := TX4) (N := 18) hx hb hts hi4 hown hK hP 0 rfl rfl 16 (by decide) (hts (.fieldLink RX4 166 "PairedChannelsModel" "toldMany" "I") (List.mem_of_getElem? (i := 3) (by decide +kernel))) (fun _ h9 => h9) rfl dX4_readsAll_48 ?_
          refine lv_bipush (v := 16) hx hb dX4_readsAll_51 (by decide) ?_
          refine lv_icmp_ge (tgt := 60) hx hb dX4_readsAll_53 (by decide) (fun c53 => ?_) (fun c53 => ?_)
          · skip
            have c53 : 16 ≤ i9 + 1 := (nI_leI (a := 16) (b := i9 + 1) (by omega) (by omega)).mp c53
            refine lv_iconst (v := 0) hx hb dX4_readsAll_60 (by decide) ?_
            refine va_put (D := D) (ci := 4) (v := .int 0) (ty := .boolean) (C := RX4) (T := TX4) (N := 18) hx hb hts hi4 tyX4 tyX4_ok nmX4 hown hK hP hD hS 0 rfl rfl 14 (by decide) (hts (.fieldLink RX4 162 "PairedChannelsModel" "isWell" "Z") (List.mem_of_getElem? (i := 2) (by decide +kernel))) (fun _ h9 => h9) rfl (by decide +kernel) (rfl) (rfl) (Nat.le_of_ble_eq_true rfl) dX4_readsAll_61 (fun H locs hP hD hS => ?_)
            have hP : va_P D vwCl [(m0, .inr (4, [.int th, .ref m1, .ref m2, .ref m3, .int (nI sy), .ref m4, .int (nI ly), .ref m5, .ref m6, .int (nI py), .ref m7, .ref m8, .ref m9, .int (nI a9), .int 0, .ref m10, .int (nI (i9 + 1)), .long hy])), (m4, .inl (K 0, 60, .inl bf)), (m10, .inl (K 0, 32, .inl t9))] _ := hP
            have hD : va_D A [(m0, .inr (4, [.int th, .ref m1, .ref m2, .ref m3, .int (nI sy), .ref m4, .int (nI ly), .ref m5, .ref m6, .int (nI py), .ref m7, .ref m8, .ref m9, .int (nI a9), .int 0, .ref m10, .int (nI (i9 + 1)), .long hy])), (m4, .inl (K 0, 60, .inl bf)), (m10, .inl (K 0, 32, .inl t9))] := hD
            refine lv_aload_n hx hb dX4_readsAll_64 rfl (lv_at hl 0 rfl) ?_
            refine lv_dup hx hb dX4_readsAll_65 rfl ?_
            refine va_get (D := D) (ci := 4) (v := .int (nI a9)) (C := RX4) (T := TX4) (N := 18) hx hb hts hi4 hown hK hP 0 rfl rfl 13 (by decide) (hts (.fieldLink RX4 156 "PairedChannelsModel" "at" "I") (List.mem_of_getElem? (i := 1) (by decide +kernel))) (fun _ h9 => h9) rfl dX4_readsAll_66 ?_
            refine lv_aload_n hx hb dX4_readsAll_69 rfl (lv_at hl 0 rfl) ?_
            refine va_get (D := D) (ci := 4) (v := .int 0) (C := RX4) (T := TX4) (N := 18) hx hb hts hi4 hown hK hP 0 rfl rfl 14 (by decide) (hts (.fieldLink RX4 162 "PairedChannelsModel" "isWell" "Z") (List.mem_of_getElem? (i := 2) (by decide +kernel))) (fun _ h9 => h9) rfl dX4_readsAll_70 ?_
            refine lv_if_eq (tgt := 80) hx hb dX4_readsAll_73 (by decide) (fun c15 => ?_) (fun c15 => ?_)
            · skip
              have c15 : 0 = 0 := (nI_eq (a := 0) (b := 0) (by omega) (by omega)).mp c15
              refine lv_iconst (v := 0) hx hb dX4_readsAll_80 (by decide) ?_
              refine lv_iadd hx hb dX4_readsAll_81 ?_
              refine lv_eqi (nI (a9 + 0)) (nI_add a9 0) ?_
              refine lv_eqi (nI a9) (rfl) ?_
              refine va_put (D := D) (ci := 4) (v := .int (nI a9)) (ty := .int) (C := RX4) (T := TX4) (N := 18) hx hb hts hi4 tyX4 tyX4_ok nmX4 hown hK hP hD hS 0 rfl rfl 13 (by decide) (hts (.fieldLink RX4 156 "PairedChannelsModel" "at" "I") (List.mem_of_getElem? (i := 1) (by decide +kernel))) (fun _ h9 => h9) rfl (by decide +kernel) (rfl) (rfl) (Nat.le_of_ble_eq_true rfl) dX4_readsAll_82 (fun H locs hP hD hS => ?_)
              have hP : va_P D vwCl [(m0, .inr (4, [.int th, .ref m1, .ref m2, .ref m3, .int (nI sy), .ref m4, .int (nI ly), .ref m5, .ref m6, .int (nI py), .ref m7, .ref m8, .ref m9, .int (nI a9), .int 0, .ref m10, .int (nI (i9 + 1)), .long hy])), (m4, .inl (K 0, 60, .inl bf)), (m10, .inl (K 0, 32, .inl t9))] _ := hP
              have hD : va_D A [(m0, .inr (4, [.int th, .ref m1, .ref m2, .ref m3, .int (nI sy), .ref m4, .int (nI ly), .ref m5, .ref m6, .int (nI py), .ref m7, .ref m8, .ref m9, .int (nI a9), .int 0, .ref m10, .int (nI (i9 + 1)), .long hy])), (m4, .inl (K 0, 60, .inl bf)), (m10, .inl (K 0, 32, .inl t9))] := hD
              refine lv_aload_n hx hb dX4_readsAll_85 rfl (lv_at hl 0 rfl) ?_
              refine va_get (D := D) (ci := 4) (v := .int 0) (C := RX4) (T := TX4) (N := 18) hx hb hts hi4 hown hK hP 0 rfl rfl 14 (by decide) (hts (.fieldLink RX4 162 "PairedChannelsModel" "isWell" "Z") (List.mem_of_getElem? (i := 2) (by decide +kernel))) (fun _ h9 => h9) rfl dX4_readsAll_86 ?_
              refine lv_if_eq (tgt := 19) hx hb dX4_readsAll_89 (by decide) (fun c16 => ?_) (fun c16 => ?_)
              · skip
                have c16 : 0 = 0 := (nI_eq (a := 0) (b := 0) (by omega) (by omega)).mp c16
                refine lv_aload_n hx hb dX4_readsAll_19 rfl (lv_at hl 0 rfl) ?_
                refine va_get (D := D) (ci := 4) (v := .int 0) (C := RX4) (T := TX4) (N := 18) hx hb hts hi4 hown hK hP 0 rfl rfl 14 (by decide) (hts (.fieldLink RX4 162 "PairedChannelsModel" "isWell" "Z") (List.mem_of_getElem? (i := 2) (by decide +kernel))) (fun _ h9 => h9) rfl dX4_readsAll_20 ?_
                refine lv_if_eq (tgt := 99) hx hb dX4_readsAll_23 (by decide) (fun c23 => ?_) (fun c23 => ?_)
                · skip
                  have c23 : 0 = 0 := (nI_eq (a := 0) (b := 0) (by omega) (by omega)).mp c23
                  exact gW_vret (a9, false, (i9 + 1), t9) hx hb hr hlk hK hP hD hS (⟨ra_stop (hra.1 hw9) (by omega) (by first | exact Or.inl c44 | exact Or.inr (show ¬ i9 + 1 < 16 by omega)), ha9, show (i9 + 1) ≤ 17 by omega⟩) dX4_readsAll_99
                · skip
                  have c23 : ¬ 0 = 0 := fun h9 => c23 ((nI_eq (a := 0) (b := 0) (by omega) (by omega)).mpr h9)
                  omega
              · skip
                have c16 : ¬ 0 = 0 := fun h9 => c16 ((nI_eq (a := 0) (b := 0) (by omega) (by omega)).mpr h9)
                omega
            · skip
              have c15 : ¬ 0 = 0 := fun h9 => c15 ((nI_eq (a := 0) (b := 0) (by omega) (by omega)).mpr h9)
              omega
          · skip
            have c53 : ¬ 16 ≤ i9 + 1 := fun h9 => c53 ((nI_leI (a := 16) (b := i9 + 1) (by omega) (by omega)).mpr h9)
            refine lv_iconst (v := 1) hx hb dX4_readsAll_56 (by decide) ?_
            refine lv_goto (tgt := 61) hx hb dX4_readsAll_57 (by decide) ?_
            refine va_put (D := D) (ci := 4) (v := .int 1) (ty := .boolean) (C := RX4) (T := TX4) (N := 18) hx hb hts hi4 tyX4 tyX4_ok nmX4 hown hK hP hD hS 0 rfl rfl 14 (by decide) (hts (.fieldLink RX4 162 "PairedChannelsModel" "isWell" "Z") (List.mem_of_getElem? (i := 2) (by decide +kernel))) (fun _ h9 => h9) rfl (by decide +kernel) (rfl) (rfl) (Nat.le_of_ble_eq_true rfl) dX4_readsAll_61 (fun H locs hP hD hS => ?_)
            have hP : va_P D vwCl [(m0, .inr (4, [.int th, .ref m1, .ref m2, .ref m3, .int (nI sy), .ref m4, .int (nI ly), .ref m5, .ref m6, .int (nI py), .ref m7, .ref m8, .ref m9, .int (nI a9), .int 1, .ref m10, .int (nI (i9 + 1)), .long hy])), (m4, .inl (K 0, 60, .inl bf)), (m10, .inl (K 0, 32, .inl t9))] _ := hP
            have hD : va_D A [(m0, .inr (4, [.int th, .ref m1, .ref m2, .ref m3, .int (nI sy), .ref m4, .int (nI ly), .ref m5, .ref m6, .int (nI py), .ref m7, .ref m8, .ref m9, .int (nI a9), .int 1, .ref m10, .int (nI (i9 + 1)), .long hy])), (m4, .inl (K 0, 60, .inl bf)), (m10, .inl (K 0, 32, .inl t9))] := hD
            refine lv_aload_n hx hb dX4_readsAll_64 rfl (lv_at hl 0 rfl) ?_
            refine lv_dup hx hb dX4_readsAll_65 rfl ?_
            refine va_get (D := D) (ci := 4) (v := .int (nI a9)) (C := RX4) (T := TX4) (N := 18) hx hb hts hi4 hown hK hP 0 rfl rfl 13 (by decide) (hts (.fieldLink RX4 156 "PairedChannelsModel" "at" "I") (List.mem_of_getElem? (i := 1) (by decide +kernel))) (fun _ h9 => h9) rfl dX4_readsAll_66 ?_
            refine lv_aload_n hx hb dX4_readsAll_69 rfl (lv_at hl 0 rfl) ?_
            refine va_get (D := D) (ci := 4) (v := .int 1) (C := RX4) (T := TX4) (N := 18) hx hb hts hi4 hown hK hP 0 rfl rfl 14 (by decide) (hts (.fieldLink RX4 162 "PairedChannelsModel" "isWell" "Z") (List.mem_of_getElem? (i := 2) (by decide +kernel))) (fun _ h9 => h9) rfl dX4_readsAll_70 ?_
            refine lv_if_eq (tgt := 80) hx hb dX4_readsAll_73 (by decide) (fun c18 => ?_) (fun c18 => ?_)
            · skip
              have c18 : 1 = 0 := (nI_eq (a := 1) (b := 0) (by omega) (by omega)).mp c18
              omega
            · skip
              have c18 : ¬ 1 = 0 := fun h9 => c18 ((nI_eq (a := 1) (b := 0) (by omega) (by omega)).mpr h9)
              refine lv_iconst (v := 1) hx hb dX4_readsAll_76 (by decide) ?_
              refine lv_goto (tgt := 81) hx hb dX4_readsAll_77 (by decide) ?_
              refine lv_iadd hx hb dX4_readsAll_81 ?_
              refine lv_eqi (nI (a9 + 1)) (nI_add a9 1) ?_
              refine va_put (D := D) (ci := 4) (v := .int (nI (a9 + 1))) (ty := .int) (C := RX4) (T := TX4) (N := 18) hx hb hts hi4 tyX4 tyX4_ok nmX4 hown hK hP hD hS 0 rfl rfl 13 (by decide) (hts (.fieldLink RX4 156 "PairedChannelsModel" "at" "I") (List.mem_of_getElem? (i := 1) (by decide +kernel))) (fun _ h9 => h9) rfl (by decide +kernel) (rfl) (rfl) (Nat.le_of_ble_eq_true rfl) dX4_readsAll_82 (fun H locs hP hD hS => ?_)
              have hP : va_P D vwCl [(m0, .inr (4, [.int th, .ref m1, .ref m2, .ref m3, .int (nI sy), .ref m4, .int (nI ly), .ref m5, .ref m6, .int (nI py), .ref m7, .ref m8, .ref m9, .int (nI (a9 + 1)), .int 1, .ref m10, .int (nI (i9 + 1)), .long hy])), (m4, .inl (K 0, 60, .inl bf)), (m10, .inl (K 0, 32, .inl t9))] _ := hP
              have hD : va_D A [(m0, .inr (4, [.int th, .ref m1, .ref m2, .ref m3, .int (nI sy), .ref m4, .int (nI ly), .ref m5, .ref m6, .int (nI py), .ref m7, .ref m8, .ref m9, .int (nI (a9 + 1)), .int 1, .ref m10, .int (nI (i9 + 1)), .long hy])), (m4, .inl (K 0, 60, .inl bf)), (m10, .inl (K 0, 32, .inl t9))] := hD
              refine lv_aload_n hx hb dX4_readsAll_85 rfl (lv_at hl 0 rfl) ?_
              refine va_get (D := D) (ci := 4) (v := .int 1) (C := RX4) (T := TX4) (N := 18) hx hb hts hi4 hown hK hP 0 rfl rfl 14 (by decide) (hts (.fieldLink RX4 162 "PairedChannelsModel" "isWell" "Z") (List.mem_of_getElem? (i := 2) (by decide +kernel))) (fun _ h9 => h9) rfl dX4_readsAll_86 ?_
              refine lv_if_eq (tgt := 19) hx hb dX4_readsAll_89 (by decide) (fun c19 => ?_) (fun c19 => ?_)
              · skip
                have c19 : 1 = 0 := (nI_eq (a := 1) (b := 0) (by omega) (by omega)).mp c19
                omega
              · skip
                have c19 : ¬ 1 = 0 := fun h9 => c19 ((nI_eq (a := 1) (b := 0) (by omega) (by omega)).mpr h9)
                refine lv_aload_n hx hb dX4_readsAll_92 rfl (lv_at hl 0 rfl) ?_
                refine gW_v (wr := []) (W2 := (fun (u : Nat × Bool × Int32) => [(m0, .inr (4, [.int th, .ref m1, .ref m2, .ref m3, .int (nI sy), .ref m4, .int (nI ly), .ref m5, .ref m6, .int (nI py), .ref m7, .ref m8, .ref m9, .int (nI u.1), .int (if u.2.1 = true then 1 else 0), .ref m10, .int (nI ((i9 + 1) + 1)), .long hy])), (m4, .inl (K 0, 60, .inl bf)), (m10, .inl (K 0, 32, .inl (upd t9 (i9 + 1) u.2.2)))])) (va_runV (As := []) (rest := []) ⟨hx, hb, hml, hown, hts⟩ ((c_X4_readsValue l D K m0 m1 m2 m3 m4 m5 m6 m7 m8 m9 m10 th sy ly py (a9 + 1) true (i9 + 1) hy bf t9 (by first | assumption | omega) (by first | assumption | omega) (by first | assumption | omega)) _) (cwV 0 hts gX4_readsAll_X4_readsValue rfl rfl rfl (by decide +kernel) ⟨Nat.le_of_ble_eq_true rfl, Nat.le_of_ble_eq_true rfl⟩) (gW_preV hE hS hK hP hD hA [0, 1, 2] rfl (by decide) 0 rfl rfl rfl) rfl rfl hl.1 rfl (lv_room (Nat.le_of_ble_eq_true rfl)) dX4_readsAll_93 ⟨Nat.le_of_ble_eq_true rfl, Nat.le_of_ble_eq_true rfl⟩) hS hP hD hA [0, 1, 2] [] [0, 1, 2] rfl rfl (by decide) (by decide) (by decide) (fun _ => rfl) (fun u20 H locs h21 hP hD hS => ?_)
                have hP : va_P D vwCl [(m0, .inr (4, [.int th, .ref m1, .ref m2, .ref m3, .int (nI sy), .ref m4, .int (nI ly), .ref m5, .ref m6, .int (nI py), .ref m7, .ref m8, .ref m9, .int (nI u20.1), .int (if u20.2.1 = true then 1 else 0), .ref m10, .int (nI ((i9 + 1) + 1)), .long hy])), (m4, .inl (K 0, 60, .inl bf)), (m10, .inl (K 0, 32, .inl (upd t9 (i9 + 1) u20.2.2)))] _ := hP
                have hD : va_D A [(m0, .inr (4, [.int th, .ref m1, .ref m2, .ref m3, .int (nI sy), .ref m4, .int (nI ly), .ref m5, .ref m6, .int (nI py), .ref m7, .ref m8, .ref m9, .int (nI u20.1), .int (if u20.2.1 = true then 1 else 0), .ref m10, .int (nI ((i9 + 1) + 1)), .long hy])), (m4, .inl (K 0, 60, .inl bf)), (m10, .inl (K 0, 32, .inl (upd t9 (i9 + 1) u20.2.2)))] := hD
                have hrv : u20 = rvA bf ly (a9 + 1) := h21
                refine lv_goto (tgt := 19) hx hb dX4_readsAll_96 (by decide) ?_
                exact ih4 H locs ls ⟨u20.1, u20.2.1, upd t9 (i9 + 1) u20.2.2, (by rw [hrv]; exact ⟨rvA_le (by omega), ra_more (hra.1 hw9) (by omega) c44 (by omega)⟩), hP, hD, hS, lv_sub hl [0] rfl⟩
  · exact ⟨u1.1, u1.2.1, upd tf 0 u1.2.2, (by rw [hrv0]; exact ⟨rvA_le (Nat.zero_le _), ra_0 bf ly tv tf⟩), hP, hD, hS, lv_sub hl [0] rfl⟩

set_option maxHeartbeats 4000000 in
set_option maxRecDepth 100000 in
theorem c_X4_firstError (l : Launch) (D : va_G) (K : Nat → ClassId) (m0 : Nat) (m1 : Nat) (m2 : Nat) (m3 : Nat) (m4 : Nat) (m5 : Nat) (m6 : Nat) (m7 : Nat) (m8 : Nat) (m9 : Nat) (m10 : Nat) (th : Int32) (sy : Nat) (ly : Nat) (py : Nat) (ay : Nat) (iw : Bool) (ty : Nat) (hy : Int64) (bf : Nat → Int32) (tf : Nat → Int32) (tv : Nat → Int32) (hln : ly ≤ 60) : MWi l yX4_firstError wsX4_firstError ({ frames := 3, cells := 0, slots := 0, locals := 64 } : Room) D (gTy K) [.ref m0] [(m0, .inr (4, [.int th, .ref m1, .ref m2, .ref m3, .int (nI sy), .ref m4, .int (nI ly), .ref m5, .ref m6, .int (nI py), .ref m7, .ref m8, .ref m9, .int (nI ay), .int (if iw = true then 1 else 0), .ref m10, .int (nI ty), .long hy])), (m4, .inl (K 0, 60, .inl bf)), (m10, .inl (K 0, 32, .inl tf))] (fun (u : Nat × Bool × Nat × (Nat → Int32)) => [(m0, .inr (4, [.int 0, .ref m1, .ref m2, .ref m3, .int (nI sy), .ref m4, .int (nI ly), .ref m5, .ref m6, .int (nI py), .ref m7, .ref m8, .ref m9, .int (nI u.1), .int (if u.2.1 = true then 1 else 0), .ref m10, .int (nI u.2.2.1), .long hy])), (m4, .inl (K 0, 60, .inl bf)), (m10, .inl (K 0, 32, .inl u.2.2.2))]) (fun r (u : Nat × Bool × Nat × (Nat → Int32)) => r = nI (scA bf ly tv).1) 0 0 := by
  refine g_ofW (Qc := fun A => va_Qi _ (gB D (gTy K) A _) A) (cc := cX4_firstError) (maxL := 1) (ret := (some .int)) (own := RX4) (by decide) rfl rfl (Nat.le_of_ble_eq_true rfl) ?_
  intro pp ee s mm below meth cc A hfx hnm hK hP hD hE hS hA ls hl
  obtain ⟨hx, hb, hr, hml, hown, hts, hlk⟩ := hfx
  have hl : lv_has ls 1 [(0, .ref m0)] := hl
  have hi4 : ∀ w ∈ u_ws RX4 TX4 18, w ∈ wsX4_firstError := fun w h => List.mem_cons_of_mem _ (List.mem_append_right _ (h))
  refine lv_aload_n hx hb dX4_firstError_0 rfl (lv_at hl 0 rfl) ?_
  refine lv_iconst (v := 0) hx hb dX4_firstError_1 (by decide) ?_
  refine va_put (D := D) (ci := 4) (v := .int 0) (ty := .int) (C := RX4) (T := TX4) (N := 18) hx hb hts hi4 tyX4 tyX4_ok nmX4 hown hK hP hD hS 0 rfl rfl 0 (by decide) (hts (.fieldLink RX4 40 "PairedChannelsModel" "thrown" "I") (List.mem_of_getElem? (i := 1) (by decide +kernel))) (fun _ h9 => h9) rfl (by decide +kernel) (rfl) (rfl) (Nat.le_of_ble_eq_true rfl) dX4_firstError_2 (fun H locs hP hD hS => ?_)
  have hP : va_P D vwCl [(m0, .inr (4, [.int 0, .ref m1, .ref m2, .ref m3, .int (nI sy), .ref m4, .int (nI ly), .ref m5, .ref m6, .int (nI py), .ref m7, .ref m8, .ref m9, .int (nI ay), .int (if iw = true then 1 else 0), .ref m10, .int (nI ty), .long hy])), (m4, .inl (K 0, 60, .inl bf)), (m10, .inl (K 0, 32, .inl tf))] _ := hP
  have hD : va_D A [(m0, .inr (4, [.int 0, .ref m1, .ref m2, .ref m3, .int (nI sy), .ref m4, .int (nI ly), .ref m5, .ref m6, .int (nI py), .ref m7, .ref m8, .ref m9, .int (nI ay), .int (if iw = true then 1 else 0), .ref m10, .int (nI ty), .long hy])), (m4, .inl (K 0, 60, .inl bf)), (m10, .inl (K 0, 32, .inl tf))] := hD
  refine lv_aload_n hx hb dX4_firstError_5 rfl (lv_at hl 0 rfl) ?_
  refine gW_v (wr := []) (W2 := (fun (u : Nat × Bool × Nat × (Nat → Int32)) => [(m0, .inr (4, [.int 0, .ref m1, .ref m2, .ref m3, .int (nI sy), .ref m4, .int (nI ly), .ref m5, .ref m6, .int (nI py), .ref m7, .ref m8, .ref m9, .int (nI u.1), .int (if u.2.1 = true then 1 else 0), .ref m10, .int (nI u.2.2.1), .long hy])), (m4, .inl (K 0, 60, .inl bf)), (m10, .inl (K 0, 32, .inl u.2.2.2))])) (va_runV (As := []) (rest := []) ⟨hx, hb, hml, hown, hts⟩ ((c_X4_readsAll l D K m0 m1 m2 m3 m4 m5 m6 m7 m8 m9 m10 0 sy ly py ay iw ty hy bf tf tv (by first | assumption | omega)) _) (cwV 0 hts gX4_firstError_X4_readsAll rfl rfl rfl (by decide +kernel) ⟨Nat.le_of_ble_eq_true rfl, Nat.le_of_ble_eq_true rfl⟩) (gW_preV hE hS hK hP hD hA [0, 1, 2] rfl (by decide) 0 rfl rfl rfl) rfl rfl hl.1 rfl (lv_room (Nat.le_of_ble_eq_true rfl)) dX4_firstError_6 ⟨Nat.le_of_ble_eq_true rfl, Nat.le_of_ble_eq_true rfl⟩) hS hP hD hA [0, 1, 2] [] [0, 1, 2] rfl rfl (by decide) (by decide) (by decide) (fun _ => rfl) (fun u1 H locs h2 hP hD hS => ?_)
  have hP : va_P D vwCl [(m0, .inr (4, [.int 0, .ref m1, .ref m2, .ref m3, .int (nI sy), .ref m4, .int (nI ly), .ref m5, .ref m6, .int (nI py), .ref m7, .ref m8, .ref m9, .int (nI u1.1), .int (if u1.2.1 = true then 1 else 0), .ref m10, .int (nI u1.2.2.1), .long hy])), (m4, .inl (K 0, 60, .inl bf)), (m10, .inl (K 0, 32, .inl u1.2.2.2))] _ := hP
  have hD : va_D A [(m0, .inr (4, [.int 0, .ref m1, .ref m2, .ref m3, .int (nI sy), .ref m4, .int (nI ly), .ref m5, .ref m6, .int (nI py), .ref m7, .ref m8, .ref m9, .int (nI u1.1), .int (if u1.2.1 = true then 1 else 0), .ref m10, .int (nI u1.2.2.1), .long hy])), (m4, .inl (K 0, 60, .inl bf)), (m10, .inl (K 0, 32, .inl u1.2.2.2))] := hD
  have hra : raE bf ly tv u1.1 u1.2.1 u1.2.2.1 u1.2.2.2 ∧ u1.1 ≤ ly ∧ u1.2.2.1 ≤ 17 := h2
  refine lv_aload_n hx hb dX4_firstError_9 rfl (lv_at hl 0 rfl) ?_
  refine va_get (D := D) (ci := 4) (v := .int (nI u1.1)) (C := RX4) (T := TX4) (N := 18) hx hb hts hi4 hown hK hP 0 rfl rfl 13 (by decide) (hts (.fieldLink RX4 156 "PairedChannelsModel" "at" "I") (List.mem_of_getElem? (i := 2) (by decide +kernel))) (fun _ h9 => h9) rfl dX4_firstError_10 ?_
  exact gW_iret (v := nI u1.1) (u1.1, u1.2.1, u1.2.2.1, u1.2.2.2) hx hb hr hlk (rfl) hK hP hD hS (congrArg nI hra.1.1.symm) dX4_firstError_13

set_option maxHeartbeats 4000000 in
set_option maxRecDepth 100000 in
theorem c_X4_receiveAll (l : Launch) (D : va_G) (K : Nat → ClassId) (m0 : Nat) (m1 : Nat) (m2 : Nat) (m3 : Nat) (m4 : Nat) (m5 : Nat) (m6 : Nat) (m7 : Nat) (m8 : Nat) (m9 : Nat) (m10 : Nat) (th : Int32) (sy : Nat) (ly : Nat) (py : Nat) (ay : Nat) (iw : Bool) (ty : Nat) (hy : Int64) (n : Nat) (mask : Int32) (vf : Nat → Int32) (sf : Nat → Int32) (z : Nat → Wd) (bf : Nat → Int32) (tf : Nat → Int32) (tv : Nat → Int32) (hsy : sy ≤ 6) (hn : okN n) (hln : ly ≤ 60) : MWi l yX4_receiveAll wsX4_receiveAll ({ frames := 3, cells := 0, slots := 0, locals := 64 } : Room) D (gTy K) [.ref m0] [(m0, .inr (4, [.int th, .ref m1, .ref m2, .ref m3, .int (nI sy), .ref m4, .int (nI ly), .ref m5, .ref m6, .int (nI py), .ref m7, .ref m8, .ref m9, .int (nI ay), .int (if iw = true then 1 else 0), .ref m10, .int (nI ty), .long hy])), (m1, .inl (K 0, 22, .inl (mst n mask vf sf))), (m3, .inl (K 0, 132, .inl (msv z))), (m4, .inl (K 0, 60, .inl bf)), (m10, .inl (K 0, 32, .inl tf))] (fun (u : Wd × (Nat → Wd) × Nat × Int32 × Nat × Nat × Bool × Nat × (Nat → Int32)) => [(m0, .inr (4, [.int u.2.2.2.1, .ref m1, .ref m2, .ref m3, .int (nI u.2.2.1), .ref m4, .int (nI u.2.2.2.2.1), .ref m5, .ref m6, .int (nI py), .ref m7, .ref m8, .ref m9, .int (nI u.2.2.2.2.2.1), .int (if u.2.2.2.2.2.2.1 = true then 1 else 0), .ref m10, .int (nI u.2.2.2.2.2.2.2.1), .long hy])), (m1, .inl (K 0, 22, .inl (mst u.1.1 u.1.2.1 u.1.2.2.1 u.1.2.2.2))), (m3, .inl (K 0, 132, .inl (msv u.2.1))), (m4, .inl (K 0, 60, .inl bf)), (m10, .inl (K 0, 32, .inl u.2.2.2.2.2.2.2.2))]) (fun r (u : Wd × (Nat → Wd) × Nat × Int32 × Nat × Nat × Bool × Nat × (Nat → Int32)) => (thAll n ly (scA bf ly tv) = 0 ∧ u.1 = (n, mask, allV n (scA bf ly tv).2.2.2.1 (scA bf ly tv).2.2.2.2 vf, sf) ∧ u.2.1 = mzS z sy (n, mask, vf, sf) ∧ u.2.2.1 = svC sy ∧ u.2.2.2.1 = 0 ∧ u.2.2.2.2.1 = 0 ∧ r = nI (scA bf ly tv).2.2.2.1) ∨ (¬ thAll n ly (scA bf ly tv) = 0 ∧ u.1 = (n, mask, vf, sf) ∧ u.2.1 = z ∧ u.2.2.1 = sy ∧ u.2.2.2.1 = nI (thAll n ly (scA bf ly tv)) ∧ u.2.2.2.2.1 = ly ∧ r = 0)) 0 0 := by
  refine g_ofW (Qc := fun A => va_Qi _ (gB D (gTy K) A _) A) (cc := cX4_receiveAll) (maxL := 2) (ret := (some .int)) (own := RX4) (by decide) rfl rfl (Nat.le_of_ble_eq_true rfl) ?_
  intro pp ee s mm below meth cc A hfx hnm hK hP hD hE hS hA ls hl
  obtain ⟨hx, hb, hr, hml, hown, hts, hlk⟩ := hfx
  have hl : lv_has ls 2 [(0, .ref m0)] := hl
  have hi4 : ∀ w ∈ u_ws RX4 TX4 18, w ∈ wsX4_receiveAll := fun w h => List.mem_cons_of_mem _ (List.mem_append_right _ (h))
  have hnl := hn.le
  refine lv_aload_n hx hb dX4_receiveAll_0 rfl (lv_at hl 0 rfl) ?_
  refine lv_iconst (v := 0) hx hb dX4_receiveAll_1 (by decide) ?_
  refine va_put (D := D) (ci := 4) (v := .int 0) (ty := .int) (C := RX4) (T := TX4) (N := 18) hx hb hts hi4 tyX4 tyX4_ok nmX4 hown hK hP hD hS 0 rfl rfl 0 (by decide) (hts (.fieldLink RX4 40 "PairedChannelsModel" "thrown" "I") (List.mem_of_getElem? (i := 1) (by decide +kernel))) (fun _ h9 => h9) rfl (by decide +kernel) (rfl) (rfl) (Nat.le_of_ble_eq_true rfl) dX4_receiveAll_2 (fun H locs hP hD hS => ?_)
  have hP : va_P D vwCl [(m0, .inr (4, [.int 0, .ref m1, .ref m2, .ref m3, .int (nI sy), .ref m4, .int (nI ly), .ref m5, .ref m6, .int (nI py), .ref m7, .ref m8, .ref m9, .int (nI ay), .int (if iw = true then 1 else 0), .ref m10, .int (nI ty), .long hy])), (m1, .inl (K 0, 22, .inl (mst n mask vf sf))), (m3, .inl (K 0, 132, .inl (msv z))), (m4, .inl (K 0, 60, .inl bf)), (m10, .inl (K 0, 32, .inl tf))] _ := hP
  have hD : va_D A [(m0, .inr (4, [.int 0, .ref m1, .ref m2, .ref m3, .int (nI sy), .ref m4, .int (nI ly), .ref m5, .ref m6, .int (nI py), .ref m7, .ref m8, .ref m9, .int (nI ay), .int (if iw = true then 1 else 0), .ref m10, .int (nI ty), .long hy])), (m1, .inl (K 0, 22, .inl (mst n mask vf sf))), (m3, .inl (K 0, 132, .inl (msv z))), (m4, .inl (K 0, 60, .inl bf)), (m10, .inl (K 0, 32, .inl tf))] := hD
  refine lv_aload_n hx hb dX4_receiveAll_5 rfl (lv_at hl 0 rfl) ?_
  refine gW_v (wr := [(m1, .inl (K 0, 22, .inl (mst n mask vf sf))), (m3, .inl (K 0, 132, .inl (msv z)))]) (W2 := (fun (u : Nat × Bool × Nat × (Nat → Int32)) => [(m0, .inr (4, [.int 0, .ref m1, .ref m2, .ref m3, .int (nI sy), .ref m4, .int (nI ly), .ref m5, .ref m6, .int (nI py), .ref m7, .ref m8, .ref m9, .int (nI u.1), .int (if u.2.1 = true then 1 else 0), .ref m10, .int (nI u.2.2.1), .long hy])), (m1, .inl (K 0, 22, .inl (mst n mask vf sf))), (m3, .inl (K 0, 132, .inl (msv z))), (m4, .inl (K 0, 60, .inl bf)), (m10, .inl (K 0, 32, .inl u.2.2.2))])) (va_runV (As := []) (rest := []) ⟨hx, hb, hml, hown, hts⟩ ((c_X4_readsAll l D K m0 m1 m2 m3 m4 m5 m6 m7 m8 m9 m10 0 sy ly py ay iw ty hy bf tf tv (by first | assumption | omega)) _) (cwV 0 hts gX4_receiveAll_X4_readsAll rfl rfl rfl (by decide +kernel) ⟨Nat.le_of_ble_eq_true rfl, Nat.le_of_ble_eq_true rfl⟩) (gW_preV hE hS hK hP hD hA [0, 3, 4] rfl (by decide) 0 rfl rfl rfl) rfl rfl hl.1 rfl (lv_room (Nat.le_of_ble_eq_true rfl)) dX4_receiveAll_6 ⟨Nat.le_of_ble_eq_true rfl, Nat.le_of_ble_eq_true rfl⟩) hS hP hD hA [0, 3, 4] [1, 2] [2, 0, 1, 3, 4] rfl rfl (by decide) (by decide) (by decide) (fun _ => rfl) (fun u1 H locs h2 hP hD hS => ?_)
  have hP : va_P D vwCl [(m0, .inr (4, [.int 0, .ref m1, .ref m2, .ref m3, .int (nI sy), .ref m4, .int (nI ly), .ref m5, .ref m6, .int (nI py), .ref m7, .ref m8, .ref m9, .int (nI u1.1), .int (if u1.2.1 = true then 1 else 0), .ref m10, .int (nI u1.2.2.1), .long hy])), (m1, .inl (K 0, 22, .inl (mst n mask vf sf))), (m3, .inl (K 0, 132, .inl (msv z))), (m4, .inl (K 0, 60, .inl bf)), (m10, .inl (K 0, 32, .inl u1.2.2.2))] _ := hP
  have hD : va_D A [(m0, .inr (4, [.int 0, .ref m1, .ref m2, .ref m3, .int (nI sy), .ref m4, .int (nI ly), .ref m5, .ref m6, .int (nI py), .ref m7, .ref m8, .ref m9, .int (nI u1.1), .int (if u1.2.1 = true then 1 else 0), .ref m10, .int (nI u1.2.2.1), .long hy])), (m1, .inl (K 0, 22, .inl (mst n mask vf sf))), (m3, .inl (K 0, 132, .inl (msv z))), (m4, .inl (K 0, 60, .inl bf)), (m10, .inl (K 0, 32, .inl u1.2.2.2))] := hD
  have hra : raE bf ly tv u1.1 u1.2.1 u1.2.2.1 u1.2.2.2 ∧ u1.1 ≤ ly ∧ u1.2.2.1 ≤ 17 := h2
  refine lv_aload_n hx hb dX4_receiveAll_9 rfl (lv_at hl 0 rfl) ?_
  refine va_get (D := D) (ci := 4) (v := .int (if u1.2.1 = true then 1 else 0)) (C := RX4) (T := TX4) (N := 18) hx hb hts hi4 hown hK hP 0 rfl rfl 14 (by decide) (hts (.fieldLink RX4 162 "PairedChannelsModel" "isWell" "Z") (List.mem_of_getElem? (i := 2) (by decide +kernel))) (fun _ h9 => h9) rfl dX4_receiveAll_10 ?_
  refine lv_if_ne (tgt := 22) hx hb dX4_receiveAll_13 (by decide) (fun c13 => ?_) (fun c13 => ?_)
  · skip
    have c13 : u1.2.1 = true := b_ne0 c13
    refine lv_aload_n hx hb dX4_receiveAll_22 rfl (lv_at hl 0 rfl) ?_
    refine va_get (D := D) (ci := 4) (v := .int (nI u1.2.2.1)) (C := RX4) (T := TX4) (N := 18) hx hb hts hi4 hown hK hP 0 rfl rfl 16 (by decide) (hts (.fieldLink RX4 166 "PairedChannelsModel" "toldMany" "I") (List.mem_of_getElem? (i := 3) (by decide +kernel))) (fun _ h9 => h9) rfl dX4_receiveAll_23 ?_
    refine lv_aload_n hx hb dX4_receiveAll_26 rfl (lv_at hl 0 rfl) ?_
    refine va_get (D := D) (ci := 4) (v := .ref m1) (C := RX4) (T := TX4) (N := 18) hx hb hts hi4 hown hK hP 0 rfl rfl 1 (by decide) (hts (.fieldLink RX4 7 "PairedChannelsModel" "s" "[I") (List.mem_of_getElem? (i := 4) (by decide +kernel))) (fun _ h9 => h9) rfl dX4_receiveAll_27 ?_
    refine lv_iconst (v := 0) hx hb dX4_receiveAll_30 (by decide) ?_
    refine wa_iald hx hb hK hP 1 0 rfl rfl (0) rfl (by omega) (by decide) dX4_receiveAll_31 ?_
    refine lv_eqi (nI n) (rfl) ?_
    refine lv_icmp_le (tgt := 41) hx hb dX4_receiveAll_32 (by decide) (fun c32 => ?_) (fun c32 => ?_)
    · skip
      have c32 : u1.2.2.1 ≤ n := (nI_leI (a := u1.2.2.1) (b := n) (by omega) (by omega)).mp c32
      obtain ⟨hx1, hx2, hx3, hx4⟩ := hra.1.2.1 c13
      refine lv_aload_n hx hb dX4_receiveAll_41 rfl (lv_at hl 0 rfl) ?_
      refine gW_v (wr := [(m4, .inl (K 0, 60, .inl bf)), (m10, .inl (K 0, 32, .inl u1.2.2.2))]) (W2 := (fun (u : Unit) => [(m0, .inr (4, [.int 0, .ref m1, .ref m2, .ref m3, .int (nI (svC sy)), .ref m4, .int (nI ly), .ref m5, .ref m6, .int (nI py), .ref m7, .ref m8, .ref m9, .int (nI u1.1), .int (if u1.2.1 = true then 1 else 0), .ref m10, .int (nI u1.2.2.1), .long hy])), (m1, .inl (K 0, 22, .inl (mst n mask vf sf))), (m3, .inl (K 0, 132, .inl (msv (mzS z sy (n, mask, vf, sf))))), (m4, .inl (K 0, 60, .inl bf)), (m10, .inl (K 0, 32, .inl u1.2.2.2))])) (va_runV (As := []) (rest := []) ⟨hx, hb, hml, hown, hts⟩ ((c_X4_saves l D K m0 m1 m2 m3 m4 m5 m6 m7 m8 m9 m10 0 sy ly py u1.1 u1.2.1 u1.2.2.1 hy n mask vf sf z (by first | assumption | omega)) _) (cwV 0 hts gX4_receiveAll_X4_saves rfl rfl rfl (by decide +kernel) ⟨Nat.le_of_ble_eq_true rfl, Nat.le_of_ble_eq_true rfl⟩) (gW_preV hE hS hK hP hD hA [0, 1, 2] rfl (by decide) 0 rfl rfl rfl) rfl rfl hl.1 rfl (lv_room (Nat.le_of_ble_eq_true rfl)) dX4_receiveAll_42 ⟨Nat.le_of_ble_eq_true rfl, Nat.le_of_ble_eq_true rfl⟩) hS hP hD hA [0, 1, 2] [3, 4] [2, 3, 4, 0, 1] rfl rfl (by decide) (by decide) (by decide) (fun _ => rfl) (fun u6 H locs h7 hP hD hS => ?_)
      have hP : va_P D vwCl [(m0, .inr (4, [.int 0, .ref m1, .ref m2, .ref m3, .int (nI (svC sy)), .ref m4, .int (nI ly), .ref m5, .ref m6, .int (nI py), .ref m7, .ref m8, .ref m9, .int (nI u1.1), .int (if u1.2.1 = true then 1 else 0), .ref m10, .int (nI u1.2.2.1), .long hy])), (m1, .inl (K 0, 22, .inl (mst n mask vf sf))), (m3, .inl (K 0, 132, .inl (msv (mzS z sy (n, mask, vf, sf))))), (m4, .inl (K 0, 60, .inl bf)), (m10, .inl (K 0, 32, .inl u1.2.2.2))] _ := hP
      have hD : va_D A [(m0, .inr (4, [.int 0, .ref m1, .ref m2, .ref m3, .int (nI (svC sy)), .ref m4, .int (nI ly), .ref m5, .ref m6, .int (nI py), .ref m7, .ref m8, .ref m9, .int (nI u1.1), .int (if u1.2.1 = true then 1 else 0), .ref m10, .int (nI u1.2.2.1), .long hy])), (m1, .inl (K 0, 22, .inl (mst n mask vf sf))), (m3, .inl (K 0, 132, .inl (msv (mzS z sy (n, mask, vf, sf))))), (m4, .inl (K 0, 60, .inl bf)), (m10, .inl (K 0, 32, .inl u1.2.2.2))] := hD
      refine lv_aload_n hx hb dX4_receiveAll_45 rfl (lv_at hl 0 rfl) ?_
      refine lv_iconst (v := 0) hx hb dX4_receiveAll_46 (by decide) ?_
      refine va_put (D := D) (ci := 4) (v := .int 0) (ty := .int) (C := RX4) (T := TX4) (N := 18) hx hb hts hi4 tyX4 tyX4_ok nmX4 hown hK hP hD hS 0 rfl rfl 6 (by decide) (hts (.fieldLink RX4 153 "PairedChannelsModel" "length" "I") (List.mem_of_getElem? (i := 5) (by decide +kernel))) (fun _ h9 => h9) rfl (by decide +kernel) (rfl) (rfl) (Nat.le_of_ble_eq_true rfl) dX4_receiveAll_47 (fun H locs hP hD hS => ?_)
      have hP : va_P D vwCl [(m0, .inr (4, [.int 0, .ref m1, .ref m2, .ref m3, .int (nI (svC sy)), .ref m4, .int 0, .ref m5, .ref m6, .int (nI py), .ref m7, .ref m8, .ref m9, .int (nI u1.1), .int (if u1.2.1 = true then 1 else 0), .ref m10, .int (nI u1.2.2.1), .long hy])), (m1, .inl (K 0, 22, .inl (mst n mask vf sf))), (m3, .inl (K 0, 132, .inl (msv (mzS z sy (n, mask, vf, sf))))), (m4, .inl (K 0, 60, .inl bf)), (m10, .inl (K 0, 32, .inl u1.2.2.2))] _ := hP
      have hD : va_D A [(m0, .inr (4, [.int 0, .ref m1, .ref m2, .ref m3, .int (nI (svC sy)), .ref m4, .int 0, .ref m5, .ref m6, .int (nI py), .ref m7, .ref m8, .ref m9, .int (nI u1.1), .int (if u1.2.1 = true then 1 else 0), .ref m10, .int (nI u1.2.2.1), .long hy])), (m1, .inl (K 0, 22, .inl (mst n mask vf sf))), (m3, .inl (K 0, 132, .inl (msv (mzS z sy (n, mask, vf, sf))))), (m4, .inl (K 0, 60, .inl bf)), (m10, .inl (K 0, 32, .inl u1.2.2.2))] := hD
      refine lv_iconst (v := 0) hx hb dX4_receiveAll_50 (by decide) ?_
      refine lv_istore_n (lv' := [(1, .int 0), (0, .ref m0)]) hx hb dX4_receiveAll_51 rfl hl (by decide) rfl (fun ls hl => ?_)
      refine g_loopW (st := []) (N := n) (fun i H locs ls => ∃ v2 : Nat → Int32, (∀ q, q < 16 → v2 q = (if q < i then (if q < u1.2.2.1 then u1.2.2.2 q else 0) else vf q)) ∧ va_P D vwCl [(m0, .inr (4, [.int 0, .ref m1, .ref m2, .ref m3, .int (nI (svC sy)), .ref m4, .int 0, .ref m5, .ref m6, .int (nI py), .ref m7, .ref m8, .ref m9, .int (nI u1.1), .int (if u1.2.1 = true then 1 else 0), .ref m10, .int (nI u1.2.2.1), .long hy])), (m1, .inl (K 0, 22, .inl (mst n mask v2 sf))), (m3, .inl (K 0, 132, .inl (msv (mzS z sy (n, mask, vf, sf))))), (m4, .inl (K 0, 60, .inl bf)), (m10, .inl (K 0, 32, .inl u1.2.2.2))] H ∧ va_D A [(m0, .inr (4, [.int 0, .ref m1, .ref m2, .ref m3, .int (nI (svC sy)), .ref m4, .int 0, .ref m5, .ref m6, .int (nI py), .ref m7, .ref m8, .ref m9, .int (nI u1.1), .int (if u1.2.1 = true then 1 else 0), .ref m10, .int (nI u1.2.2.1), .long hy])), (m1, .inl (K 0, 22, .inl (mst n mask v2 sf))), (m3, .inl (K 0, 132, .inl (msv (mzS z sy (n, mask, vf, sf))))), (m4, .inl (K 0, 60, .inl bf)), (m10, .inl (K 0, 32, .inl u1.2.2.2))] ∧ va_S A s.heap H locs ∧ lv_has ls 2 [(1, .int (nI i)), (0, .ref m0)]) 0 (Nat.zero_le _) ?_ ?_ ?_
      · intro H locs ls hI
        obtain ⟨v2, hv2, hP, hD, hS, hl⟩ := hI
        refine lv_iload_n hx hb dX4_receiveAll_52 rfl (lv_at hl 0 rfl) ?_
        refine lv_aload_n hx hb dX4_receiveAll_53 rfl (lv_at hl 1 rfl) ?_
        refine va_get (D := D) (ci := 4) (v := .ref m1) (C := RX4) (T := TX4) (N := 18) hx hb hts hi4 hown hK hP 0 rfl rfl 1 (by decide) (hts (.fieldLink RX4 7 "PairedChannelsModel" "s" "[I") (List.mem_of_getElem? (i := 4) (by decide +kernel))) (fun _ h9 => h9) rfl dX4_receiveAll_54 ?_
        refine lv_iconst (v := 0) hx hb dX4_receiveAll_57 (by decide) ?_
        refine wa_iald hx hb hK hP 1 0 rfl rfl (0) rfl (by omega) (by decide) dX4_receiveAll_58 ?_
        refine lv_eqi (nI n) (rfl) ?_
        refine lv_icmp_ge (tgt := 95) hx hb dX4_receiveAll_59 (by decide) (fun c10 => ?_) (fun c10 => ?_)
        · skip
          have c10 : n ≤ n := (nI_leI (a := n) (b := n) (by omega) (by omega)).mp c10
          have hP : va_P D vwCl [(m0, .inr (4, [.int 0, .ref m1, .ref m2, .ref m3, .int (nI (svC sy)), .ref m4, .int 0, .ref m5, .ref m6, .int (nI py), .ref m7, .ref m8, .ref m9, .int (nI u1.1), .int (if u1.2.1 = true then 1 else 0), .ref m10, .int (nI u1.2.2.1), .long hy])), (m1, .inl (K 0, 22, .inl (mst n mask (allV n (scA bf ly tv).2.2.2.1 (scA bf ly tv).2.2.2.2 vf) sf))), (m3, .inl (K 0, 132, .inl (msv (mzS z sy (n, mask, vf, sf))))), (m4, .inl (K 0, 60, .inl bf)), (m10, .inl (K 0, 32, .inl u1.2.2.2))] _ := gP_ext hP 1 rfl (mst_ext (fun q hq => (hv2 q hq).trans (by rw [hx3]; exact allV_at hx4 n q rfl)))
          have hD : va_D A [(m0, .inr (4, [.int 0, .ref m1, .ref m2, .ref m3, .int (nI (svC sy)), .ref m4, .int 0, .ref m5, .ref m6, .int (nI py), .ref m7, .ref m8, .ref m9, .int (nI u1.1), .int (if u1.2.1 = true then 1 else 0), .ref m10, .int (nI u1.2.2.1), .long hy])), (m1, .inl (K 0, 22, .inl (mst n mask (allV n (scA bf ly tv).2.2.2.1 (scA bf ly tv).2.2.2.2 vf) sf))), (m3, .inl (K 0, 132, .inl (msv (mzS z sy (n, mask, vf, sf))))), (m4, .inl (K 0, 60, .inl bf)), (m10, .inl (K 0, 32, .inl u1.2.2.2))] := gD_ext hD 1 rfl
          refine lv_aload_n hx hb dX4_receiveAll_95 rfl (lv_at hl 1 rfl) ?_
          refine va_get (D := D) (ci := 4) (v := .int (nI u1.2.2.1)) (C := RX4) (T := TX4) (N := 18) hx hb hts hi4 hown hK hP 0 rfl rfl 16 (by decide) (hts (.fieldLink RX4 166 "PairedChannelsModel" "toldMany" "I") (List.mem_of_getElem? (i := 3) (by decide +kernel))) (fun _ h9 => h9) rfl dX4_receiveAll_96 ?_
          exact gW_iret (v := nI u1.2.2.1) ((n, mask, allV n (scA bf ly tv).2.2.2.1 (scA bf ly tv).2.2.2.2 vf, sf), mzS z sy (n, mask, vf, sf), svC sy, 0, 0, u1.1, u1.2.1, u1.2.2.1, u1.2.2.2) hx hb hr hlk (rfl) hK hP hD hS (Or.inl ⟨(th_all2 hra.1 c13).trans (if_neg (by omega)), rfl, rfl, rfl, rfl, rfl, congrArg nI hx3.symm⟩) dX4_receiveAll_99
        · skip
          have c10 : ¬ n ≤ n := fun h9 => c10 ((nI_leI (a := n) (b := n) (by omega) (by omega)).mpr h9)
          omega
      · intro i hi ih9 H locs ls hI
        obtain ⟨v2, hv2, hP, hD, hS, hl⟩ := hI
        refine lv_iload_n hx hb dX4_receiveAll_52 rfl (lv_at hl 0 rfl) ?_
        refine lv_aload_n hx hb dX4_receiveAll_53 rfl (lv_at hl 1 rfl) ?_
        refine va_get (D := D) (ci := 4) (v := .ref m1) (C := RX4) (T := TX4) (N := 18) hx hb hts hi4 hown hK hP 0 rfl rfl 1 (by decide) (hts (.fieldLink RX4 7 "PairedChannelsModel" "s" "[I") (List.mem_of_getElem? (i := 4) (by decide +kernel))) (fun _ h9 => h9) rfl dX4_receiveAll_54 ?_
        refine lv_iconst (v := 0) hx hb dX4_receiveAll_57 (by decide) ?_
        refine wa_iald hx hb hK hP 1 0 rfl rfl (0) rfl (by omega) (by decide) dX4_receiveAll_58 ?_
        refine lv_eqi (nI n) (rfl) ?_
        refine lv_icmp_ge (tgt := 95) hx hb dX4_receiveAll_59 (by decide) (fun c11 => ?_) (fun c11 => ?_)
        · skip
          have c11 : n ≤ i := (nI_leI (a := n) (b := i) (by omega) (by omega)).mp c11
          omega
        · skip
          have c11 : ¬ n ≤ i := fun h9 => c11 ((nI_leI (a := n) (b := i) (by omega) (by omega)).mpr h9)
          refine lv_aload_n hx hb dX4_receiveAll_62 rfl (lv_at hl 1 rfl) ?_
          refine va_get (D := D) (ci := 4) (v := .ref m1) (C := RX4) (T := TX4) (N := 18) hx hb hts hi4 hown hK hP 0 rfl rfl 1 (by decide) (hts (.fieldLink RX4 7 "PairedChannelsModel" "s" "[I") (List.mem_of_getElem? (i := 4) (by decide +kernel))) (fun _ h9 => h9) rfl dX4_receiveAll_63 ?_
          refine lv_bipush (v := 6) hx hb dX4_receiveAll_66 (by decide) ?_
          refine lv_iload_n hx hb dX4_receiveAll_68 rfl (lv_at hl 0 rfl) ?_
          refine lv_iadd hx hb dX4_receiveAll_69 ?_
          refine lv_eqi (nI (6 + i)) (nI_add 6 i) ?_
          refine lv_iload_n hx hb dX4_receiveAll_70 rfl (lv_at hl 0 rfl) ?_
          refine lv_aload_n hx hb dX4_receiveAll_71 rfl (lv_at hl 1 rfl) ?_
          refine va_get (D := D) (ci := 4) (v := .int (nI u1.2.2.1)) (C := RX4) (T := TX4) (N := 18) hx hb hts hi4 hown hK hP 0 rfl rfl 16 (by decide) (hts (.fieldLink RX4 166 "PairedChannelsModel" "toldMany" "I") (List.mem_of_getElem? (i := 3) (by decide +kernel))) (fun _ h9 => h9) rfl dX4_receiveAll_72 ?_
          refine g_cut (F0 mm 88 ls [.int (if u1.2.2.1 ≤ i then (0 : Int32) else u1.2.2.2 i), .int (nI (6 + i)), .ref m1]) (fun hJ => ?_) ?_
          · refine lv_icmp_ge (tgt := 87) hx hb dX4_receiveAll_75 (by decide) (fun c12 => ?_) (fun c12 => ?_)
            · skip
              have c12 : u1.2.2.1 ≤ i := (nI_leI (a := u1.2.2.1) (b := i) (by omega) (by omega)).mp c12
              refine lv_iconst (v := 0) hx hb dX4_receiveAll_87 (by decide) ?_
              refine lv_eqi ((if u1.2.2.1 ≤ i then (0 : Int32) else u1.2.2.2 i)) (if_pos c12).symm ?_
              exact hJ
            · skip
              have c12 : ¬ u1.2.2.1 ≤ i := fun h9 => c12 ((nI_leI (a := u1.2.2.1) (b := i) (by omega) (by omega)).mpr h9)
              refine lv_aload_n hx hb dX4_receiveAll_78 rfl (lv_at hl 1 rfl) ?_
              refine va_get (D := D) (ci := 4) (v := .ref m10) (C := RX4) (T := TX4) (N := 18) hx hb hts hi4 hown hK hP 0 rfl rfl 15 (by decide) (hts (.fieldLink RX4 37 "PairedChannelsModel" "told" "[I") (List.mem_of_getElem? (i := 6) (by decide +kernel))) (fun _ h9 => h9) rfl dX4_receiveAll_79 ?_
              refine lv_iload_n hx hb dX4_receiveAll_82 rfl (lv_at hl 0 rfl) ?_
              refine wa_iald hx hb hK hP 4 0 rfl rfl (i) rfl (by omega) (by decide) dX4_receiveAll_83 ?_
              refine lv_goto (tgt := 88) hx hb dX4_receiveAll_84 (by decide) ?_
              refine lv_eqi ((if u1.2.2.1 ≤ i then (0 : Int32) else u1.2.2.2 i)) (if_neg c12).symm ?_
              exact hJ
          · skip
            refine lv_eqi ((if i < u1.2.2.1 then u1.2.2.2 i else 0)) (if_le_lt _ _ _) ?_
            refine wa_iast (x := (if i < u1.2.2.1 then u1.2.2.2 i else 0)) hx hb hK hP hD hS 1 0 rfl rfl (6 + i) rfl (by omega) (by decide) dX4_receiveAll_88 (fun H locs hP hD hS => ?_)
            have hP : va_P D vwCl [(m0, .inr (4, [.int 0, .ref m1, .ref m2, .ref m3, .int (nI (svC sy)), .ref m4, .int 0, .ref m5, .ref m6, .int (nI py), .ref m7, .ref m8, .ref m9, .int (nI u1.1), .int (if u1.2.1 = true then 1 else 0), .ref m10, .int (nI u1.2.2.1), .long hy])), (m1, .inl (K 0, 22, .inl (upd (mst n mask v2 sf) (6 + i) (if i < u1.2.2.1 then u1.2.2.2 i else 0)))), (m3, .inl (K 0, 132, .inl (msv (mzS z sy (n, mask, vf, sf))))), (m4, .inl (K 0, 60, .inl bf)), (m10, .inl (K 0, 32, .inl u1.2.2.2))] _ := hP
            have hD : va_D A [(m0, .inr (4, [.int 0, .ref m1, .ref m2, .ref m3, .int (nI (svC sy)), .ref m4, .int 0, .ref m5, .ref m6, .int (nI py), .ref m7, .ref m8, .ref m9, .int (nI u1.1), .int (if u1.2.1 = true then 1 else 0), .ref m10, .int (nI u1.2.2.1), .long hy])), (m1, .inl (K 0, 22, .inl (upd (mst n mask v2 sf) (6 + i) (if i < u1.2.2.1 then u1.2.2.2 i else 0)))), (m3, .inl (K 0, 132, .inl (msv (mzS z sy (n, mask, vf, sf))))), (m4, .inl (K 0, 60, .inl bf)), (m10, .inl (K 0, 32, .inl u1.2.2.2))] := hD
            have e13 : (upd (mst n mask v2 sf) (6 + i) (if i < u1.2.2.1 then u1.2.2.2 i else 0)) = (mst n mask (upd v2 i (if i < u1.2.2.1 then u1.2.2.2 i else 0)) sf) := mst_up _ _
            rw [e13] at hP hD
            have hP : va_P D vwCl [(m0, .inr (4, [.int 0, .ref m1, .ref m2, .ref m3, .int (nI (svC sy)), .ref m4, .int 0, .ref m5, .ref m6, .int (nI py), .ref m7, .ref m8, .ref m9, .int (nI u1.1), .int (if u1.2.1 = true then 1 else 0), .ref m10, .int (nI u1.2.2.1), .long hy])), (m1, .inl (K 0, 22, .inl (mst n mask (upd v2 i (if i < u1.2.2.1 then u1.2.2.2 i else 0)) sf))), (m3, .inl (K 0, 132, .inl (msv (mzS z sy (n, mask, vf, sf))))), (m4, .inl (K 0, 60, .inl bf)), (m10, .inl (K 0, 32, .inl u1.2.2.2))] _ := hP
            have hD : va_D A [(m0, .inr (4, [.int 0, .ref m1, .ref m2, .ref m3, .int (nI (svC sy)), .ref m4, .int 0, .ref m5, .ref m6, .int (nI py), .ref m7, .ref m8, .ref m9, .int (nI u1.1), .int (if u1.2.1 = true then 1 else 0), .ref m10, .int (nI u1.2.2.1), .long hy])), (m1, .inl (K 0, 22, .inl (mst n mask (upd v2 i (if i < u1.2.2.1 then u1.2.2.2 i else 0)) sf))), (m3, .inl (K 0, 132, .inl (msv (mzS z sy (n, mask, vf, sf))))), (m4, .inl (K 0, 60, .inl bf)), (m10, .inl (K 0, 32, .inl u1.2.2.2))] := hD
            refine lv_iinc (v := nI (i + 1)) (lv' := [(1, .int (nI (i + 1))), (0, .ref m0)]) hx hb dX4_receiveAll_89 hl (k := 0) rfl (nI_add i 1) (by decide) rfl (fun ls hl => ?_)
            refine lv_goto (tgt := 52) hx hb dX4_receiveAll_92 (by decide) ?_
            exact ih9 H locs ls ⟨(upd v2 i (if i < u1.2.2.1 then u1.2.2.2 i else 0)), (fun q hq => by by_cases e : q = i; subst e; rw [pk_us]; exact g_ip (Nat.lt_succ_self _) rfl; rw [pk_un e, hv2 q hq]; exact g_iff (by omega) _ _), hP, hD, hS, lv_sub hl [0, 1] rfl⟩
      · exact ⟨vf, (fun q hq => by rw [if_neg (Nat.not_lt_zero q)]), hP, hD, hS, lv_sub hl [0, 1] rfl⟩
    · skip
      have c32 : ¬ u1.2.2.1 ≤ n := fun h9 => c32 ((nI_leI (a := u1.2.2.1) (b := n) (by omega) (by omega)).mpr h9)
      refine lv_aload_n hx hb dX4_receiveAll_35 rfl (lv_at hl 0 rfl) ?_
      refine lv_iconst (v := 2) hx hb dX4_receiveAll_36 (by decide) ?_
      refine gW_i (wr := [(m1, .inl (K 0, 22, .inl (mst n mask vf sf))), (m3, .inl (K 0, 132, .inl (msv z))), (m4, .inl (K 0, 60, .inl bf)), (m10, .inl (K 0, 32, .inl u1.2.2.2))]) (W2 := (fun (u : Unit) => [(m0, .inr (4, [.int 2, .ref m1, .ref m2, .ref m3, .int (nI sy), .ref m4, .int (nI ly), .ref m5, .ref m6, .int (nI py), .ref m7, .ref m8, .ref m9, .int (nI u1.1), .int (if u1.2.1 = true then 1 else 0), .ref m10, .int (nI u1.2.2.1), .long hy])), (m1, .inl (K 0, 22, .inl (mst n mask vf sf))), (m3, .inl (K 0, 132, .inl (msv z))), (m4, .inl (K 0, 60, .inl bf)), (m10, .inl (K 0, 32, .inl u1.2.2.2))])) (va_runV (As := [.int 2]) (rest := []) ⟨hx, hb, hml, hown, hts⟩ ((c_X4_fails l D K m0 m1 m2 m3 m4 m5 m6 m7 m8 m9 m10 0 sy ly py u1.1 u1.2.1 u1.2.2.1 hy 2 ) _) (cwV 1 hts gX4_receiveAll_X4_fails rfl rfl rfl (by decide +kernel) ⟨Nat.le_of_ble_eq_true rfl, Nat.le_of_ble_eq_true rfl⟩) (gW_preV hE hS hK hP hD hA [0] rfl (by decide) 0 rfl rfl rfl) rfl rfl hl.1 rfl (lv_room (Nat.le_of_ble_eq_true rfl)) dX4_receiveAll_37 ⟨Nat.le_of_ble_eq_true rfl, Nat.le_of_ble_eq_true rfl⟩) hS hP hD hA [0] [1, 2, 3, 4] [4, 0, 1, 2, 3] rfl rfl (by decide) (by decide) (by decide) (fun _ => rfl) (fun rv16 u14 H locs h15 hP hD hS => ?_)
      have hP : va_P D vwCl [(m0, .inr (4, [.int 2, .ref m1, .ref m2, .ref m3, .int (nI sy), .ref m4, .int (nI ly), .ref m5, .ref m6, .int (nI py), .ref m7, .ref m8, .ref m9, .int (nI u1.1), .int (if u1.2.1 = true then 1 else 0), .ref m10, .int (nI u1.2.2.1), .long hy])), (m1, .inl (K 0, 22, .inl (mst n mask vf sf))), (m3, .inl (K 0, 132, .inl (msv z))), (m4, .inl (K 0, 60, .inl bf)), (m10, .inl (K 0, 32, .inl u1.2.2.2))] _ := hP
      have hD : va_D A [(m0, .inr (4, [.int 2, .ref m1, .ref m2, .ref m3, .int (nI sy), .ref m4, .int (nI ly), .ref m5, .ref m6, .int (nI py), .ref m7, .ref m8, .ref m9, .int (nI u1.1), .int (if u1.2.1 = true then 1 else 0), .ref m10, .int (nI u1.2.2.1), .long hy])), (m1, .inl (K 0, 22, .inl (mst n mask vf sf))), (m3, .inl (K 0, 132, .inl (msv z))), (m4, .inl (K 0, 60, .inl bf)), (m10, .inl (K 0, 32, .inl u1.2.2.2))] := hD
      have h15 : rv16 = 0 := h15
      exact gW_iret (v := rv16) ((n, mask, vf, sf), z, sy, 2, ly, u1.1, u1.2.1, u1.2.2.1, u1.2.2.2) hx hb hr hlk (rfl) hK hP hD hS (Or.inr (by have hh9 : thAll n ly (scA bf ly tv) = 2 := ((th_all2 hra.1 c13).trans (if_pos (by omega))); rw [hh9]; exact ⟨by decide, rfl, rfl, rfl, rfl, rfl, h15⟩)) dX4_receiveAll_40
  · skip
    have c13 : ¬ (u1.2.1 = true) := b_eq0 c13
    refine lv_aload_n hx hb dX4_receiveAll_16 rfl (lv_at hl 0 rfl) ?_
    refine lv_iconst (v := 1) hx hb dX4_receiveAll_17 (by decide) ?_
    refine gW_i (wr := [(m1, .inl (K 0, 22, .inl (mst n mask vf sf))), (m3, .inl (K 0, 132, .inl (msv z))), (m4, .inl (K 0, 60, .inl bf)), (m10, .inl (K 0, 32, .inl u1.2.2.2))]) (W2 := (fun (u : Unit) => [(m0, .inr (4, [.int 1, .ref m1, .ref m2, .ref m3, .int (nI sy), .ref m4, .int (nI ly), .ref m5, .ref m6, .int (nI py), .ref m7, .ref m8, .ref m9, .int (nI u1.1), .int (if u1.2.1 = true then 1 else 0), .ref m10, .int (nI u1.2.2.1), .long hy])), (m1, .inl (K 0, 22, .inl (mst n mask vf sf))), (m3, .inl (K 0, 132, .inl (msv z))), (m4, .inl (K 0, 60, .inl bf)), (m10, .inl (K 0, 32, .inl u1.2.2.2))])) (va_runV (As := [.int 1]) (rest := []) ⟨hx, hb, hml, hown, hts⟩ ((c_X4_fails l D K m0 m1 m2 m3 m4 m5 m6 m7 m8 m9 m10 0 sy ly py u1.1 u1.2.1 u1.2.2.1 hy 1 ) _) (cwV 1 hts gX4_receiveAll_X4_fails rfl rfl rfl (by decide +kernel) ⟨Nat.le_of_ble_eq_true rfl, Nat.le_of_ble_eq_true rfl⟩) (gW_preV hE hS hK hP hD hA [0] rfl (by decide) 0 rfl rfl rfl) rfl rfl hl.1 rfl (lv_room (Nat.le_of_ble_eq_true rfl)) dX4_receiveAll_18 ⟨Nat.le_of_ble_eq_true rfl, Nat.le_of_ble_eq_true rfl⟩) hS hP hD hA [0] [1, 2, 3, 4] [4, 0, 1, 2, 3] rfl rfl (by decide) (by decide) (by decide) (fun _ => rfl) (fun rv19 u17 H locs h18 hP hD hS => ?_)
    have hP : va_P D vwCl [(m0, .inr (4, [.int 1, .ref m1, .ref m2, .ref m3, .int (nI sy), .ref m4, .int (nI ly), .ref m5, .ref m6, .int (nI py), .ref m7, .ref m8, .ref m9, .int (nI u1.1), .int (if u1.2.1 = true then 1 else 0), .ref m10, .int (nI u1.2.2.1), .long hy])), (m1, .inl (K 0, 22, .inl (mst n mask vf sf))), (m3, .inl (K 0, 132, .inl (msv z))), (m4, .inl (K 0, 60, .inl bf)), (m10, .inl (K 0, 32, .inl u1.2.2.2))] _ := hP
    have hD : va_D A [(m0, .inr (4, [.int 1, .ref m1, .ref m2, .ref m3, .int (nI sy), .ref m4, .int (nI ly), .ref m5, .ref m6, .int (nI py), .ref m7, .ref m8, .ref m9, .int (nI u1.1), .int (if u1.2.1 = true then 1 else 0), .ref m10, .int (nI u1.2.2.1), .long hy])), (m1, .inl (K 0, 22, .inl (mst n mask vf sf))), (m3, .inl (K 0, 132, .inl (msv z))), (m4, .inl (K 0, 60, .inl bf)), (m10, .inl (K 0, 32, .inl u1.2.2.2))] := hD
    have h18 : rv19 = 0 := h18
    exact gW_iret (v := rv19) ((n, mask, vf, sf), z, sy, 1, ly, u1.1, u1.2.1, u1.2.2.1, u1.2.2.2) hx hb hr hlk (rfl) hK hP hD hS (Or.inr (by have hh9 : thAll n ly (scA bf ly tv) = 1 := (th_all1 hra.1 c13); rw [hh9]; exact ⟨by decide, rfl, rfl, rfl, rfl, rfl, h18⟩)) dX4_receiveAll_21
