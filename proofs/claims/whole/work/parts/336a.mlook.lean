set_option maxHeartbeats 4000000 in
set_option maxRecDepth 100000 in
theorem c_X4_tellsPlace (l : Launch) (D : va_G) (K : Nat → ClassId) (m0 : Nat) (m1 : Nat) (m2 : Nat) (m3 : Nat) (m4 : Nat) (m5 : Nat) (m6 : Nat) (m7 : Nat) (m8 : Nat) (m9 : Nat) (m10 : Nat) (th : Int32) (sy : Nat) (ly : Nat) (py : Nat) (ay : Nat) (iw : Bool) (ty : Nat) (hy : Int64) (n : Nat) (mask : Int32) (vf : Nat → Int32) (sf : Nat → Int32) (pl : Nat) (q : Int32) (hn : okN n) (hsf : okS sf) (hp : pl < n) : MRi l yX4_tellsPlace wsX4_tellsPlace ({ frames := 4, cells := 0, slots := 0, locals := 84 } : Room) D (gTy K) [.ref m0, .int (nI pl), .int q] [(m0, .inr (4, [.int th, .ref m1, .ref m2, .ref m3, .int (nI sy), .ref m4, .int (nI ly), .ref m5, .ref m6, .int (nI py), .ref m7, .ref m8, .ref m9, .int (nI ay), .int (if iw = true then 1 else 0), .ref m10, .int (nI ty), .long hy])), (m1, .inl (K 0, 22, .inl (mst n mask vf sf)))] (fun r => r = plA n mask vf sf pl q) := by
  refine g_ofR (cc := cX4_tellsPlace) (maxL := 3) (ret := (some .int)) (own := RX4) (by decide) rfl rfl (Nat.le_of_ble_eq_true rfl) ?_
  intro pp ee s mm below meth cc hfx hK hP hE hS ls hl
  obtain ⟨hx, hb, hr, hml, hown, hts, hlk⟩ := hfx
  have hl : lv_has ls 3 [(0, .ref m0), (1, .int (nI pl)), (2, .int q)] := hl
  have hi4 : ∀ w ∈ u_ws RX4 TX4 18, w ∈ wsX4_tellsPlace := fun w h => List.mem_cons_of_mem _ (List.mem_append_right _ (h))
  have hnl := hn.le
  refine lv_iload_n hx hb dX4_tellsPlace_0 rfl (lv_at hl 2 rfl) ?_
  by_cases s1_0 : q = 0
  · skip
    subst s1_0
    have hl : lv_has ls 3 [(0, .ref m0), (1, .int (nI pl)), (2, .int 0)] := hl
    refine lv_tableIn (off := 35) (tgt := 36) hx hb dX4_tellsPlace_1 (by decide) (by decide) (by decide) (by decide) ?_
    refine lv_aload_n hx hb dX4_tellsPlace_36 rfl (lv_at hl 0 rfl) ?_
    refine lv_iload_n hx hb dX4_tellsPlace_37 rfl (lv_at hl 1 rfl) ?_
    refine gR_i (va_runV (As := [.int (nI pl)]) (rest := []) ⟨hx, hb, hml, hown, hts⟩ (c_X4_isOpen l D K m0 m1 m2 m3 m4 m5 m6 m7 m8 m9 m10 th sy ly py ay iw ty hy n mask vf sf pl ) (cwV 1 hts gX4_tellsPlace_X4_isOpen rfl rfl rfl (by decide +kernel) ⟨Nat.le_of_ble_eq_true rfl, Nat.le_of_ble_eq_true rfl⟩) (gR_preV hE hS hK hP [0, 1] rfl 0 rfl rfl rfl) rfl rfl hl.1 rfl (lv_room (Nat.le_of_ble_eq_true rfl)) dX4_tellsPlace_38 ⟨Nat.le_of_ble_eq_true rfl, Nat.le_of_ble_eq_true rfl⟩) hS hP (fun rv2 H locs h1 hP hS => ?_)
    have h1 : rv2 = (if opn mask pl then 1 else 0) := h1
    subst h1
    refine g_cut (F0 mm 49 ls [.int (if opn mask pl then 1 else 0)]) (fun hJ => ?_) ?_
    · refine lv_if_eq (tgt := 48) hx hb dX4_tellsPlace_41 (by decide) (fun c3 => ?_) (fun c3 => ?_)
      · skip
        have c3 : ¬ (opn mask pl) := b_eq0 c3
        refine lv_iconst (v := 0) hx hb dX4_tellsPlace_48 (by decide) ?_
        refine lv_eqi ((if opn mask pl then 1 else 0)) (if_neg c3).symm ?_
        exact hJ
      · skip
        have c3 : opn mask pl := b_ne0 c3
        refine lv_iconst (v := 1) hx hb dX4_tellsPlace_44 (by decide) ?_
        refine lv_goto (tgt := 49) hx hb dX4_tellsPlace_45 (by decide) ?_
        refine lv_eqi ((if opn mask pl then 1 else 0)) (if_pos c3).symm ?_
        exact hJ
    · skip
      exact gR_iret (v := (if opn mask pl then 1 else 0)) hx hb hr hlk (rfl) hS (by unfold plA; first | rfl | ((first | exact (g_in (by decide) (g_ip rfl rfl)) | exact (g_tn (by decide) (g_tp rfl rfl)) | exact (g_an (by decide) (g_ap rfl rfl)))) | ((first | exact (g_in (by decide) (g_in (by decide) (g_ip rfl rfl))) | exact (g_tn (by decide) (g_tn (by decide) (g_tp rfl rfl))) | exact (g_an (by decide) (g_an (by decide) (g_ap rfl rfl))))) | ((first | exact (g_in (by decide) (g_in (by decide) (g_in (by decide) (g_ip rfl rfl)))) | exact (g_tn (by decide) (g_tn (by decide) (g_tn (by decide) (g_tp rfl rfl)))) | exact (g_an (by decide) (g_an (by decide) (g_an (by decide) (g_ap rfl rfl)))))) | ((first | exact (g_in (by decide) (g_in (by decide) (g_in (by decide) (g_in (by decide) (g_ip rfl rfl))))) | exact (g_tn (by decide) (g_tn (by decide) (g_tn (by decide) (g_tn (by decide) (g_tp rfl rfl))))) | exact (g_an (by decide) (g_an (by decide) (g_an (by decide) (g_an (by decide) (g_ap rfl rfl)))))))) dX4_tellsPlace_49
  by_cases s1_1 : q = 1
  · skip
    subst s1_1
    have hl : lv_has ls 3 [(0, .ref m0), (1, .int (nI pl)), (2, .int 1)] := hl
    refine lv_tableIn (off := 49) (tgt := 50) hx hb dX4_tellsPlace_1 (by decide) (by decide) (by decide) (by decide) ?_
    refine lv_aload_n hx hb dX4_tellsPlace_50 rfl (lv_at hl 0 rfl) ?_
    refine lv_iload_n hx hb dX4_tellsPlace_51 rfl (lv_at hl 1 rfl) ?_
    refine gR_i (va_runV (As := [.int (nI pl)]) (rest := []) ⟨hx, hb, hml, hown, hts⟩ (c_X4_unsure l D K m0 m1 m2 m3 m4 m5 m6 m7 m8 m9 m10 th sy ly py ay iw ty hy n mask vf sf pl (by first | assumption | omega) (by first | assumption | omega)) (cwV 1 hts gX4_tellsPlace_X4_unsure rfl rfl rfl (by decide +kernel) ⟨Nat.le_of_ble_eq_true rfl, Nat.le_of_ble_eq_true rfl⟩) (gR_preV hE hS hK hP [0, 1] rfl 0 rfl rfl rfl) rfl rfl hl.1 rfl (lv_room (Nat.le_of_ble_eq_true rfl)) dX4_tellsPlace_52 ⟨Nat.le_of_ble_eq_true rfl, Nat.le_of_ble_eq_true rfl⟩) hS hP (fun rv6 H locs h5 hP hS => ?_)
    have h5 : rv6 = uns sf n pl := h5
    subst h5
    exact gR_iret (v := uns sf n pl) hx hb hr hlk (rfl) hS (by unfold plA; first | rfl | ((first | exact (g_in (by decide) (g_ip rfl rfl)) | exact (g_tn (by decide) (g_tp rfl rfl)) | exact (g_an (by decide) (g_ap rfl rfl)))) | ((first | exact (g_in (by decide) (g_in (by decide) (g_ip rfl rfl))) | exact (g_tn (by decide) (g_tn (by decide) (g_tp rfl rfl))) | exact (g_an (by decide) (g_an (by decide) (g_ap rfl rfl))))) | ((first | exact (g_in (by decide) (g_in (by decide) (g_in (by decide) (g_ip rfl rfl)))) | exact (g_tn (by decide) (g_tn (by decide) (g_tn (by decide) (g_tp rfl rfl)))) | exact (g_an (by decide) (g_an (by decide) (g_an (by decide) (g_ap rfl rfl)))))) | ((first | exact (g_in (by decide) (g_in (by decide) (g_in (by decide) (g_in (by decide) (g_ip rfl rfl))))) | exact (g_tn (by decide) (g_tn (by decide) (g_tn (by decide) (g_tn (by decide) (g_tp rfl rfl))))) | exact (g_an (by decide) (g_an (by decide) (g_an (by decide) (g_an (by decide) (g_ap rfl rfl)))))))) dX4_tellsPlace_55
  by_cases s1_2 : q = 2
  · skip
    subst s1_2
    have hl : lv_has ls 3 [(0, .ref m0), (1, .int (nI pl)), (2, .int 2)] := hl
    refine lv_tableIn (off := 55) (tgt := 56) hx hb dX4_tellsPlace_1 (by decide) (by decide) (by decide) (by decide) ?_
    refine lv_aload_n hx hb dX4_tellsPlace_56 rfl (lv_at hl 0 rfl) ?_
    refine lv_iload_n hx hb dX4_tellsPlace_57 rfl (lv_at hl 1 rfl) ?_
    refine gR_i (va_runV (As := [.int (nI pl)]) (rest := []) ⟨hx, hb, hml, hown, hts⟩ (c_X4_rankOf l D K m0 m1 m2 m3 m4 m5 m6 m7 m8 m9 m10 th sy ly py ay iw ty hy n mask vf sf pl (by first | assumption | omega) (by first | assumption | omega) (by first | assumption | omega)) (cwV 1 hts gX4_tellsPlace_X4_rankOf rfl rfl rfl (by decide +kernel) ⟨Nat.le_of_ble_eq_true rfl, Nat.le_of_ble_eq_true rfl⟩) (gR_preV hE hS hK hP [0, 1] rfl 0 rfl rfl rfl) rfl rfl hl.1 rfl (lv_room (Nat.le_of_ble_eq_true rfl)) dX4_tellsPlace_58 ⟨Nat.le_of_ble_eq_true rfl, Nat.le_of_ble_eq_true rfl⟩) hS hP (fun rv8 H locs h7 hP hS => ?_)
    have h7 : rv8 = nI (rnk (uns sf n) pl n) := h7
    subst h7
    exact gR_iret (v := nI (rnk (uns sf n) pl n)) hx hb hr hlk (rfl) hS (by unfold plA; first | rfl | ((first | exact (g_in (by decide) (g_ip rfl rfl)) | exact (g_tn (by decide) (g_tp rfl rfl)) | exact (g_an (by decide) (g_ap rfl rfl)))) | ((first | exact (g_in (by decide) (g_in (by decide) (g_ip rfl rfl))) | exact (g_tn (by decide) (g_tn (by decide) (g_tp rfl rfl))) | exact (g_an (by decide) (g_an (by decide) (g_ap rfl rfl))))) | ((first | exact (g_in (by decide) (g_in (by decide) (g_in (by decide) (g_ip rfl rfl)))) | exact (g_tn (by decide) (g_tn (by decide) (g_tn (by decide) (g_tp rfl rfl)))) | exact (g_an (by decide) (g_an (by decide) (g_an (by decide) (g_ap rfl rfl)))))) | ((first | exact (g_in (by decide) (g_in (by decide) (g_in (by decide) (g_in (by decide) (g_ip rfl rfl))))) | exact (g_tn (by decide) (g_tn (by decide) (g_tn (by decide) (g_tn (by decide) (g_tp rfl rfl))))) | exact (g_an (by decide) (g_an (by decide) (g_an (by decide) (g_an (by decide) (g_ap rfl rfl)))))))) dX4_tellsPlace_61
  by_cases s1_3 : q = 3
  · skip
    subst s1_3
    have hl : lv_has ls 3 [(0, .ref m0), (1, .int (nI pl)), (2, .int 3)] := hl
    refine lv_tableIn (off := 61) (tgt := 62) hx hb dX4_tellsPlace_1 (by decide) (by decide) (by decide) (by decide) ?_
    refine lv_aload_n hx hb dX4_tellsPlace_62 rfl (lv_at hl 0 rfl) ?_
    refine va_get (D := D) (ci := 4) (v := .ref m1) (C := RX4) (T := TX4) (N := 18) hx hb hts hi4 hown hK hP 0 rfl rfl 1 (by decide) (hts (.fieldLink RX4 7 "PairedChannelsModel" "s" "[I") (List.mem_of_getElem? (i := 1) (by decide +kernel))) (fun _ h9 => h9) rfl dX4_tellsPlace_63 ?_
    refine lv_bipush (v := 6) hx hb dX4_tellsPlace_66 (by decide) ?_
    refine lv_iload_n hx hb dX4_tellsPlace_68 rfl (lv_at hl 1 rfl) ?_
    refine lv_iadd hx hb dX4_tellsPlace_69 ?_
    refine lv_eqi (nI (6 + pl)) (nI_add 6 pl) ?_
    refine wa_iald hx hb hK hP 1 0 rfl rfl (6 + pl) rfl (by omega) (by decide) dX4_tellsPlace_70 ?_
    refine lv_eqi (vf pl) (mst_p _) ?_
    refine lv_bipush (v := 100) hx hb dX4_tellsPlace_71 (by decide) ?_
    refine lv_iadd hx hb dX4_tellsPlace_73 ?_
    exact gR_iret (v := (vf pl + 100)) hx hb hr hlk (rfl) hS (by unfold plA; first | rfl | ((first | exact (g_in (by decide) (g_ip rfl rfl)) | exact (g_tn (by decide) (g_tp rfl rfl)) | exact (g_an (by decide) (g_ap rfl rfl)))) | ((first | exact (g_in (by decide) (g_in (by decide) (g_ip rfl rfl))) | exact (g_tn (by decide) (g_tn (by decide) (g_tp rfl rfl))) | exact (g_an (by decide) (g_an (by decide) (g_ap rfl rfl))))) | ((first | exact (g_in (by decide) (g_in (by decide) (g_in (by decide) (g_ip rfl rfl)))) | exact (g_tn (by decide) (g_tn (by decide) (g_tn (by decide) (g_tp rfl rfl)))) | exact (g_an (by decide) (g_an (by decide) (g_an (by decide) (g_ap rfl rfl)))))) | ((first | exact (g_in (by decide) (g_in (by decide) (g_in (by decide) (g_in (by decide) (g_ip rfl rfl))))) | exact (g_tn (by decide) (g_tn (by decide) (g_tn (by decide) (g_tn (by decide) (g_tp rfl rfl))))) | exact (g_an (by decide) (g_an (by decide) (g_an (by decide) (g_an (by decide) (g_ap rfl rfl)))))))) dX4_tellsPlace_74
  by_cases s1_4 : q = 4
  · skip
    subst s1_4
    have hl : lv_has ls 3 [(0, .ref m0), (1, .int (nI pl)), (2, .int 4)] := hl
    refine lv_tableIn (off := 74) (tgt := 75) hx hb dX4_tellsPlace_1 (by decide) (by decide) (by decide) (by decide) ?_
    refine lv_aload_n hx hb dX4_tellsPlace_75 rfl (lv_at hl 0 rfl) ?_
    refine lv_iload_n hx hb dX4_tellsPlace_76 rfl (lv_at hl 1 rfl) ?_
    refine gR_i (va_runV (As := [.int (nI pl)]) (rest := []) ⟨hx, hb, hml, hown, hts⟩ (c_X4_numberOf l D K m0 m1 m2 m3 m4 m5 m6 m7 m8 m9 m10 th sy ly py ay iw ty hy n mask vf sf pl (by first | assumption | omega)) (cwV 1 hts gX4_tellsPlace_X4_numberOf rfl rfl rfl (by decide +kernel) ⟨Nat.le_of_ble_eq_true rfl, Nat.le_of_ble_eq_true rfl⟩) (gR_preV hE hS hK hP [0, 1] rfl 0 rfl rfl rfl) rfl rfl hl.1 rfl (lv_room (Nat.le_of_ble_eq_true rfl)) dX4_tellsPlace_77 ⟨Nat.le_of_ble_eq_true rfl, Nat.le_of_ble_eq_true rfl⟩) hS hP (fun rv10 H locs h9 hP hS => ?_)
    have h9 : rv10 = (if opn mask pl then nI (cntO mask pl) else -1) := h9
    subst h9
    exact gR_iret (v := (if opn mask pl then nI (cntO mask pl) else -1)) hx hb hr hlk (rfl) hS (by unfold plA; first | rfl | ((first | exact (g_in (by decide) (g_ip rfl rfl)) | exact (g_tn (by decide) (g_tp rfl rfl)) | exact (g_an (by decide) (g_ap rfl rfl)))) | ((first | exact (g_in (by decide) (g_in (by decide) (g_ip rfl rfl))) | exact (g_tn (by decide) (g_tn (by decide) (g_tp rfl rfl))) | exact (g_an (by decide) (g_an (by decide) (g_ap rfl rfl))))) | ((first | exact (g_in (by decide) (g_in (by decide) (g_in (by decide) (g_ip rfl rfl)))) | exact (g_tn (by decide) (g_tn (by decide) (g_tn (by decide) (g_tp rfl rfl)))) | exact (g_an (by decide) (g_an (by decide) (g_an (by decide) (g_ap rfl rfl)))))) | ((first | exact (g_in (by decide) (g_in (by decide) (g_in (by decide) (g_in (by decide) (g_ip rfl rfl))))) | exact (g_tn (by decide) (g_tn (by decide) (g_tn (by decide) (g_tn (by decide) (g_tp rfl rfl))))) | exact (g_an (by decide) (g_an (by decide) (g_an (by decide) (g_an (by decide) (g_ap rfl rfl)))))))) dX4_tellsPlace_80
  have so11 : (q : Int32).toInt < 0 ∨ 4 < (q : Int32).toInt := by
    have n0 := lv_neT (k := 0) (a := 0) s1_0 (by decide)
    have n1 := lv_neT (k := 1) (a := 1) s1_1 (by decide)
    have n2 := lv_neT (k := 2) (a := 2) s1_2 (by decide)
    have n3 := lv_neT (k := 3) (a := 3) s1_3 (by decide)
    have n4 := lv_neT (k := 4) (a := 4) s1_4 (by decide)
    omega
  refine lv_tableOut (tgt := 81) hx hb dX4_tellsPlace_1 so11 (by decide) ?_
  refine lv_aload_n hx hb dX4_tellsPlace_81 rfl (lv_at hl 0 rfl) ?_
  refine lv_iload_n hx hb dX4_tellsPlace_82 rfl (lv_at hl 1 rfl) ?_
  refine gR_i (va_runV (As := [.int (nI pl)]) (rest := []) ⟨hx, hb, hml, hown, hts⟩ (c_X4_numberOf l D K m0 m1 m2 m3 m4 m5 m6 m7 m8 m9 m10 th sy ly py ay iw ty hy n mask vf sf pl (by first | assumption | omega)) (cwV 1 hts gX4_tellsPlace_X4_numberOf rfl rfl rfl (by decide +kernel) ⟨Nat.le_of_ble_eq_true rfl, Nat.le_of_ble_eq_true rfl⟩) (gR_preV hE hS hK hP [0, 1] rfl 0 rfl rfl rfl) rfl rfl hl.1 rfl (lv_room (Nat.le_of_ble_eq_true rfl)) dX4_tellsPlace_83 ⟨Nat.le_of_ble_eq_true rfl, Nat.le_of_ble_eq_true rfl⟩) hS hP (fun rv13 H locs h12 hP hS => ?_)
  have h12 : rv13 = (if opn mask pl then nI (cntO mask pl) else -1) := h12
  subst h12
  refine lv_aload_n hx hb dX4_tellsPlace_86 rfl (lv_at hl 0 rfl) ?_
  refine gR_i (va_runV (As := []) (rest := [.int (if opn mask pl then nI (cntO mask pl) else -1)]) ⟨hx, hb, hml, hown, hts⟩ (c_X4_bodyMany l D K m0 m1 m2 m3 m4 m5 m6 m7 m8 m9 m10 th sy ly py ay iw ty hy n mask vf sf (by first | assumption | omega) (by first | assumption | omega)) (cwV 0 hts gX4_tellsPlace_X4_bodyMany rfl rfl rfl (by decide +kernel) ⟨Nat.le_of_ble_eq_true rfl, Nat.le_of_ble_eq_true rfl⟩) (gR_preV hE hS hK hP [0, 1] rfl 0 rfl rfl rfl) rfl rfl hl.1 rfl (lv_room (Nat.le_of_ble_eq_true rfl)) dX4_tellsPlace_87 ⟨Nat.le_of_ble_eq_true rfl, Nat.le_of_ble_eq_true rfl⟩) hS hP (fun rv15 H locs h14 hP hS => ?_)
  have h14 : rv15 = nI (bdB mask n sf) := h14
  subst h14
  refine g_cut (F0 mm 98 ls [.int (if ¬ ((if opn mask pl then nI (cntO mask pl) else -1) < nI (bdB mask n sf)) then 1 else 0)]) (fun hJ => ?_) ?_
  · refine lv_icmp_lt (tgt := 97) hx hb dX4_tellsPlace_90 (by decide) (fun c16 => ?_) (fun c16 => ?_)
    · skip
      refine lv_iconst (v := 0) hx hb dX4_tellsPlace_97 (by decide) ?_
      refine lv_eqi ((if ¬ ((if opn mask pl then nI (cntO mask pl) else -1) < nI (bdB mask n sf)) then 1 else 0)) (if_neg (fun h => h c16)).symm ?_
      exact hJ
    · skip
      refine lv_iconst (v := 1) hx hb dX4_tellsPlace_93 (by decide) ?_
      refine lv_goto (tgt := 98) hx hb dX4_tellsPlace_94 (by decide) ?_
      refine lv_eqi ((if ¬ ((if opn mask pl then nI (cntO mask pl) else -1) < nI (bdB mask n sf)) then 1 else 0)) (if_pos c16).symm ?_
      exact hJ
  · skip
    refine lv_eqi ((if opn mask pl ∧ bdB mask n sf ≤ cntO mask pl then 1 else 0)) (chkF (by omega) hnl.2) ?_
    exact gR_iret (v := (if opn mask pl ∧ bdB mask n sf ≤ cntO mask pl then 1 else 0)) hx hb hr hlk (rfl) hS (by unfold plA; rw [if_neg s1_0, if_neg s1_1, if_neg s1_2, if_neg s1_3, if_neg s1_4]) dX4_tellsPlace_98

set_option maxHeartbeats 4000000 in
set_option maxRecDepth 100000 in
theorem c_X4_place (l : Launch) (D : va_G) (K : Nat → ClassId) (m0 : Nat) (m1 : Nat) (m2 : Nat) (m3 : Nat) (m4 : Nat) (m5 : Nat) (m6 : Nat) (m7 : Nat) (m8 : Nat) (m9 : Nat) (m10 : Nat) (th : Int32) (sy : Nat) (ly : Nat) (py : Nat) (ay : Nat) (iw : Bool) (ty : Nat) (hy : Int64) (n : Nat) (mask : Int32) (vf : Nat → Int32) (sf : Nat → Int32) (k : Int32) (q : Int32) (hn : okN n) (hsf : okS sf) : MWi l yX4_place wsX4_place ({ frames := 5, cells := 0, slots := 0, locals := 106 } : Room) D (gTy K) [.ref m0, .int k, .int q] [(m0, .inr (4, [.int th, .ref m1, .ref m2, .ref m3, .int (nI sy), .ref m4, .int (nI ly), .ref m5, .ref m6, .int (nI py), .ref m7, .ref m8, .ref m9, .int (nI ay), .int (if iw = true then 1 else 0), .ref m10, .int (nI ty), .long hy])), (m1, .inl (K 0, 22, .inl (mst n mask vf sf)))] (fun (u : Int32) => [(m0, .inr (4, [.int u, .ref m1, .ref m2, .ref m3, .int (nI sy), .ref m4, .int (nI ly), .ref m5, .ref m6, .int (nI py), .ref m7, .ref m8, .ref m9, .int (nI ay), .int (if iw = true then 1 else 0), .ref m10, .int (nI ty), .long hy])), (m1, .inl (K 0, 22, .inl (mst n mask vf sf)))]) (fun r (u : Int32) => (thPlace n k q = 0 ∧ u = 0 ∧ r = plA n mask vf sf k.toNatClampNeg q) ∨ (¬ thPlace n k q = 0 ∧ u = nI (thPlace n k q) ∧ r = 0)) 0 0 := by
  refine g_ofW (Qc := fun A => va_Qi _ (gB D (gTy K) A _) A) (cc := cX4_place) (maxL := 3) (ret := (some .int)) (own := RX4) (by decide) rfl rfl (Nat.le_of_ble_eq_true rfl) ?_
  intro pp ee s mm below meth cc A hfx hnm hK hP hD hE hS hA ls hl
  obtain ⟨hx, hb, hr, hml, hown, hts, hlk⟩ := hfx
  have hl : lv_has ls 3 [(0, .ref m0), (1, .int k), (2, .int q)] := hl
  have hi4 : ∀ w ∈ u_ws RX4 TX4 18, w ∈ wsX4_place := fun w h => List.mem_cons_of_mem _ (List.mem_append_right _ (h))
  have hnl := hn.le
  refine lv_aload_n hx hb dX4_place_0 rfl (lv_at hl 0 rfl) ?_
  refine lv_iconst (v := 0) hx hb dX4_place_1 (by decide) ?_
  refine va_put (D := D) (ci := 4) (v := .int 0) (ty := .int) (C := RX4) (T := TX4) (N := 18) hx hb hts hi4 tyX4 tyX4_ok nmX4 hown hK hP hD hS 0 rfl rfl 0 (by decide) (hts (.fieldLink RX4 40 "PairedChannelsModel" "thrown" "I") (List.mem_of_getElem? (i := 1) (by decide +kernel))) (fun _ h9 => h9) rfl (by decide +kernel) (rfl) (rfl) (Nat.le_of_ble_eq_true rfl) dX4_place_2 (fun H locs hP hD hS => ?_)
  have hP : va_P D vwCl [(m0, .inr (4, [.int 0, .ref m1, .ref m2, .ref m3, .int (nI sy), .ref m4, .int (nI ly), .ref m5, .ref m6, .int (nI py), .ref m7, .ref m8, .ref m9, .int (nI ay), .int (if iw = true then 1 else 0), .ref m10, .int (nI ty), .long hy])), (m1, .inl (K 0, 22, .inl (mst n mask vf sf)))] _ := hP
  have hD : va_D A [(m0, .inr (4, [.int 0, .ref m1, .ref m2, .ref m3, .int (nI sy), .ref m4, .int (nI ly), .ref m5, .ref m6, .int (nI py), .ref m7, .ref m8, .ref m9, .int (nI ay), .int (if iw = true then 1 else 0), .ref m10, .int (nI ty), .long hy])), (m1, .inl (K 0, 22, .inl (mst n mask vf sf)))] := hD
  refine lv_aload_n hx hb dX4_place_5 rfl (lv_at hl 0 rfl) ?_
  refine lv_iload_n hx hb dX4_place_6 rfl (lv_at hl 1 rfl) ?_
  refine gR_i (va_runV (As := [.int k]) (rest := []) ⟨hx, hb, hml, hown, hts⟩ (c_X4_isPlace l D K m0 m1 m2 m3 m4 m5 m6 m7 m8 m9 m10 0 sy ly py ay iw ty hy n mask vf sf k (by first | assumption | omega)) (cwV 1 hts gX4_place_X4_isPlace rfl rfl rfl (by decide +kernel) ⟨Nat.le_of_ble_eq_true rfl, Nat.le_of_ble_eq_true rfl⟩) (gR_preV hE hS hK hP [0, 1] rfl 0 rfl rfl rfl) rfl rfl hl.1 rfl (lv_room (Nat.le_of_ble_eq_true rfl)) dX4_place_7 ⟨Nat.le_of_ble_eq_true rfl, Nat.le_of_ble_eq_true rfl⟩) hS hP (fun rv2 H locs h1 hP hS => ?_)
  have h1 : rv2 = (if 0 ≤ k ∧ k < nI n then 1 else 0) := h1
  subst h1
  refine lv_if_ne (tgt := 19) hx hb dX4_place_10 (by decide) (fun c8 => ?_) (fun c8 => ?_)
  · skip
    have c8 : 0 ≤ k ∧ k < nI n := b_ne0 c8
    obtain ⟨j, hj, ej⟩ := in_nat (by omega) c8
    have ekc : k.toNatClampNeg = j := by rw [ej, nI_clamp (by omega)]
    have hth : thPlace n k q = (if 0 ≤ q ∧ q ≤ 5 then 0 else 2) := by unfold thPlace; exact if_pos c8
    subst ej
    rw [ekc]
    refine lv_iload_n hx hb dX4_place_19 rfl (lv_at hl 2 rfl) ?_
    refine lv_iconst (v := 0) hx hb dX4_place_20 (by decide) ?_
    refine lv_iconst (v := 5) hx hb dX4_place_21 (by decide) ?_
    refine gR_i (va_runS (As := [.int q, .int 0, .int 5]) (rest := []) ⟨hx, hb, hml, hown, hts⟩ (c_X4_in l D K q 0 5 ) (va_cwS 3 hts gX4_place_X4_in rfl rfl rfl (by decide +kernel) ⟨Nat.le_of_ble_eq_true rfl, Nat.le_of_ble_eq_true rfl⟩) (gR_pre hE hS hK hP [] rfl) rfl rfl hl.1 rfl (lv_room (Nat.le_of_ble_eq_true rfl)) dX4_place_22 ⟨Nat.le_of_ble_eq_true rfl, Nat.le_of_ble_eq_true rfl⟩) hS hP (fun rv5 H locs h4 hP hS => ?_)
    have h4 : rv5 = (if 0 ≤ q ∧ q ≤ 5 then 1 else 0) := h4
    subst h4
    refine lv_if_eq (tgt := 37) hx hb dX4_place_25 (by decide) (fun c25 => ?_) (fun c25 => ?_)
    · skip
      have c25 : ¬ (0 ≤ q ∧ q ≤ 5) := b_eq0 c25
      refine lv_aload_n hx hb dX4_place_37 rfl (lv_at hl 0 rfl) ?_
      refine lv_iconst (v := 2) hx hb dX4_place_38 (by decide) ?_
      refine gW_i (wr := [(m1, .inl (K 0, 22, .inl (mst n mask vf sf)))]) (W2 := (fun (u : Unit) => [(m0, .inr (4, [.int 2, .ref m1, .ref m2, .ref m3, .int (nI sy), .ref m4, .int (nI ly), .ref m5, .ref m6, .int (nI py), .ref m7, .ref m8, .ref m9, .int (nI ay), .int (if iw = true then 1 else 0), .ref m10, .int (nI ty), .long hy])), (m1, .inl (K 0, 22, .inl (mst n mask vf sf)))])) (va_runV (As := [.int 2]) (rest := []) ⟨hx, hb, hml, hown, hts⟩ ((c_X4_fails l D K m0 m1 m2 m3 m4 m5 m6 m7 m8 m9 m10 0 sy ly py ay iw ty hy 2 ) _) (cwV 1 hts gX4_place_X4_fails rfl rfl rfl (by decide +kernel) ⟨Nat.le_of_ble_eq_true rfl, Nat.le_of_ble_eq_true rfl⟩) (gW_preV hE hS hK hP hD hA [0] rfl (by decide) 0 rfl rfl rfl) rfl rfl hl.1 rfl (lv_room (Nat.le_of_ble_eq_true rfl)) dX4_place_39 ⟨Nat.le_of_ble_eq_true rfl, Nat.le_of_ble_eq_true rfl⟩) hS hP hD hA [0] [1] [1, 0] rfl rfl (by decide) (by decide) (by decide) (fun _ => rfl) (fun rv9 u7 H locs h8 hP hD hS => ?_)
      have hP : va_P D vwCl [(m0, .inr (4, [.int 2, .ref m1, .ref m2, .ref m3, .int (nI sy), .ref m4, .int (nI ly), .ref m5, .ref m6, .int (nI py), .ref m7, .ref m8, .ref m9, .int (nI ay), .int (if iw = true then 1 else 0), .ref m10, .int (nI ty), .long hy])), (m1, .inl (K 0, 22, .inl (mst n mask vf sf)))] _ := hP
      have hD : va_D A [(m0, .inr (4, [.int 2, .ref m1, .ref m2, .ref m3, .int (nI sy), .ref m4, .int (nI ly), .ref m5, .ref m6, .int (nI py), .ref m7, .ref m8, .ref m9, .int (nI ay), .int (if iw = true then 1 else 0), .ref m10, .int (nI ty), .long hy])), (m1, .inl (K 0, 22, .inl (mst n mask vf sf)))] := hD
      have h8 : rv9 = 0 := h8
      exact gW_iret (v := rv9) 2 hx hb hr hlk (rfl) hK hP hD hS (Or.inr (by have hh9 : thPlace n (nI j) q = 2 := (hth.trans (if_neg c25)); rw [hh9]; exact ⟨by decide, rfl, h8⟩)) dX4_place_42
    · skip
      have c25 : 0 ≤ q ∧ q ≤ 5 := b_ne0 c25
      refine lv_aload_n hx hb dX4_place_28 rfl (lv_at hl 0 rfl) ?_
      refine lv_iload_n hx hb dX4_place_29 rfl (lv_at hl 1 rfl) ?_
      refine lv_iload_n hx hb dX4_place_30 rfl (lv_at hl 2 rfl) ?_
      refine gR_i (va_runV (As := [.int (nI j), .int q]) (rest := []) ⟨hx, hb, hml, hown, hts⟩ (c_X4_tellsPlace l D K m0 m1 m2 m3 m4 m5 m6 m7 m8 m9 m10 0 sy ly py ay iw ty hy n mask vf sf j q (by first | assumption | omega) (by first | assumption | omega) (by first | assumption | omega)) (cwV 2 hts gX4_place_X4_tellsPlace rfl rfl rfl (by decide +kernel) ⟨Nat.le_of_ble_eq_true rfl, Nat.le_of_ble_eq_true rfl⟩) (gR_preV hE hS hK hP [0, 1] rfl 0 rfl rfl rfl) rfl rfl hl.1 rfl (lv_room (Nat.le_of_ble_eq_true rfl)) dX4_place_31 ⟨Nat.le_of_ble_eq_true rfl, Nat.le_of_ble_eq_true rfl⟩) hS hP (fun rv11 H locs h10 hP hS => ?_)
      have h10 : rv11 = plA n mask vf sf j q := h10
      subst h10
      refine lv_goto (tgt := 42) hx hb dX4_place_34 (by decide) ?_
      exact gW_iret (v := plA n mask vf sf j q) 0 hx hb hr hlk (rfl) hK hP hD hS (Or.inl ⟨hth.trans (if_pos c25), rfl, rfl⟩) dX4_place_42
  · skip
    have c8 : ¬ (0 ≤ k ∧ k < nI n) := b_eq0 c8
    refine lv_aload_n hx hb dX4_place_13 rfl (lv_at hl 0 rfl) ?_
    refine lv_iconst (v := 1) hx hb dX4_place_14 (by decide) ?_
    refine gW_i (wr := [(m1, .inl (K 0, 22, .inl (mst n mask vf sf)))]) (W2 := (fun (u : Unit) => [(m0, .inr (4, [.int 1, .ref m1, .ref m2, .ref m3, .int (nI sy), .ref m4, .int (nI ly), .ref m5, .ref m6, .int (nI py), .ref m7, .ref m8, .ref m9, .int (nI ay), .int (if iw = true then 1 else 0), .ref m10, .int (nI ty), .long hy])), (m1, .inl (K 0, 22, .inl (mst n mask vf sf)))])) (va_runV (As := [.int 1]) (rest := []) ⟨hx, hb, hml, hown, hts⟩ ((c_X4_fails l D K m0 m1 m2 m3 m4 m5 m6 m7 m8 m9 m10 0 sy ly py ay iw ty hy 1 ) _) (cwV 1 hts gX4_place_X4_fails rfl rfl rfl (by decide +kernel) ⟨Nat.le_of_ble_eq_true rfl, Nat.le_of_ble_eq_true rfl⟩) (gW_preV hE hS hK hP hD hA [0] rfl (by decide) 0 rfl rfl rfl) rfl rfl hl.1 rfl (lv_room (Nat.le_of_ble_eq_true rfl)) dX4_place_15 ⟨Nat.le_of_ble_eq_true rfl, Nat.le_of_ble_eq_true rfl⟩) hS hP hD hA [0] [1] [1, 0] rfl rfl (by decide) (by decide) (by decide) (fun _ => rfl) (fun rv14 u12 H locs h13 hP hD hS => ?_)
    have hP : va_P D vwCl [(m0, .inr (4, [.int 1, .ref m1, .ref m2, .ref m3, .int (nI sy), .ref m4, .int (nI ly), .ref m5, .ref m6, .int (nI py), .ref m7, .ref m8, .ref m9, .int (nI ay), .int (if iw = true then 1 else 0), .ref m10, .int (nI ty), .long hy])), (m1, .inl (K 0, 22, .inl (mst n mask vf sf)))] _ := hP
    have hD : va_D A [(m0, .inr (4, [.int 1, .ref m1, .ref m2, .ref m3, .int (nI sy), .ref m4, .int (nI ly), .ref m5, .ref m6, .int (nI py), .ref m7, .ref m8, .ref m9, .int (nI ay), .int (if iw = true then 1 else 0), .ref m10, .int (nI ty), .long hy])), (m1, .inl (K 0, 22, .inl (mst n mask vf sf)))] := hD
    have h13 : rv14 = 0 := h13
    exact gW_iret (v := rv14) 1 hx hb hr hlk (rfl) hK hP hD hS (Or.inr (by have hh9 : thPlace n k q = 1 := (by unfold thPlace; exact if_neg c8); rw [hh9]; exact ⟨by decide, rfl, h13⟩)) dX4_place_18

set_option maxHeartbeats 4000000 in
set_option maxRecDepth 100000 in
theorem c_X4_code (l : Launch) (D : va_G) (K : Nat → ClassId) (m0 : Nat) (m1 : Nat) (m2 : Nat) (m3 : Nat) (m4 : Nat) (m5 : Nat) (m6 : Nat) (m7 : Nat) (m8 : Nat) (m9 : Nat) (m10 : Nat) (th : Int32) (sy : Nat) (ly : Nat) (py : Nat) (ay : Nat) (iw : Bool) (ty : Nat) (hy : Int64) (n : Nat) (mask : Int32) (vf : Nat → Int32) (sf : Nat → Int32) (b : Int32) (hn : okN n) : MWi l yX4_code wsX4_code ({ frames := 1, cells := 0, slots := 0, locals := 24 } : Room) D (gTy K) [.ref m0, .int b] [(m0, .inr (4, [.int th, .ref m1, .ref m2, .ref m3, .int (nI sy), .ref m4, .int (nI ly), .ref m5, .ref m6, .int (nI py), .ref m7, .ref m8, .ref m9, .int (nI ay), .int (if iw = true then 1 else 0), .ref m10, .int (nI ty), .long hy])), (m1, .inl (K 0, 22, .inl (mst n mask vf sf)))] (fun (u : Int32) => [(m0, .inr (4, [.int u, .ref m1, .ref m2, .ref m3, .int (nI sy), .ref m4, .int (nI ly), .ref m5, .ref m6, .int (nI py), .ref m7, .ref m8, .ref m9, .int (nI ay), .int (if iw = true then 1 else 0), .ref m10, .int (nI ty), .long hy])), (m1, .inl (K 0, 22, .inl (mst n mask vf sf)))]) (fun r (u : Int32) => (thCode b = 0 ∧ u = 0 ∧ r = cod b n) ∨ (¬ thCode b = 0 ∧ u = nI (thCode b) ∧ r = 0)) 0 0 := by
  refine g_ofW (Qc := fun A => va_Qi _ (gB D (gTy K) A _) A) (cc := cX4_code) (maxL := 2) (ret := (some .int)) (own := RX4) (by decide) rfl rfl (Nat.le_of_ble_eq_true rfl) ?_
  intro pp ee s mm below meth cc A hfx hnm hK hP hD hE hS hA ls hl
  obtain ⟨hx, hb, hr, hml, hown, hts, hlk⟩ := hfx
  have hl : lv_has ls 2 [(0, .ref m0), (1, .int b)] := hl
  have hi4 : ∀ w ∈ u_ws RX4 TX4 18, w ∈ wsX4_code := fun w h => List.mem_cons_of_mem _ (List.mem_append_right _ (h))
  refine lv_aload_n hx hb dX4_code_0 rfl (lv_at hl 0 rfl) ?_
  refine lv_iconst (v := 0) hx hb dX4_code_1 (by decide) ?_
  refine va_put (D := D) (ci := 4) (v := .int 0) (ty := .int) (C := RX4) (T := TX4) (N := 18) hx hb hts hi4 tyX4 tyX4_ok nmX4 hown hK hP hD hS 0 rfl rfl 0 (by decide) (hts (.fieldLink RX4 40 "PairedChannelsModel" "thrown" "I") (List.mem_of_getElem? (i := 1) (by decide +kernel))) (fun _ h9 => h9) rfl (by decide +kernel) (rfl) (rfl) (Nat.le_of_ble_eq_true rfl) dX4_code_2 (fun H locs hP hD hS => ?_)
  have hP : va_P D vwCl [(m0, .inr (4, [.int 0, .ref m1, .ref m2, .ref m3, .int (nI sy), .ref m4, .int (nI ly), .ref m5, .ref m6, .int (nI py), .ref m7, .ref m8, .ref m9, .int (nI ay), .int (if iw = true then 1 else 0), .ref m10, .int (nI ty), .long hy])), (m1, .inl (K 0, 22, .inl (mst n mask vf sf)))] _ := hP
  have hD : va_D A [(m0, .inr (4, [.int 0, .ref m1, .ref m2, .ref m3, .int (nI sy), .ref m4, .int (nI ly), .ref m5, .ref m6, .int (nI py), .ref m7, .ref m8, .ref m9, .int (nI ay), .int (if iw = true then 1 else 0), .ref m10, .int (nI ty), .long hy])), (m1, .inl (K 0, 22, .inl (mst n mask vf sf)))] := hD
  refine lv_iload_n hx hb dX4_code_5 rfl (lv_at hl 1 rfl) ?_
  refine lv_iconst (v := 0) hx hb dX4_code_6 (by decide) ?_
  refine lv_ldc hx hb hown (hts (.constant RX4 181 (65535)) (List.mem_of_getElem? (i := 2) (by decide +kernel))) dX4_code_7 ?_
  refine gR_i (va_runS (As := [.int b, .int 0, .int 65535]) (rest := []) ⟨hx, hb, hml, hown, hts⟩ (c_X4_in l D K b 0 65535 ) (va_cwS 3 hts gX4_code_X4_in rfl rfl rfl (by decide +kernel) ⟨Nat.le_of_ble_eq_true rfl, Nat.le_of_ble_eq_true rfl⟩) (gR_pre hE hS hK hP [] rfl) rfl rfl hl.1 rfl (lv_room (Nat.le_of_ble_eq_true rfl)) dX4_code_9 ⟨Nat.le_of_ble_eq_true rfl, Nat.le_of_ble_eq_true rfl⟩) hS hP (fun rv2 H locs h1 hP hS => ?_)
  have h1 : rv2 = (if 0 ≤ b ∧ b ≤ 65535 then 1 else 0) := h1
  subst h1
  refine lv_if_eq (tgt := 28) hx hb dX4_code_12 (by decide) (fun c12 => ?_) (fun c12 => ?_)
  · skip
    have c12 : ¬ (0 ≤ b ∧ b ≤ 65535) := b_eq0 c12
    refine lv_aload_n hx hb dX4_code_28 rfl (lv_at hl 0 rfl) ?_
    refine lv_iconst (v := 1) hx hb dX4_code_29 (by decide) ?_
    refine gW_i (wr := [(m1, .inl (K 0, 22, .inl (mst n mask vf sf)))]) (W2 := (fun (u : Unit) => [(m0, .inr (4, [.int 1, .ref m1, .ref m2, .ref m3, .int (nI sy), .ref m4, .int (nI ly), .ref m5, .ref m6, .int (nI py), .ref m7, .ref m8, .ref m9, .int (nI ay), .int (if iw = true then 1 else 0), .ref m10, .int (nI ty), .long hy])), (m1, .inl (K 0, 22, .inl (mst n mask vf sf)))])) (va_runV (As := [.int 1]) (rest := []) ⟨hx, hb, hml, hown, hts⟩ ((c_X4_fails l D K m0 m1 m2 m3 m4 m5 m6 m7 m8 m9 m10 0 sy ly py ay iw ty hy 1 ) _) (cwV 1 hts gX4_code_X4_fails rfl rfl rfl (by decide +kernel) ⟨Nat.le_of_ble_eq_true rfl, Nat.le_of_ble_eq_true rfl⟩) (gW_preV hE hS hK hP hD hA [0] rfl (by decide) 0 rfl rfl rfl) rfl rfl hl.1 rfl (lv_room (Nat.le_of_ble_eq_true rfl)) dX4_code_30 ⟨Nat.le_of_ble_eq_true rfl, Nat.le_of_ble_eq_true rfl⟩) hS hP hD hA [0] [1] [1, 0] rfl rfl (by decide) (by decide) (by decide) (fun _ => rfl) (fun rv6 u4 H locs h5 hP hD hS => ?_)
    have hP : va_P D vwCl [(m0, .inr (4, [.int 1, .ref m1, .ref m2, .ref m3, .int (nI sy), .ref m4, .int (nI ly), .ref m5, .ref m6, .int (nI py), .ref m7, .ref m8, .ref m9, .int (nI ay), .int (if iw = true then 1 else 0), .ref m10, .int (nI ty), .long hy])), (m1, .inl (K 0, 22, .inl (mst n mask vf sf)))] _ := hP
    have hD : va_D A [(m0, .inr (4, [.int 1, .ref m1, .ref m2, .ref m3, .int (nI sy), .ref m4, .int (nI ly), .ref m5, .ref m6, .int (nI py), .ref m7, .ref m8, .ref m9, .int (nI ay), .int (if iw = true then 1 else 0), .ref m10, .int (nI ty), .long hy])), (m1, .inl (K 0, 22, .inl (mst n mask vf sf)))] := hD
    have h5 : rv6 = 0 := h5
    exact gW_iret (v := rv6) 1 hx hb hr hlk (rfl) hK hP hD hS (Or.inr (by have hh9 : thCode b = 1 := (if_neg c12); rw [hh9]; exact ⟨by decide, rfl, h5⟩)) dX4_code_33
  · skip
    have c12 : 0 ≤ b ∧ b ≤ 65535 := b_ne0 c12
    refine lv_iload_n hx hb dX4_code_15 rfl (lv_at hl 1 rfl) ?_
    refine lv_aload_n hx hb dX4_code_16 rfl (lv_at hl 0 rfl) ?_
    refine va_get (D := D) (ci := 4) (v := .ref m1) (C := RX4) (T := TX4) (N := 18) hx hb hts hi4 hown hK hP 0 rfl rfl 1 (by decide) (hts (.fieldLink RX4 7 "PairedChannelsModel" "s" "[I") (List.mem_of_getElem? (i := 3) (by decide +kernel))) (fun _ h9 => h9) rfl dX4_code_17 ?_
    refine lv_iconst (v := 0) hx hb dX4_code_20 (by decide) ?_
    refine wa_iald hx hb hK hP 1 0 rfl rfl (0) rfl (by omega) (by decide) dX4_code_21 ?_
    refine lv_eqi (nI n) (rfl) ?_
    refine gR_i (va_runS (As := [.int b, .int (nI n)]) (rest := []) ⟨hx, hb, hml, hown, hts⟩ (c_X4_coded l D K b n (hn.n1)) (va_cwS 2 hts gX4_code_X4_coded rfl rfl rfl (by decide +kernel) ⟨Nat.le_of_ble_eq_true rfl, Nat.le_of_ble_eq_true rfl⟩) (gR_pre hE hS hK hP [] rfl) rfl rfl hl.1 rfl (lv_room (Nat.le_of_ble_eq_true rfl)) dX4_code_22 ⟨Nat.le_of_ble_eq_true rfl, Nat.le_of_ble_eq_true rfl⟩) hS hP (fun rv8 H locs h7 hP hS => ?_)
    have h7 : rv8 = cod b n := h7
    subst h7
    refine lv_goto (tgt := 33) hx hb dX4_code_25 (by decide) ?_
    exact gW_iret (v := cod b n) 0 hx hb hr hlk (rfl) hK hP hD hS (Or.inl ⟨if_pos c12, rfl, rfl⟩) dX4_code_33

set_option maxHeartbeats 4000000 in
set_option maxRecDepth 100000 in
theorem c_X4_word (l : Launch) (D : va_G) (K : Nat → ClassId) (m0 : Nat) (m1 : Nat) (m2 : Nat) (m3 : Nat) (m4 : Nat) (m5 : Nat) (m6 : Nat) (m7 : Nat) (m8 : Nat) (m9 : Nat) (m10 : Nat) (th : Int32) (sy : Nat) (ly : Nat) (py : Nat) (ay : Nat) (iw : Bool) (ty : Nat) (hy : Int64) (n : Nat) (mask : Int32) (vf : Nat → Int32) (sf : Nat → Int32) (b : Int32) (hn : okN n) (hsf : okS sf) : MWi l yX4_word wsX4_word ({ frames := 6, cells := 0, slots := 0, locals := 128 } : Room) D (gTy K) [.ref m0, .int b] [(m0, .inr (4, [.int th, .ref m1, .ref m2, .ref m3, .int (nI sy), .ref m4, .int (nI ly), .ref m5, .ref m6, .int (nI py), .ref m7, .ref m8, .ref m9, .int (nI ay), .int (if iw = true then 1 else 0), .ref m10, .int (nI ty), .long hy])), (m1, .inl (K 0, 22, .inl (mst n mask vf sf)))] (fun (u : Int32) => [(m0, .inr (4, [.int u, .ref m1, .ref m2, .ref m3, .int (nI sy), .ref m4, .int (nI ly), .ref m5, .ref m6, .int (nI py), .ref m7, .ref m8, .ref m9, .int (nI ay), .int (if iw = true then 1 else 0), .ref m10, .int (nI ty), .long hy])), (m1, .inl (K 0, 22, .inl (mst n mask vf sf)))]) (fun r (u : Int32) => (thBody n mask sf b = 0 ∧ u = 0 ∧ r = wof n mask (wck n mask sf b)) ∨ (¬ thBody n mask sf b = 0 ∧ u = nI (thBody n mask sf b) ∧ r = 0)) 0 0 := by
  refine g_ofW (Qc := fun A => va_Qi _ (gB D (gTy K) A _) A) (cc := cX4_word) (maxL := 2) (ret := (some .int)) (own := RX4) (by decide) rfl rfl (Nat.le_of_ble_eq_true rfl) ?_
  intro pp ee s mm below meth cc A hfx hnm hK hP hD hE hS hA ls hl
  obtain ⟨hx, hb, hr, hml, hown, hts, hlk⟩ := hfx
  have hl : lv_has ls 2 [(0, .ref m0), (1, .int b)] := hl
  have hi4 : ∀ w ∈ u_ws RX4 TX4 18, w ∈ wsX4_word := fun w h => List.mem_cons_of_mem _ (List.mem_append_right _ (h))
  refine lv_aload_n hx hb dX4_word_0 rfl (lv_at hl 0 rfl) ?_
  refine lv_iconst (v := 0) hx hb dX4_word_1 (by decide) ?_
  refine va_put (D := D) (ci := 4) (v := .int 0) (ty := .int) (C := RX4) (T := TX4) (N := 18) hx hb hts hi4 tyX4 tyX4_ok nmX4 hown hK hP hD hS 0 rfl rfl 0 (by decide) (hts (.fieldLink RX4 40 "PairedChannelsModel" "thrown" "I") (List.mem_of_getElem? (i := 1) (by decide +kernel))) (fun _ h9 => h9) rfl (by decide +kernel) (rfl) (rfl) (Nat.le_of_ble_eq_true rfl) dX4_word_2 (fun H locs hP hD hS => ?_)
  have hP : va_P D vwCl [(m0, .inr (4, [.int 0, .ref m1, .ref m2, .ref m3, .int (nI sy), .ref m4, .int (nI ly), .ref m5, .ref m6, .int (nI py), .ref m7, .ref m8, .ref m9, .int (nI ay), .int (if iw = true then 1 else 0), .ref m10, .int (nI ty), .long hy])), (m1, .inl (K 0, 22, .inl (mst n mask vf sf)))] _ := hP
  have hD : va_D A [(m0, .inr (4, [.int 0, .ref m1, .ref m2, .ref m3, .int (nI sy), .ref m4, .int (nI ly), .ref m5, .ref m6, .int (nI py), .ref m7, .ref m8, .ref m9, .int (nI ay), .int (if iw = true then 1 else 0), .ref m10, .int (nI ty), .long hy])), (m1, .inl (K 0, 22, .inl (mst n mask vf sf)))] := hD
  refine lv_aload_n hx hb dX4_word_5 rfl (lv_at hl 0 rfl) ?_
  refine lv_iload_n hx hb dX4_word_6 rfl (lv_at hl 1 rfl) ?_
  refine gR_i (va_runV (As := [.int b]) (rest := []) ⟨hx, hb, hml, hown, hts⟩ (c_X4_isBody l D K m0 m1 m2 m3 m4 m5 m6 m7 m8 m9 m10 0 sy ly py ay iw ty hy n mask vf sf b (by first | assumption | omega) (by first | assumption | omega)) (cwV 1 hts gX4_word_X4_isBody rfl rfl rfl (by decide +kernel) ⟨Nat.le_of_ble_eq_true rfl, Nat.le_of_ble_eq_true rfl⟩) (gR_preV hE hS hK hP [0, 1] rfl 0 rfl rfl rfl) rfl rfl hl.1 rfl (lv_room (Nat.le_of_ble_eq_true rfl)) dX4_word_7 ⟨Nat.le_of_ble_eq_true rfl, Nat.le_of_ble_eq_true rfl⟩) hS hP (fun rv2 H locs h1 hP hS => ?_)
  have h1 : rv2 = (if 0 ≤ b ∧ b >>> (nI (bdB mask n sf) &&& 31) = 0 then 1 else 0) := h1
  subst h1
  refine lv_if_eq (tgt := 21) hx hb dX4_word_10 (by decide) (fun c10 => ?_) (fun c10 => ?_)
  · skip
    have c10 : ¬ (0 ≤ b ∧ b >>> (nI (bdB mask n sf) &&& 31) = 0) := b_eq0 c10
    refine lv_aload_n hx hb dX4_word_21 rfl (lv_at hl 0 rfl) ?_
    refine lv_iconst (v := 1) hx hb dX4_word_22 (by decide) ?_
    refine gW_i (wr := [(m1, .inl (K 0, 22, .inl (mst n mask vf sf)))]) (W2 := (fun (u : Unit) => [(m0, .inr (4, [.int 1, .ref m1, .ref m2, .ref m3, .int (nI sy), .ref m4, .int (nI ly), .ref m5, .ref m6, .int (nI py), .ref m7, .ref m8, .ref m9, .int (nI ay), .int (if iw = true then 1 else 0), .ref m10, .int (nI ty), .long hy])), (m1, .inl (K 0, 22, .inl (mst n mask vf sf)))])) (va_runV (As := [.int 1]) (rest := []) ⟨hx, hb, hml, hown, hts⟩ ((c_X4_fails l D K m0 m1 m2 m3 m4 m5 m6 m7 m8 m9 m10 0 sy ly py ay iw ty hy 1 ) _) (cwV 1 hts gX4_word_X4_fails rfl rfl rfl (by decide +kernel) ⟨Nat.le_of_ble_eq_true rfl, Nat.le_of_ble_eq_true rfl⟩) (gW_preV hE hS hK hP hD hA [0] rfl (by decide) 0 rfl rfl rfl) rfl rfl hl.1 rfl (lv_room (Nat.le_of_ble_eq_true rfl)) dX4_word_23 ⟨Nat.le_of_ble_eq_true rfl, Nat.le_of_ble_eq_true rfl⟩) hS hP hD hA [0] [1] [1, 0] rfl rfl (by decide) (by decide) (by decide) (fun _ => rfl) (fun rv6 u4 H locs h5 hP hD hS => ?_)
    have hP : va_P D vwCl [(m0, .inr (4, [.int 1, .ref m1, .ref m2, .ref m3, .int (nI sy), .ref m4, .int (nI ly), .ref m5, .ref m6, .int (nI py), .ref m7, .ref m8, .ref m9, .int (nI ay), .int (if iw = true then 1 else 0), .ref m10, .int (nI ty), .long hy])), (m1, .inl (K 0, 22, .inl (mst n mask vf sf)))] _ := hP
    have hD : va_D A [(m0, .inr (4, [.int 1, .ref m1, .ref m2, .ref m3, .int (nI sy), .ref m4, .int (nI ly), .ref m5, .ref m6, .int (nI py), .ref m7, .ref m8, .ref m9, .int (nI ay), .int (if iw = true then 1 else 0), .ref m10, .int (nI ty), .long hy])), (m1, .inl (K 0, 22, .inl (mst n mask vf sf)))] := hD
    have h5 : rv6 = 0 := h5
    exact gW_iret (v := rv6) 1 hx hb hr hlk (rfl) hK hP hD hS (Or.inr (by have hh9 : thBody n mask sf b = 1 := (if_neg c10); rw [hh9]; exact ⟨by decide, rfl, h5⟩)) dX4_word_26
  · skip
    have c10 : 0 ≤ b ∧ b >>> (nI (bdB mask n sf) &&& 31) = 0 := b_ne0 c10
    refine lv_aload_n hx hb dX4_word_13 rfl (lv_at hl 0 rfl) ?_
    refine lv_iload_n hx hb dX4_word_14 rfl (lv_at hl 1 rfl) ?_
    refine gR_i (va_runV (As := [.int b]) (rest := []) ⟨hx, hb, hml, hown, hts⟩ (c_X4_wordOf l D K m0 m1 m2 m3 m4 m5 m6 m7 m8 m9 m10 0 sy ly py ay iw ty hy n mask vf sf b (by first | assumption | omega) (by first | assumption | omega)) (cwV 1 hts gX4_word_X4_wordOf rfl rfl rfl (by decide +kernel) ⟨Nat.le_of_ble_eq_true rfl, Nat.le_of_ble_eq_true rfl⟩) (gR_preV hE hS hK hP [0, 1] rfl 0 rfl rfl rfl) rfl rfl hl.1 rfl (lv_room (Nat.le_of_ble_eq_true rfl)) dX4_word_15 ⟨Nat.le_of_ble_eq_true rfl, Nat.le_of_ble_eq_true rfl⟩) hS hP (fun rv8 H locs h7 hP hS => ?_)
    have h7 : rv8 = wof n mask (wck n mask sf b) := h7
    subst h7
    refine lv_goto (tgt := 26) hx hb dX4_word_18 (by decide) ?_
    exact gW_iret (v := wof n mask (wck n mask sf b)) 0 hx hb hr hlk (rfl) hK hP hD hS (Or.inl ⟨if_pos c10, rfl, rfl⟩) dX4_word_26
