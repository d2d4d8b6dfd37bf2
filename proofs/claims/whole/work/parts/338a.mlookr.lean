set_option maxHeartbeats 4000000 in
set_option maxRecDepth 100000 in
theorem c_X4_tellsRead (l : Launch) (D : va_G) (K : Nat → ClassId) (m0 : Nat) (m1 : Nat) (m2 : Nat) (m3 : Nat) (m4 : Nat) (m5 : Nat) (m6 : Nat) (m7 : Nat) (m8 : Nat) (m9 : Nat) (m10 : Nat) (th : Int32) (sy : Nat) (ly : Nat) (py : Nat) (ay : Nat) (iw : Bool) (ty : Nat) (hy : Int64) (n : Nat) (mask : Int32) (vf : Nat → Int32) (sf : Nat → Int32) (fw : Nat → Int32) (fb : Nat → Int32) (fp : Nat → Int32) (gb : Nat → Int32) (gp : Nat → Int32) (q : Int32) (hn : okN n) (hsf : okS sf) : MWi l yX4_tellsRead wsX4_tellsRead ({ frames := 7, cells := 0, slots := 0, locals := 160 } : Room) D (gTy K) [.ref m0, .int q] [(m0, .inr (4, [.int th, .ref m1, .ref m2, .ref m3, .int (nI sy), .ref m4, .int (nI ly), .ref m5, .ref m6, .int (nI py), .ref m7, .ref m8, .ref m9, .int (nI ay), .int (if iw = true then 1 else 0), .ref m10, .int (nI ty), .long hy])), (m1, .inl (K 0, 22, .inl (mst n mask vf sf))), (m9, .inl (K 0, 16, .inl fw)), (m5, .inl (K 0, 8, .inl fb)), (m6, .inl (K 0, 8, .inl fp)), (m7, .inl (K 0, 8, .inl gb)), (m8, .inl (K 0, 8, .inl gp))] (fun (u : Nat × (Nat → Int32) × (Nat → Int32) × (Nat → Int32) × (Nat → Int32) × (Nat → Int32)) => [(m0, .inr (4, [.int th, .ref m1, .ref m2, .ref m3, .int (nI sy), .ref m4, .int (nI ly), .ref m5, .ref m6, .int (nI u.1), .ref m7, .ref m8, .ref m9, .int (nI ay), .int (if iw = true then 1 else 0), .ref m10, .int (nI ty), .long hy])), (m1, .inl (K 0, 22, .inl (mst n mask vf sf))), (m9, .inl (K 0, 16, .inl u.2.1)), (m5, .inl (K 0, 8, .inl u.2.2.1)), (m6, .inl (K 0, 8, .inl u.2.2.2.1)), (m7, .inl (K 0, 8, .inl u.2.2.2.2.1)), (m8, .inl (K 0, 8, .inl u.2.2.2.2.2))]) (fun r (u : Nat × (Nat → Int32) × (Nat → Int32) × (Nat → Int32) × (Nat → Int32) × (Nat → Int32)) => r = rdA n mask vf sf (rdS n mask vf sf) q) 0 0 := by
  refine g_ofW (Qc := fun A => va_Qi _ (gB D (gTy K) A _) A) (cc := cX4_tellsRead) (maxL := 4) (ret := (some .int)) (own := RX4) (by decide) rfl rfl (Nat.le_of_ble_eq_true rfl) ?_
  intro pp ee s mm below meth cc A hfx hnm hK hP hD hE hS hA ls hl
  obtain ⟨hx, hb, hr, hml, hown, hts, hlk⟩ := hfx
  have hl : lv_has ls 4 [(0, .ref m0), (1, .int q)] := hl
  have hi4 : ∀ w ∈ u_ws RX4 TX4 18, w ∈ wsX4_tellsRead := fun w h => List.mem_cons_of_mem _ (List.mem_append_right _ (h))
  have hnl := hn.le
  have hnl := hn.le
  have hll : 1 ≤ (rdS n mask vf sf).length ∧ (rdS n mask vf sf).length ≤ lmN sf := rdL_len (n := n) (mask := mask) (vf := vf) (okS.l hsf).2.1
  have hl44 := (okS.l hsf).2.2
  refine lv_aload_n hx hb dX4_tellsRead_0 rfl (lv_at hl 0 rfl) ?_
  refine gW_i (wr := []) (W2 := (fun (u : (Nat → Int32) × (Nat → Int32) × (Nat → Int32) × (Nat → Int32) × (Nat → Int32)) => [(m0, .inr (4, [.int th, .ref m1, .ref m2, .ref m3, .int (nI sy), .ref m4, .int (nI ly), .ref m5, .ref m6, .int (nI ((rdS n mask vf sf).length)), .ref m7, .ref m8, .ref m9, .int (nI ay), .int (if iw = true then 1 else 0), .ref m10, .int (nI ty), .long hy])), (m1, .inl (K 0, 22, .inl (mst n mask vf sf))), (m9, .inl (K 0, 16, .inl u.1)), (m5, .inl (K 0, 8, .inl u.2.1)), (m6, .inl (K 0, 8, .inl u.2.2.1)), (m7, .inl (K 0, 8, .inl u.2.2.2.1)), (m8, .inl (K 0, 8, .inl u.2.2.2.2))])) (va_runV (As := []) (rest := []) ⟨hx, hb, hml, hown, hts⟩ ((c_X4_readPath l D K m0 m1 m2 m3 m4 m5 m6 m7 m8 m9 m10 th sy ly py ay iw ty hy n mask vf sf fw fb fp gb gp (by first | assumption | omega) (by first | assumption | omega)) _) (cwV 0 hts gX4_tellsRead_X4_readPath rfl rfl rfl (by decide +kernel) ⟨Nat.le_of_ble_eq_true rfl, Nat.le_of_ble_eq_true rfl⟩) (gW_preV hE hS hK hP hD hA [0, 1, 2, 3, 4, 5, 6] rfl (by decide) 0 rfl rfl rfl) rfl rfl hl.1 rfl (lv_room (Nat.le_of_ble_eq_true rfl)) dX4_tellsRead_1 ⟨Nat.le_of_ble_eq_true rfl, Nat.le_of_ble_eq_true rfl⟩) hS hP hD hA [0, 1, 2, 3, 4, 5, 6] [] [0, 1, 2, 3, 4, 5, 6] rfl rfl (by decide) (by decide) (by decide) (fun _ => rfl) (fun rv3 u1 H locs h2 hP hD hS => ?_)
  have hP : va_P D vwCl [(m0, .inr (4, [.int th, .ref m1, .ref m2, .ref m3, .int (nI sy), .ref m4, .int (nI ly), .ref m5, .ref m6, .int (nI ((rdS n mask vf sf).length)), .ref m7, .ref m8, .ref m9, .int (nI ay), .int (if iw = true then 1 else 0), .ref m10, .int (nI ty), .long hy])), (m1, .inl (K 0, 22, .inl (mst n mask vf sf))), (m9, .inl (K 0, 16, .inl u1.1)), (m5, .inl (K 0, 8, .inl u1.2.1)), (m6, .inl (K 0, 8, .inl u1.2.2.1)), (m7, .inl (K 0, 8, .inl u1.2.2.2.1)), (m8, .inl (K 0, 8, .inl u1.2.2.2.2))] _ := hP
  have hD : va_D A [(m0, .inr (4, [.int th, .ref m1, .ref m2, .ref m3, .int (nI sy), .ref m4, .int (nI ly), .ref m5, .ref m6, .int (nI ((rdS n mask vf sf).length)), .ref m7, .ref m8, .ref m9, .int (nI ay), .int (if iw = true then 1 else 0), .ref m10, .int (nI ty), .long hy])), (m1, .inl (K 0, 22, .inl (mst n mask vf sf))), (m9, .inl (K 0, 16, .inl u1.1)), (m5, .inl (K 0, 8, .inl u1.2.1)), (m6, .inl (K 0, 8, .inl u1.2.2.1)), (m7, .inl (K 0, 8, .inl u1.2.2.2.1)), (m8, .inl (K 0, 8, .inl u1.2.2.2.2))] := hD
  have hrd : rv3 = rrk n mask sf (rdS n mask vf sf) (rdS n mask vf sf).length ∧ hol (rdS n mask vf sf) u1.2.1 u1.2.2.1 := h2
  by_cases hrr : fstX n mask sf (rdS n mask vf sf) (rdS n mask vf sf).length < (rdS n mask vf sf).length
  · skip
    refine lv_eqi (nI (fstX n mask sf (rdS n mask vf sf) (rdS n mask vf sf).length)) (hrd.1.trans (rrk_p hrr)) ?_
    refine lv_istore_n (lv' := [(2, .int (nI (fstX n mask sf (rdS n mask vf sf) (rdS n mask vf sf).length))), (0, .ref m0), (1, .int q)]) hx hb dX4_tellsRead_4 rfl hl (by decide) rfl (fun ls hl => ?_)
    refine lv_iload_n hx hb dX4_tellsRead_5 rfl (lv_at hl 0 rfl) ?_
    refine lv_iconst (v := (-1)) hx hb dX4_tellsRead_6 (by decide) ?_
    refine lv_icmp_ne (tgt := 12) hx hb dX4_tellsRead_7 (by decide) (fun c7 => ?_) (fun c7 => ?_)
    · skip
      refine lv_aload_n hx hb dX4_tellsRead_12 rfl (lv_at hl 1 rfl) ?_
      refine lv_aload_n hx hb dX4_tellsRead_13 rfl (lv_at hl 1 rfl) ?_
      refine va_get (D := D) (ci := 4) (v := .ref m5) (C := RX4) (T := TX4) (N := 18) hx hb hts hi4 hown hK hP 0 rfl rfl 7 (by decide) (hts (.fieldLink RX4 22 "PairedChannelsModel" "bits" "[I") (List.mem_of_getElem? (i := 1) (by decide +kernel))) (fun _ h9 => h9) rfl dX4_tellsRead_14 ?_
      refine lv_iload_n hx hb dX4_tellsRead_17 rfl (lv_at hl 0 rfl) ?_
      refine wa_iald hx hb hK hP 3 0 rfl rfl (fstX n mask sf (rdS n mask vf sf) (rdS n mask vf sf).length) rfl (by omega) (by decide) dX4_tellsRead_18 ?_
      refine lv_eqi ((atL (rdS n mask vf sf) (fstX n mask sf (rdS n mask vf sf) (rdS n mask vf sf).length)).1) ((hrd.2 _ hrr).1) ?_
      refine gR_i (va_runV (As := [.int ((atL (rdS n mask vf sf) (fstX n mask sf (rdS n mask vf sf) (rdS n mask vf sf).length)).1)]) (rest := []) ⟨hx, hb, hml, hown, hts⟩ (c_X4_messageOf l D K m0 m1 m2 m3 m4 m5 m6 m7 m8 m9 m10 th sy ly ((rdS n mask vf sf).length) ay iw ty hy n mask vf sf ((atL (rdS n mask vf sf) (fstX n mask sf (rdS n mask vf sf) (rdS n mask vf sf).length)).1) (by first | assumption | omega)) (cwV 1 hts gX4_tellsRead_X4_messageOf rfl rfl rfl (by decide +kernel) ⟨Nat.le_of_ble_eq_true rfl, Nat.le_of_ble_eq_true rfl⟩) (gR_preV hE hS hK hP [0, 1] rfl 0 rfl rfl rfl) rfl rfl hl.1 rfl (lv_room (Nat.le_of_ble_eq_true rfl)) dX4_tellsRead_19 ⟨Nat.le_of_ble_eq_true rfl, Nat.le_of_ble_eq_true rfl⟩) hS hP (fun rv6 H locs h5 hP hS => ?_)
      have h5 : rv6 = mso mask ((atL (rdS n mask vf sf) (fstX n mask sf (rdS n mask vf sf) (rdS n mask vf sf).length)).1) n := h5
      subst h5
      refine lv_eqi ((msP n mask (rdS n mask vf sf) (fstX n mask sf (rdS n mask vf sf) (rdS n mask vf sf).length))) (rfl) ?_
      refine lv_istore_n (lv' := [(3, .int (msP n mask (rdS n mask vf sf) (fstX n mask sf (rdS n mask vf sf) (rdS n mask vf sf).length))), (2, .int (nI (fstX n mask sf (rdS n mask vf sf) (rdS n mask vf sf).length))), (0, .ref m0), (1, .int q)]) hx hb dX4_tellsRead_22 rfl hl (by decide) rfl (fun ls hl => ?_)
      refine lv_iload_n hx hb dX4_tellsRead_23 rfl (lv_at hl 3 rfl) ?_
      by_cases s24_0 : q = 0
      · skip
        subst s24_0
        have hl : lv_has ls 4 [(3, .int (msP n mask (rdS n mask vf sf) (fstX n mask sf (rdS n mask vf sf) (rdS n mask vf sf).length))), (2, .int (nI (fstX n mask sf (rdS n mask vf sf) (rdS n mask vf sf).length))), (0, .ref m0), (1, .int 0)] := hl
        refine lv_tableIn (off := 32) (tgt := 56) hx hb dX4_tellsRead_24 (by decide) (by decide) (by decide) (by decide) ?_
        refine lv_iload_n hx hb dX4_tellsRead_56 rfl (lv_at hl 0 rfl) ?_
        exact gW_iret (v := (msP n mask (rdS n mask vf sf) (fstX n mask sf (rdS n mask vf sf) (rdS n mask vf sf).length))) (((rdS n mask vf sf).length), u1.1, u1.2.1, u1.2.2.1, u1.2.2.2.1, u1.2.2.2.2) hx hb hr hlk (rfl) hK hP hD hS (by unfold rdA; first | exact g_in hrr rfl | exact g_ip hrr rfl | exact g_ip hrr (g_in (by decide) (g_ip rfl rfl)) | exact g_ip hrr (g_in (by decide) (g_in (by decide) (g_ip rfl rfl))) | exact g_ip hrr (g_in (by decide) (g_in (by decide) (g_in (by decide) (g_ip rfl rfl)))) | exact g_ip hrr (g_in s24_0 (g_in s24_1 (g_in s24_2 (g_in s24_3 rfl))))) dX4_tellsRead_57
      by_cases s24_1 : q = 1
      · skip
        subst s24_1
        have hl : lv_has ls 4 [(3, .int (msP n mask (rdS n mask vf sf) (fstX n mask sf (rdS n mask vf sf) (rdS n mask vf sf).length))), (2, .int (nI (fstX n mask sf (rdS n mask vf sf) (rdS n mask vf sf).length))), (0, .ref m0), (1, .int 1)] := hl
        refine lv_tableIn (off := 34) (tgt := 58) hx hb dX4_tellsRead_24 (by decide) (by decide) (by decide) (by decide) ?_
        refine lv_iload_n hx hb dX4_tellsRead_58 rfl (lv_at hl 0 rfl) ?_
        refine lv_iconst (v := 1) hx hb dX4_tellsRead_59 (by decide) ?_
        refine lv_aload_n hx hb dX4_tellsRead_60 rfl (lv_at hl 2 rfl) ?_
        refine gR_i (va_runV (As := []) (rest := [.int 1, .int (msP n mask (rdS n mask vf sf) (fstX n mask sf (rdS n mask vf sf) (rdS n mask vf sf).length))]) ⟨hx, hb, hml, hown, hts⟩ (c_X4_bodyMany l D K m0 m1 m2 m3 m4 m5 m6 m7 m8 m9 m10 th sy ly ((rdS n mask vf sf).length) ay iw ty hy n mask vf sf (by first | assumption | omega) (by first | assumption | omega)) (cwV 0 hts gX4_tellsRead_X4_bodyMany rfl rfl rfl (by decide +kernel) ⟨Nat.le_of_ble_eq_true rfl, Nat.le_of_ble_eq_true rfl⟩) (gR_preV hE hS hK hP [0, 1] rfl 0 rfl rfl rfl) rfl rfl hl.1 rfl (lv_room (Nat.le_of_ble_eq_true rfl)) dX4_tellsRead_61 ⟨Nat.le_of_ble_eq_true rfl, Nat.le_of_ble_eq_true rfl⟩) hS hP (fun rv8 H locs h7 hP hS => ?_)
        have h7 : rv8 = nI (bdB mask n sf) := h7
        subst h7
        refine lv_ishl hx hb dX4_tellsRead_64 ?_
        refine lv_iconst (v := 1) hx hb dX4_tellsRead_65 (by decide) ?_
        refine lv_isub hx hb dX4_tellsRead_66 ?_
        refine lv_iand hx hb dX4_tellsRead_67 ?_
        exact gW_iret (v := ((msP n mask (rdS n mask vf sf) (fstX n mask sf (rdS n mask vf sf) (rdS n mask vf sf).length)) &&& ((1 <<< ((nI (bdB mask n sf)) &&& 31)) - 1))) (((rdS n mask vf sf).length), u1.1, u1.2.1, u1.2.2.1, u1.2.2.2.1, u1.2.2.2.2) hx hb hr hlk (rfl) hK hP hD hS (by unfold rdA; first | exact g_in hrr rfl | exact g_ip hrr rfl | exact g_ip hrr (g_in (by decide) (g_ip rfl rfl)) | exact g_ip hrr (g_in (by decide) (g_in (by decide) (g_ip rfl rfl))) | exact g_ip hrr (g_in (by decide) (g_in (by decide) (g_in (by decide) (g_ip rfl rfl)))) | exact g_ip hrr (g_in s24_0 (g_in s24_1 (g_in s24_2 (g_in s24_3 rfl))))) dX4_tellsRead_68
      by_cases s24_2 : q = 2
      · skip
        subst s24_2
        have hl : lv_has ls 4 [(3, .int (msP n mask (rdS n mask vf sf) (fstX n mask sf (rdS n mask vf sf) (rdS n mask vf sf).length))), (2, .int (nI (fstX n mask sf (rdS n mask vf sf) (rdS n mask vf sf).length))), (0, .ref m0), (1, .int 2)] := hl
        refine lv_tableIn (off := 45) (tgt := 69) hx hb dX4_tellsRead_24 (by decide) (by decide) (by decide) (by decide) ?_
        refine lv_iload_n hx hb dX4_tellsRead_69 rfl (lv_at hl 1 rfl) ?_
        exact gW_iret (v := nI (fstX n mask sf (rdS n mask vf sf) (rdS n mask vf sf).length)) (((rdS n mask vf sf).length), u1.1, u1.2.1, u1.2.2.1, u1.2.2.2.1, u1.2.2.2.2) hx hb hr hlk (rfl) hK hP hD hS (by unfold rdA; first | exact g_in hrr rfl | exact g_ip hrr rfl | exact g_ip hrr (g_in (by decide) (g_ip rfl rfl)) | exact g_ip hrr (g_in (by decide) (g_in (by decide) (g_ip rfl rfl))) | exact g_ip hrr (g_in (by decide) (g_in (by decide) (g_in (by decide) (g_ip rfl rfl)))) | exact g_ip hrr (g_in s24_0 (g_in s24_1 (g_in s24_2 (g_in s24_3 rfl))))) dX4_tellsRead_70
      by_cases s24_3 : q = 3
      · skip
        subst s24_3
        have hl : lv_has ls 4 [(3, .int (msP n mask (rdS n mask vf sf) (fstX n mask sf (rdS n mask vf sf) (rdS n mask vf sf).length))), (2, .int (nI (fstX n mask sf (rdS n mask vf sf) (rdS n mask vf sf).length))), (0, .ref m0), (1, .int 3)] := hl
        refine lv_tableIn (off := 47) (tgt := 71) hx hb dX4_tellsRead_24 (by decide) (by decide) (by decide) (by decide) ?_
        refine lv_aload_n hx hb dX4_tellsRead_71 rfl (lv_at hl 2 rfl) ?_
        refine va_get (D := D) (ci := 4) (v := .ref m6) (C := RX4) (T := TX4) (N := 18) hx hb hts hi4 hown hK hP 0 rfl rfl 8 (by decide) (hts (.fieldLink RX4 25 "PairedChannelsModel" "penalties" "[I") (List.mem_of_getElem? (i := 2) (by decide +kernel))) (fun _ h9 => h9) rfl dX4_tellsRead_72 ?_
        refine lv_iload_n hx hb dX4_tellsRead_75 rfl (lv_at hl 1 rfl) ?_
        refine wa_iald hx hb hK hP 4 0 rfl rfl (fstX n mask sf (rdS n mask vf sf) (rdS n mask vf sf).length) rfl (by omega) (by decide) dX4_tellsRead_76 ?_
        refine lv_eqi ((atL (rdS n mask vf sf) (fstX n mask sf (rdS n mask vf sf) (rdS n mask vf sf).length)).2) ((hrd.2 _ hrr).2) ?_
        exact gW_iret (v := (atL (rdS n mask vf sf) (fstX n mask sf (rdS n mask vf sf) (rdS n mask vf sf).length)).2) (((rdS n mask vf sf).length), u1.1, u1.2.1, u1.2.2.1, u1.2.2.2.1, u1.2.2.2.2) hx hb hr hlk (rfl) hK hP hD hS (by unfold rdA; first | exact g_in hrr rfl | exact g_ip hrr rfl | exact g_ip hrr (g_in (by decide) (g_ip rfl rfl)) | exact g_ip hrr (g_in (by decide) (g_in (by decide) (g_ip rfl rfl))) | exact g_ip hrr (g_in (by decide) (g_in (by decide) (g_in (by decide) (g_ip rfl rfl)))) | exact g_ip hrr (g_in s24_0 (g_in s24_1 (g_in s24_2 (g_in s24_3 rfl))))) dX4_tellsRead_77
      have so9 : (q : Int32).toInt < 0 ∨ 3 < (q : Int32).toInt := by
        have n0 := lv_neT (k := 0) (a := 0) s24_0 (by decide)
        have n1 := lv_neT (k := 1) (a := 1) s24_1 (by decide)
        have n2 := lv_neT (k := 2) (a := 2) s24_2 (by decide)
        have n3 := lv_neT (k := 3) (a := 3) s24_3 (by decide)
        omega
      refine lv_tableOut (tgt := 78) hx hb dX4_tellsRead_24 so9 (by decide) ?_
      refine lv_aload_n hx hb dX4_tellsRead_78 rfl (lv_at hl 2 rfl) ?_
      refine lv_aload_n hx hb dX4_tellsRead_79 rfl (lv_at hl 2 rfl) ?_
      refine va_get (D := D) (ci := 4) (v := .ref m5) (C := RX4) (T := TX4) (N := 18) hx hb hts hi4 hown hK hP 0 rfl rfl 7 (by decide) (hts (.fieldLink RX4 22 "PairedChannelsModel" "bits" "[I") (List.mem_of_getElem? (i := 1) (by decide +kernel))) (fun _ h9 => h9) rfl dX4_tellsRead_80 ?_
      refine lv_iload_n hx hb dX4_tellsRead_83 rfl (lv_at hl 1 rfl) ?_
      refine wa_iald hx hb hK hP 3 0 rfl rfl (fstX n mask sf (rdS n mask vf sf) (rdS n mask vf sf).length) rfl (by omega) (by decide) dX4_tellsRead_84 ?_
      refine lv_eqi ((atL (rdS n mask vf sf) (fstX n mask sf (rdS n mask vf sf) (rdS n mask vf sf).length)).1) ((hrd.2 _ hrr).1) ?_
      refine lv_aload_n hx hb dX4_tellsRead_85 rfl (lv_at hl 2 rfl) ?_
      refine va_get (D := D) (ci := 4) (v := .ref m1) (C := RX4) (T := TX4) (N := 18) hx hb hts hi4 hown hK hP 0 rfl rfl 1 (by decide) (hts (.fieldLink RX4 7 "PairedChannelsModel" "s" "[I") (List.mem_of_getElem? (i := 3) (by decide +kernel))) (fun _ h9 => h9) rfl dX4_tellsRead_86 ?_
      refine lv_iconst (v := 0) hx hb dX4_tellsRead_89 (by decide) ?_
      refine wa_iald hx hb hK hP 1 0 rfl rfl (0) rfl (by omega) (by decide) dX4_tellsRead_90 ?_
      refine lv_eqi (nI n) (rfl) ?_
      refine gR_i (va_runS (As := [.int ((atL (rdS n mask vf sf) (fstX n mask sf (rdS n mask vf sf) (rdS n mask vf sf).length)).1), .int (nI n)]) (rest := [.ref m0]) ⟨hx, hb, hml, hown, hts⟩ (c_X4_coded l D K ((atL (rdS n mask vf sf) (fstX n mask sf (rdS n mask vf sf) (rdS n mask vf sf).length)).1) n (hn.n1)) (va_cwS 2 hts gX4_tellsRead_X4_coded rfl rfl rfl (by decide +kernel) ⟨Nat.le_of_ble_eq_true rfl, Nat.le_of_ble_eq_true rfl⟩) (gR_pre hE hS hK hP [] rfl) rfl rfl hl.1 rfl (lv_room (Nat.le_of_ble_eq_true rfl)) dX4_tellsRead_91 ⟨Nat.le_of_ble_eq_true rfl, Nat.le_of_ble_eq_true rfl⟩) hS hP (fun rv11 H locs h10 hP hS => ?_)
      have h10 : rv11 = cod ((atL (rdS n mask vf sf) (fstX n mask sf (rdS n mask vf sf) (rdS n mask vf sf).length)).1) n := h10
      subst h10
      refine lv_eqi ((wof n mask (msP n mask (rdS n mask vf sf) (fstX n mask sf (rdS n mask vf sf) (rdS n mask vf sf).length)))) (cod_path hnl.2 _) ?_
      refine gR_i (va_runV (As := [.int (wof n mask (msP n mask (rdS n mask vf sf) (fstX n mask sf (rdS n mask vf sf) (rdS n mask vf sf).length)))]) (rest := []) ⟨hx, hb, hml, hown, hts⟩ (c_X4_differing l D K m0 m1 m2 m3 m4 m5 m6 m7 m8 m9 m10 th sy ly ((rdS n mask vf sf).length) ay iw ty hy n mask vf sf (wof n mask (msP n mask (rdS n mask vf sf) (fstX n mask sf (rdS n mask vf sf) (rdS n mask vf sf).length))) (by first | assumption | omega)) (cwV 1 hts gX4_tellsRead_X4_differing rfl rfl rfl (by decide +kernel) ⟨Nat.le_of_ble_eq_true rfl, Nat.le_of_ble_eq_true rfl⟩) (gR_preV hE hS hK hP [0, 1] rfl 0 rfl rfl rfl) rfl rfl hl.1 rfl (lv_room (Nat.le_of_ble_eq_true rfl)) dX4_tellsRead_94 ⟨Nat.le_of_ble_eq_true rfl, Nat.le_of_ble_eq_true rfl⟩) hS hP (fun rv13 H locs h12 hP hS => ?_)
      have h12 : rv13 = nI (difS (wof n mask (msP n mask (rdS n mask vf sf) (fstX n mask sf (rdS n mask vf sf) (rdS n mask vf sf).length))) vf n) := h12
      subst h12
      exact gW_iret (v := nI (difS (wof n mask (msP n mask (rdS n mask vf sf) (fstX n mask sf (rdS n mask vf sf) (rdS n mask vf sf).length))) vf n)) (((rdS n mask vf sf).length), u1.1, u1.2.1, u1.2.2.1, u1.2.2.2.1, u1.2.2.2.2) hx hb hr hlk (rfl) hK hP hD hS (by unfold rdA; first | exact g_in hrr rfl | exact g_ip hrr rfl | exact g_ip hrr (g_in (by decide) (g_ip rfl rfl)) | exact g_ip hrr (g_in (by decide) (g_in (by decide) (g_ip rfl rfl))) | exact g_ip hrr (g_in (by decide) (g_in (by decide) (g_in (by decide) (g_ip rfl rfl)))) | exact g_ip hrr (g_in s24_0 (g_in s24_1 (g_in s24_2 (g_in s24_3 rfl))))) dX4_tellsRead_97
    · skip
      exact absurd c7 (nI_m1 (by omega))
  · skip
    refine lv_eqi (-1) (hrd.1.trans (rrk_n hrr)) ?_
    refine lv_istore_n (lv' := [(2, .int (-1)), (0, .ref m0), (1, .int q)]) hx hb dX4_tellsRead_4 rfl hl (by decide) rfl (fun ls hl => ?_)
    refine lv_iload_n hx hb dX4_tellsRead_5 rfl (lv_at hl 0 rfl) ?_
    refine lv_iconst (v := (-1)) hx hb dX4_tellsRead_6 (by decide) ?_
    refine lv_icmp_ne (tgt := 12) hx hb dX4_tellsRead_7 (by decide) (fun c7 => ?_) (fun c7 => ?_)
    · skip
      exact absurd rfl c7
    · skip
      refine lv_iconst (v := (-1)) hx hb dX4_tellsRead_10 (by decide) ?_
      exact gW_iret (v := (-1)) (((rdS n mask vf sf).length), u1.1, u1.2.1, u1.2.2.1, u1.2.2.2.1, u1.2.2.2.2) hx hb hr hlk (rfl) hK hP hD hS (by unfold rdA; first | exact g_in hrr rfl | exact g_ip hrr rfl | exact g_ip hrr (g_in (by decide) (g_ip rfl rfl)) | exact g_ip hrr (g_in (by decide) (g_in (by decide) (g_ip rfl rfl))) | exact g_ip hrr (g_in (by decide) (g_in (by decide) (g_in (by decide) (g_ip rfl rfl)))) | exact g_ip hrr (g_in s24_0 (g_in s24_1 (g_in s24_2 (g_in s24_3 rfl))))) dX4_tellsRead_11

set_option maxHeartbeats 4000000 in
set_option maxRecDepth 100000 in
theorem c_X4_read (l : Launch) (D : va_G) (K : Nat → ClassId) (m0 : Nat) (m1 : Nat) (m2 : Nat) (m3 : Nat) (m4 : Nat) (m5 : Nat) (m6 : Nat) (m7 : Nat) (m8 : Nat) (m9 : Nat) (m10 : Nat) (th : Int32) (sy : Nat) (ly : Nat) (py : Nat) (ay : Nat) (iw : Bool) (ty : Nat) (hy : Int64) (n : Nat) (mask : Int32) (vf : Nat → Int32) (sf : Nat → Int32) (fw : Nat → Int32) (fb : Nat → Int32) (fp : Nat → Int32) (gb : Nat → Int32) (gp : Nat → Int32) (q : Int32) (hn : okN n) (hsf : okS sf) : MWi l yX4_read wsX4_read ({ frames := 8, cells := 0, slots := 0, locals := 183 } : Room) D (gTy K) [.ref m0, .int q] [(m0, .inr (4, [.int th, .ref m1, .ref m2, .ref m3, .int (nI sy), .ref m4, .int (nI ly), .ref m5, .ref m6, .int (nI py), .ref m7, .ref m8, .ref m9, .int (nI ay), .int (if iw = true then 1 else 0), .ref m10, .int (nI ty), .long hy])), (m1, .inl (K 0, 22, .inl (mst n mask vf sf))), (m9, .inl (K 0, 16, .inl fw)), (m5, .inl (K 0, 8, .inl fb)), (m6, .inl (K 0, 8, .inl fp)), (m7, .inl (K 0, 8, .inl gb)), (m8, .inl (K 0, 8, .inl gp))] (fun (u : Int32 × Nat × (Nat → Int32) × (Nat → Int32) × (Nat → Int32) × (Nat → Int32) × (Nat → Int32)) => [(m0, .inr (4, [.int u.1, .ref m1, .ref m2, .ref m3, .int (nI sy), .ref m4, .int (nI ly), .ref m5, .ref m6, .int (nI u.2.1), .ref m7, .ref m8, .ref m9, .int (nI ay), .int (if iw = true then 1 else 0), .ref m10, .int (nI ty), .long hy])), (m1, .inl (K 0, 22, .inl (mst n mask vf sf))), (m9, .inl (K 0, 16, .inl u.2.2.1)), (m5, .inl (K 0, 8, .inl u.2.2.2.1)), (m6, .inl (K 0, 8, .inl u.2.2.2.2.1)), (m7, .inl (K 0, 8, .inl u.2.2.2.2.2.1)), (m8, .inl (K 0, 8, .inl u.2.2.2.2.2.2))]) (fun r (u : Int32 × Nat × (Nat → Int32) × (Nat → Int32) × (Nat → Int32) × (Nat → Int32) × (Nat → Int32)) => (thRead q = 0 ∧ u.1 = 0 ∧ r = rdA n mask vf sf (rdS n mask vf sf) q) ∨ (¬ thRead q = 0 ∧ u.1 = nI (thRead q) ∧ r = 0)) 0 0 := by
  refine g_ofW (Qc := fun A => va_Qi _ (gB D (gTy K) A _) A) (cc := cX4_read) (maxL := 2) (ret := (some .int)) (own := RX4) (by decide) rfl rfl (Nat.le_of_ble_eq_true rfl) ?_
  intro pp ee s mm below meth cc A hfx hnm hK hP hD hE hS hA ls hl
  obtain ⟨hx, hb, hr, hml, hown, hts, hlk⟩ := hfx
  have hl : lv_has ls 2 [(0, .ref m0), (1, .int q)] := hl
  have hi4 : ∀ w ∈ u_ws RX4 TX4 18, w ∈ wsX4_read := fun w h => List.mem_cons_of_mem _ (List.mem_append_right _ (h))
  refine lv_aload_n hx hb dX4_read_0 rfl (lv_at hl 0 rfl) ?_
  refine lv_iconst (v := 0) hx hb dX4_read_1 (by decide) ?_
  refine va_put (D := D) (ci := 4) (v := .int 0) (ty := .int) (C := RX4) (T := TX4) (N := 18) hx hb hts hi4 tyX4 tyX4_ok nmX4 hown hK hP hD hS 0 rfl rfl 0 (by decide) (hts (.fieldLink RX4 40 "PairedChannelsModel" "thrown" "I") (List.mem_of_getElem? (i := 1) (by decide +kernel))) (fun _ h9 => h9) rfl (by decide +kernel) (rfl) (rfl) (Nat.le_of_ble_eq_true rfl) dX4_read_2 (fun H locs hP hD hS => ?_)
  have hP : va_P D vwCl [(m0, .inr (4, [.int 0, .ref m1, .ref m2, .ref m3, .int (nI sy), .ref m4, .int (nI ly), .ref m5, .ref m6, .int (nI py), .ref m7, .ref m8, .ref m9, .int (nI ay), .int (if iw = true then 1 else 0), .ref m10, .int (nI ty), .long hy])), (m1, .inl (K 0, 22, .inl (mst n mask vf sf))), (m9, .inl (K 0, 16, .inl fw)), (m5, .inl (K 0, 8, .inl fb)), (m6, .inl (K 0, 8, .inl fp)), (m7, .inl (K 0, 8, .inl gb)), (m8, .inl (K 0, 8, .inl gp))] _ := hP
  have hD : va_D A [(m0, .inr (4, [.int 0, .ref m1, .ref m2, .ref m3, .int (nI sy), .ref m4, .int (nI ly), .ref m5, .ref m6, .int (nI py), .ref m7, .ref m8, .ref m9, .int (nI ay), .int (if iw = true then 1 else 0), .ref m10, .int (nI ty), .long hy])), (m1, .inl (K 0, 22, .inl (mst n mask vf sf))), (m9, .inl (K 0, 16, .inl fw)), (m5, .inl (K 0, 8, .inl fb)), (m6, .inl (K 0, 8, .inl fp)), (m7, .inl (K 0, 8, .inl gb)), (m8, .inl (K 0, 8, .inl gp))] := hD
  refine lv_iload_n hx hb dX4_read_5 rfl (lv_at hl 1 rfl) ?_
  refine lv_iconst (v := 0) hx hb dX4_read_6 (by decide) ?_
  refine lv_iconst (v := 4) hx hb dX4_read_7 (by decide) ?_
  refine gR_i (va_runS (As := [.int q, .int 0, .int 4]) (rest := []) ⟨hx, hb, hml, hown, hts⟩ (c_X4_in l D K q 0 4 ) (va_cwS 3 hts gX4_read_X4_in rfl rfl rfl (by decide +kernel) ⟨Nat.le_of_ble_eq_true rfl, Nat.le_of_ble_eq_true rfl⟩) (gR_pre hE hS hK hP [] rfl) rfl rfl hl.1 rfl (lv_room (Nat.le_of_ble_eq_true rfl)) dX4_read_8 ⟨Nat.le_of_ble_eq_true rfl, Nat.le_of_ble_eq_true rfl⟩) hS hP (fun rv2 H locs h1 hP hS => ?_)
  have h1 : rv2 = (if 0 ≤ q ∧ q ≤ 4 then 1 else 0) := h1
  subst h1
  refine lv_if_eq (tgt := 22) hx hb dX4_read_11 (by decide) (fun c11 => ?_) (fun c11 => ?_)
  · skip
    have c11 : ¬ (0 ≤ q ∧ q ≤ 4) := b_eq0 c11
    refine lv_aload_n hx hb dX4_read_22 rfl (lv_at hl 0 rfl) ?_
    refine lv_iconst (v := 1) hx hb dX4_read_23 (by decide) ?_
    refine gW_i (wr := [(m1, .inl (K 0, 22, .inl (mst n mask vf sf))), (m9, .inl (K 0, 16, .inl fw)), (m5, .inl (K 0, 8, .inl fb)), (m6, .inl (K 0, 8, .inl fp)), (m7, .inl (K 0, 8, .inl gb)), (m8, .inl (K 0, 8, .inl gp))]) (W2 := (fun (u : Unit) => [(m0, .inr (4, [.int 1, .ref m1, .ref m2, .ref m3, .int (nI sy), .ref m4, .int (nI ly), .ref m5, .ref m6, .int (nI py), .ref m7, .ref m8, .ref m9, .int (nI ay), .int (if iw = true then 1 else 0), .ref m10, .int (nI ty), .long hy])), (m1, .inl (K 0, 22, .inl (mst n mask vf sf))), (m9, .inl (K 0, 16, .inl fw)), (m5, .inl (K 0, 8, .inl fb)), (m6, .inl (K 0, 8, .inl fp)), (m7, .inl (K 0, 8, .inl gb)), (m8, .inl (K 0, 8, .inl gp))])) (va_runV (As := [.int 1]) (rest := []) ⟨hx, hb, hml, hown, hts⟩ ((c_X4_fails l D K m0 m1 m2 m3 m4 m5 m6 m7 m8 m9 m10 0 sy ly py ay iw ty hy 1 ) _) (cwV 1 hts gX4_read_X4_fails rfl rfl rfl (by decide +kernel) ⟨Nat.le_of_ble_eq_true rfl, Nat.le_of_ble_eq_true rfl⟩) (gW_preV hE hS hK hP hD hA [0] rfl (by decide) 0 rfl rfl rfl) rfl rfl hl.1 rfl (lv_room (Nat.le_of_ble_eq_true rfl)) dX4_read_24 ⟨Nat.le_of_ble_eq_true rfl, Nat.le_of_ble_eq_true rfl⟩) hS hP hD hA [0] [1, 2, 3, 4, 5, 6] [6, 0, 1, 2, 3, 4, 5] rfl rfl (by decide) (by decide) (by decide) (fun _ => rfl) (fun rv6 u4 H locs h5 hP hD hS => ?_)
    have hP : va_P D vwCl [(m0, .inr (4, [.int 1, .ref m1, .ref m2, .ref m3, .int (nI sy), .ref m4, .int (nI ly), .ref m5, .ref m6, .int (nI py), .ref m7, .ref m8, .ref m9, .int (nI ay), .int (if iw = true then 1 else 0), .ref m10, .int (nI ty), .long hy])), (m1, .inl (K 0, 22, .inl (mst n mask vf sf))), (m9, .inl (K 0, 16, .inl fw)), (m5, .inl (K 0, 8, .inl fb)), (m6, .inl (K 0, 8, .inl fp)), (m7, .inl (K 0, 8, .inl gb)), (m8, .inl (K 0, 8, .inl gp))] _ := hP
    have hD : va_D A [(m0, .inr (4, [.int 1, .ref m1, .ref m2, .ref m3, .int (nI sy), .ref m4, .int (nI ly), .ref m5, .ref m6, .int (nI py), .ref m7, .ref m8, .ref m9, .int (nI ay), .int (if iw = true then 1 else 0), .ref m10, .int (nI ty), .long hy])), (m1, .inl (K 0, 22, .inl (mst n mask vf sf))), (m9, .inl (K 0, 16, .inl fw)), (m5, .inl (K 0, 8, .inl fb)), (m6, .inl (K 0, 8, .inl fp)), (m7, .inl (K 0, 8, .inl gb)), (m8, .inl (K 0, 8, .inl gp))] := hD
    have h5 : rv6 = 0 := h5
    exact gW_iret (v := rv6) (1, py, fw, fb, fp, gb, gp) hx hb hr hlk (rfl) hK hP hD hS (Or.inr (by have hh9 : thRead q = 1 := (if_neg c11); rw [hh9]; exact ⟨by decide, rfl, h5⟩)) dX4_read_27
  · skip
    have c11 : 0 ≤ q ∧ q ≤ 4 := b_ne0 c11
    refine lv_aload_n hx hb dX4_read_14 rfl (lv_at hl 0 rfl) ?_
    refine lv_iload_n hx hb dX4_read_15 rfl (lv_at hl 1 rfl) ?_
    refine gW_i (wr := []) (W2 := (fun (u : Nat × (Nat → Int32) × (Nat → Int32) × (Nat → Int32) × (Nat → Int32) × (Nat → Int32)) => [(m0, .inr (4, [.int 0, .ref m1, .ref m2, .ref m3, .int (nI sy), .ref m4, .int (nI ly), .ref m5, .ref m6, .int (nI u.1), .ref m7, .ref m8, .ref m9, .int (nI ay), .int (if iw = true then 1 else 0), .ref m10, .int (nI ty), .long hy])), (m1, .inl (K 0, 22, .inl (mst n mask vf sf))), (m9, .inl (K 0, 16, .inl u.2.1)), (m5, .inl (K 0, 8, .inl u.2.2.1)), (m6, .inl (K 0, 8, .inl u.2.2.2.1)), (m7, .inl (K 0, 8, .inl u.2.2.2.2.1)), (m8, .inl (K 0, 8, .inl u.2.2.2.2.2))])) (va_runV (As := [.int q]) (rest := []) ⟨hx, hb, hml, hown, hts⟩ ((c_X4_tellsRead l D K m0 m1 m2 m3 m4 m5 m6 m7 m8 m9 m10 0 sy ly py ay iw ty hy n mask vf sf fw fb fp gb gp q (by first | assumption | omega) (by first | assumption | omega)) _) (cwV 1 hts gX4_read_X4_tellsRead rfl rfl rfl (by decide +kernel) ⟨Nat.le_of_ble_eq_true rfl, Nat.le_of_ble_eq_true rfl⟩) (gW_preV hE hS hK hP hD hA [0, 1, 2, 3, 4, 5, 6] rfl (by decide) 0 rfl rfl rfl) rfl rfl hl.1 rfl (lv_room (Nat.le_of_ble_eq_true rfl)) dX4_read_16 ⟨Nat.le_of_ble_eq_true rfl, Nat.le_of_ble_eq_true rfl⟩) hS hP hD hA [0, 1, 2, 3, 4, 5, 6] [] [0, 1, 2, 3, 4, 5, 6] rfl rfl (by decide) (by decide) (by decide) (fun _ => rfl) (fun rv9 u7 H locs h8 hP hD hS => ?_)
    have hP : va_P D vwCl [(m0, .inr (4, [.int 0, .ref m1, .ref m2, .ref m3, .int (nI sy), .ref m4, .int (nI ly), .ref m5, .ref m6, .int (nI u7.1), .ref m7, .ref m8, .ref m9, .int (nI ay), .int (if iw = true then 1 else 0), .ref m10, .int (nI ty), .long hy])), (m1, .inl (K 0, 22, .inl (mst n mask vf sf))), (m9, .inl (K 0, 16, .inl u7.2.1)), (m5, .inl (K 0, 8, .inl u7.2.2.1)), (m6, .inl (K 0, 8, .inl u7.2.2.2.1)), (m7, .inl (K 0, 8, .inl u7.2.2.2.2.1)), (m8, .inl (K 0, 8, .inl u7.2.2.2.2.2))] _ := hP
    have hD : va_D A [(m0, .inr (4, [.int 0, .ref m1, .ref m2, .ref m3, .int (nI sy), .ref m4, .int (nI ly), .ref m5, .ref m6, .int (nI u7.1), .ref m7, .ref m8, .ref m9, .int (nI ay), .int (if iw = true then 1 else 0), .ref m10, .int (nI ty), .long hy])), (m1, .inl (K 0, 22, .inl (mst n mask vf sf))), (m9, .inl (K 0, 16, .inl u7.2.1)), (m5, .inl (K 0, 8, .inl u7.2.2.1)), (m6, .inl (K 0, 8, .inl u7.2.2.2.1)), (m7, .inl (K 0, 8, .inl u7.2.2.2.2.1)), (m8, .inl (K 0, 8, .inl u7.2.2.2.2.2))] := hD
    have h8 : rv9 = rdA n mask vf sf (rdS n mask vf sf) q := h8
    refine lv_goto (tgt := 27) hx hb dX4_read_19 (by decide) ?_
    exact gW_iret (v := rv9) (0, u7.1, u7.2.1, u7.2.2.1, u7.2.2.2.1, u7.2.2.2.2.1, u7.2.2.2.2.2) hx hb hr hlk (rfl) hK hP hD hS (Or.inl ⟨if_pos c11, rfl, h8⟩) dX4_read_27

set_option maxHeartbeats 4000000 in
set_option maxRecDepth 100000 in
theorem c_X4_tellsPath (l : Launch) (D : va_G) (K : Nat → ClassId) (m0 : Nat) (m1 : Nat) (m2 : Nat) (m3 : Nat) (m4 : Nat) (m5 : Nat) (m6 : Nat) (m7 : Nat) (m8 : Nat) (m9 : Nat) (m10 : Nat) (th : Int32) (sy : Nat) (ly : Nat) (py : Nat) (ay : Nat) (iw : Bool) (ty : Nat) (hy : Int64) (n : Nat) (mask : Int32) (vf : Nat → Int32) (sf : Nat → Int32) (fw : Nat → Int32) (fb : Nat → Int32) (fp : Nat → Int32) (gb : Nat → Int32) (gp : Nat → Int32) (j : Nat) (q : Int32) (hn : okN n) (hsf : okS sf) (hj : j < 2147483648) : MWi l yX4_tellsPath wsX4_tellsPath ({ frames := 6, cells := 0, slots := 0, locals := 139 } : Room) D (gTy K) [.ref m0, .int (nI j), .int q] [(m0, .inr (4, [.int th, .ref m1, .ref m2, .ref m3, .int (nI sy), .ref m4, .int (nI ly), .ref m5, .ref m6, .int (nI py), .ref m7, .ref m8, .ref m9, .int (nI ay), .int (if iw = true then 1 else 0), .ref m10, .int (nI ty), .long hy])), (m1, .inl (K 0, 22, .inl (mst n mask vf sf))), (m9, .inl (K 0, 16, .inl fw)), (m5, .inl (K 0, 8, .inl fb)), (m6, .inl (K 0, 8, .inl fp)), (m7, .inl (K 0, 8, .inl gb)), (m8, .inl (K 0, 8, .inl gp))] (fun (u : Nat × (Nat → Int32) × (Nat → Int32) × (Nat → Int32) × (Nat → Int32) × (Nat → Int32)) => [(m0, .inr (4, [.int th, .ref m1, .ref m2, .ref m3, .int (nI sy), .ref m4, .int (nI ly), .ref m5, .ref m6, .int (nI u.1), .ref m7, .ref m8, .ref m9, .int (nI ay), .int (if iw = true then 1 else 0), .ref m10, .int (nI ty), .long hy])), (m1, .inl (K 0, 22, .inl (mst n mask vf sf))), (m9, .inl (K 0, 16, .inl u.2.1)), (m5, .inl (K 0, 8, .inl u.2.2.1)), (m6, .inl (K 0, 8, .inl u.2.2.2.1)), (m7, .inl (K 0, 8, .inl u.2.2.2.2.1)), (m8, .inl (K 0, 8, .inl u.2.2.2.2.2))]) (fun r (u : Nat × (Nat → Int32) × (Nat → Int32) × (Nat → Int32) × (Nat → Int32) × (Nat → Int32)) => r = ptA n mask sf (rdS n mask vf sf) (nI j) q) 0 0 := by
  refine g_ofW (Qc := fun A => va_Qi _ (gB D (gTy K) A _) A) (cc := cX4_tellsPath) (maxL := 4) (ret := (some .int)) (own := RX4) (by decide) rfl rfl (Nat.le_of_ble_eq_true rfl) ?_
  intro pp ee s mm below meth cc A hfx hnm hK hP hD hE hS hA ls hl
  obtain ⟨hx, hb, hr, hml, hown, hts, hlk⟩ := hfx
  have hl : lv_has ls 4 [(0, .ref m0), (1, .int (nI j)), (2, .int q)] := hl
  have hi4 : ∀ w ∈ u_ws RX4 TX4 18, w ∈ wsX4_tellsPath := fun w h => List.mem_cons_of_mem _ (List.mem_append_right _ (h))
  have hnl := hn.le
  have hnl := hn.le
  have hll : 1 ≤ (rdS n mask vf sf).length ∧ (rdS n mask vf sf).length ≤ lmN sf := rdL_len (n := n) (mask := mask) (vf := vf) (okS.l hsf).2.1
  have hl44 := (okS.l hsf).2.2
  have ekc : (nI j).toNatClampNeg = j := nI_clamp (by omega)
  refine lv_aload_n hx hb dX4_tellsPath_0 rfl (lv_at hl 0 rfl) ?_
  refine gW_v (wr := []) (W2 := (fun (u : (Nat → Int32) × (Nat → Int32) × (Nat → Int32) × (Nat → Int32) × (Nat → Int32)) => [(m0, .inr (4, [.int th, .ref m1, .ref m2, .ref m3, .int (nI sy), .ref m4, .int (nI ly), .ref m5, .ref m6, .int (nI ((rdS n mask vf sf).length)), .ref m7, .ref m8, .ref m9, .int (nI ay), .int (if iw = true then 1 else 0), .ref m10, .int (nI ty), .long hy])), (m1, .inl (K 0, 22, .inl (mst n mask vf sf))), (m9, .inl (K 0, 16, .inl u.1)), (m5, .inl (K 0, 8, .inl u.2.1)), (m6, .inl (K 0, 8, .inl u.2.2.1)), (m7, .inl (K 0, 8, .inl u.2.2.2.1)), (m8, .inl (K 0, 8, .inl u.2.2.2.2))])) (va_runV (As := []) (rest := []) ⟨hx, hb, hml, hown, hts⟩ ((c_X4_reads l D K m0 m1 m2 m3 m4 m5 m6 m7 m8 m9 m10 th sy ly py ay iw ty hy n mask vf sf fw fb fp gb gp (by first | assumption | omega) (by first | assumption | omega)) _) (cwV 0 hts gX4_tellsPath_X4_reads rfl rfl rfl (by decide +kernel) ⟨Nat.le_of_ble_eq_true rfl, Nat.le_of_ble_eq_true rfl⟩) (gW_preV hE hS hK hP hD hA [0, 1, 2, 3, 4, 5, 6] rfl (by decide) 0 rfl rfl rfl) rfl rfl hl.1 rfl (lv_room (Nat.le_of_ble_eq_true rfl)) dX4_tellsPath_1 ⟨Nat.le_of_ble_eq_true rfl, Nat.le_of_ble_eq_true rfl⟩) hS hP hD hA [0, 1, 2, 3, 4, 5, 6] [] [0, 1, 2, 3, 4, 5, 6] rfl rfl (by decide) (by decide) (by decide) (fun _ => rfl) (fun u1 H locs h2 hP hD hS => ?_)
  have hP : va_P D vwCl [(m0, .inr (4, [.int th, .ref m1, .ref m2, .ref m3, .int (nI sy), .ref m4, .int (nI ly), .ref m5, .ref m6, .int (nI ((rdS n mask vf sf).length)), .ref m7, .ref m8, .ref m9, .int (nI ay), .int (if iw = true then 1 else 0), .ref m10, .int (nI ty), .long hy])), (m1, .inl (K 0, 22, .inl (mst n mask vf sf))), (m9, .inl (K 0, 16, .inl u1.1)), (m5, .inl (K 0, 8, .inl u1.2.1)), (m6, .inl (K 0, 8, .inl u1.2.2.1)), (m7, .inl (K 0, 8, .inl u1.2.2.2.1)), (m8, .inl (K 0, 8, .inl u1.2.2.2.2))] _ := hP
  have hD : va_D A [(m0, .inr (4, [.int th, .ref m1, .ref m2, .ref m3, .int (nI sy), .ref m4, .int (nI ly), .ref m5, .ref m6, .int (nI ((rdS n mask vf sf).length)), .ref m7, .ref m8, .ref m9, .int (nI ay), .int (if iw = true then 1 else 0), .ref m10, .int (nI ty), .long hy])), (m1, .inl (K 0, 22, .inl (mst n mask vf sf))), (m9, .inl (K 0, 16, .inl u1.1)), (m5, .inl (K 0, 8, .inl u1.2.1)), (m6, .inl (K 0, 8, .inl u1.2.2.1)), (m7, .inl (K 0, 8, .inl u1.2.2.2.1)), (m8, .inl (K 0, 8, .inl u1.2.2.2.2))] := hD
  have hrd : hol (rdS n mask vf sf) u1.2.1 u1.2.2.1 := h2
  refine lv_iload_n hx hb dX4_tellsPath_4 rfl (lv_at hl 1 rfl) ?_
  refine lv_aload_n hx hb dX4_tellsPath_5 rfl (lv_at hl 0 rfl) ?_
  refine va_get (D := D) (ci := 4) (v := .int (nI ((rdS n mask vf sf).length))) (C := RX4) (T := TX4) (N := 18) hx hb hts hi4 hown hK hP 0 rfl rfl 9 (by decide) (hts (.fieldLink RX4 99 "PairedChannelsModel" "pathMany" "I") (List.mem_of_getElem? (i := 1) (by decide +kernel))) (fun _ h9 => h9) rfl dX4_tellsPath_6 ?_
  refine lv_icmp_lt (tgt := 14) hx hb dX4_tellsPath_9 (by decide) (fun c9 => ?_) (fun c9 => ?_)
  · skip
    have c9 : j < (rdS n mask vf sf).length := (nI_ltI (a := j) (b := (rdS n mask vf sf).length) (by omega) (by omega)).mp c9
    refine lv_aload_n hx hb dX4_tellsPath_14 rfl (lv_at hl 0 rfl) ?_
    refine lv_aload_n hx hb dX4_tellsPath_15 rfl (lv_at hl 0 rfl) ?_
    refine va_get (D := D) (ci := 4) (v := .ref m5) (C := RX4) (T := TX4) (N := 18) hx hb hts hi4 hown hK hP 0 rfl rfl 7 (by decide) (hts (.fieldLink RX4 22 "PairedChannelsModel" "bits" "[I") (List.mem_of_getElem? (i := 2) (by decide +kernel))) (fun _ h9 => h9) rfl dX4_tellsPath_16 ?_
    refine lv_iload_n hx hb dX4_tellsPath_19 rfl (lv_at hl 1 rfl) ?_
    refine wa_iald hx hb hK hP 3 0 rfl rfl (j) rfl (by omega) (by decide) dX4_tellsPath_20 ?_
    refine lv_eqi ((atL (rdS n mask vf sf) j).1) ((hrd j (by omega)).1) ?_
    refine gR_i (va_runV (As := [.int ((atL (rdS n mask vf sf) j).1)]) (rest := []) ⟨hx, hb, hml, hown, hts⟩ (c_X4_messageOf l D K m0 m1 m2 m3 m4 m5 m6 m7 m8 m9 m10 th sy ly ((rdS n mask vf sf).length) ay iw ty hy n mask vf sf ((atL (rdS n mask vf sf) j).1) (by first | assumption | omega)) (cwV 1 hts gX4_tellsPath_X4_messageOf rfl rfl rfl (by decide +kernel) ⟨Nat.le_of_ble_eq_true rfl, Nat.le_of_ble_eq_true rfl⟩) (gR_preV hE hS hK hP [0, 1] rfl 0 rfl rfl rfl) rfl rfl hl.1 rfl (lv_room (Nat.le_of_ble_eq_true rfl)) dX4_tellsPath_21 ⟨Nat.le_of_ble_eq_true rfl, Nat.le_of_ble_eq_true rfl⟩) hS hP (fun rv6 H locs h5 hP hS => ?_)
    have h5 : rv6 = mso mask ((atL (rdS n mask vf sf) j).1) n := h5
    subst h5
    refine lv_eqi ((msP n mask (rdS n mask vf sf) j)) (rfl) ?_
    refine lv_istore_n (lv' := [(3, .int (msP n mask (rdS n mask vf sf) j)), (0, .ref m0), (1, .int (nI j)), (2, .int q)]) hx hb dX4_tellsPath_24 rfl hl (by decide) rfl (fun ls hl => ?_)
    refine lv_iload_n hx hb dX4_tellsPath_25 rfl (lv_at hl 3 rfl) ?_
    refine lv_if_ne (tgt := 33) hx hb dX4_tellsPath_26 (by decide) (fun c26 => ?_) (fun c26 => ?_)
    · skip
      refine lv_iload_n hx hb dX4_tellsPath_33 rfl (lv_at hl 3 rfl) ?_
      refine lv_iconst (v := 1) hx hb dX4_tellsPath_34 (by decide) ?_
      refine lv_icmp_ne (tgt := 47) hx hb dX4_tellsPath_35 (by decide) (fun c35 => ?_) (fun c35 => ?_)
      · skip
        refine lv_aload_n hx hb dX4_tellsPath_47 rfl (lv_at hl 1 rfl) ?_
        refine lv_iload_n hx hb dX4_tellsPath_48 rfl (lv_at hl 0 rfl) ?_
        refine gR_i (va_runV (As := [.int (msP n mask (rdS n mask vf sf) j)]) (rest := []) ⟨hx, hb, hml, hown, hts⟩ (c_X4_isRight l D K m0 m1 m2 m3 m4 m5 m6 m7 m8 m9 m10 th sy ly ((rdS n mask vf sf).length) ay iw ty hy n mask vf sf (msP n mask (rdS n mask vf sf) j) (by first | assumption | omega) (by first | assumption | omega)) (cwV 1 hts gX4_tellsPath_X4_isRight rfl rfl rfl (by decide +kernel) ⟨Nat.le_of_ble_eq_true rfl, Nat.le_of_ble_eq_true rfl⟩) (gR_preV hE hS hK hP [0, 1] rfl 0 rfl rfl rfl) rfl rfl hl.1 rfl (lv_room (Nat.le_of_ble_eq_true rfl)) dX4_tellsPath_49 ⟨Nat.le_of_ble_eq_true rfl, Nat.le_of_ble_eq_true rfl⟩) hS hP (fun rv10 H locs h9 hP hS => ?_)
        have h9 : rv10 = (if rgt n mask sf (msP n mask (rdS n mask vf sf) j) then 1 else 0) := h9
        subst h9
        refine g_cut (F0 mm 60 ls [.int (if rgt n mask sf (msP n mask (rdS n mask vf sf) j) then 1 else 0)]) (fun hJ => ?_) ?_
        · refine lv_if_eq (tgt := 59) hx hb dX4_tellsPath_52 (by decide) (fun c11 => ?_) (fun c11 => ?_)
          · skip
            have c11 : ¬ (rgt n mask sf (msP n mask (rdS n mask vf sf) j)) := b_eq0 c11
            refine lv_iconst (v := 0) hx hb dX4_tellsPath_59 (by decide) ?_
            refine lv_eqi ((if rgt n mask sf (msP n mask (rdS n mask vf sf) j) then 1 else 0)) (if_neg c11).symm ?_
            exact hJ
          · skip
            have c11 : rgt n mask sf (msP n mask (rdS n mask vf sf) j) := b_ne0 c11
            refine lv_iconst (v := 1) hx hb dX4_tellsPath_55 (by decide) ?_
            refine lv_goto (tgt := 60) hx hb dX4_tellsPath_56 (by decide) ?_
            refine lv_eqi ((if rgt n mask sf (msP n mask (rdS n mask vf sf) j) then 1 else 0)) (if_pos c11).symm ?_
            exact hJ
        · skip
          exact gW_iret (v := (if rgt n mask sf (msP n mask (rdS n mask vf sf) j) then 1 else 0)) (((rdS n mask vf sf).length), u1.1, u1.2.1, u1.2.2.1, u1.2.2.2.1, u1.2.2.2.2) hx hb hr hlk (rfl) hK hP hD hS (by unfold ptA; rw [ekc]; first | exact g_in (fun h => absurd ((nI_leI (a := (rdS n mask vf sf).length) (b := j) (by omega) (by omega)).mp h) (by omega)) (g_ip c26 rfl) | exact g_in (fun h => absurd ((nI_leI (a := (rdS n mask vf sf).length) (b := j) (by omega) (by omega)).mp h) (by omega)) (g_in c26 (g_ip c35 rfl)) | exact g_in (fun h => absurd ((nI_leI (a := (rdS n mask vf sf).length) (b := j) (by omega) (by omega)).mp h) (by omega)) (g_in c26 (g_in c35 rfl))) dX4_tellsPath_60
      · skip
        refine lv_aload_n hx hb dX4_tellsPath_38 rfl (lv_at hl 1 rfl) ?_
        refine va_get (D := D) (ci := 4) (v := .ref m6) (C := RX4) (T := TX4) (N := 18) hx hb hts hi4 hown hK hP 0 rfl rfl 8 (by decide) (hts (.fieldLink RX4 25 "PairedChannelsModel" "penalties" "[I") (List.mem_of_getElem? (i := 3) (by decide +kernel))) (fun _ h9 => h9) rfl dX4_tellsPath_39 ?_
        refine lv_iload_n hx hb dX4_tellsPath_42 rfl (lv_at hl 2 rfl) ?_
        refine wa_iald hx hb hK hP 4 0 rfl rfl (j) rfl (by omega) (by decide) dX4_tellsPath_43 ?_
        refine lv_eqi ((atL (rdS n mask vf sf) j).2) ((hrd j (by omega)).2) ?_
        refine lv_goto (tgt := 60) hx hb dX4_tellsPath_44 (by decide) ?_
        exact gW_iret (v := (atL (rdS n mask vf sf) j).2) (((rdS n mask vf sf).length), u1.1, u1.2.1, u1.2.2.1, u1.2.2.2.1, u1.2.2.2.2) hx hb hr hlk (rfl) hK hP hD hS (by unfold ptA; rw [ekc]; first | exact g_in (fun h => absurd ((nI_leI (a := (rdS n mask vf sf).length) (b := j) (by omega) (by omega)).mp h) (by omega)) (g_ip c26 rfl) | exact g_in (fun h => absurd ((nI_leI (a := (rdS n mask vf sf).length) (b := j) (by omega) (by omega)).mp h) (by omega)) (g_in c26 (g_ip c35 rfl)) | exact g_in (fun h => absurd ((nI_leI (a := (rdS n mask vf sf).length) (b := j) (by omega) (by omega)).mp h) (by omega)) (g_in c26 (g_in c35 rfl))) dX4_tellsPath_60
    · skip
      refine lv_iload_n hx hb dX4_tellsPath_29 rfl (lv_at hl 0 rfl) ?_
      refine lv_goto (tgt := 60) hx hb dX4_tellsPath_30 (by decide) ?_
      exact gW_iret (v := (msP n mask (rdS n mask vf sf) j)) (((rdS n mask vf sf).length), u1.1, u1.2.1, u1.2.2.1, u1.2.2.2.1, u1.2.2.2.2) hx hb hr hlk (rfl) hK hP hD hS (by unfold ptA; rw [ekc]; first | exact g_in (fun h => absurd ((nI_leI (a := (rdS n mask vf sf).length) (b := j) (by omega) (by omega)).mp h) (by omega)) (g_ip c26 rfl) | exact g_in (fun h => absurd ((nI_leI (a := (rdS n mask vf sf).length) (b := j) (by omega) (by omega)).mp h) (by omega)) (g_in c26 (g_ip c35 rfl)) | exact g_in (fun h => absurd ((nI_leI (a := (rdS n mask vf sf).length) (b := j) (by omega) (by omega)).mp h) (by omega)) (g_in c26 (g_in c35 rfl))) dX4_tellsPath_60
  · skip
    have c9 : ¬ j < (rdS n mask vf sf).length := fun h9 => c9 ((nI_ltI (a := j) (b := (rdS n mask vf sf).length) (by omega) (by omega)).mpr h9)
    refine lv_iconst (v := (-1)) hx hb dX4_tellsPath_12 (by decide) ?_
    exact gW_iret (v := (-1)) (((rdS n mask vf sf).length), u1.1, u1.2.1, u1.2.2.1, u1.2.2.2.1, u1.2.2.2.2) hx hb hr hlk (rfl) hK hP hD hS (by unfold ptA; exact g_ip ((nI_leI (a := (rdS n mask vf sf).length) (b := j) (by omega) (by omega)).mpr (by omega)) rfl) dX4_tellsPath_13

set_option maxHeartbeats 4000000 in
set_option maxRecDepth 100000 in
theorem c_X4_path (l : Launch) (D : va_G) (K : Nat → ClassId) (m0 : Nat) (m1 : Nat) (m2 : Nat) (m3 : Nat) (m4 : Nat) (m5 : Nat) (m6 : Nat) (m7 : Nat) (m8 : Nat) (m9 : Nat) (m10 : Nat) (th : Int32) (sy : Nat) (ly : Nat) (py : Nat) (ay : Nat) (iw : Bool) (ty : Nat) (hy : Int64) (n : Nat) (mask : Int32) (vf : Nat → Int32) (sf : Nat → Int32) (fw : Nat → Int32) (fb : Nat → Int32) (fp : Nat → Int32) (gb : Nat → Int32) (gp : Nat → Int32) (k : Int32) (q : Int32) (hn : okN n) (hsf : okS sf) : MWi l yX4_path wsX4_path ({ frames := 7, cells := 0, slots := 0, locals := 162 } : Room) D (gTy K) [.ref m0, .int k, .int q] [(m0, .inr (4, [.int th, .ref m1, .ref m2, .ref m3, .int (nI sy), .ref m4, .int (nI ly), .ref m5, .ref m6, .int (nI py), .ref m7, .ref m8, .ref m9, .int (nI ay), .int (if iw = true then 1 else 0), .ref m10, .int (nI ty), .long hy])), (m1, .inl (K 0, 22, .inl (mst n mask vf sf))), (m9, .inl (K 0, 16, .inl fw)), (m5, .inl (K 0, 8, .inl fb)), (m6, .inl (K 0, 8, .inl fp)), (m7, .inl (K 0, 8, .inl gb)), (m8, .inl (K 0, 8, .inl gp))] (fun (u : Int32 × Nat × (Nat → Int32) × (Nat → Int32) × (Nat → Int32) × (Nat → Int32) × (Nat → Int32)) => [(m0, .inr (4, [.int u.1, .ref m1, .ref m2, .ref m3, .int (nI sy), .ref m4, .int (nI ly), .ref m5, .ref m6, .int (nI u.2.1), .ref m7, .ref m8, .ref m9, .int (nI ay), .int (if iw = true then 1 else 0), .ref m10, .int (nI ty), .long hy])), (m1, .inl (K 0, 22, .inl (mst n mask vf sf))), (m9, .inl (K 0, 16, .inl u.2.2.1)), (m5, .inl (K 0, 8, .inl u.2.2.2.1)), (m6, .inl (K 0, 8, .inl u.2.2.2.2.1)), (m7, .inl (K 0, 8, .inl u.2.2.2.2.2.1)), (m8, .inl (K 0, 8, .inl u.2.2.2.2.2.2))]) (fun r (u : Int32 × Nat × (Nat → Int32) × (Nat → Int32) × (Nat → Int32) × (Nat → Int32) × (Nat → Int32)) => (thPath k q = 0 ∧ u.1 = 0 ∧ r = ptA n mask sf (rdS n mask vf sf) k q) ∨ (¬ thPath k q = 0 ∧ u.1 = nI (thPath k q) ∧ r = 0)) 0 0 := by
  refine g_ofW (Qc := fun A => va_Qi _ (gB D (gTy K) A _) A) (cc := cX4_path) (maxL := 3) (ret := (some .int)) (own := RX4) (by decide) rfl rfl (Nat.le_of_ble_eq_true rfl) ?_
  intro pp ee s mm below meth cc A hfx hnm hK hP hD hE hS hA ls hl
  obtain ⟨hx, hb, hr, hml, hown, hts, hlk⟩ := hfx
  have hl : lv_has ls 3 [(0, .ref m0), (1, .int k), (2, .int q)] := hl
  have hi4 : ∀ w ∈ u_ws RX4 TX4 18, w ∈ wsX4_path := fun w h => List.mem_cons_of_mem _ (List.mem_append_right _ (h))
  refine lv_aload_n hx hb dX4_path_0 rfl (lv_at hl 0 rfl) ?_
  refine lv_iconst (v := 0) hx hb dX4_path_1 (by decide) ?_
  refine va_put (D := D) (ci := 4) (v := .int 0) (ty := .int) (C := RX4) (T := TX4) (N := 18) hx hb hts hi4 tyX4 tyX4_ok nmX4 hown hK hP hD hS 0 rfl rfl 0 (by decide) (hts (.fieldLink RX4 40 "PairedChannelsModel" "thrown" "I") (List.mem_of_getElem? (i := 1) (by decide +kernel))) (fun _ h9 => h9) rfl (by decide +kernel) (rfl) (rfl) (Nat.le_of_ble_eq_true rfl) dX4_path_2 (fun H locs hP hD hS => ?_)
  have hP : va_P D vwCl [(m0, .inr (4, [.int 0, .ref m1, .ref m2, .ref m3, .int (nI sy), .ref m4, .int (nI ly), .ref m5, .ref m6, .int (nI py), .ref m7, .ref m8, .ref m9, .int (nI ay), .int (if iw = true then 1 else 0), .ref m10, .int (nI ty), .long hy])), (m1, .inl (K 0, 22, .inl (mst n mask vf sf))), (m9, .inl (K 0, 16, .inl fw)), (m5, .inl (K 0, 8, .inl fb)), (m6, .inl (K 0, 8, .inl fp)), (m7, .inl (K 0, 8, .inl gb)), (m8, .inl (K 0, 8, .inl gp))] _ := hP
  have hD : va_D A [(m0, .inr (4, [.int 0, .ref m1, .ref m2, .ref m3, .int (nI sy), .ref m4, .int (nI ly), .ref m5, .ref m6, .int (nI py), .ref m7, .ref m8, .ref m9, .int (nI ay), .int (if iw = true then 1 else 0), .ref m10, .int (nI ty), .long hy])), (m1, .inl (K 0, 22, .inl (mst n mask vf sf))), (m9, .inl (K 0, 16, .inl fw)), (m5, .inl (K 0, 8, .inl fb)), (m6, .inl (K 0, 8, .inl fp)), (m7, .inl (K 0, 8, .inl gb)), (m8, .inl (K 0, 8, .inl gp))] := hD
  refine lv_iload_n hx hb dX4_path_5 rfl (lv_at hl 1 rfl) ?_
  refine lv_if_lt (tgt := 27) hx hb dX4_path_6 (by decide) (fun c6 => ?_) (fun c6 => ?_)
  · skip
    refine lv_aload_n hx hb dX4_path_27 rfl (lv_at hl 0 rfl) ?_
    refine lv_iconst (v := 1) hx hb dX4_path_28 (by decide) ?_
    refine gW_i (wr := [(m1, .inl (K 0, 22, .inl (mst n mask vf sf))), (m9, .inl (K 0, 16, .inl fw)), (m5, .inl (K 0, 8, .inl fb)), (m6, .inl (K 0, 8, .inl fp)), (m7, .inl (K 0, 8, .inl gb)), (m8, .inl (K 0, 8, .inl gp))]) (W2 := (fun (u : Unit) => [(m0, .inr (4, [.int 1, .ref m1, .ref m2, .ref m3, .int (nI sy), .ref m4, .int (nI ly), .ref m5, .ref m6, .int (nI py), .ref m7, .ref m8, .ref m9, .int (nI ay), .int (if iw = true then 1 else 0), .ref m10, .int (nI ty), .long hy])), (m1, .inl (K 0, 22, .inl (mst n mask vf sf))), (m9, .inl (K 0, 16, .inl fw)), (m5, .inl (K 0, 8, .inl fb)), (m6, .inl (K 0, 8, .inl fp)), (m7, .inl (K 0, 8, .inl gb)), (m8, .inl (K 0, 8, .inl gp))])) (va_runV (As := [.int 1]) (rest := []) ⟨hx, hb, hml, hown, hts⟩ ((c_X4_fails l D K m0 m1 m2 m3 m4 m5 m6 m7 m8 m9 m10 0 sy ly py ay iw ty hy 1 ) _) (cwV 1 hts gX4_path_X4_fails rfl rfl rfl (by decide +kernel) ⟨Nat.le_of_ble_eq_true rfl, Nat.le_of_ble_eq_true rfl⟩) (gW_preV hE hS hK hP hD hA [0] rfl (by decide) 0 rfl rfl rfl) rfl rfl hl.1 rfl (lv_room (Nat.le_of_ble_eq_true rfl)) dX4_path_29 ⟨Nat.le_of_ble_eq_true rfl, Nat.le_of_ble_eq_true rfl⟩) hS hP hD hA [0] [1, 2, 3, 4, 5, 6] [6, 0, 1, 2, 3, 4, 5] rfl rfl (by decide) (by decide) (by decide) (fun _ => rfl) (fun rv4 u2 H locs h3 hP hD hS => ?_)
    have hP : va_P D vwCl [(m0, .inr (4, [.int 1, .ref m1, .ref m2, .ref m3, .int (nI sy), .ref m4, .int (nI ly), .ref m5, .ref m6, .int (nI py), .ref m7, .ref m8, .ref m9, .int (nI ay), .int (if iw = true then 1 else 0), .ref m10, .int (nI ty), .long hy])), (m1, .inl (K 0, 22, .inl (mst n mask vf sf))), (m9, .inl (K 0, 16, .inl fw)), (m5, .inl (K 0, 8, .inl fb)), (m6, .inl (K 0, 8, .inl fp)), (m7, .inl (K 0, 8, .inl gb)), (m8, .inl (K 0, 8, .inl gp))] _ := hP
    have hD : va_D A [(m0, .inr (4, [.int 1, .ref m1, .ref m2, .ref m3, .int (nI sy), .ref m4, .int (nI ly), .ref m5, .ref m6, .int (nI py), .ref m7, .ref m8, .ref m9, .int (nI ay), .int (if iw = true then 1 else 0), .ref m10, .int (nI ty), .long hy])), (m1, .inl (K 0, 22, .inl (mst n mask vf sf))), (m9, .inl (K 0, 16, .inl fw)), (m5, .inl (K 0, 8, .inl fb)), (m6, .inl (K 0, 8, .inl fp)), (m7, .inl (K 0, 8, .inl gb)), (m8, .inl (K 0, 8, .inl gp))] := hD
    have h3 : rv4 = 0 := h3
    exact gW_iret (v := rv4) (1, py, fw, fb, fp, gb, gp) hx hb hr hlk (rfl) hK hP hD hS (Or.inr (by have hh9 : thPath k q = 1 := (by first | exact thPath_no2 c15 | exact thPath_no1 c6); rw [hh9]; exact ⟨by decide, rfl, h3⟩)) dX4_path_32
  · skip
    refine lv_iload_n hx hb dX4_path_9 rfl (lv_at hl 2 rfl) ?_
    refine lv_iconst (v := 0) hx hb dX4_path_10 (by decide) ?_
    refine lv_iconst (v := 2) hx hb dX4_path_11 (by decide) ?_
    refine gR_i (va_runS (As := [.int q, .int 0, .int 2]) (rest := []) ⟨hx, hb, hml, hown, hts⟩ (c_X4_in l D K q 0 2 ) (va_cwS 3 hts gX4_path_X4_in rfl rfl rfl (by decide +kernel) ⟨Nat.le_of_ble_eq_true rfl, Nat.le_of_ble_eq_true rfl⟩) (gR_pre hE hS hK hP [] rfl) rfl rfl hl.1 rfl (lv_room (Nat.le_of_ble_eq_true rfl)) dX4_path_12 ⟨Nat.le_of_ble_eq_true rfl, Nat.le_of_ble_eq_true rfl⟩) hS hP (fun rv6 H locs h5 hP hS => ?_)
    have h5 : rv6 = (if 0 ≤ q ∧ q ≤ 2 then 1 else 0) := h5
    subst h5
    refine lv_if_eq (tgt := 27) hx hb dX4_path_15 (by decide) (fun c15 => ?_) (fun c15 => ?_)
    · skip
      have c15 : ¬ (0 ≤ q ∧ q ≤ 2) := b_eq0 c15
      refine lv_aload_n hx hb dX4_path_27 rfl (lv_at hl 0 rfl) ?_
      refine lv_iconst (v := 1) hx hb dX4_path_28 (by decide) ?_
      refine gW_i (wr := [(m1, .inl (K 0, 22, .inl (mst n mask vf sf))), (m9, .inl (K 0, 16, .inl fw)), (m5, .inl (K 0, 8, .inl fb)), (m6, .inl (K 0, 8, .inl fp)), (m7, .inl (K 0, 8, .inl gb)), (m8, .inl (K 0, 8, .inl gp))]) (W2 := (fun (u : Unit) => [(m0, .inr (4, [.int 1, .ref m1, .ref m2, .ref m3, .int (nI sy), .ref m4, .int (nI ly), .ref m5, .ref m6, .int (nI py), .ref m7, .ref m8, .ref m9, .int (nI ay), .int (if iw = true then 1 else 0), .ref m10, .int (nI ty), .long hy])), (m1, .inl (K 0, 22, .inl (mst n mask vf sf))), (m9, .inl (K 0, 16, .inl fw)), (m5, .inl (K 0, 8, .inl fb)), (m6, .inl (K 0, 8, .inl fp)), (m7, .inl (K 0, 8, .inl gb)), (m8, .inl (K 0, 8, .inl gp))])) (va_runV (As := [.int 1]) (rest := []) ⟨hx, hb, hml, hown, hts⟩ ((c_X4_fails l D K m0 m1 m2 m3 m4 m5 m6 m7 m8 m9 m10 0 sy ly py ay iw ty hy 1 ) _) (cwV 1 hts gX4_path_X4_fails rfl rfl rfl (by decide +kernel) ⟨Nat.le_of_ble_eq_true rfl, Nat.le_of_ble_eq_true rfl⟩) (gW_preV hE hS hK hP hD hA [0] rfl (by decide) 0 rfl rfl rfl) rfl rfl hl.1 rfl (lv_room (Nat.le_of_ble_eq_true rfl)) dX4_path_29 ⟨Nat.le_of_ble_eq_true rfl, Nat.le_of_ble_eq_true rfl⟩) hS hP hD hA [0] [1, 2, 3, 4, 5, 6] [6, 0, 1, 2, 3, 4, 5] rfl rfl (by decide) (by decide) (by decide) (fun _ => rfl) (fun rv10 u8 H locs h9 hP hD hS => ?_)
      have hP : va_P D vwCl [(m0, .inr (4, [.int 1, .ref m1, .ref m2, .ref m3, .int (nI sy), .ref m4, .int (nI ly), .ref m5, .ref m6, .int (nI py), .ref m7, .ref m8, .ref m9, .int (nI ay), .int (if iw = true then 1 else 0), .ref m10, .int (nI ty), .long hy])), (m1, .inl (K 0, 22, .inl (mst n mask vf sf))), (m9, .inl (K 0, 16, .inl fw)), (m5, .inl (K 0, 8, .inl fb)), (m6, .inl (K 0, 8, .inl fp)), (m7, .inl (K 0, 8, .inl gb)), (m8, .inl (K 0, 8, .inl gp))] _ := hP
      have hD : va_D A [(m0, .inr (4, [.int 1, .ref m1, .ref m2, .ref m3, .int (nI sy), .ref m4, .int (nI ly), .ref m5, .ref m6, .int (nI py), .ref m7, .ref m8, .ref m9, .int (nI ay), .int (if iw = true then 1 else 0), .ref m10, .int (nI ty), .long hy])), (m1, .inl (K 0, 22, .inl (mst n mask vf sf))), (m9, .inl (K 0, 16, .inl fw)), (m5, .inl (K 0, 8, .inl fb)), (m6, .inl (K 0, 8, .inl fp)), (m7, .inl (K 0, 8, .inl gb)), (m8, .inl (K 0, 8, .inl gp))] := hD
      have h9 : rv10 = 0 := h9
      exact gW_iret (v := rv10) (1, py, fw, fb, fp, gb, gp) hx hb hr hlk (rfl) hK hP hD hS (Or.inr (by have hh9 : thPath k q = 1 := (by first | exact thPath_no2 c15 | exact thPath_no1 c6); rw [hh9]; exact ⟨by decide, rfl, h9⟩)) dX4_path_32
    · skip
      have c15 : 0 ≤ q ∧ q ≤ 2 := b_ne0 c15
      have hth : thPath k q = 0 := thPath_ok (Int32.not_lt.mp c6) c15
      obtain ⟨j, hj, ej⟩ := nI_of c6
      subst ej
      refine lv_aload_n hx hb dX4_path_18 rfl (lv_at hl 0 rfl) ?_
      refine lv_iload_n hx hb dX4_path_19 rfl (lv_at hl 1 rfl) ?_
      refine lv_iload_n hx hb dX4_path_20 rfl (lv_at hl 2 rfl) ?_
      refine gW_i (wr := []) (W2 := (fun (u : Nat × (Nat → Int32) × (Nat → Int32) × (Nat → Int32) × (Nat → Int32) × (Nat → Int32)) => [(m0, .inr (4, [.int 0, .ref m1, .ref m2, .ref m3, .int (nI sy), .ref m4, .int (nI ly), .ref m5, .ref m6, .int (nI u.1), .ref m7, .ref m8, .ref m9, .int (nI ay), .int (if iw = true then 1 else 0), .ref m10, .int (nI ty), .long hy])), (m1, .inl (K 0, 22, .inl (mst n mask vf sf))), (m9, .inl (K 0, 16, .inl u.2.1)), (m5, .inl (K 0, 8, .inl u.2.2.1)), (m6, .inl (K 0, 8, .inl u.2.2.2.1)), (m7, .inl (K 0, 8, .inl u.2.2.2.2.1)), (m8, .inl (K 0, 8, .inl u.2.2.2.2.2))])) (va_runV (As := [.int (nI j), .int q]) (rest := []) ⟨hx, hb, hml, hown, hts⟩ ((c_X4_tellsPath l D K m0 m1 m2 m3 m4 m5 m6 m7 m8 m9 m10 0 sy ly py ay iw ty hy n mask vf sf fw fb fp gb gp j q (by first | assumption | omega) (by first | assumption | omega) (by first | assumption | omega)) _) (cwV 2 hts gX4_path_X4_tellsPath rfl rfl rfl (by decide +kernel) ⟨Nat.le_of_ble_eq_true rfl, Nat.le_of_ble_eq_true rfl⟩) (gW_preV hE hS hK hP hD hA [0, 1, 2, 3, 4, 5, 6] rfl (by decide) 0 rfl rfl rfl) rfl rfl hl.1 rfl (lv_room (Nat.le_of_ble_eq_true rfl)) dX4_path_21 ⟨Nat.le_of_ble_eq_true rfl, Nat.le_of_ble_eq_true rfl⟩) hS hP hD hA [0, 1, 2, 3, 4, 5, 6] [] [0, 1, 2, 3, 4, 5, 6] rfl rfl (by decide) (by decide) (by decide) (fun _ => rfl) (fun rv13 u11 H locs h12 hP hD hS => ?_)
      have hP : va_P D vwCl [(m0, .inr (4, [.int 0, .ref m1, .ref m2, .ref m3, .int (nI sy), .ref m4, .int (nI ly), .ref m5, .ref m6, .int (nI u11.1), .ref m7, .ref m8, .ref m9, .int (nI ay), .int (if iw = true then 1 else 0), .ref m10, .int (nI ty), .long hy])), (m1, .inl (K 0, 22, .inl (mst n mask vf sf))), (m9, .inl (K 0, 16, .inl u11.2.1)), (m5, .inl (K 0, 8, .inl u11.2.2.1)), (m6, .inl (K 0, 8, .inl u11.2.2.2.1)), (m7, .inl (K 0, 8, .inl u11.2.2.2.2.1)), (m8, .inl (K 0, 8, .inl u11.2.2.2.2.2))] _ := hP
      have hD : va_D A [(m0, .inr (4, [.int 0, .ref m1, .ref m2, .ref m3, .int (nI sy), .ref m4, .int (nI ly), .ref m5, .ref m6, .int (nI u11.1), .ref m7, .ref m8, .ref m9, .int (nI ay), .int (if iw = true then 1 else 0), .ref m10, .int (nI ty), .long hy])), (m1, .inl (K 0, 22, .inl (mst n mask vf sf))), (m9, .inl (K 0, 16, .inl u11.2.1)), (m5, .inl (K 0, 8, .inl u11.2.2.1)), (m6, .inl (K 0, 8, .inl u11.2.2.2.1)), (m7, .inl (K 0, 8, .inl u11.2.2.2.2.1)), (m8, .inl (K 0, 8, .inl u11.2.2.2.2.2))] := hD
      have h12 : rv13 = ptA n mask sf (rdS n mask vf sf) (nI j) q := h12
      refine lv_goto (tgt := 32) hx hb dX4_path_24 (by decide) ?_
      exact gW_iret (v := rv13) (0, u11.1, u11.2.1, u11.2.2.1, u11.2.2.2.1, u11.2.2.2.2.1, u11.2.2.2.2.2) hx hb hr hlk (rfl) hK hP hD hS (Or.inl ⟨hth, rfl, h12⟩) dX4_path_32
