set_option maxHeartbeats 4000000 in
set_option maxRecDepth 100000 in
theorem c_X4_isRight (l : Launch) (D : va_G) (K : Nat → ClassId) (m0 : Nat) (m1 : Nat) (m2 : Nat) (m3 : Nat) (m4 : Nat) (m5 : Nat) (m6 : Nat) (m7 : Nat) (m8 : Nat) (m9 : Nat) (m10 : Nat) (th : Int32) (sy : Nat) (ly : Nat) (py : Nat) (ay : Nat) (iw : Bool) (ty : Nat) (hy : Int64) (n : Nat) (mask : Int32) (vf : Nat → Int32) (sf : Nat → Int32) (x : Int32) (hn : okN n) (hsf : okS sf) : MRi l yX4_isRight wsX4_isRight ({ frames := 5, cells := 0, slots := 0, locals := 107 } : Room) D (gTy K) [.ref m0, .int x] [(m0, .inr (4, [.int th, .ref m1, .ref m2, .ref m3, .int (nI sy), .ref m4, .int (nI ly), .ref m5, .ref m6, .int (nI py), .ref m7, .ref m8, .ref m9, .int (nI ay), .int (if iw = true then 1 else 0), .ref m10, .int (nI ty), .long hy])), (m1, .inl (K 0, 22, .inl (mst n mask vf sf)))] (fun r => r = (if rgt n mask sf x then 1 else 0)) := by
  refine g_ofR (cc := cX4_isRight) (maxL := 2) (ret := (some .boolean)) (own := RX4) (by decide) rfl rfl (Nat.le_of_ble_eq_true rfl) ?_
  intro pp ee s mm below meth cc hfx hK hP hE hS ls hl
  obtain ⟨hx, hb, hr, hml, hown, hts, hlk⟩ := hfx
  have hl : lv_has ls 2 [(0, .ref m0), (1, .int x)] := hl
  refine lv_iload_n hx hb dX4_isRight_0 rfl (lv_at hl 1 rfl) ?_
  refine lv_aload_n hx hb dX4_isRight_1 rfl (lv_at hl 0 rfl) ?_
  refine gR_i (va_runV (As := []) (rest := [.int x]) ⟨hx, hb, hml, hown, hts⟩ (c_X4_bodyMany l D K m0 m1 m2 m3 m4 m5 m6 m7 m8 m9 m10 th sy ly py ay iw ty hy n mask vf sf (by first | assumption | omega) (by first | assumption | omega)) (cwV 0 hts gX4_isRight_X4_bodyMany rfl rfl rfl (by decide +kernel) ⟨Nat.le_of_ble_eq_true rfl, Nat.le_of_ble_eq_true rfl⟩) (gR_preV hE hS hK hP [0, 1] rfl 0 rfl rfl rfl) rfl rfl hl.1 rfl (lv_room (Nat.le_of_ble_eq_true rfl)) dX4_isRight_2 ⟨Nat.le_of_ble_eq_true rfl, Nat.le_of_ble_eq_true rfl⟩) hS hP (fun rv2 H locs h1 hP hS => ?_)
  have h1 : rv2 = nI (bdB mask n sf) := h1
  subst h1
  refine lv_ishr hx hb dX4_isRight_5 ?_
  refine lv_aload_n hx hb dX4_isRight_6 rfl (lv_at hl 0 rfl) ?_
  refine lv_iload_n hx hb dX4_isRight_7 rfl (lv_at hl 1 rfl) ?_
  refine gR_i (va_runV (As := [.int x]) (rest := [.int (x >>> ((nI (bdB mask n sf)) &&& 31))]) ⟨hx, hb, hml, hown, hts⟩ (c_X4_sumOf l D K m0 m1 m2 m3 m4 m5 m6 m7 m8 m9 m10 th sy ly py ay iw ty hy n mask vf sf x (by first | assumption | omega) (by first | assumption | omega)) (cwV 1 hts gX4_isRight_X4_sumOf rfl rfl rfl (by decide +kernel) ⟨Nat.le_of_ble_eq_true rfl, Nat.le_of_ble_eq_true rfl⟩) (gR_preV hE hS hK hP [0, 1] rfl 0 rfl rfl rfl) rfl rfl hl.1 rfl (lv_room (Nat.le_of_ble_eq_true rfl)) dX4_isRight_8 ⟨Nat.le_of_ble_eq_true rfl, Nat.le_of_ble_eq_true rfl⟩) hS hP (fun rv4 H locs h3 hP hS => ?_)
  have h3 : rv4 = chk x (bdB mask n sf) (ckB mask n sf) := h3
  subst h3
  refine g_cut (F0 mm 19 ls [.int (if rgt n mask sf x then 1 else 0)]) (fun hJ => ?_) ?_
  · refine lv_icmp_ne (tgt := 18) hx hb dX4_isRight_11 (by decide) (fun c5 => ?_) (fun c5 => ?_)
    · skip
      refine lv_iconst (v := 0) hx hb dX4_isRight_18 (by decide) ?_
      refine lv_eqi ((if rgt n mask sf x then 1 else 0)) (if_neg c5).symm ?_
      exact hJ
    · skip
      refine lv_iconst (v := 1) hx hb dX4_isRight_14 (by decide) ?_
      refine lv_goto (tgt := 19) hx hb dX4_isRight_15 (by decide) ?_
      refine lv_eqi ((if rgt n mask sf x then 1 else 0)) (if_pos c5).symm ?_
      exact hJ
  · skip
    exact gR_iret (v := (if rgt n mask sf x then 1 else 0)) hx hb hr hlk (nar_b _) hS (rfl) dX4_isRight_19

set_option maxHeartbeats 4000000 in
set_option maxRecDepth 100000 in
theorem c_X4_isBody (l : Launch) (D : va_G) (K : Nat → ClassId) (m0 : Nat) (m1 : Nat) (m2 : Nat) (m3 : Nat) (m4 : Nat) (m5 : Nat) (m6 : Nat) (m7 : Nat) (m8 : Nat) (m9 : Nat) (m10 : Nat) (th : Int32) (sy : Nat) (ly : Nat) (py : Nat) (ay : Nat) (iw : Bool) (ty : Nat) (hy : Int64) (n : Nat) (mask : Int32) (vf : Nat → Int32) (sf : Nat → Int32) (q : Int32) (hn : okN n) (hsf : okS sf) : MRi l yX4_isBody wsX4_isBody ({ frames := 4, cells := 0, slots := 0, locals := 84 } : Room) D (gTy K) [.ref m0, .int q] [(m0, .inr (4, [.int th, .ref m1, .ref m2, .ref m3, .int (nI sy), .ref m4, .int (nI ly), .ref m5, .ref m6, .int (nI py), .ref m7, .ref m8, .ref m9, .int (nI ay), .int (if iw = true then 1 else 0), .ref m10, .int (nI ty), .long hy])), (m1, .inl (K 0, 22, .inl (mst n mask vf sf)))] (fun r => r = (if 0 ≤ q ∧ q >>> (nI (bdB mask n sf) &&& 31) = 0 then 1 else 0)) := by
  refine g_ofR (cc := cX4_isBody) (maxL := 2) (ret := (some .boolean)) (own := RX4) (by decide) rfl rfl (Nat.le_of_ble_eq_true rfl) ?_
  intro pp ee s mm below meth cc hfx hK hP hE hS ls hl
  obtain ⟨hx, hb, hr, hml, hown, hts, hlk⟩ := hfx
  have hl : lv_has ls 2 [(0, .ref m0), (1, .int q)] := hl
  refine lv_iload_n hx hb dX4_isBody_0 rfl (lv_at hl 1 rfl) ?_
  refine lv_if_lt (tgt := 17) hx hb dX4_isBody_1 (by decide) (fun c1 => ?_) (fun c1 => ?_)
  · skip
    refine lv_iconst (v := 0) hx hb dX4_isBody_17 (by decide) ?_
    exact gR_iret (v := 0) hx hb hr hlk (rfl) hS (by first | (first | exact (g_ip ⟨Int32.not_lt.mp c1, c2⟩ rfl) | exact (g_tp ⟨Int32.not_lt.mp c1, c2⟩ rfl) | exact (g_ap ⟨Int32.not_lt.mp c1, c2⟩ rfl)) | (first | exact (g_in (fun h => absurd c1 (Int32.not_lt.mpr h.1)) rfl) | exact (g_tn (fun h => absurd c1 (Int32.not_lt.mpr h.1)) rfl) | exact (g_an (fun h => absurd c1 (Int32.not_lt.mpr h.1)) rfl)) | (first | exact (g_in (fun h => c2 h.2) rfl) | exact (g_tn (fun h => c2 h.2) rfl) | exact (g_an (fun h => c2 h.2) rfl))) dX4_isBody_18
  · skip
    refine lv_iload_n hx hb dX4_isBody_4 rfl (lv_at hl 1 rfl) ?_
    refine lv_aload_n hx hb dX4_isBody_5 rfl (lv_at hl 0 rfl) ?_
    refine gR_i (va_runV (As := []) (rest := [.int q]) ⟨hx, hb, hml, hown, hts⟩ (c_X4_bodyMany l D K m0 m1 m2 m3 m4 m5 m6 m7 m8 m9 m10 th sy ly py ay iw ty hy n mask vf sf (by first | assumption | omega) (by first | assumption | omega)) (cwV 0 hts gX4_isBody_X4_bodyMany rfl rfl rfl (by decide +kernel) ⟨Nat.le_of_ble_eq_true rfl, Nat.le_of_ble_eq_true rfl⟩) (gR_preV hE hS hK hP [0, 1] rfl 0 rfl rfl rfl) rfl rfl hl.1 rfl (lv_room (Nat.le_of_ble_eq_true rfl)) dX4_isBody_6 ⟨Nat.le_of_ble_eq_true rfl, Nat.le_of_ble_eq_true rfl⟩) hS hP (fun rv3 H locs h2 hP hS => ?_)
    have h2 : rv3 = nI (bdB mask n sf) := h2
    subst h2
    refine lv_ishr hx hb dX4_isBody_9 ?_
    refine lv_if_ne (tgt := 17) hx hb dX4_isBody_10 (by decide) (fun c2 => ?_) (fun c2 => ?_)
    · skip
      refine lv_iconst (v := 0) hx hb dX4_isBody_17 (by decide) ?_
      exact gR_iret (v := 0) hx hb hr hlk (rfl) hS (by first | (first | exact (g_ip ⟨Int32.not_lt.mp c1, c2⟩ rfl) | exact (g_tp ⟨Int32.not_lt.mp c1, c2⟩ rfl) | exact (g_ap ⟨Int32.not_lt.mp c1, c2⟩ rfl)) | (first | exact (g_in (fun h => absurd c1 (Int32.not_lt.mpr h.1)) rfl) | exact (g_tn (fun h => absurd c1 (Int32.not_lt.mpr h.1)) rfl) | exact (g_an (fun h => absurd c1 (Int32.not_lt.mpr h.1)) rfl)) | (first | exact (g_in (fun h => c2 h.2) rfl) | exact (g_tn (fun h => c2 h.2) rfl) | exact (g_an (fun h => c2 h.2) rfl))) dX4_isBody_18
    · skip
      refine lv_iconst (v := 1) hx hb dX4_isBody_13 (by decide) ?_
      refine lv_goto (tgt := 18) hx hb dX4_isBody_14 (by decide) ?_
      exact gR_iret (v := 1) hx hb hr hlk (rfl) hS (by first | (first | exact (g_ip ⟨Int32.not_lt.mp c1, c2⟩ rfl) | exact (g_tp ⟨Int32.not_lt.mp c1, c2⟩ rfl) | exact (g_ap ⟨Int32.not_lt.mp c1, c2⟩ rfl)) | (first | exact (g_in (fun h => absurd c1 (Int32.not_lt.mpr h.1)) rfl) | exact (g_tn (fun h => absurd c1 (Int32.not_lt.mpr h.1)) rfl) | exact (g_an (fun h => absurd c1 (Int32.not_lt.mpr h.1)) rfl)) | (first | exact (g_in (fun h => c2 h.2) rfl) | exact (g_tn (fun h => c2 h.2) rfl) | exact (g_an (fun h => c2 h.2) rfl))) dX4_isBody_18

set_option maxHeartbeats 4000000 in
set_option maxRecDepth 100000 in
theorem c_X4_wordOf (l : Launch) (D : va_G) (K : Nat → ClassId) (m0 : Nat) (m1 : Nat) (m2 : Nat) (m3 : Nat) (m4 : Nat) (m5 : Nat) (m6 : Nat) (m7 : Nat) (m8 : Nat) (m9 : Nat) (m10 : Nat) (th : Int32) (sy : Nat) (ly : Nat) (py : Nat) (ay : Nat) (iw : Bool) (ty : Nat) (hy : Int64) (n : Nat) (mask : Int32) (vf : Nat → Int32) (sf : Nat → Int32) (x : Int32) (hn : okN n) (hsf : okS sf) : MRi l yX4_wordOf wsX4_wordOf ({ frames := 5, cells := 0, slots := 0, locals := 107 } : Room) D (gTy K) [.ref m0, .int x] [(m0, .inr (4, [.int th, .ref m1, .ref m2, .ref m3, .int (nI sy), .ref m4, .int (nI ly), .ref m5, .ref m6, .int (nI py), .ref m7, .ref m8, .ref m9, .int (nI ay), .int (if iw = true then 1 else 0), .ref m10, .int (nI ty), .long hy])), (m1, .inl (K 0, 22, .inl (mst n mask vf sf)))] (fun r => r = wof n mask (wck n mask sf x)) := by
  refine g_ofR (cc := cX4_wordOf) (maxL := 2) (ret := (some .int)) (own := RX4) (by decide) rfl rfl (Nat.le_of_ble_eq_true rfl) ?_
  intro pp ee s mm below meth cc hfx hK hP hE hS ls hl
  obtain ⟨hx, hb, hr, hml, hown, hts, hlk⟩ := hfx
  have hl : lv_has ls 2 [(0, .ref m0), (1, .int x)] := hl
  have hi4 : ∀ w ∈ u_ws RX4 TX4 18, w ∈ wsX4_wordOf := fun w h => List.mem_cons_of_mem _ (List.mem_append_right _ (h))
  refine lv_aload_n hx hb dX4_wordOf_0 rfl (lv_at hl 0 rfl) ?_
  refine lv_iload_n hx hb dX4_wordOf_1 rfl (lv_at hl 1 rfl) ?_
  refine lv_aload_n hx hb dX4_wordOf_2 rfl (lv_at hl 0 rfl) ?_
  refine lv_iload_n hx hb dX4_wordOf_3 rfl (lv_at hl 1 rfl) ?_
  refine gR_i (va_runV (As := [.int x]) (rest := [.int x, .ref m0]) ⟨hx, hb, hml, hown, hts⟩ (c_X4_sumOf l D K m0 m1 m2 m3 m4 m5 m6 m7 m8 m9 m10 th sy ly py ay iw ty hy n mask vf sf x (by first | assumption | omega) (by first | assumption | omega)) (cwV 1 hts gX4_wordOf_X4_sumOf rfl rfl rfl (by decide +kernel) ⟨Nat.le_of_ble_eq_true rfl, Nat.le_of_ble_eq_true rfl⟩) (gR_preV hE hS hK hP [0, 1] rfl 0 rfl rfl rfl) rfl rfl hl.1 rfl (lv_room (Nat.le_of_ble_eq_true rfl)) dX4_wordOf_4 ⟨Nat.le_of_ble_eq_true rfl, Nat.le_of_ble_eq_true rfl⟩) hS hP (fun rv2 H locs h1 hP hS => ?_)
  have h1 : rv2 = chk x (bdB mask n sf) (ckB mask n sf) := h1
  subst h1
  refine lv_aload_n hx hb dX4_wordOf_7 rfl (lv_at hl 0 rfl) ?_
  refine gR_i (va_runV (As := []) (rest := [.int (chk x (bdB mask n sf) (ckB mask n sf)), .int x, .ref m0]) ⟨hx, hb, hml, hown, hts⟩ (c_X4_bodyMany l D K m0 m1 m2 m3 m4 m5 m6 m7 m8 m9 m10 th sy ly py ay iw ty hy n mask vf sf (by first | assumption | omega) (by first | assumption | omega)) (cwV 0 hts gX4_wordOf_X4_bodyMany rfl rfl rfl (by decide +kernel) ⟨Nat.le_of_ble_eq_true rfl, Nat.le_of_ble_eq_true rfl⟩) (gR_preV hE hS hK hP [0, 1] rfl 0 rfl rfl rfl) rfl rfl hl.1 rfl (lv_room (Nat.le_of_ble_eq_true rfl)) dX4_wordOf_8 ⟨Nat.le_of_ble_eq_true rfl, Nat.le_of_ble_eq_true rfl⟩) hS hP (fun rv4 H locs h3 hP hS => ?_)
  have h3 : rv4 = nI (bdB mask n sf) := h3
  subst h3
  refine lv_ishl hx hb dX4_wordOf_11 ?_
  refine lv_ior hx hb dX4_wordOf_12 ?_
  refine gR_i (va_runV (As := [.int (x ||| ((chk x (bdB mask n sf) (ckB mask n sf)) <<< ((nI (bdB mask n sf)) &&& 31)))]) (rest := []) ⟨hx, hb, hml, hown, hts⟩ (c_X4_bitsOf l D K m0 m1 m2 m3 m4 m5 m6 m7 m8 m9 m10 th sy ly py ay iw ty hy n mask vf sf (x ||| ((chk x (bdB mask n sf) (ckB mask n sf)) <<< ((nI (bdB mask n sf)) &&& 31))) (by first | assumption | omega)) (cwV 1 hts gX4_wordOf_X4_bitsOf rfl rfl rfl (by decide +kernel) ⟨Nat.le_of_ble_eq_true rfl, Nat.le_of_ble_eq_true rfl⟩) (gR_preV hE hS hK hP [0, 1] rfl 0 rfl rfl rfl) rfl rfl hl.1 rfl (lv_room (Nat.le_of_ble_eq_true rfl)) dX4_wordOf_13 ⟨Nat.le_of_ble_eq_true rfl, Nat.le_of_ble_eq_true rfl⟩) hS hP (fun rv6 H locs h5 hP hS => ?_)
  have h5 : rv6 = wrd mask (x ||| ((chk x (bdB mask n sf) (ckB mask n sf)) <<< ((nI (bdB mask n sf)) &&& 31))) n := h5
  subst h5
  refine lv_aload_n hx hb dX4_wordOf_16 rfl (lv_at hl 0 rfl) ?_
  refine va_get (D := D) (ci := 4) (v := .ref m1) (C := RX4) (T := TX4) (N := 18) hx hb hts hi4 hown hK hP 0 rfl rfl 1 (by decide) (hts (.fieldLink RX4 7 "PairedChannelsModel" "s" "[I") (List.mem_of_getElem? (i := 1) (by decide +kernel))) (fun _ h9 => h9) rfl dX4_wordOf_17 ?_
  refine lv_iconst (v := 0) hx hb dX4_wordOf_20 (by decide) ?_
  refine wa_iald hx hb hK hP 1 0 rfl rfl (0) rfl (by omega) (by decide) dX4_wordOf_21 ?_
  refine lv_eqi (nI n) (rfl) ?_
  refine gR_i (va_runS (As := [.int (wrd mask (x ||| ((chk x (bdB mask n sf) (ckB mask n sf)) <<< ((nI (bdB mask n sf)) &&& 31))) n), .int (nI n)]) (rest := []) ⟨hx, hb, hml, hown, hts⟩ (c_X4_coded l D K (wrd mask (x ||| ((chk x (bdB mask n sf) (ckB mask n sf)) <<< ((nI (bdB mask n sf)) &&& 31))) n) n (hn.n1)) (va_cwS 2 hts gX4_wordOf_X4_coded rfl rfl rfl (by decide +kernel) ⟨Nat.le_of_ble_eq_true rfl, Nat.le_of_ble_eq_true rfl⟩) (gR_pre hE hS hK hP [] rfl) rfl rfl hl.1 rfl (lv_room (Nat.le_of_ble_eq_true rfl)) dX4_wordOf_22 ⟨Nat.le_of_ble_eq_true rfl, Nat.le_of_ble_eq_true rfl⟩) hS hP (fun rv8 H locs h7 hP hS => ?_)
  have h7 : rv8 = cod (wrd mask (x ||| ((chk x (bdB mask n sf) (ckB mask n sf)) <<< ((nI (bdB mask n sf)) &&& 31))) n) n := h7
  subst h7
  exact gR_iret (v := cod (wrd mask (x ||| ((chk x (bdB mask n sf) (ckB mask n sf)) <<< ((nI (bdB mask n sf)) &&& 31))) n) n) hx hb hr hlk (rfl) hS (rfl) dX4_wordOf_25
