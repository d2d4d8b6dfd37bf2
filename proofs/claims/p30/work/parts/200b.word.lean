set_option maxHeartbeats 4000000 in
set_option maxRecDepth 100000 in
theorem c_X2_openPlaces (l : Launch) (D : va_G) (K : Nat → ClassId) (h0 : Nat) (hv : Nat) (hs : Nat) (n : Nat) (mask : Int32) (hn : okN n) (hm : okM mask n) : MRi l yX2_openPlaces wsX2_openPlaces ({ frames := 1, cells := 0, slots := 0, locals := 20 } : Room) D (gTy K) [.ref h0] [(h0, .inr (2, [.ref hv, .ref hs, .int (nI n), .int mask]))] (fun r => r = nI (cntO mask n)) := by
  refine g_ofR (cc := cX2_openPlaces) (maxL := 1) (ret := (some .int)) (own := RX2) (by decide) rfl rfl (Nat.le_of_ble_eq_true rfl) ?_
  intro pp ee s mm below meth cc hfx hK hP hE hS ls hl
  obtain ⟨hx, hb, hr, hml, hown, hts, hlk⟩ := hfx
  have hl : lv_has ls 1 [(0, .ref h0)] := hl
  have hi2 : ∀ w ∈ u_ws RX2 TX2 4, w ∈ wsX2_openPlaces := fun w h => List.mem_cons_of_mem _ (List.mem_append_right _ (h))
  refine lv_aload_n hx hb dX2_openPlaces_0 rfl (lv_at hl 0 rfl) ?_
  refine va_get (D := D) (ci := 2) (v := .int mask) (C := RX2) (T := TX2) (N := 4) hx hb hts hi2 hown hK hP 0 rfl rfl 3 (by decide) (hts (.fieldLink RX2 28 "PairedChannels$Word" "openMask" "I") (List.mem_of_getElem? (i := 1) (by decide +kernel))) (fun _ h9 => h9) rfl dX2_openPlaces_1 ?_
  obtain ⟨k, hk, h6, ek⟩ := hm.N hn
  refine lv_eqi (nI k) (ek) ?_
  refine gR_i (va_runS (As := [.int (nI k)]) (rest := []) ⟨hx, hb, hml, hown, hts⟩ (c_J6_bitCount_0f7a4 l D K k (by first | assumption | omega)) (va_cwS 1 hts gX2_openPlaces_J6_bitCount_0f7a4 rfl rfl rfl (by decide +kernel) ⟨Nat.le_of_ble_eq_true rfl, Nat.le_of_ble_eq_true rfl⟩) (gR_pre hE hS hK hP [] rfl) rfl rfl hl.1 rfl (lv_room (Nat.le_of_ble_eq_true rfl)) dX2_openPlaces_4 ⟨Nat.le_of_ble_eq_true rfl, Nat.le_of_ble_eq_true rfl⟩) hS hP (fun rv2 H locs h1 hP hS => ?_)
  have h1 : rv2 = nI (cntO (nI k) 16) := h1
  subst h1
  exact gR_iret (v := nI (cntO (nI k) 16)) hx hb hr hlk (rfl) hS (by rw [← ek, cntO_all hm hn]) dX2_openPlaces_7

set_option maxHeartbeats 4000000 in
set_option maxRecDepth 100000 in
theorem c_X2_openPlacesBefore (l : Launch) (D : va_G) (K : Nat → ClassId) (h0 : Nat) (hv : Nat) (hs : Nat) (n : Nat) (mask : Int32) (pl : Nat) (hn : okN n) (hm : okM mask n) (hp : pl ≤ 16) : MRi l yX2_openPlacesBefore wsX2_openPlacesBefore ({ frames := 1, cells := 0, slots := 0, locals := 20 } : Room) D (gTy K) [.ref h0, .int (nI pl)] [(h0, .inr (2, [.ref hv, .ref hs, .int (nI n), .int mask]))] (fun r => r = nI (cntO mask pl)) := by
  refine g_ofR (cc := cX2_openPlacesBefore) (maxL := 2) (ret := (some .int)) (own := RX2) (by decide) rfl rfl (Nat.le_of_ble_eq_true rfl) ?_
  intro pp ee s mm below meth cc hfx hK hP hE hS ls hl
  obtain ⟨hx, hb, hr, hml, hown, hts, hlk⟩ := hfx
  have hl : lv_has ls 2 [(0, .ref h0), (1, .int (nI pl))] := hl
  have hi2 : ∀ w ∈ u_ws RX2 TX2 4, w ∈ wsX2_openPlacesBefore := fun w h => List.mem_cons_of_mem _ (List.mem_append_right _ (h))
  obtain ⟨k, hk, h6, ek⟩ := hm.N hn
  refine lv_aload_n hx hb dX2_openPlacesBefore_0 rfl (lv_at hl 0 rfl) ?_
  refine va_get (D := D) (ci := 2) (v := .int mask) (C := RX2) (T := TX2) (N := 4) hx hb hts hi2 hown hK hP 0 rfl rfl 3 (by decide) (hts (.fieldLink RX2 28 "PairedChannels$Word" "openMask" "I") (List.mem_of_getElem? (i := 1) (by decide +kernel))) (fun _ h9 => h9) rfl dX2_openPlacesBefore_1 ?_
  refine lv_iconst (v := 1) hx hb dX2_openPlacesBefore_4 (by decide) ?_
  refine lv_iload_n hx hb dX2_openPlacesBefore_5 rfl (lv_at hl 1 rfl) ?_
  refine lv_ishl hx hb dX2_openPlacesBefore_6 ?_
  refine lv_iconst (v := 1) hx hb dX2_openPlacesBefore_7 (by decide) ?_
  refine lv_isub hx hb dX2_openPlacesBefore_8 ?_
  refine lv_iand hx hb dX2_openPlacesBefore_9 ?_
  refine lv_eqi (nI (k % 2 ^ pl)) (by rw [ek]; exact low_N k (by omega)) ?_
  refine gR_i (va_runS (As := [.int (nI (k % 2 ^ pl))]) (rest := []) ⟨hx, hb, hml, hown, hts⟩ (c_J6_bitCount_0f7a4 l D K (k % 2 ^ pl) (Nat.lt_of_le_of_lt (Nat.mod_le _ _) h6)) (va_cwS 1 hts gX2_openPlacesBefore_J6_bitCount_0f7a4 rfl rfl rfl (by decide +kernel) ⟨Nat.le_of_ble_eq_true rfl, Nat.le_of_ble_eq_true rfl⟩) (gR_pre hE hS hK hP [] rfl) rfl rfl hl.1 rfl (lv_room (Nat.le_of_ble_eq_true rfl)) dX2_openPlacesBefore_10 ⟨Nat.le_of_ble_eq_true rfl, Nat.le_of_ble_eq_true rfl⟩) hS hP (fun rv2 H locs h1 hP hS => ?_)
  have h1 : rv2 = nI (cntO (nI (k % 2 ^ pl)) 16) := h1
  subst h1
  exact gR_iret (v := nI (cntO (nI (k % 2 ^ pl)) 16)) hx hb hr hlk (rfl) hS (by rw [cntO_low h6 hp, ← ek]) dX2_openPlacesBefore_13

set_option maxHeartbeats 4000000 in
set_option maxRecDepth 100000 in
theorem c_X2_checkBits (l : Launch) (D : va_G) (K : Nat → ClassId) (h0 : Nat) (hv : Nat) (hs : Nat) (n : Nat) (mask : Int32) (sf : Nat → Int32) (hn : okN n) (hm : okM mask n) (hsf : okS sf) : MRi l yX2_checkBits wsX2_checkBits ({ frames := 2, cells := 0, slots := 0, locals := 40 } : Room) D (gTy K) [.ref h0] [(h0, .inr (2, [.ref hv, .ref hs, .int (nI n), .int mask])), (hs, .inl (K 0, 4, .inl sf))] (fun r => r = nI (ckB mask n sf)) := by
  refine g_ofR (cc := cX2_checkBits) (maxL := 1) (ret := (some .int)) (own := RX2) (by decide) rfl rfl (Nat.le_of_ble_eq_true rfl) ?_
  intro pp ee s mm below meth cc hfx hK hP hE hS ls hl
  obtain ⟨hx, hb, hr, hml, hown, hts, hlk⟩ := hfx
  have hl : lv_has ls 1 [(0, .ref h0)] := hl
  have hi2 : ∀ w ∈ u_ws RX2 TX2 4, w ∈ wsX2_checkBits := fun w h => List.mem_cons_of_mem _ (List.mem_append_right _ (h))
  refine lv_aload_n hx hb dX2_checkBits_0 rfl (lv_at hl 0 rfl) ?_
  refine va_get (D := D) (ci := 2) (v := .ref hs) (C := RX2) (T := TX2) (N := 4) hx hb hts hi2 hown hK hP 0 rfl rfl 1 (by decide) (hts (.fieldLink RX2 15 "PairedChannels$Word" "settings" "[I") (List.mem_of_getElem? (i := 1) (by decide +kernel))) (fun _ h9 => h9) rfl dX2_checkBits_1 ?_
  refine lv_iconst (v := 2) hx hb dX2_checkBits_4 (by decide) ?_
  refine wa_iald hx hb hK hP 1 0 rfl rfl (2) rfl (by omega) (by decide) dX2_checkBits_5 ?_
  refine lv_aload_n hx hb dX2_checkBits_6 rfl (lv_at hl 0 rfl) ?_
  refine gR_i (va_runV (As := []) (rest := [.int (sf 2)]) ⟨hx, hb, hml, hown, hts⟩ (c_X2_openPlaces l D K h0 hv hs n mask (by first | assumption | omega) (by first | assumption | omega)) (cwV 0 hts gX2_checkBits_X2_openPlaces rfl rfl rfl (by decide +kernel) ⟨Nat.le_of_ble_eq_true rfl, Nat.le_of_ble_eq_true rfl⟩) (gR_preV hE hS hK hP [0] rfl 0 rfl rfl rfl) rfl rfl hl.1 rfl (lv_room (Nat.le_of_ble_eq_true rfl)) dX2_checkBits_7 ⟨Nat.le_of_ble_eq_true rfl, Nat.le_of_ble_eq_true rfl⟩) hS hP (fun rv2 H locs h1 hP hS => ?_)
  have h1 : rv2 = nI (cntO mask n) := h1
  subst h1
  refine va_mmin hx hb (hml.trans hl.1.symm) hown (hts (.methodLink RX2 41 Lib.Math.min.name) (List.mem_of_getElem? (i := 2) (by decide +kernel))) (hts (.static Lib.Math.min.name) (List.mem_of_getElem? (i := 3) (by decide +kernel))) (hts (.initialized "java/lang/Math") (List.mem_of_getElem? (i := 4) (by decide +kernel))) (hts (.code Lib.Math.min.name Lib.Math.min.code 2 (some .int)) (List.mem_of_getElem? (i := 5) (by decide +kernel))) (Nat.le_of_ble_eq_true rfl) (Nat.le_of_ble_eq_true rfl) (Nat.zero_le _) (Nat.zero_le _) dX2_checkBits_10 ?_
  refine lv_eqi (nI (ckB mask n sf)) (ck_min hsf hn.le.2) ?_
  exact gR_iret (v := nI (ckB mask n sf)) hx hb hr hlk (rfl) hS (rfl) dX2_checkBits_13

set_option maxHeartbeats 4000000 in
set_option maxRecDepth 100000 in
theorem c_X2_bodyBits (l : Launch) (D : va_G) (K : Nat → ClassId) (h0 : Nat) (hv : Nat) (hs : Nat) (n : Nat) (mask : Int32) (sf : Nat → Int32) (hn : okN n) (hm : okM mask n) (hsf : okS sf) : MRi l yX2_bodyBits wsX2_bodyBits ({ frames := 3, cells := 0, slots := 0, locals := 60 } : Room) D (gTy K) [.ref h0] [(h0, .inr (2, [.ref hv, .ref hs, .int (nI n), .int mask])), (hs, .inl (K 0, 4, .inl sf))] (fun r => r = nI (bdB mask n sf)) := by
  refine g_ofR (cc := cX2_bodyBits) (maxL := 1) (ret := (some .int)) (own := RX2) (by decide) rfl rfl (Nat.le_of_ble_eq_true rfl) ?_
  intro pp ee s mm below meth cc hfx hK hP hE hS ls hl
  obtain ⟨hx, hb, hr, hml, hown, hts, hlk⟩ := hfx
  have hl : lv_has ls 1 [(0, .ref h0)] := hl
  refine lv_aload_n hx hb dX2_bodyBits_0 rfl (lv_at hl 0 rfl) ?_
  refine gR_i (va_runV (As := []) (rest := []) ⟨hx, hb, hml, hown, hts⟩ (c_X2_openPlaces l D K h0 hv hs n mask (by first | assumption | omega) (by first | assumption | omega)) (cwV 0 hts gX2_bodyBits_X2_openPlaces rfl rfl rfl (by decide +kernel) ⟨Nat.le_of_ble_eq_true rfl, Nat.le_of_ble_eq_true rfl⟩) (gR_preV hE hS hK hP [0] rfl 0 rfl rfl rfl) rfl rfl hl.1 rfl (lv_room (Nat.le_of_ble_eq_true rfl)) dX2_bodyBits_1 ⟨Nat.le_of_ble_eq_true rfl, Nat.le_of_ble_eq_true rfl⟩) hS hP (fun rv2 H locs h1 hP hS => ?_)
  have h1 : rv2 = nI (cntO mask n) := h1
  subst h1
  refine lv_aload_n hx hb dX2_bodyBits_4 rfl (lv_at hl 0 rfl) ?_
  refine gR_i (va_runV (As := []) (rest := [.int (nI (cntO mask n))]) ⟨hx, hb, hml, hown, hts⟩ (c_X2_checkBits l D K h0 hv hs n mask sf (by first | assumption | omega) (by first | assumption | omega) (by first | assumption | omega)) (cwV 0 hts gX2_bodyBits_X2_checkBits rfl rfl rfl (by decide +kernel) ⟨Nat.le_of_ble_eq_true rfl, Nat.le_of_ble_eq_true rfl⟩) (gR_preV hE hS hK hP [0, 1] rfl 0 rfl rfl rfl) rfl rfl hl.1 rfl (lv_room (Nat.le_of_ble_eq_true rfl)) dX2_bodyBits_5 ⟨Nat.le_of_ble_eq_true rfl, Nat.le_of_ble_eq_true rfl⟩) hS hP (fun rv4 H locs h3 hP hS => ?_)
  have h3 : rv4 = nI (ckB mask n sf) := h3
  subst h3
  refine lv_isub hx hb dX2_bodyBits_8 ?_
  refine lv_eqi (nI (bdB mask n sf)) (pk_sub (ckB_le mask n sf)) ?_
  exact gR_iret (v := nI (bdB mask n sf)) hx hb hr hlk (rfl) hS (rfl) dX2_bodyBits_9

set_option maxHeartbeats 4000000 in
set_option maxRecDepth 100000 in
theorem c_X2_isForCheckBit (l : Launch) (D : va_G) (K : Nat → ClassId) (h0 : Nat) (hv : Nat) (hs : Nat) (n : Nat) (mask : Int32) (sf : Nat → Int32) (pl : Nat) (hn : okN n) (hm : okM mask n) (hsf : okS sf) (hp : pl ≤ 16) : MRi l yX2_isForCheckBit wsX2_isForCheckBit ({ frames := 4, cells := 0, slots := 0, locals := 80 } : Room) D (gTy K) [.ref h0, .int (nI pl)] [(h0, .inr (2, [.ref hv, .ref hs, .int (nI n), .int mask])), (hs, .inl (K 0, 4, .inl sf))] (fun r => r = (if opn mask pl ∧ bdB mask n sf ≤ cntO mask pl then 1 else 0)) := by
  refine g_ofR (cc := cX2_isForCheckBit) (maxL := 2) (ret := (some .boolean)) (own := RX2) (by decide) rfl rfl (Nat.le_of_ble_eq_true rfl) ?_
  intro pp ee s mm below meth cc hfx hK hP hE hS ls hl
  obtain ⟨hx, hb, hr, hml, hown, hts, hlk⟩ := hfx
  have hl : lv_has ls 2 [(0, .ref h0), (1, .int (nI pl))] := hl
  have h16 := hn.le
  have hc1 := cntO_le mask pl
  have hb1 := bdB_le mask n sf
  refine lv_aload_n hx hb dX2_isForCheckBit_0 rfl (lv_at hl 0 rfl) ?_
  refine lv_iload_n hx hb dX2_isForCheckBit_1 rfl (lv_at hl 1 rfl) ?_
  refine gR_i (va_runV (As := [.int (nI pl)]) (rest := []) ⟨hx, hb, hml, hown, hts⟩ (c_X2_isOpen l D K h0 hv hs n mask pl ) (cwV 1 hts gX2_isForCheckBit_X2_isOpen rfl rfl rfl (by decide +kernel) ⟨Nat.le_of_ble_eq_true rfl, Nat.le_of_ble_eq_true rfl⟩) (gR_preV hE hS hK hP [0] rfl 0 rfl rfl rfl) rfl rfl hl.1 rfl (lv_room (Nat.le_of_ble_eq_true rfl)) dX2_isForCheckBit_2 ⟨Nat.le_of_ble_eq_true rfl, Nat.le_of_ble_eq_true rfl⟩) hS hP (fun rv2 H locs h1 hP hS => ?_)
  have h1 : rv2 = (if opn mask pl then 1 else 0) := h1
  subst h1
  refine lv_if_eq (tgt := 24) hx hb dX2_isForCheckBit_5 (by decide) (fun c1 => ?_) (fun c1 => ?_)
  · skip
    have c1 : ¬ (opn mask pl) := b_eq0 c1
    refine lv_iconst (v := 0) hx hb dX2_isForCheckBit_24 (by decide) ?_
    exact gR_iret (v := 0) hx hb hr hlk (rfl) hS (by first | (first | exact (g_ip ⟨c1, c2⟩ rfl) | exact (g_tp ⟨c1, c2⟩ rfl) | exact (g_ap ⟨c1, c2⟩ rfl)) | (first | exact (g_ip ⟨c1, by omega⟩ rfl) | exact (g_tp ⟨c1, by omega⟩ rfl) | exact (g_ap ⟨c1, by omega⟩ rfl)) | (first | exact (g_in (fun h => c1 h.1) rfl) | exact (g_tn (fun h => c1 h.1) rfl) | exact (g_an (fun h => c1 h.1) rfl)) | (first | exact (g_in (fun h => c2 h.2) rfl) | exact (g_tn (fun h => c2 h.2) rfl) | exact (g_an (fun h => c2 h.2) rfl)) | (first | exact (g_in (fun h => absurd h.2 (by omega)) rfl) | exact (g_tn (fun h => absurd h.2 (by omega)) rfl) | exact (g_an (fun h => absurd h.2 (by omega)) rfl))) dX2_isForCheckBit_25
  · skip
    have c1 : opn mask pl := b_ne0 c1
    refine lv_aload_n hx hb dX2_isForCheckBit_8 rfl (lv_at hl 0 rfl) ?_
    refine lv_iload_n hx hb dX2_isForCheckBit_9 rfl (lv_at hl 1 rfl) ?_
    refine gR_i (va_runV (As := [.int (nI pl)]) (rest := []) ⟨hx, hb, hml, hown, hts⟩ (c_X2_openPlacesBefore l D K h0 hv hs n mask pl (by first | assumption | omega) (by first | assumption | omega) (by first | assumption | omega)) (cwV 1 hts gX2_isForCheckBit_X2_openPlacesBefore rfl rfl rfl (by decide +kernel) ⟨Nat.le_of_ble_eq_true rfl, Nat.le_of_ble_eq_true rfl⟩) (gR_preV hE hS hK hP [0] rfl 0 rfl rfl rfl) rfl rfl hl.1 rfl (lv_room (Nat.le_of_ble_eq_true rfl)) dX2_isForCheckBit_10 ⟨Nat.le_of_ble_eq_true rfl, Nat.le_of_ble_eq_true rfl⟩) hS hP (fun rv5 H locs h4 hP hS => ?_)
    have h4 : rv5 = nI (cntO mask pl) := h4
    subst h4
    refine lv_aload_n hx hb dX2_isForCheckBit_13 rfl (lv_at hl 0 rfl) ?_
    refine gR_i (va_runV (As := []) (rest := [.int (nI (cntO mask pl))]) ⟨hx, hb, hml, hown, hts⟩ (c_X2_bodyBits l D K h0 hv hs n mask sf (by first | assumption | omega) (by first | assumption | omega) (by first | assumption | omega)) (cwV 0 hts gX2_isForCheckBit_X2_bodyBits rfl rfl rfl (by decide +kernel) ⟨Nat.le_of_ble_eq_true rfl, Nat.le_of_ble_eq_true rfl⟩) (gR_preV hE hS hK hP [0, 1] rfl 0 rfl rfl rfl) rfl rfl hl.1 rfl (lv_room (Nat.le_of_ble_eq_true rfl)) dX2_isForCheckBit_14 ⟨Nat.le_of_ble_eq_true rfl, Nat.le_of_ble_eq_true rfl⟩) hS hP (fun rv7 H locs h6 hP hS => ?_)
    have h6 : rv7 = nI (bdB mask n sf) := h6
    subst h6
    refine lv_icmp_lt (tgt := 24) hx hb dX2_isForCheckBit_17 (by decide) (fun c2 => ?_) (fun c2 => ?_)
    · skip
      have c2 : cntO mask pl < bdB mask n sf := (nI_ltI (a := cntO mask pl) (b := bdB mask n sf) (by omega) (by omega)).mp c2
      refine lv_iconst (v := 0) hx hb dX2_isForCheckBit_24 (by decide) ?_
      exact gR_iret (v := 0) hx hb hr hlk (rfl) hS (by first | (first | exact (g_ip ⟨c1, c2⟩ rfl) | exact (g_tp ⟨c1, c2⟩ rfl) | exact (g_ap ⟨c1, c2⟩ rfl)) | (first | exact (g_ip ⟨c1, by omega⟩ rfl) | exact (g_tp ⟨c1, by omega⟩ rfl) | exact (g_ap ⟨c1, by omega⟩ rfl)) | (first | exact (g_in (fun h => c1 h.1) rfl) | exact (g_tn (fun h => c1 h.1) rfl) | exact (g_an (fun h => c1 h.1) rfl)) | (first | exact (g_in (fun h => c2 h.2) rfl) | exact (g_tn (fun h => c2 h.2) rfl) | exact (g_an (fun h => c2 h.2) rfl)) | (first | exact (g_in (fun h => absurd h.2 (by omega)) rfl) | exact (g_tn (fun h => absurd h.2 (by omega)) rfl) | exact (g_an (fun h => absurd h.2 (by omega)) rfl))) dX2_isForCheckBit_25
    · skip
      have c2 : ¬ cntO mask pl < bdB mask n sf := fun h9 => c2 ((nI_ltI (a := cntO mask pl) (b := bdB mask n sf) (by omega) (by omega)).mpr h9)
      refine lv_iconst (v := 1) hx hb dX2_isForCheckBit_20 (by decide) ?_
      refine lv_goto (tgt := 25) hx hb dX2_isForCheckBit_21 (by decide) ?_
      exact gR_iret (v := 1) hx hb hr hlk (rfl) hS (by first | (first | exact (g_ip ⟨c1, c2⟩ rfl) | exact (g_tp ⟨c1, c2⟩ rfl) | exact (g_ap ⟨c1, c2⟩ rfl)) | (first | exact (g_ip ⟨c1, by omega⟩ rfl) | exact (g_tp ⟨c1, by omega⟩ rfl) | exact (g_ap ⟨c1, by omega⟩ rfl)) | (first | exact (g_in (fun h => c1 h.1) rfl) | exact (g_tn (fun h => c1 h.1) rfl) | exact (g_an (fun h => c1 h.1) rfl)) | (first | exact (g_in (fun h => c2 h.2) rfl) | exact (g_tn (fun h => c2 h.2) rfl) | exact (g_an (fun h => c2 h.2) rfl)) | (first | exact (g_in (fun h => absurd h.2 (by omega)) rfl) | exact (g_tn (fun h => absurd h.2 (by omega)) rfl) | exact (g_an (fun h => absurd h.2 (by omega)) rfl))) dX2_isForCheckBit_25

set_option maxHeartbeats 4000000 in
set_option maxRecDepth 100000 in
theorem c_X2_unsureness (l : Launch) (D : va_G) (K : Nat → ClassId) (h0 : Nat) (hv : Nat) (hs : Nat) (n : Nat) (mask : Int32) (sf : Nat → Int32) (pl : Nat) (hn : okN n) (hp : pl < 16) : MRi l yX2_unsureness wsX2_unsureness ({ frames := 0, cells := 0, slots := 0, locals := 0 } : Room) D (gTy K) [.ref h0, .int (nI pl)] [(h0, .inr (2, [.ref hv, .ref hs, .int (nI n), .int mask])), (hs, .inl (K 0, 4, .inl sf))] (fun r => r = uns sf n pl) := by
  refine g_ofR (cc := cX2_unsureness) (maxL := 7) (ret := (some .int)) (own := RX2) (by decide) rfl rfl (Nat.le_of_ble_eq_true rfl) ?_
  intro pp ee s mm below meth cc hfx hK hP hE hS ls hl
  obtain ⟨hx, hb, hr, hml, hown, hts, hlk⟩ := hfx
  have hl : lv_has ls 7 [(0, .ref h0), (1, .int (nI pl))] := hl
  have hi2 : ∀ w ∈ u_ws RX2 TX2 4, w ∈ wsX2_unsureness := fun w h => List.mem_cons_of_mem _ (List.mem_append_right _ (h))
  have hnl := hn.le
  refine lv_aload_n hx hb dX2_unsureness_0 rfl (lv_at hl 0 rfl) ?_
  refine va_get (D := D) (ci := 2) (v := .ref hs) (C := RX2) (T := TX2) (N := 4) hx hb hts hi2 hown hK hP 0 rfl rfl 1 (by decide) (hts (.fieldLink RX2 15 "PairedChannels$Word" "settings" "[I") (List.mem_of_getElem? (i := 1) (by decide +kernel))) (fun _ h9 => h9) rfl dX2_unsureness_1 ?_
  refine lv_iconst (v := 0) hx hb dX2_unsureness_4 (by decide) ?_
  refine wa_iald hx hb hK hP 1 0 rfl rfl (0) rfl (by omega) (by decide) dX2_unsureness_5 ?_
  refine lv_i2l (v := ((sf 0).toInt64)) hx hb dX2_unsureness_6 rfl ?_
  refine lv_ldc2 hx hb hown (hts (.constantLong RX2 60 (1000)) (List.mem_of_getElem? (i := 2) (by decide +kernel))) dX2_unsureness_7 ?_
  refine lv_lmul hx hb dX2_unsureness_10 ?_
  refine lv_lstore_n (lv' := [(2, .long (((sf 0).toInt64) * 1000)), (0, .ref h0), (1, .int (nI pl))]) hx hb dX2_unsureness_11 rfl hl (by decide) rfl (fun ls hl => ?_)
  refine lv_aload_n hx hb dX2_unsureness_12 rfl (lv_at hl 1 rfl) ?_
  refine va_get (D := D) (ci := 2) (v := .int (nI n)) (C := RX2) (T := TX2) (N := 4) hx hb hts hi2 hown hK hP 0 rfl rfl 2 (by decide) (hts (.fieldLink RX2 18 "PairedChannels$Word" "places" "I") (List.mem_of_getElem? (i := 3) (by decide +kernel))) (fun _ h9 => h9) rfl dX2_unsureness_13 ?_
  refine lv_iconst (v := 2) hx hb dX2_unsureness_16 (by decide) ?_
  refine lv_idiv hx hb dX2_unsureness_17 (by decide) ?_
  refine lv_eqi (nI (n / 2)) (pk_div (a := n) (d := 2) (by omega) (by omega) (by omega)) ?_
  refine lv_istore (lv' := [(4, .int (nI (n / 2))), (2, .long (((sf 0).toInt64) * 1000)), (0, .ref h0), (1, .int (nI pl))]) hx hb dX2_unsureness_18 hl (by decide) rfl (fun ls hl => ?_)
  have e9 : (nI (n / 2)) = (nI (2 ^ (lg n) / 2)) := by rw [← lg_pow hn.n1]
  rw [e9] at hl
  refine g_loopD (st := []) (N := (lg n)) (fun k H locs ls => ∃ z : Int64, (k ≤ 4 ∧ unsZ pl k z = unsZ pl (lg n) ((sf 0).toInt64 * 1000)) ∧ va_P D vwCl [(h0, .inr (2, [.ref hv, .ref hs, .int (nI n), .int mask])), (hs, .inl (K 0, 4, .inl sf))] H ∧ va_S gNo s.heap H locs ∧ lv_has ls 7 [(4, .int (nI (2 ^ k / 2))), (2, .long z), (0, .ref h0), (1, .int (nI pl))])  ?_ ?_ ?_
  · intro H locs ls hI
    obtain ⟨z, ⟨hk4, hz⟩, hP, hS, hl⟩ := hI
    have hz : z = _ := hz
    refine lv_iload hx hb dX2_unsureness_20 (lv_at hl 0 rfl) ?_
    refine lv_if_le (tgt := 64) hx hb dX2_unsureness_22 (by decide) (fun c0 => ?_) (fun c0 => ?_)
    · skip
      have c0 : 2 ^ 0 / 2 ≤ 0 := (nI_leI (a := 2 ^ 0 / 2) (b := 0) (by omega) (by omega)).mp c0
      refine lv_lload_n hx hb dX2_unsureness_64 rfl (lv_at hl 1 rfl) ?_
      refine lv_l2i (v := (z.toInt32)) hx hb dX2_unsureness_65 rfl ?_
      exact gR_iret (v := (z.toInt32)) hx hb hr hlk (rfl) hS (by rw [hz]; rfl) dX2_unsureness_66
    · skip
      have c0 : ¬ 2 ^ 0 / 2 ≤ 0 := fun h9 => c0 ((nI_leI (a := 2 ^ 0 / 2) (b := 0) (by omega) (by omega)).mpr h9)
      exact absurd c0 (by decide)
  · intro k ih1 H locs ls hI
    obtain ⟨z, ⟨hk4, hz⟩, hP, hS, hl⟩ := hI
    have hpw := pw_le (k := k) (by omega)
    have hph := pw_half k
    refine lv_iload hx hb dX2_unsureness_20 (lv_at hl 0 rfl) ?_
    refine lv_if_le (tgt := 64) hx hb dX2_unsureness_22 (by decide) (fun c0 => ?_) (fun c0 => ?_)
    · skip
      have c0 : 2 ^ (k + 1) / 2 ≤ 0 := (nI_leI (a := 2 ^ (k + 1) / 2) (b := 0) (by omega) (by omega)).mp c0
      omega
    · skip
      have c0 : ¬ 2 ^ (k + 1) / 2 ≤ 0 := fun h9 => c0 ((nI_leI (a := 2 ^ (k + 1) / 2) (b := 0) (by omega) (by omega)).mpr h9)
      refine lv_lload_n hx hb dX2_unsureness_25 rfl (lv_at hl 1 rfl) ?_
      refine lv_lload_n hx hb dX2_unsureness_26 rfl (lv_at hl 1 rfl) ?_
      refine lv_lmul hx hb dX2_unsureness_27 ?_
      refine lv_ldc2 hx hb hown (hts (.constantLong RX2 62 (1000000)) (List.mem_of_getElem? (i := 4) (by decide +kernel))) dX2_unsureness_28 ?_
      refine lv_ldiv hx hb dX2_unsureness_31 (by decide) ?_
      refine lv_lstore (lv' := [(5, .long ((z * z) / 1000000)), (4, .int (nI (2 ^ (k + 1) / 2))), (2, .long z), (0, .ref h0), (1, .int (nI pl))]) hx hb dX2_unsureness_32 hl (by decide) rfl (fun ls hl => ?_)
      refine lv_iload_n hx hb dX2_unsureness_34 rfl (lv_at hl 4 rfl) ?_
      refine lv_iload hx hb dX2_unsureness_35 (lv_at hl 1 rfl) ?_
      refine lv_iand hx hb dX2_unsureness_37 ?_
      refine g_cut (F0 mm 54 ls [.long (if (nI pl &&& nI (2 ^ (k + 1) / 2)) = 0 then ((2 * z) - ((z * z) / 1000000)) else ((z * z) / 1000000))]) (fun hJ => ?_) ?_
      · refine lv_if_ne (tgt := 52) hx hb dX2_unsureness_38 (by decide) (fun c38 => ?_) (fun c38 => ?_)
        · skip
          refine lv_lload hx hb dX2_unsureness_52 (lv_at hl 0 rfl) ?_
          refine lv_eql ((if (nI pl &&& nI (2 ^ (k + 1) / 2)) = 0 then ((2 * z) - ((z * z) / 1000000)) else ((z * z) / 1000000))) (if_neg c38).symm ?_
          exact hJ
        · skip
          refine lv_ldc2 hx hb hown (hts (.constantLong RX2 64 (2)) (List.mem_of_getElem? (i := 5) (by decide +kernel))) dX2_unsureness_41 ?_
          refine lv_lload_n hx hb dX2_unsureness_44 rfl (lv_at hl 2 rfl) ?_
          refine lv_lmul hx hb dX2_unsureness_45 ?_
          refine lv_lload hx hb dX2_unsureness_46 (lv_at hl 0 rfl) ?_
          refine lv_lsub hx hb dX2_unsureness_48 ?_
          refine lv_goto (tgt := 54) hx hb dX2_unsureness_49 (by decide) ?_
          refine lv_eql ((if (nI pl &&& nI (2 ^ (k + 1) / 2)) = 0 then ((2 * z) - ((z * z) / 1000000)) else ((z * z) / 1000000))) (if_pos c38).symm ?_
          exact hJ
      · skip
        refine lv_lstore_n (lv' := [(2, .long (if (nI pl &&& nI (2 ^ (k + 1) / 2)) = 0 then ((2 * z) - ((z * z) / 1000000)) else ((z * z) / 1000000))), (5, .long ((z * z) / 1000000)), (4, .int (nI (2 ^ (k + 1) / 2))), (0, .ref h0), (1, .int (nI pl))]) hx hb dX2_unsureness_54 rfl hl (by decide) rfl (fun ls hl => ?_)
        refine lv_iload hx hb dX2_unsureness_55 (lv_at hl 2 rfl) ?_
        refine lv_iconst (v := 2) hx hb dX2_unsureness_57 (by decide) ?_
        refine lv_idiv hx hb dX2_unsureness_58 (by decide) ?_
        refine lv_eqi (nI ((2 ^ (k + 1) / 2) / 2)) (pk_div (a := 2 ^ (k + 1) / 2) (d := 2) (by omega) (by omega) (by omega)) ?_
        refine lv_istore (lv' := [(4, .int (nI ((2 ^ (k + 1) / 2) / 2))), (2, .long (if (nI pl &&& nI (2 ^ (k + 1) / 2)) = 0 then ((2 * z) - ((z * z) / 1000000)) else ((z * z) / 1000000))), (5, .long ((z * z) / 1000000)), (0, .ref h0), (1, .int (nI pl))]) hx hb dX2_unsureness_59 hl (by decide) rfl (fun ls hl => ?_)
        refine lv_goto (tgt := 20) hx hb dX2_unsureness_61 (by decide) ?_
        have e9 : (nI ((2 ^ (k + 1) / 2) / 2)) = (nI (2 ^ k / 2)) := by rw [hph]
        rw [e9] at hl
        exact ih1 H locs ls ⟨(if (nI pl &&& nI (2 ^ (k + 1) / 2)) = 0 then ((2 * z) - ((z * z) / 1000000)) else ((z * z) / 1000000)), (⟨by omega, by rw [← hz]; show _ = unsZ pl k (ustep z (pl / 2 ^ k % 2)); unfold ustep; exact congrArg (unsZ pl k) (g_iff (and_dig (by omega) (by omega)) _ _)⟩), hP, hS, lv_sub hl [0, 1, 3, 4] rfl⟩
  · exact ⟨_, (⟨lg_le hn.n1, rfl⟩), hP, hS, lv_sub hl [0, 1, 2, 3] rfl⟩

set_option maxHeartbeats 4000000 in
set_option maxRecDepth 100000 in
theorem c_X2_sureRank (l : Launch) (D : va_G) (K : Nat → ClassId) (h0 : Nat) (hv : Nat) (hs : Nat) (n : Nat) (mask : Int32) (sf : Nat → Int32) (pl : Nat) (hn : okN n) (hp : pl < n) : MRi l yX2_sureRank wsX2_sureRank ({ frames := 1, cells := 0, slots := 0, locals := 26 } : Room) D (gTy K) [.ref h0, .int (nI pl)] [(h0, .inr (2, [.ref hv, .ref hs, .int (nI n), .int mask])), (hs, .inl (K 0, 4, .inl sf))] (fun r => r = nI (rnk (uns sf n) pl n)) := by
  refine g_ofR (cc := cX2_sureRank) (maxL := 6) (ret := (some .int)) (own := RX2) (by decide) rfl rfl (Nat.le_of_ble_eq_true rfl) ?_
  intro pp ee s mm below meth cc hfx hK hP hE hS ls hl
  obtain ⟨hx, hb, hr, hml, hown, hts, hlk⟩ := hfx
  have hl : lv_has ls 6 [(0, .ref h0), (1, .int (nI pl))] := hl
  have hi2 : ∀ w ∈ u_ws RX2 TX2 4, w ∈ wsX2_sureRank := fun w h => List.mem_cons_of_mem _ (List.mem_append_right _ (h))
  have hnl := hn.le
  refine lv_aload_n hx hb dX2_sureRank_0 rfl (lv_at hl 0 rfl) ?_
  refine lv_iload_n hx hb dX2_sureRank_1 rfl (lv_at hl 1 rfl) ?_
  refine gR_i (va_runV (As := [.int (nI pl)]) (rest := []) ⟨hx, hb, hml, hown, hts⟩ (c_X2_unsureness l D K h0 hv hs n mask sf pl (by first | assumption | omega) (by first | assumption | omega)) (cwV 1 hts gX2_sureRank_X2_unsureness rfl rfl rfl (by decide +kernel) ⟨Nat.le_of_ble_eq_true rfl, Nat.le_of_ble_eq_true rfl⟩) (gR_preV hE hS hK hP [0, 1] rfl 0 rfl rfl rfl) rfl rfl hl.1 rfl (lv_room (Nat.le_of_ble_eq_true rfl)) dX2_sureRank_2 ⟨Nat.le_of_ble_eq_true rfl, Nat.le_of_ble_eq_true rfl⟩) hS hP (fun rv2 H locs h1 hP hS => ?_)
  have h1 : rv2 = uns sf n pl := h1
  subst h1
  refine lv_istore_n (lv' := [(2, .int (uns sf n pl)), (0, .ref h0), (1, .int (nI pl))]) hx hb dX2_sureRank_5 rfl hl (by decide) rfl (fun ls hl => ?_)
  refine lv_iconst (v := 0) hx hb dX2_sureRank_6 (by decide) ?_
  refine lv_istore_n (lv' := [(3, .int 0), (2, .int (uns sf n pl)), (0, .ref h0), (1, .int (nI pl))]) hx hb dX2_sureRank_7 rfl hl (by decide) rfl (fun ls hl => ?_)
  refine lv_iconst (v := 0) hx hb dX2_sureRank_8 (by decide) ?_
  refine lv_istore (lv' := [(4, .int 0), (3, .int 0), (2, .int (uns sf n pl)), (0, .ref h0), (1, .int (nI pl))]) hx hb dX2_sureRank_9 hl (by decide) rfl (fun ls hl => ?_)
  refine g_loopW (st := []) (N := n) (fun i H locs ls => va_P D vwCl [(h0, .inr (2, [.ref hv, .ref hs, .int (nI n), .int mask])), (hs, .inl (K 0, 4, .inl sf))] H ∧ va_S gNo s.heap H locs ∧ lv_has ls 6 [(4, .int (nI i)), (3, .int (nI (rnk (uns sf n) pl i))), (2, .int (uns sf n pl)), (0, .ref h0), (1, .int (nI pl))]) 0 (Nat.zero_le _) ?_ ?_ ?_
  · intro H locs ls hI
    obtain ⟨hP, hS, hl⟩ := hI
    refine lv_iload hx hb dX2_sureRank_11 (lv_at hl 0 rfl) ?_
    refine lv_aload_n hx hb dX2_sureRank_13 rfl (lv_at hl 3 rfl) ?_
    refine va_get (D := D) (ci := 2) (v := .int (nI n)) (C := RX2) (T := TX2) (N := 4) hx hb hts hi2 hown hK hP 0 rfl rfl 2 (by decide) (hts (.fieldLink RX2 18 "PairedChannels$Word" "places" "I") (List.mem_of_getElem? (i := 1) (by decide +kernel))) (fun _ h9 => h9) rfl dX2_sureRank_14 ?_
    refine lv_icmp_ge (tgt := 55) hx hb dX2_sureRank_17 (by decide) (fun c4 => ?_) (fun c4 => ?_)
    · skip
      have c4 : n ≤ n := (nI_leI (a := n) (b := n) (by omega) (by omega)).mp c4
      refine lv_iload_n hx hb dX2_sureRank_55 rfl (lv_at hl 1 rfl) ?_
      exact gR_iret (v := nI (rnk (uns sf n) pl n)) hx hb hr hlk (rfl) hS (rfl) dX2_sureRank_56
    · skip
      have c4 : ¬ n ≤ n := fun h9 => c4 ((nI_leI (a := n) (b := n) (by omega) (by omega)).mpr h9)
      omega
  · intro i hi ih3 H locs ls hI
    obtain ⟨hP, hS, hl⟩ := hI
    have hrk := rnk_le (uns sf n) pl i
    refine lv_iload hx hb dX2_sureRank_11 (lv_at hl 0 rfl) ?_
    refine lv_aload_n hx hb dX2_sureRank_13 rfl (lv_at hl 3 rfl) ?_
    refine va_get (D := D) (ci := 2) (v := .int (nI n)) (C := RX2) (T := TX2) (N := 4) hx hb hts hi2 hown hK hP 0 rfl rfl 2 (by decide) (hts (.fieldLink RX2 18 "PairedChannels$Word" "places" "I") (List.mem_of_getElem? (i := 1) (by decide +kernel))) (fun _ h9 => h9) rfl dX2_sureRank_14 ?_
    refine lv_icmp_ge (tgt := 55) hx hb dX2_sureRank_17 (by decide) (fun c5 => ?_) (fun c5 => ?_)
    · skip
      have c5 : n ≤ i := (nI_leI (a := n) (b := i) (by omega) (by omega)).mp c5
      omega
    · skip
      have c5 : ¬ n ≤ i := fun h9 => c5 ((nI_leI (a := n) (b := i) (by omega) (by omega)).mpr h9)
      refine lv_aload_n hx hb dX2_sureRank_20 rfl (lv_at hl 3 rfl) ?_
      refine lv_iload hx hb dX2_sureRank_21 (lv_at hl 0 rfl) ?_
      refine gR_i (va_runV (As := [.int (nI i)]) (rest := []) ⟨hx, hb, hml, hown, hts⟩ (c_X2_unsureness l D K h0 hv hs n mask sf i (by first | assumption | omega) (by first | assumption | omega)) (cwV 1 hts gX2_sureRank_X2_unsureness rfl rfl rfl (by decide +kernel) ⟨Nat.le_of_ble_eq_true rfl, Nat.le_of_ble_eq_true rfl⟩) (gR_preV hE hS hK hP [0, 1] rfl 0 rfl rfl rfl) rfl rfl hl.1 rfl (lv_room (Nat.le_of_ble_eq_true rfl)) dX2_sureRank_23 ⟨Nat.le_of_ble_eq_true rfl, Nat.le_of_ble_eq_true rfl⟩) hS hP (fun rv7 H locs h6 hP hS => ?_)
      have h6 : rv7 = uns sf n i := h6
      subst h6
      refine lv_istore (lv' := [(5, .int (uns sf n i)), (4, .int (nI i)), (3, .int (nI (rnk (uns sf n) pl i))), (2, .int (uns sf n pl)), (0, .ref h0), (1, .int (nI pl))]) hx hb dX2_sureRank_26 hl (by decide) rfl (fun ls hl => ?_)
      refine lv_iload hx hb dX2_sureRank_28 (lv_at hl 0 rfl) ?_
      refine lv_iload_n hx hb dX2_sureRank_30 rfl (lv_at hl 3 rfl) ?_
      refine lv_icmp_lt (tgt := 46) hx hb dX2_sureRank_31 (by decide) (fun c31 => ?_) (fun c31 => ?_)
      · skip
        refine lv_iinc (v := nI (rnk (uns sf n) pl i + 1)) (lv' := [(3, .int (nI (rnk (uns sf n) pl i + 1))), (5, .int (uns sf n i)), (4, .int (nI i)), (2, .int (uns sf n pl)), (0, .ref h0), (1, .int (nI pl))]) hx hb dX2_sureRank_46 hl (k := 2) rfl (nI_add (rnk (uns sf n) pl i) 1) (by decide) rfl (fun ls hl => ?_)
        refine lv_iinc (v := nI (i + 1)) (lv' := [(4, .int (nI (i + 1))), (3, .int (nI (rnk (uns sf n) pl i + 1))), (5, .int (uns sf n i)), (2, .int (uns sf n pl)), (0, .ref h0), (1, .int (nI pl))]) hx hb dX2_sureRank_49 hl (k := 2) rfl (nI_add i 1) (by decide) rfl (fun ls hl => ?_)
        refine lv_goto (tgt := 11) hx hb dX2_sureRank_52 (by decide) ?_
        have e9 : (nI (rnk (uns sf n) pl i + 1)) = (nI (rnk (uns sf n) pl (i + 1))) := congrArg nI (by show _ = rnk (uns sf n) pl i + (if uns sf n i < uns sf n pl ∨ (uns sf n i = uns sf n pl ∧ pl < i) then 1 else 0); first | rw [if_pos (Or.inl c31)] | (first | exact (g_ip (Or.inr ⟨c37, by omega⟩) rfl) | exact (g_tp (Or.inr ⟨c37, by omega⟩) rfl) | exact (g_ap (Or.inr ⟨c37, by omega⟩) rfl)) | (first | exact (g_in (fun h => h.elim c31 (fun h => c37 h.1)) rfl) | exact (g_tn (fun h => h.elim c31 (fun h => c37 h.1)) rfl) | exact (g_an (fun h => h.elim c31 (fun h => c37 h.1)) rfl)) | (first | exact (g_in (fun h => h.elim c31 (fun h => absurd h.2 (by omega))) rfl) | exact (g_tn (fun h => h.elim c31 (fun h => absurd h.2 (by omega))) rfl) | exact (g_an (fun h => h.elim c31 (fun h => absurd h.2 (by omega))) rfl)))
        rw [e9] at hl
        exact ih3 H locs ls ⟨hP, hS, lv_sub hl [0, 1, 3, 4, 5] rfl⟩
      · skip
        refine lv_iload hx hb dX2_sureRank_34 (lv_at hl 0 rfl) ?_
        refine lv_iload_n hx hb dX2_sureRank_36 rfl (lv_at hl 3 rfl) ?_
        refine lv_icmp_ne (tgt := 49) hx hb dX2_sureRank_37 (by decide) (fun c37 => ?_) (fun c37 => ?_)
        · skip
          refine lv_iinc (v := nI (i + 1)) (lv' := [(4, .int (nI (i + 1))), (5, .int (uns sf n i)), (3, .int (nI (rnk (uns sf n) pl i))), (2, .int (uns sf n pl)), (0, .ref h0), (1, .int (nI pl))]) hx hb dX2_sureRank_49 hl (k := 1) rfl (nI_add i 1) (by decide) rfl (fun ls hl => ?_)
          refine lv_goto (tgt := 11) hx hb dX2_sureRank_52 (by decide) ?_
          have e9 : (nI (rnk (uns sf n) pl i)) = (nI (rnk (uns sf n) pl (i + 1))) := congrArg nI (by show _ = rnk (uns sf n) pl i + (if uns sf n i < uns sf n pl ∨ (uns sf n i = uns sf n pl ∧ pl < i) then 1 else 0); first | rw [if_pos (Or.inl c31)] | (first | exact (g_ip (Or.inr ⟨c37, by omega⟩) rfl) | exact (g_tp (Or.inr ⟨c37, by omega⟩) rfl) | exact (g_ap (Or.inr ⟨c37, by omega⟩) rfl)) | (first | exact (g_in (fun h => h.elim c31 (fun h => c37 h.1)) rfl) | exact (g_tn (fun h => h.elim c31 (fun h => c37 h.1)) rfl) | exact (g_an (fun h => h.elim c31 (fun h => c37 h.1)) rfl)) | (first | exact (g_in (fun h => h.elim c31 (fun h => absurd h.2 (by omega))) rfl) | exact (g_tn (fun h => h.elim c31 (fun h => absurd h.2 (by omega))) rfl) | exact (g_an (fun h => h.elim c31 (fun h => absurd h.2 (by omega))) rfl)))
          rw [e9] at hl
          exact ih3 H locs ls ⟨hP, hS, lv_sub hl [0, 2, 3, 4, 5] rfl⟩
        · skip
          refine lv_iload hx hb dX2_sureRank_40 (lv_at hl 1 rfl) ?_
          refine lv_iload_n hx hb dX2_sureRank_42 rfl (lv_at hl 5 rfl) ?_
          refine lv_icmp_le (tgt := 49) hx hb dX2_sureRank_43 (by decide) (fun c43 => ?_) (fun c43 => ?_)
          · skip
            have c43 : i ≤ pl := (nI_leI (a := i) (b := pl) (by omega) (by omega)).mp c43
            refine lv_iinc (v := nI (i + 1)) (lv' := [(4, .int (nI (i + 1))), (5, .int (uns sf n i)), (3, .int (nI (rnk (uns sf n) pl i))), (2, .int (uns sf n pl)), (0, .ref h0), (1, .int (nI pl))]) hx hb dX2_sureRank_49 hl (k := 1) rfl (nI_add i 1) (by decide) rfl (fun ls hl => ?_)
            refine lv_goto (tgt := 11) hx hb dX2_sureRank_52 (by decide) ?_
            have e9 : (nI (rnk (uns sf n) pl i)) = (nI (rnk (uns sf n) pl (i + 1))) := congrArg nI (by show _ = rnk (uns sf n) pl i + (if uns sf n i < uns sf n pl ∨ (uns sf n i = uns sf n pl ∧ pl < i) then 1 else 0); first | rw [if_pos (Or.inl c31)] | (first | exact (g_ip (Or.inr ⟨c37, by omega⟩) rfl) | exact (g_tp (Or.inr ⟨c37, by omega⟩) rfl) | exact (g_ap (Or.inr ⟨c37, by omega⟩) rfl)) | (first | exact (g_in (fun h => h.elim c31 (fun h => c37 h.1)) rfl) | exact (g_tn (fun h => h.elim c31 (fun h => c37 h.1)) rfl) | exact (g_an (fun h => h.elim c31 (fun h => c37 h.1)) rfl)) | (first | exact (g_in (fun h => h.elim c31 (fun h => absurd h.2 (by omega))) rfl) | exact (g_tn (fun h => h.elim c31 (fun h => absurd h.2 (by omega))) rfl) | exact (g_an (fun h => h.elim c31 (fun h => absurd h.2 (by omega))) rfl)))
            rw [e9] at hl
            exact ih3 H locs ls ⟨hP, hS, lv_sub hl [0, 2, 3, 4, 5] rfl⟩
          · skip
            have c43 : ¬ i ≤ pl := fun h9 => c43 ((nI_leI (a := i) (b := pl) (by omega) (by omega)).mpr h9)
            refine lv_iinc (v := nI (rnk (uns sf n) pl i + 1)) (lv' := [(3, .int (nI (rnk (uns sf n) pl i + 1))), (5, .int (uns sf n i)), (4, .int (nI i)), (2, .int (uns sf n pl)), (0, .ref h0), (1, .int (nI pl))]) hx hb dX2_sureRank_46 hl (k := 2) rfl (nI_add (rnk (uns sf n) pl i) 1) (by decide) rfl (fun ls hl => ?_)
            refine lv_iinc (v := nI (i + 1)) (lv' := [(4, .int (nI (i + 1))), (3, .int (nI (rnk (uns sf n) pl i + 1))), (5, .int (uns sf n i)), (2, .int (uns sf n pl)), (0, .ref h0), (1, .int (nI pl))]) hx hb dX2_sureRank_49 hl (k := 2) rfl (nI_add i 1) (by decide) rfl (fun ls hl => ?_)
            refine lv_goto (tgt := 11) hx hb dX2_sureRank_52 (by decide) ?_
            have e9 : (nI (rnk (uns sf n) pl i + 1)) = (nI (rnk (uns sf n) pl (i + 1))) := congrArg nI (by show _ = rnk (uns sf n) pl i + (if uns sf n i < uns sf n pl ∨ (uns sf n i = uns sf n pl ∧ pl < i) then 1 else 0); first | rw [if_pos (Or.inl c31)] | (first | exact (g_ip (Or.inr ⟨c37, by omega⟩) rfl) | exact (g_tp (Or.inr ⟨c37, by omega⟩) rfl) | exact (g_ap (Or.inr ⟨c37, by omega⟩) rfl)) | (first | exact (g_in (fun h => h.elim c31 (fun h => c37 h.1)) rfl) | exact (g_tn (fun h => h.elim c31 (fun h => c37 h.1)) rfl) | exact (g_an (fun h => h.elim c31 (fun h => c37 h.1)) rfl)) | (first | exact (g_in (fun h => h.elim c31 (fun h => absurd h.2 (by omega))) rfl) | exact (g_tn (fun h => h.elim c31 (fun h => absurd h.2 (by omega))) rfl) | exact (g_an (fun h => h.elim c31 (fun h => absurd h.2 (by omega))) rfl)))
            rw [e9] at hl
            exact ih3 H locs ls ⟨hP, hS, lv_sub hl [0, 1, 3, 4, 5] rfl⟩
  · exact ⟨hP, hS, lv_sub hl [0, 1, 2, 3, 4] rfl⟩
