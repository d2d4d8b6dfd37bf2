set_option maxHeartbeats 4000000 in
set_option maxRecDepth 100000 in
theorem c_X2_hasRoomFor (l : Launch) (D : va_G) (K : Nat → ClassId) (h0 : Nat) (hv : Nat) (hs : Nat) (n : Nat) (mask : Int32) (sf : Nat → Int32) (q : Int32) (hn : okN n) (hm : okM mask n) (hsf : okS sf) : MRi l yX2_hasRoomFor wsX2_hasRoomFor ({ frames := 4, cells := 0, slots := 0, locals := 80 } : Room) D (gTy K) [.ref h0, .int q] [(h0, .inr (2, [.ref hv, .ref hs, .int (nI n), .int mask])), (hs, .inl (K 0, 4, .inl sf))] (fun r => r = (if 0 ≤ q ∧ q >>> (nI (bdB mask n sf) &&& 31) = 0 then 1 else 0)) := by
  refine g_ofR (cc := cX2_hasRoomFor) (maxL := 2) (ret := (some .boolean)) (own := RX2) (by decide) rfl rfl (Nat.le_of_ble_eq_true rfl) ?_
  intro pp ee s mm below meth cc hfx hK hP hE hS ls hl
  obtain ⟨hx, hb, hr, hml, hown, hts, hlk⟩ := hfx
  have hl : lv_has ls 2 [(0, .ref h0), (1, .int q)] := hl
  refine lv_iload_n hx hb dX2_hasRoomFor_0 rfl (lv_at hl 1 rfl) ?_
  refine lv_if_lt (tgt := 17) hx hb dX2_hasRoomFor_1 (by decide) (fun c1 => ?_) (fun c1 => ?_)
  · skip
    refine lv_iconst (v := 0) hx hb dX2_hasRoomFor_17 (by decide) ?_
    exact gR_iret (v := 0) hx hb hr hlk (rfl) hS (by first | (first | exact (g_ip ⟨Int32.not_lt.mp c1, c2⟩ rfl) | exact (g_tp ⟨Int32.not_lt.mp c1, c2⟩ rfl) | exact (g_ap ⟨Int32.not_lt.mp c1, c2⟩ rfl)) | (first | exact (g_in (fun h => absurd c1 (Int32.not_lt.mpr h.1)) rfl) | exact (g_tn (fun h => absurd c1 (Int32.not_lt.mpr h.1)) rfl) | exact (g_an (fun h => absurd c1 (Int32.not_lt.mpr h.1)) rfl)) | (first | exact (g_in (fun h => c2 h.2) rfl) | exact (g_tn (fun h => c2 h.2) rfl) | exact (g_an (fun h => c2 h.2) rfl))) dX2_hasRoomFor_18
  · skip
    refine lv_iload_n hx hb dX2_hasRoomFor_4 rfl (lv_at hl 1 rfl) ?_
    refine lv_aload_n hx hb dX2_hasRoomFor_5 rfl (lv_at hl 0 rfl) ?_
    refine gR_i (va_runV (As := []) (rest := [.int q]) ⟨hx, hb, hml, hown, hts⟩ (c_X2_bodyBits l D K h0 hv hs n mask sf (by first | assumption | omega) (by first | assumption | omega) (by first | assumption | omega)) (cwV 0 hts gX2_hasRoomFor_X2_bodyBits rfl rfl rfl (by decide +kernel) ⟨Nat.le_of_ble_eq_true rfl, Nat.le_of_ble_eq_true rfl⟩) (gR_preV hE hS hK hP [0, 1] rfl 0 rfl rfl rfl) rfl rfl hl.1 rfl (lv_room (Nat.le_of_ble_eq_true rfl)) dX2_hasRoomFor_6 ⟨Nat.le_of_ble_eq_true rfl, Nat.le_of_ble_eq_true rfl⟩) hS hP (fun rv3 H locs h2 hP hS => ?_)
    have h2 : rv3 = nI (bdB mask n sf) := h2
    subst h2
    refine lv_ishr hx hb dX2_hasRoomFor_9 ?_
    refine lv_if_ne (tgt := 17) hx hb dX2_hasRoomFor_10 (by decide) (fun c2 => ?_) (fun c2 => ?_)
    · skip
      refine lv_iconst (v := 0) hx hb dX2_hasRoomFor_17 (by decide) ?_
      exact gR_iret (v := 0) hx hb hr hlk (rfl) hS (by first | (first | exact (g_ip ⟨Int32.not_lt.mp c1, c2⟩ rfl) | exact (g_tp ⟨Int32.not_lt.mp c1, c2⟩ rfl) | exact (g_ap ⟨Int32.not_lt.mp c1, c2⟩ rfl)) | (first | exact (g_in (fun h => absurd c1 (Int32.not_lt.mpr h.1)) rfl) | exact (g_tn (fun h => absurd c1 (Int32.not_lt.mpr h.1)) rfl) | exact (g_an (fun h => absurd c1 (Int32.not_lt.mpr h.1)) rfl)) | (first | exact (g_in (fun h => c2 h.2) rfl) | exact (g_tn (fun h => c2 h.2) rfl) | exact (g_an (fun h => c2 h.2) rfl))) dX2_hasRoomFor_18
    · skip
      refine lv_iconst (v := 1) hx hb dX2_hasRoomFor_13 (by decide) ?_
      refine lv_goto (tgt := 18) hx hb dX2_hasRoomFor_14 (by decide) ?_
      exact gR_iret (v := 1) hx hb hr hlk (rfl) hS (by first | (first | exact (g_ip ⟨Int32.not_lt.mp c1, c2⟩ rfl) | exact (g_tp ⟨Int32.not_lt.mp c1, c2⟩ rfl) | exact (g_ap ⟨Int32.not_lt.mp c1, c2⟩ rfl)) | (first | exact (g_in (fun h => absurd c1 (Int32.not_lt.mpr h.1)) rfl) | exact (g_tn (fun h => absurd c1 (Int32.not_lt.mpr h.1)) rfl) | exact (g_an (fun h => absurd c1 (Int32.not_lt.mpr h.1)) rfl)) | (first | exact (g_in (fun h => c2 h.2) rfl) | exact (g_tn (fun h => c2 h.2) rfl) | exact (g_an (fun h => c2 h.2) rfl))) dX2_hasRoomFor_18

set_option maxHeartbeats 4000000 in
set_option maxRecDepth 100000 in
theorem c_X2_bodyOf (l : Launch) (D : va_G) (K : Nat → ClassId) (h0 : Nat) (hv : Nat) (hs : Nat) (n : Nat) (mask : Int32) (sf : Nat → Int32) (x : Int32) (hn : okN n) (hm : okM mask n) (hsf : okS sf) : MRi l yX2_bodyOf wsX2_bodyOf ({ frames := 4, cells := 0, slots := 0, locals := 80 } : Room) D (gTy K) [.ref h0, .int x] [(h0, .inr (2, [.ref hv, .ref hs, .int (nI n), .int mask])), (hs, .inl (K 0, 4, .inl sf))] (fun r => r = x &&& ((1 <<< (nI (bdB mask n sf) &&& 31)) - 1)) := by
  refine g_ofR (cc := cX2_bodyOf) (maxL := 2) (ret := (some .int)) (own := RX2) (by decide) rfl rfl (Nat.le_of_ble_eq_true rfl) ?_
  intro pp ee s mm below meth cc hfx hK hP hE hS ls hl
  obtain ⟨hx, hb, hr, hml, hown, hts, hlk⟩ := hfx
  have hl : lv_has ls 2 [(0, .ref h0), (1, .int x)] := hl
  refine lv_iload_n hx hb dX2_bodyOf_0 rfl (lv_at hl 1 rfl) ?_
  refine lv_iconst (v := 1) hx hb dX2_bodyOf_1 (by decide) ?_
  refine lv_aload_n hx hb dX2_bodyOf_2 rfl (lv_at hl 0 rfl) ?_
  refine gR_i (va_runV (As := []) (rest := [.int 1, .int x]) ⟨hx, hb, hml, hown, hts⟩ (c_X2_bodyBits l D K h0 hv hs n mask sf (by first | assumption | omega) (by first | assumption | omega) (by first | assumption | omega)) (cwV 0 hts gX2_bodyOf_X2_bodyBits rfl rfl rfl (by decide +kernel) ⟨Nat.le_of_ble_eq_true rfl, Nat.le_of_ble_eq_true rfl⟩) (gR_preV hE hS hK hP [0, 1] rfl 0 rfl rfl rfl) rfl rfl hl.1 rfl (lv_room (Nat.le_of_ble_eq_true rfl)) dX2_bodyOf_3 ⟨Nat.le_of_ble_eq_true rfl, Nat.le_of_ble_eq_true rfl⟩) hS hP (fun rv2 H locs h1 hP hS => ?_)
  have h1 : rv2 = nI (bdB mask n sf) := h1
  subst h1
  refine lv_ishl hx hb dX2_bodyOf_6 ?_
  refine lv_iconst (v := 1) hx hb dX2_bodyOf_7 (by decide) ?_
  refine lv_isub hx hb dX2_bodyOf_8 ?_
  refine lv_iand hx hb dX2_bodyOf_9 ?_
  exact gR_iret (v := (x &&& ((1 <<< ((nI (bdB mask n sf)) &&& 31)) - 1))) hx hb hr hlk (rfl) hS (rfl) dX2_bodyOf_10

set_option maxHeartbeats 4000000 in
set_option maxRecDepth 100000 in
theorem c_X2_withChecks (l : Launch) (D : va_G) (K : Nat → ClassId) (h0 : Nat) (hv : Nat) (hs : Nat) (n : Nat) (mask : Int32) (sf : Nat → Int32) (x : Int32) (hn : okN n) (hm : okM mask n) (hsf : okS sf) : MRi l yX2_withChecks wsX2_withChecks ({ frames := 4, cells := 0, slots := 0, locals := 80 } : Room) D (gTy K) [.ref h0, .int x] [(h0, .inr (2, [.ref hv, .ref hs, .int (nI n), .int mask])), (hs, .inl (K 0, 4, .inl sf))] (fun r => r = wck n mask sf x) := by
  refine g_ofR (cc := cX2_withChecks) (maxL := 3) (ret := (some .int)) (own := RX2) (by decide) rfl rfl (Nat.le_of_ble_eq_true rfl) ?_
  intro pp ee s mm below meth cc hfx hK hP hE hS ls hl
  obtain ⟨hx, hb, hr, hml, hown, hts, hlk⟩ := hfx
  have hl : lv_has ls 3 [(0, .ref h0), (1, .int x)] := hl
  have hb16 := Nat.le_trans (bdB_le mask n sf) hn.le.2
  refine lv_aload_n hx hb dX2_withChecks_0 rfl (lv_at hl 0 rfl) ?_
  refine gR_i (va_runV (As := []) (rest := []) ⟨hx, hb, hml, hown, hts⟩ (c_X2_bodyBits l D K h0 hv hs n mask sf (by first | assumption | omega) (by first | assumption | omega) (by first | assumption | omega)) (cwV 0 hts gX2_withChecks_X2_bodyBits rfl rfl rfl (by decide +kernel) ⟨Nat.le_of_ble_eq_true rfl, Nat.le_of_ble_eq_true rfl⟩) (gR_preV hE hS hK hP [0, 1] rfl 0 rfl rfl rfl) rfl rfl hl.1 rfl (lv_room (Nat.le_of_ble_eq_true rfl)) dX2_withChecks_1 ⟨Nat.le_of_ble_eq_true rfl, Nat.le_of_ble_eq_true rfl⟩) hS hP (fun rv2 H locs h1 hP hS => ?_)
  have h1 : rv2 = nI (bdB mask n sf) := h1
  subst h1
  refine lv_istore_n (lv' := [(2, .int (nI (bdB mask n sf))), (0, .ref h0), (1, .int x)]) hx hb dX2_withChecks_4 rfl hl (by decide) rfl (fun ls hl => ?_)
  refine lv_iload_n hx hb dX2_withChecks_5 rfl (lv_at hl 2 rfl) ?_
  refine lv_iload_n hx hb dX2_withChecks_6 rfl (lv_at hl 2 rfl) ?_
  refine lv_iload_n hx hb dX2_withChecks_7 rfl (lv_at hl 0 rfl) ?_
  refine lv_aload_n hx hb dX2_withChecks_8 rfl (lv_at hl 1 rfl) ?_
  refine gR_i (va_runV (As := []) (rest := [.int (nI (bdB mask n sf)), .int x, .int x]) ⟨hx, hb, hml, hown, hts⟩ (c_X2_checkBits l D K h0 hv hs n mask sf (by first | assumption | omega) (by first | assumption | omega) (by first | assumption | omega)) (cwV 0 hts gX2_withChecks_X2_checkBits rfl rfl rfl (by decide +kernel) ⟨Nat.le_of_ble_eq_true rfl, Nat.le_of_ble_eq_true rfl⟩) (gR_preV hE hS hK hP [0, 1] rfl 0 rfl rfl rfl) rfl rfl hl.1 rfl (lv_room (Nat.le_of_ble_eq_true rfl)) dX2_withChecks_9 ⟨Nat.le_of_ble_eq_true rfl, Nat.le_of_ble_eq_true rfl⟩) hS hP (fun rv4 H locs h3 hP hS => ?_)
  have h3 : rv4 = nI (ckB mask n sf) := h3
  subst h3
  refine gR_i (va_runSN (host := RX3) (As := [.int x, .int (nI (bdB mask n sf)), .int (nI (ckB mask n sf))]) (rest := [.int x]) ⟨hx, hb, hml, hown, hts⟩ (c_X3_checkNumber l D K x (bdB mask n sf) (ckB mask n sf) (by first | assumption | omega)) ⟨va_cnB 3 hts gX2_withChecks_X3_checkNumber_n69 rfl rfl rfl (hE.1 (RX2, 69, yX3_checkNumber) (List.mem_of_getElem? (i := 5) rfl)) (hts (.initialized RX3) (List.mem_of_getElem? (i := 28) (by decide +kernel))) (by decide +kernel) ⟨Nat.le_of_ble_eq_true rfl, Nat.le_of_ble_eq_true rfl⟩, (hts (.static yX3_checkNumber) (List.mem_of_getElem? (i := 27) (by decide +kernel))), trivial⟩ (gR_pre hE hS hK hP [] rfl) rfl rfl hl.1 rfl (lv_room (Nat.le_of_ble_eq_true rfl)) dX2_withChecks_12 ⟨Nat.le_of_ble_eq_true rfl, Nat.le_of_ble_eq_true rfl⟩) hS hP (fun rv6 H locs h5 hP hS => ?_)
  have h5 : rv6 = chk x (bdB mask n sf) (ckB mask n sf) := h5
  subst h5
  refine lv_iload_n hx hb dX2_withChecks_15 rfl (lv_at hl 0 rfl) ?_
  refine lv_ishl hx hb dX2_withChecks_16 ?_
  refine lv_ior hx hb dX2_withChecks_17 ?_
  exact gR_iret (v := (x ||| ((chk x (bdB mask n sf) (ckB mask n sf)) <<< ((nI (bdB mask n sf)) &&& 31)))) hx hb hr hlk (rfl) hS (rfl) dX2_withChecks_18

set_option maxHeartbeats 4000000 in
set_option maxRecDepth 100000 in
theorem c_X2_wordOf (l : Launch) (D : va_G) (K : Nat → ClassId) (h0 : Nat) (hv : Nat) (hs : Nat) (n : Nat) (mask : Int32) (x : Int32) (hn : okN n) : MRi l yX2_wordOf wsX2_wordOf ({ frames := 1, cells := 0, slots := 0, locals := 23 } : Room) D (gTy K) [.ref h0, .int x] [(h0, .inr (2, [.ref hv, .ref hs, .int (nI n), .int mask]))] (fun r => r = wof n mask x) := by
  refine g_ofR (cc := cX2_wordOf) (maxL := 5) (ret := (some .int)) (own := RX2) (by decide) rfl rfl (Nat.le_of_ble_eq_true rfl) ?_
  intro pp ee s mm below meth cc hfx hK hP hE hS ls hl
  obtain ⟨hx, hb, hr, hml, hown, hts, hlk⟩ := hfx
  have hl : lv_has ls 5 [(0, .ref h0), (1, .int x)] := hl
  have hi2 : ∀ w ∈ u_ws RX2 TX2 4, w ∈ wsX2_wordOf := fun w h => List.mem_cons_of_mem _ (List.mem_append_right _ (h))
  have hnl := hn.le
  refine lv_iconst (v := 0) hx hb dX2_wordOf_0 (by decide) ?_
  refine lv_istore_n (lv' := [(2, .int 0), (0, .ref h0), (1, .int x)]) hx hb dX2_wordOf_1 rfl hl (by decide) rfl (fun ls hl => ?_)
  refine lv_iload_n hx hb dX2_wordOf_2 rfl (lv_at hl 2 rfl) ?_
  refine lv_eqi (x >>> (nI (cntO mask 0) &&& 31)) ((sb_shr0 x).symm) ?_
  refine lv_istore_n (lv' := [(3, .int (x >>> (nI (cntO mask 0) &&& 31))), (2, .int 0), (0, .ref h0), (1, .int x)]) hx hb dX2_wordOf_3 rfl hl (by decide) rfl (fun ls hl => ?_)
  refine lv_iconst (v := 0) hx hb dX2_wordOf_4 (by decide) ?_
  refine lv_istore (lv' := [(4, .int 0), (3, .int (x >>> (nI (cntO mask 0) &&& 31))), (2, .int 0), (0, .ref h0), (1, .int x)]) hx hb dX2_wordOf_5 hl (by decide) rfl (fun ls hl => ?_)
  refine g_loopW (st := []) (N := n) (fun i H locs ls => va_P D vwCl [(h0, .inr (2, [.ref hv, .ref hs, .int (nI n), .int mask]))] H ∧ va_S gNo s.heap H locs ∧ lv_has ls 5 [(4, .int (nI i)), (3, .int (x >>> (nI (cntO mask i) &&& 31))), (2, .int (wrd mask x i)), (0, .ref h0), (1, .int x)]) 0 (Nat.zero_le _) ?_ ?_ ?_
  · intro H locs ls hI
    obtain ⟨hP, hS, hl⟩ := hI
    refine lv_iload hx hb dX2_wordOf_7 (lv_at hl 0 rfl) ?_
    refine lv_aload_n hx hb dX2_wordOf_9 rfl (lv_at hl 3 rfl) ?_
    refine va_get (D := D) (ci := 2) (v := .int (nI n)) (C := RX2) (T := TX2) (N := 4) hx hb hts hi2 hown hK hP 0 rfl rfl 2 (by decide) (hts (.fieldLink RX2 18 "PairedChannels$Word" "places" "I") (List.mem_of_getElem? (i := 1) (by decide +kernel))) (fun _ h9 => h9) rfl dX2_wordOf_10 ?_
    refine lv_icmp_ge (tgt := 44) hx hb dX2_wordOf_13 (by decide) (fun c2 => ?_) (fun c2 => ?_)
    · skip
      have c2 : n ≤ n := (nI_leI (a := n) (b := n) (by omega) (by omega)).mp c2
      refine lv_iload_n hx hb dX2_wordOf_44 rfl (lv_at hl 2 rfl) ?_
      refine lv_aload_n hx hb dX2_wordOf_45 rfl (lv_at hl 3 rfl) ?_
      refine va_get (D := D) (ci := 2) (v := .int (nI n)) (C := RX2) (T := TX2) (N := 4) hx hb hts hi2 hown hK hP 0 rfl rfl 2 (by decide) (hts (.fieldLink RX2 18 "PairedChannels$Word" "places" "I") (List.mem_of_getElem? (i := 1) (by decide +kernel))) (fun _ h9 => h9) rfl dX2_wordOf_46 ?_
      refine gR_i (va_runSN (host := RX3) (As := [.int (wrd mask x n), .int (nI n)]) (rest := []) ⟨hx, hb, hml, hown, hts⟩ (c_X3_coded l D K (wrd mask x n) n (hn.n1)) ⟨va_cnB 2 hts gX2_wordOf_X3_coded_n73 rfl rfl rfl (hE.1 (RX2, 73, yX3_coded) (List.mem_of_getElem? (i := 4) rfl)) (hts (.initialized RX3) (List.mem_of_getElem? (i := 9) (by decide +kernel))) (by decide +kernel) ⟨Nat.le_of_ble_eq_true rfl, Nat.le_of_ble_eq_true rfl⟩, (hts (.static yX3_coded) (List.mem_of_getElem? (i := 8) (by decide +kernel))), trivial⟩ (gR_pre hE hS hK hP [] rfl) rfl rfl hl.1 rfl (lv_room (Nat.le_of_ble_eq_true rfl)) dX2_wordOf_49 ⟨Nat.le_of_ble_eq_true rfl, Nat.le_of_ble_eq_true rfl⟩) hS hP (fun rv4 H locs h3 hP hS => ?_)
      have h3 : rv4 = cod (wrd mask x n) n := h3
      subst h3
      exact gR_iret (v := cod (wrd mask x n) n) hx hb hr hlk (rfl) hS (rfl) dX2_wordOf_52
    · skip
      have c2 : ¬ n ≤ n := fun h9 => c2 ((nI_leI (a := n) (b := n) (by omega) (by omega)).mpr h9)
      omega
  · intro i hi ih1 H locs ls hI
    obtain ⟨hP, hS, hl⟩ := hI
    have hci := cntO_le mask i
    refine lv_iload hx hb dX2_wordOf_7 (lv_at hl 0 rfl) ?_
    refine lv_aload_n hx hb dX2_wordOf_9 rfl (lv_at hl 3 rfl) ?_
    refine va_get (D := D) (ci := 2) (v := .int (nI n)) (C := RX2) (T := TX2) (N := 4) hx hb hts hi2 hown hK hP 0 rfl rfl 2 (by decide) (hts (.fieldLink RX2 18 "PairedChannels$Word" "places" "I") (List.mem_of_getElem? (i := 1) (by decide +kernel))) (fun _ h9 => h9) rfl dX2_wordOf_10 ?_
    refine lv_icmp_ge (tgt := 44) hx hb dX2_wordOf_13 (by decide) (fun c5 => ?_) (fun c5 => ?_)
    · skip
      have c5 : n ≤ i := (nI_leI (a := n) (b := i) (by omega) (by omega)).mp c5
      omega
    · skip
      have c5 : ¬ n ≤ i := fun h9 => c5 ((nI_leI (a := n) (b := i) (by omega) (by omega)).mpr h9)
      refine lv_aload_n hx hb dX2_wordOf_16 rfl (lv_at hl 3 rfl) ?_
      refine lv_iload hx hb dX2_wordOf_17 (lv_at hl 0 rfl) ?_
      refine gR_i (va_runV (As := [.int (nI i)]) (rest := []) ⟨hx, hb, hml, hown, hts⟩ (c_X2_isOpen l D K h0 hv hs n mask i ) (cwV 1 hts gX2_wordOf_X2_isOpen rfl rfl rfl (by decide +kernel) ⟨Nat.le_of_ble_eq_true rfl, Nat.le_of_ble_eq_true rfl⟩) (gR_preV hE hS hK hP [0] rfl 0 rfl rfl rfl) rfl rfl hl.1 rfl (lv_room (Nat.le_of_ble_eq_true rfl)) dX2_wordOf_19 ⟨Nat.le_of_ble_eq_true rfl, Nat.le_of_ble_eq_true rfl⟩) hS hP (fun rv7 H locs h6 hP hS => ?_)
      have h6 : rv7 = (if opn mask i then 1 else 0) := h6
      subst h6
      refine lv_if_eq (tgt := 38) hx hb dX2_wordOf_22 (by decide) (fun c22 => ?_) (fun c22 => ?_)
      · skip
        have c22 : ¬ (opn mask i) := b_eq0 c22
        refine lv_iinc (v := nI (i + 1)) (lv' := [(4, .int (nI (i + 1))), (3, .int (x >>> (nI (cntO mask i) &&& 31))), (2, .int (wrd mask x i)), (0, .ref h0), (1, .int x)]) hx hb dX2_wordOf_38 hl (k := 0) rfl (nI_add i 1) (by decide) rfl (fun ls hl => ?_)
        refine lv_goto (tgt := 7) hx hb dX2_wordOf_41 (by decide) ?_
        have e9 : (wrd mask x i) = (wrd mask x (i + 1)) := by show _ = (if opn mask i then wrd mask x i ||| (bitI x (cntO mask i) <<< (nI i &&& 31)) else wrd mask x i); first | rw [if_pos c22]; rfl | rw [if_neg c22]
        rw [e9] at hl
        have e9 : (x >>> (nI (cntO mask i) &&& 31)) = (x >>> (nI (cntO mask (i + 1)) &&& 31)) := by show _ = x >>> (nI (cntO mask i + (if opn mask i then 1 else 0)) &&& 31); first | (rw [if_pos c22]; exact shr_shr x _ (by omega)) | rw [if_neg c22]; rfl
        rw [e9] at hl
        exact ih1 H locs ls ⟨hP, hS, lv_sub hl [0, 1, 2, 3, 4] rfl⟩
      · skip
        have c22 : opn mask i := b_ne0 c22
        refine lv_iload_n hx hb dX2_wordOf_25 rfl (lv_at hl 2 rfl) ?_
        refine lv_iload_n hx hb dX2_wordOf_26 rfl (lv_at hl 1 rfl) ?_
        refine lv_iconst (v := 1) hx hb dX2_wordOf_27 (by decide) ?_
        refine lv_iand hx hb dX2_wordOf_28 ?_
        refine lv_iload hx hb dX2_wordOf_29 (lv_at hl 0 rfl) ?_
        refine lv_ishl hx hb dX2_wordOf_31 ?_
        refine lv_ior hx hb dX2_wordOf_32 ?_
        refine lv_istore_n (lv' := [(2, .int (wrd mask x i ||| ((x >>> (nI (cntO mask i) &&& 31) &&& 1) <<< ((nI i) &&& 31)))), (4, .int (nI i)), (3, .int (x >>> (nI (cntO mask i) &&& 31))), (0, .ref h0), (1, .int x)]) hx hb dX2_wordOf_33 rfl hl (by decide) rfl (fun ls hl => ?_)
        refine lv_iload_n hx hb dX2_wordOf_34 rfl (lv_at hl 2 rfl) ?_
        refine lv_iconst (v := 1) hx hb dX2_wordOf_35 (by decide) ?_
        refine lv_ishr hx hb dX2_wordOf_36 ?_
        refine lv_istore_n (lv' := [(3, .int ((x >>> (nI (cntO mask i) &&& 31)) >>> (1 &&& 31))), (2, .int (wrd mask x i ||| ((x >>> (nI (cntO mask i) &&& 31) &&& 1) <<< ((nI i) &&& 31)))), (4, .int (nI i)), (0, .ref h0), (1, .int x)]) hx hb dX2_wordOf_37 rfl hl (by decide) rfl (fun ls hl => ?_)
        refine lv_iinc (v := nI (i + 1)) (lv' := [(4, .int (nI (i + 1))), (3, .int ((x >>> (nI (cntO mask i) &&& 31)) >>> (1 &&& 31))), (2, .int (wrd mask x i ||| ((x >>> (nI (cntO mask i) &&& 31) &&& 1) <<< ((nI i) &&& 31)))), (0, .ref h0), (1, .int x)]) hx hb dX2_wordOf_38 hl (k := 2) rfl (nI_add i 1) (by decide) rfl (fun ls hl => ?_)
        refine lv_goto (tgt := 7) hx hb dX2_wordOf_41 (by decide) ?_
        have e9 : (wrd mask x i ||| ((x >>> (nI (cntO mask i) &&& 31) &&& 1) <<< ((nI i) &&& 31))) = (wrd mask x (i + 1)) := by show _ = (if opn mask i then wrd mask x i ||| (bitI x (cntO mask i) <<< (nI i &&& 31)) else wrd mask x i); first | rw [if_pos c22]; rfl | rw [if_neg c22]
        rw [e9] at hl
        have e9 : ((x >>> (nI (cntO mask i) &&& 31)) >>> (1 &&& 31)) = (x >>> (nI (cntO mask (i + 1)) &&& 31)) := by show _ = x >>> (nI (cntO mask i + (if opn mask i then 1 else 0)) &&& 31); first | (rw [if_pos c22]; exact shr_shr x _ (by omega)) | rw [if_neg c22]; rfl
        rw [e9] at hl
        exact ih1 H locs ls ⟨hP, hS, lv_sub hl [0, 1, 2, 3, 4] rfl⟩
  · exact ⟨hP, hS, lv_sub hl [0, 1, 2, 3, 4] rfl⟩

set_option maxHeartbeats 4000000 in
set_option maxRecDepth 100000 in
theorem c_X2_messageOf (l : Launch) (D : va_G) (K : Nat → ClassId) (h0 : Nat) (hv : Nat) (hs : Nat) (n : Nat) (mask : Int32) (x : Int32) (hn : okN n) : MRi l yX2_messageOf wsX2_messageOf ({ frames := 1, cells := 0, slots := 0, locals := 21 } : Room) D (gTy K) [.ref h0, .int x] [(h0, .inr (2, [.ref hv, .ref hs, .int (nI n), .int mask]))] (fun r => r = mso mask x n) := by
  refine g_ofR (cc := cX2_messageOf) (maxL := 5) (ret := (some .int)) (own := RX2) (by decide) rfl rfl (Nat.le_of_ble_eq_true rfl) ?_
  intro pp ee s mm below meth cc hfx hK hP hE hS ls hl
  obtain ⟨hx, hb, hr, hml, hown, hts, hlk⟩ := hfx
  have hl : lv_has ls 5 [(0, .ref h0), (1, .int x)] := hl
  have hi2 : ∀ w ∈ u_ws RX2 TX2 4, w ∈ wsX2_messageOf := fun w h => List.mem_cons_of_mem _ (List.mem_append_right _ (h))
  have hnl := hn.le
  refine lv_iconst (v := 0) hx hb dX2_messageOf_0 (by decide) ?_
  refine lv_istore_n (lv' := [(2, .int 0), (0, .ref h0), (1, .int x)]) hx hb dX2_messageOf_1 rfl hl (by decide) rfl (fun ls hl => ?_)
  refine lv_iconst (v := 0) hx hb dX2_messageOf_2 (by decide) ?_
  refine lv_istore_n (lv' := [(3, .int 0), (2, .int 0), (0, .ref h0), (1, .int x)]) hx hb dX2_messageOf_3 rfl hl (by decide) rfl (fun ls hl => ?_)
  refine lv_iconst (v := 0) hx hb dX2_messageOf_4 (by decide) ?_
  refine lv_istore (lv' := [(4, .int 0), (3, .int 0), (2, .int 0), (0, .ref h0), (1, .int x)]) hx hb dX2_messageOf_5 hl (by decide) rfl (fun ls hl => ?_)
  refine g_loopW (st := []) (N := n) (fun i H locs ls => va_P D vwCl [(h0, .inr (2, [.ref hv, .ref hs, .int (nI n), .int mask]))] H ∧ va_S gNo s.heap H locs ∧ lv_has ls 5 [(4, .int (nI i)), (3, .int (nI (cntO mask i))), (2, .int (mso mask x i)), (0, .ref h0), (1, .int x)]) 0 (Nat.zero_le _) ?_ ?_ ?_
  · intro H locs ls hI
    obtain ⟨hP, hS, hl⟩ := hI
    refine lv_iload hx hb dX2_messageOf_7 (lv_at hl 0 rfl) ?_
    refine lv_aload_n hx hb dX2_messageOf_9 rfl (lv_at hl 3 rfl) ?_
    refine va_get (D := D) (ci := 2) (v := .int (nI n)) (C := RX2) (T := TX2) (N := 4) hx hb hts hi2 hown hK hP 0 rfl rfl 2 (by decide) (hts (.fieldLink RX2 18 "PairedChannels$Word" "places" "I") (List.mem_of_getElem? (i := 1) (by decide +kernel))) (fun _ h9 => h9) rfl dX2_messageOf_10 ?_
    refine lv_icmp_ge (tgt := 45) hx hb dX2_messageOf_13 (by decide) (fun c2 => ?_) (fun c2 => ?_)
    · skip
      have c2 : n ≤ n := (nI_leI (a := n) (b := n) (by omega) (by omega)).mp c2
      refine lv_iload_n hx hb dX2_messageOf_45 rfl (lv_at hl 2 rfl) ?_
      exact gR_iret (v := mso mask x n) hx hb hr hlk (rfl) hS (rfl) dX2_messageOf_46
    · skip
      have c2 : ¬ n ≤ n := fun h9 => c2 ((nI_leI (a := n) (b := n) (by omega) (by omega)).mpr h9)
      omega
  · intro i hi ih1 H locs ls hI
    obtain ⟨hP, hS, hl⟩ := hI
    have hci := cntO_le mask i
    refine lv_iload hx hb dX2_messageOf_7 (lv_at hl 0 rfl) ?_
    refine lv_aload_n hx hb dX2_messageOf_9 rfl (lv_at hl 3 rfl) ?_
    refine va_get (D := D) (ci := 2) (v := .int (nI n)) (C := RX2) (T := TX2) (N := 4) hx hb hts hi2 hown hK hP 0 rfl rfl 2 (by decide) (hts (.fieldLink RX2 18 "PairedChannels$Word" "places" "I") (List.mem_of_getElem? (i := 1) (by decide +kernel))) (fun _ h9 => h9) rfl dX2_messageOf_10 ?_
    refine lv_icmp_ge (tgt := 45) hx hb dX2_messageOf_13 (by decide) (fun c3 => ?_) (fun c3 => ?_)
    · skip
      have c3 : n ≤ i := (nI_leI (a := n) (b := i) (by omega) (by omega)).mp c3
      omega
    · skip
      have c3 : ¬ n ≤ i := fun h9 => c3 ((nI_leI (a := n) (b := i) (by omega) (by omega)).mpr h9)
      refine lv_aload_n hx hb dX2_messageOf_16 rfl (lv_at hl 3 rfl) ?_
      refine lv_iload hx hb dX2_messageOf_17 (lv_at hl 0 rfl) ?_
      refine gR_i (va_runV (As := [.int (nI i)]) (rest := []) ⟨hx, hb, hml, hown, hts⟩ (c_X2_isOpen l D K h0 hv hs n mask i ) (cwV 1 hts gX2_messageOf_X2_isOpen rfl rfl rfl (by decide +kernel) ⟨Nat.le_of_ble_eq_true rfl, Nat.le_of_ble_eq_true rfl⟩) (gR_preV hE hS hK hP [0] rfl 0 rfl rfl rfl) rfl rfl hl.1 rfl (lv_room (Nat.le_of_ble_eq_true rfl)) dX2_messageOf_19 ⟨Nat.le_of_ble_eq_true rfl, Nat.le_of_ble_eq_true rfl⟩) hS hP (fun rv5 H locs h4 hP hS => ?_)
      have h4 : rv5 = (if opn mask i then 1 else 0) := h4
      subst h4
      refine lv_if_eq (tgt := 39) hx hb dX2_messageOf_22 (by decide) (fun c22 => ?_) (fun c22 => ?_)
      · skip
        have c22 : ¬ (opn mask i) := b_eq0 c22
        refine lv_iinc (v := nI (i + 1)) (lv' := [(4, .int (nI (i + 1))), (3, .int (nI (cntO mask i))), (2, .int (mso mask x i)), (0, .ref h0), (1, .int x)]) hx hb dX2_messageOf_39 hl (k := 0) rfl (nI_add i 1) (by decide) rfl (fun ls hl => ?_)
        refine lv_goto (tgt := 7) hx hb dX2_messageOf_42 (by decide) ?_
        have e9 : (mso mask x i) = (mso mask x (i + 1)) := by show _ = (if opn mask i then mso mask x i ||| (bitI x i <<< (nI (cntO mask i) &&& 31)) else mso mask x i); first | rw [if_pos c22] | rw [if_neg c22]
        rw [e9] at hl
        have e9 : (nI (cntO mask i)) = (nI (cntO mask (i + 1))) := congrArg nI (by show _ = cntO mask i + (if opn mask i then 1 else 0); first | rw [if_pos c22] | rw [if_neg c22]; rfl)
        rw [e9] at hl
        exact ih1 H locs ls ⟨hP, hS, lv_sub hl [0, 1, 2, 3, 4] rfl⟩
      · skip
        have c22 : opn mask i := b_ne0 c22
        refine lv_iload_n hx hb dX2_messageOf_25 rfl (lv_at hl 2 rfl) ?_
        refine lv_iload_n hx hb dX2_messageOf_26 rfl (lv_at hl 4 rfl) ?_
        refine lv_iload hx hb dX2_messageOf_27 (lv_at hl 0 rfl) ?_
        refine lv_ishr hx hb dX2_messageOf_29 ?_
        refine lv_iconst (v := 1) hx hb dX2_messageOf_30 (by decide) ?_
        refine lv_iand hx hb dX2_messageOf_31 ?_
        refine lv_eqi (bitI x i) rfl ?_
        refine lv_iload_n hx hb dX2_messageOf_32 rfl (lv_at hl 1 rfl) ?_
        refine lv_ishl hx hb dX2_messageOf_33 ?_
        refine lv_ior hx hb dX2_messageOf_34 ?_
        refine lv_istore_n (lv' := [(2, .int (mso mask x i ||| ((bitI x i) <<< ((nI (cntO mask i)) &&& 31)))), (4, .int (nI i)), (3, .int (nI (cntO mask i))), (0, .ref h0), (1, .int x)]) hx hb dX2_messageOf_35 rfl hl (by decide) rfl (fun ls hl => ?_)
        refine lv_iinc (v := nI (cntO mask i + 1)) (lv' := [(3, .int (nI (cntO mask i + 1))), (2, .int (mso mask x i ||| ((bitI x i) <<< ((nI (cntO mask i)) &&& 31)))), (4, .int (nI i)), (0, .ref h0), (1, .int x)]) hx hb dX2_messageOf_36 hl (k := 2) rfl (nI_add (cntO mask i) 1) (by decide) rfl (fun ls hl => ?_)
        refine lv_iinc (v := nI (i + 1)) (lv' := [(4, .int (nI (i + 1))), (3, .int (nI (cntO mask i + 1))), (2, .int (mso mask x i ||| ((bitI x i) <<< ((nI (cntO mask i)) &&& 31)))), (0, .ref h0), (1, .int x)]) hx hb dX2_messageOf_39 hl (k := 2) rfl (nI_add i 1) (by decide) rfl (fun ls hl => ?_)
        refine lv_goto (tgt := 7) hx hb dX2_messageOf_42 (by decide) ?_
        have e9 : (mso mask x i ||| ((bitI x i) <<< ((nI (cntO mask i)) &&& 31))) = (mso mask x (i + 1)) := by show _ = (if opn mask i then mso mask x i ||| (bitI x i <<< (nI (cntO mask i) &&& 31)) else mso mask x i); first | rw [if_pos c22] | rw [if_neg c22]
        rw [e9] at hl
        have e9 : (nI (cntO mask i + 1)) = (nI (cntO mask (i + 1))) := congrArg nI (by show _ = cntO mask i + (if opn mask i then 1 else 0); first | rw [if_pos c22] | rw [if_neg c22]; rfl)
        rw [e9] at hl
        exact ih1 H locs ls ⟨hP, hS, lv_sub hl [0, 1, 2, 3, 4] rfl⟩
  · exact ⟨hP, hS, lv_sub hl [0, 1, 2, 3, 4] rfl⟩

set_option maxHeartbeats 4000000 in
set_option maxRecDepth 100000 in
theorem c_X2_differences (l : Launch) (D : va_G) (K : Nat → ClassId) (h0 : Nat) (hv : Nat) (hs : Nat) (n : Nat) (mask : Int32) (vf : Nat → Int32) (x : Int32) (hn : okN n) : MRi l yX2_differences wsX2_differences ({ frames := 0, cells := 0, slots := 0, locals := 0 } : Room) D (gTy K) [.ref h0, .int x] [(h0, .inr (2, [.ref hv, .ref hs, .int (nI n), .int mask])), (hv, .inl (K 0, 16, .inl vf))] (fun r => r = nI (difS x vf n)) := by
  refine g_ofR (cc := cX2_differences) (maxL := 5) (ret := (some .int)) (own := RX2) (by decide) rfl rfl (Nat.le_of_ble_eq_true rfl) ?_
  intro pp ee s mm below meth cc hfx hK hP hE hS ls hl
  obtain ⟨hx, hb, hr, hml, hown, hts, hlk⟩ := hfx
  have hl : lv_has ls 5 [(0, .ref h0), (1, .int x)] := hl
  have hi2 : ∀ w ∈ u_ws RX2 TX2 4, w ∈ wsX2_differences := fun w h => List.mem_cons_of_mem _ (List.mem_append_right _ (h))
  have hnl := hn.le
  refine lv_iconst (v := 0) hx hb dX2_differences_0 (by decide) ?_
  refine lv_istore_n (lv' := [(2, .int 0), (0, .ref h0), (1, .int x)]) hx hb dX2_differences_1 rfl hl (by decide) rfl (fun ls hl => ?_)
  refine lv_iconst (v := 0) hx hb dX2_differences_2 (by decide) ?_
  refine lv_istore_n (lv' := [(3, .int 0), (2, .int 0), (0, .ref h0), (1, .int x)]) hx hb dX2_differences_3 rfl hl (by decide) rfl (fun ls hl => ?_)
  refine g_loopW (st := []) (N := n) (fun i H locs ls => va_P D vwCl [(h0, .inr (2, [.ref hv, .ref hs, .int (nI n), .int mask])), (hv, .inl (K 0, 16, .inl vf))] H ∧ va_S gNo s.heap H locs ∧ lv_has ls 5 [(3, .int (nI i)), (2, .int (nI (difS x vf i))), (0, .ref h0), (1, .int x)]) 0 (Nat.zero_le _) ?_ ?_ ?_
  · intro H locs ls hI
    obtain ⟨hP, hS, hl⟩ := hI
    refine lv_iload_n hx hb dX2_differences_4 rfl (lv_at hl 0 rfl) ?_
    refine lv_aload_n hx hb dX2_differences_5 rfl (lv_at hl 2 rfl) ?_
    refine va_get (D := D) (ci := 2) (v := .int (nI n)) (C := RX2) (T := TX2) (N := 4) hx hb hts hi2 hown hK hP 0 rfl rfl 2 (by decide) (hts (.fieldLink RX2 18 "PairedChannels$Word" "places" "I") (List.mem_of_getElem? (i := 1) (by decide +kernel))) (fun _ h9 => h9) rfl dX2_differences_6 ?_
    refine lv_icmp_ge (tgt := 63) hx hb dX2_differences_9 (by decide) (fun c2 => ?_) (fun c2 => ?_)
    · skip
      have c2 : n ≤ n := (nI_leI (a := n) (b := n) (by omega) (by omega)).mp c2
      refine lv_iload_n hx hb dX2_differences_63 rfl (lv_at hl 1 rfl) ?_
      exact gR_iret (v := nI (difS x vf n)) hx hb hr hlk (rfl) hS (rfl) dX2_differences_64
    · skip
      have c2 : ¬ n ≤ n := fun h9 => c2 ((nI_leI (a := n) (b := n) (by omega) (by omega)).mpr h9)
      omega
  · intro i hi ih1 H locs ls hI
    obtain ⟨hP, hS, hl⟩ := hI
    have hdi := difS_le x vf i
    refine lv_iload_n hx hb dX2_differences_4 rfl (lv_at hl 0 rfl) ?_
    refine lv_aload_n hx hb dX2_differences_5 rfl (lv_at hl 2 rfl) ?_
    refine va_get (D := D) (ci := 2) (v := .int (nI n)) (C := RX2) (T := TX2) (N := 4) hx hb hts hi2 hown hK hP 0 rfl rfl 2 (by decide) (hts (.fieldLink RX2 18 "PairedChannels$Word" "places" "I") (List.mem_of_getElem? (i := 1) (by decide +kernel))) (fun _ h9 => h9) rfl dX2_differences_6 ?_
    refine lv_icmp_ge (tgt := 63) hx hb dX2_differences_9 (by decide) (fun c3 => ?_) (fun c3 => ?_)
    · skip
      have c3 : n ≤ i := (nI_leI (a := n) (b := i) (by omega) (by omega)).mp c3
      omega
    · skip
      have c3 : ¬ n ≤ i := fun h9 => c3 ((nI_leI (a := n) (b := i) (by omega) (by omega)).mpr h9)
      refine lv_iload_n hx hb dX2_differences_12 rfl (lv_at hl 3 rfl) ?_
      refine lv_iload_n hx hb dX2_differences_13 rfl (lv_at hl 0 rfl) ?_
      refine lv_ishr hx hb dX2_differences_14 ?_
      refine lv_iconst (v := 1) hx hb dX2_differences_15 (by decide) ?_
      refine lv_iand hx hb dX2_differences_16 ?_
      refine lv_eqi (bitI x i) rfl ?_
      refine lv_iconst (v := 1) hx hb dX2_differences_17 (by decide) ?_
      refine g_cut (F0 mm 26 ls [.int (if bitI x i = 1 then 1 else 0)]) (fun hJ => ?_) ?_
      · refine lv_icmp_ne (tgt := 25) hx hb dX2_differences_18 (by decide) (fun c4 => ?_) (fun c4 => ?_)
        · skip
          refine lv_iconst (v := 0) hx hb dX2_differences_25 (by decide) ?_
          refine lv_eqi ((if bitI x i = 1 then 1 else 0)) (if_neg c4).symm ?_
          exact hJ
        · skip
          refine lv_iconst (v := 1) hx hb dX2_differences_21 (by decide) ?_
          refine lv_goto (tgt := 26) hx hb dX2_differences_22 (by decide) ?_
          refine lv_eqi ((if bitI x i = 1 then 1 else 0)) (if_pos c4).symm ?_
          exact hJ
      · skip
        refine lv_istore (lv' := [(4, .int (if bitI x i = 1 then 1 else 0)), (3, .int (nI i)), (2, .int (nI (difS x vf i))), (0, .ref h0), (1, .int x)]) hx hb dX2_differences_26 hl (by decide) rfl (fun ls hl => ?_)
        refine lv_iload hx hb dX2_differences_28 (lv_at hl 0 rfl) ?_
        refine lv_if_eq (tgt := 45) hx hb dX2_differences_30 (by decide) (fun c30 => ?_) (fun c30 => ?_)
        · skip
          have c30 : ¬ (bitI x i = 1) := b_eq0 c30
          refine lv_aload_n hx hb dX2_differences_45 rfl (lv_at hl 3 rfl) ?_
          refine va_get (D := D) (ci := 2) (v := .ref hv) (C := RX2) (T := TX2) (N := 4) hx hb hts hi2 hown hK hP 0 rfl rfl 0 (by decide) (hts (.fieldLink RX2 9 "PairedChannels$Word" "values" "[I") (List.mem_of_getElem? (i := 2) (by decide +kernel))) (fun _ h9 => h9) rfl dX2_differences_46 ?_
          refine lv_iload_n hx hb dX2_differences_49 rfl (lv_at hl 1 rfl) ?_
          refine wa_iald hx hb hK hP 1 0 rfl rfl (i) rfl (by omega) (by decide) dX2_differences_50 ?_
          refine lv_if_ge (tgt := 57) hx hb dX2_differences_51 (by decide) (fun c51 => ?_) (fun c51 => ?_)
          · skip
            refine lv_iinc (v := nI (i + 1)) (lv' := [(3, .int (nI (i + 1))), (4, .int (if bitI x i = 1 then 1 else 0)), (2, .int (nI (difS x vf i))), (0, .ref h0), (1, .int x)]) hx hb dX2_differences_57 hl (k := 1) rfl (nI_add i 1) (by decide) rfl (fun ls hl => ?_)
            refine lv_goto (tgt := 4) hx hb dX2_differences_60 (by decide) ?_
            have e9 : (nI (difS x vf i)) = (nI (difS x vf (i + 1))) := congrArg nI (by show _ = difS x vf i + (if bitI x i = 1 then (if 0 < vf i then 1 else 0) else (if vf i < 0 then 1 else 0)); first | rw [if_pos c30, if_pos (Int32.not_le.mp c39)] | ((first | exact (g_ip c30 (g_in (fun h => absurd c39 (Int32.not_le.mpr h)) rfl)) | exact (g_tp c30 (g_tn (fun h => absurd c39 (Int32.not_le.mpr h)) rfl)) | exact (g_ap c30 (g_an (fun h => absurd c39 (Int32.not_le.mpr h)) rfl)))) | rw [if_neg c30, if_pos (Int32.not_le.mp c51)] | ((first | exact (g_in c30 (g_in (fun h => absurd c51 (Int32.not_le.mpr h)) rfl)) | exact (g_tn c30 (g_tn (fun h => absurd c51 (Int32.not_le.mpr h)) rfl)) | exact (g_an c30 (g_an (fun h => absurd c51 (Int32.not_le.mpr h)) rfl)))))
            rw [e9] at hl
            exact ih1 H locs ls ⟨hP, hS, lv_sub hl [0, 2, 3, 4] rfl⟩
          · skip
            refine lv_iinc (v := nI (difS x vf i + 1)) (lv' := [(2, .int (nI (difS x vf i + 1))), (4, .int (if bitI x i = 1 then 1 else 0)), (3, .int (nI i)), (0, .ref h0), (1, .int x)]) hx hb dX2_differences_54 hl (k := 2) rfl (nI_add (difS x vf i) 1) (by decide) rfl (fun ls hl => ?_)
            refine lv_iinc (v := nI (i + 1)) (lv' := [(3, .int (nI (i + 1))), (2, .int (nI (difS x vf i + 1))), (4, .int (if bitI x i = 1 then 1 else 0)), (0, .ref h0), (1, .int x)]) hx hb dX2_differences_57 hl (k := 2) rfl (nI_add i 1) (by decide) rfl (fun ls hl => ?_)
            refine lv_goto (tgt := 4) hx hb dX2_differences_60 (by decide) ?_
            have e9 : (nI (difS x vf i + 1)) = (nI (difS x vf (i + 1))) := congrArg nI (by show _ = difS x vf i + (if bitI x i = 1 then (if 0 < vf i then 1 else 0) else (if vf i < 0 then 1 else 0)); first | rw [if_pos c30, if_pos (Int32.not_le.mp c39)] | ((first | exact (g_ip c30 (g_in (fun h => absurd c39 (Int32.not_le.mpr h)) rfl)) | exact (g_tp c30 (g_tn (fun h => absurd c39 (Int32.not_le.mpr h)) rfl)) | exact (g_ap c30 (g_an (fun h => absurd c39 (Int32.not_le.mpr h)) rfl)))) | rw [if_neg c30, if_pos (Int32.not_le.mp c51)] | ((first | exact (g_in c30 (g_in (fun h => absurd c51 (Int32.not_le.mpr h)) rfl)) | exact (g_tn c30 (g_tn (fun h => absurd c51 (Int32.not_le.mpr h)) rfl)) | exact (g_an c30 (g_an (fun h => absurd c51 (Int32.not_le.mpr h)) rfl)))))
            rw [e9] at hl
            exact ih1 H locs ls ⟨hP, hS, lv_sub hl [0, 1, 3, 4] rfl⟩
        · skip
          have c30 : bitI x i = 1 := b_ne0 c30
          refine lv_aload_n hx hb dX2_differences_33 rfl (lv_at hl 3 rfl) ?_
          refine va_get (D := D) (ci := 2) (v := .ref hv) (C := RX2) (T := TX2) (N := 4) hx hb hts hi2 hown hK hP 0 rfl rfl 0 (by decide) (hts (.fieldLink RX2 9 "PairedChannels$Word" "values" "[I") (List.mem_of_getElem? (i := 2) (by decide +kernel))) (fun _ h9 => h9) rfl dX2_differences_34 ?_
          refine lv_iload_n hx hb dX2_differences_37 rfl (lv_at hl 1 rfl) ?_
          refine wa_iald hx hb hK hP 1 0 rfl rfl (i) rfl (by omega) (by decide) dX2_differences_38 ?_
          refine lv_if_le (tgt := 57) hx hb dX2_differences_39 (by decide) (fun c39 => ?_) (fun c39 => ?_)
          · skip
            refine lv_iinc (v := nI (i + 1)) (lv' := [(3, .int (nI (i + 1))), (4, .int (if bitI x i = 1 then 1 else 0)), (2, .int (nI (difS x vf i))), (0, .ref h0), (1, .int x)]) hx hb dX2_differences_57 hl (k := 1) rfl (nI_add i 1) (by decide) rfl (fun ls hl => ?_)
            refine lv_goto (tgt := 4) hx hb dX2_differences_60 (by decide) ?_
            have e9 : (nI (difS x vf i)) = (nI (difS x vf (i + 1))) := congrArg nI (by show _ = difS x vf i + (if bitI x i = 1 then (if 0 < vf i then 1 else 0) else (if vf i < 0 then 1 else 0)); first | rw [if_pos c30, if_pos (Int32.not_le.mp c39)] | ((first | exact (g_ip c30 (g_in (fun h => absurd c39 (Int32.not_le.mpr h)) rfl)) | exact (g_tp c30 (g_tn (fun h => absurd c39 (Int32.not_le.mpr h)) rfl)) | exact (g_ap c30 (g_an (fun h => absurd c39 (Int32.not_le.mpr h)) rfl)))) | rw [if_neg c30, if_pos (Int32.not_le.mp c51)] | ((first | exact (g_in c30 (g_in (fun h => absurd c51 (Int32.not_le.mpr h)) rfl)) | exact (g_tn c30 (g_tn (fun h => absurd c51 (Int32.not_le.mpr h)) rfl)) | exact (g_an c30 (g_an (fun h => absurd c51 (Int32.not_le.mpr h)) rfl)))))
            rw [e9] at hl
            exact ih1 H locs ls ⟨hP, hS, lv_sub hl [0, 2, 3, 4] rfl⟩
          · skip
            refine lv_goto (tgt := 54) hx hb dX2_differences_42 (by decide) ?_
            refine lv_iinc (v := nI (difS x vf i + 1)) (lv' := [(2, .int (nI (difS x vf i + 1))), (4, .int (if bitI x i = 1 then 1 else 0)), (3, .int (nI i)), (0, .ref h0), (1, .int x)]) hx hb dX2_differences_54 hl (k := 2) rfl (nI_add (difS x vf i) 1) (by decide) rfl (fun ls hl => ?_)
            refine lv_iinc (v := nI (i + 1)) (lv' := [(3, .int (nI (i + 1))), (2, .int (nI (difS x vf i + 1))), (4, .int (if bitI x i = 1 then 1 else 0)), (0, .ref h0), (1, .int x)]) hx hb dX2_differences_57 hl (k := 2) rfl (nI_add i 1) (by decide) rfl (fun ls hl => ?_)
            refine lv_goto (tgt := 4) hx hb dX2_differences_60 (by decide) ?_
            have e9 : (nI (difS x vf i + 1)) = (nI (difS x vf (i + 1))) := congrArg nI (by show _ = difS x vf i + (if bitI x i = 1 then (if 0 < vf i then 1 else 0) else (if vf i < 0 then 1 else 0)); first | rw [if_pos c30, if_pos (Int32.not_le.mp c39)] | ((first | exact (g_ip c30 (g_in (fun h => absurd c39 (Int32.not_le.mpr h)) rfl)) | exact (g_tp c30 (g_tn (fun h => absurd c39 (Int32.not_le.mpr h)) rfl)) | exact (g_ap c30 (g_an (fun h => absurd c39 (Int32.not_le.mpr h)) rfl)))) | rw [if_neg c30, if_pos (Int32.not_le.mp c51)] | ((first | exact (g_in c30 (g_in (fun h => absurd c51 (Int32.not_le.mpr h)) rfl)) | exact (g_tn c30 (g_tn (fun h => absurd c51 (Int32.not_le.mpr h)) rfl)) | exact (g_an c30 (g_an (fun h => absurd c51 (Int32.not_le.mpr h)) rfl)))))
            rw [e9] at hl
            exact ih1 H locs ls ⟨hP, hS, lv_sub hl [0, 1, 3, 4] rfl⟩
  · exact ⟨hP, hS, lv_sub hl [0, 1, 2, 3] rfl⟩
