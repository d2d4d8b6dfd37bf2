set_option maxHeartbeats 4000000 in
set_option maxRecDepth 100000 in
theorem c_X3_code (l : Launch) (hst : l.stackTraces = false) (D : va_G) (K : Nat → ClassId) (x0 : Nat) (x1 : Nat) (x2 : Nat) (t0 : Nat) (r0 : Nat) (y0 : Nat) (o : Nat) (c : Nat) (fz : Int32) (h0 : Nat) (hv : Nat) (hs : Nat) (n : Nat) (mask : Int32) (vf : Nat → Int32) (sf : Nat → Int32) (b : Int32) (hn : okN n) : MXi l yX3_code wsX3_code ({ frames := 6, cells := 1, slots := 6, locals := 90 } : Room) D (gTy K) [.ref x0, .int b] [(x0, .inr (3, [.ref h0, .ref x1, .int (nI o), .int (nI c), .ref t0, .ref x2, .ref r0, .int fz, .ref y0])), (h0, .inr (2, [.ref hv, .ref hs, .int (nI n), .int mask])), (hv, .inl (K 0, 16, .inl vf)), (hs, .inl (K 0, 4, .inl sf))] (fun (u : Unit) => [(x0, .inr (3, [.ref h0, .ref x1, .int (nI o), .int (nI c), .ref t0, .ref x2, .ref r0, .int fz, .ref y0])), (h0, .inr (2, [.ref hv, .ref hs, .int (nI n), .int mask])), (hv, .inl (K 0, 16, .inl vf)), (hs, .inl (K 0, 4, .inl sf))]) (fun r (u : Unit) => thCode b = 0 ∧ r = cod b n) (fun (E : String) (u : Unit) => ((thCode b = 1 ∧ E = xIA))) 1 6 := by
  refine g_ofX (Qc := fun A => va_Qi _ (gB D (gTy K) A _) A) (XC := fun A => gX D (gTy K) A _ _) (cc := cX3_code) (maxL := 2) (ret := (some .int)) (own := RX3) (by decide) rfl rfl (Nat.le_of_ble_eq_true rfl) ?_
  intro pp ee s mm below meth cc A hfx htab hK hP hD hE hS hA ls hl
  obtain ⟨hx, hb, hr, hml, hown, hts, hlk⟩ := hfx
  have hl : lv_has ls 2 [(0, .ref x0), (1, .int b)] := hl
  have hi2 : ∀ w ∈ u_ws RX2 TX2 4, w ∈ wsX3_code := fun w h => List.mem_cons_of_mem _ (List.mem_append_left _ (List.mem_append_right _ (h)))
  have hi3 : ∀ w ∈ u_ws RX3 TX3 9, w ∈ wsX3_code := fun w h => List.mem_cons_of_mem _ (List.mem_append_left _ (List.mem_append_left _ (List.mem_append_right _ (h))))
  refine lv_iload_n hx hb dX3_code_0 rfl (lv_at hl 1 rfl) ?_
  refine lv_if_lt (tgt := 10) hx hb dX3_code_1 (by decide) (fun c1 => ?_) (fun c1 => ?_)
  · skip
    exact g_throw (cls := "java/lang/IllegalArgumentException") (text := "bits is not 0 to 65535") (ik := 41) (is := 172) (ic := 45) () hx hb hst hE hS hK hP hD (⟨by unfold thCode; first | (first | exact (g_in (fun h => absurd c1 (Int32.not_lt.mpr h.1)) rfl) | exact (g_tn (fun h => absurd c1 (Int32.not_lt.mpr h.1)) rfl) | exact (g_an (fun h => absurd c1 (Int32.not_lt.mpr h.1)) rfl)) | (first | exact (g_in (fun h => c7 h.2) rfl) | exact (g_tn (fun h => c7 h.2) rfl) | exact (g_an (fun h => c7 h.2) rfl)), rfl⟩) hown (by decide +kernel) (by decide +kernel) (by decide +kernel) (hts (.classLink RX3 41 "java/lang/IllegalArgumentException") (List.mem_of_getElem? (i := 1) (by decide +kernel))) (hts (.initialized "java/lang/IllegalArgumentException") (List.mem_of_getElem? (i := 2) (by decide +kernel))) (fun w h => hts w (List.mem_cons_of_mem _ (List.mem_append_right _ (h)))) (by decide +kernel) (by decide +kernel) (hl.1.trans hml.symm) dX3_code_10 dX3_code_13 dX3_code_14 dX3_code_16 dX3_code_19 htab (Nat.le_of_ble_eq_true rfl) (Nat.le_of_ble_eq_true rfl) (Nat.le_of_ble_eq_true rfl) (Nat.le_of_ble_eq_true rfl) hlk (Nat.le_of_ble_eq_true rfl) (Nat.le_of_ble_eq_true rfl)
  · skip
    refine lv_iload_n hx hb dX3_code_4 rfl (lv_at hl 1 rfl) ?_
    refine lv_ldc hx hb hown (hts (.constant RX3 171 (65535)) (List.mem_of_getElem? (i := 3) (by decide +kernel))) dX3_code_5 ?_
    refine lv_icmp_le (tgt := 20) hx hb dX3_code_7 (by decide) (fun c7 => ?_) (fun c7 => ?_)
    · skip
      refine lv_iload_n hx hb dX3_code_20 rfl (lv_at hl 1 rfl) ?_
      refine lv_aload_n hx hb dX3_code_21 rfl (lv_at hl 0 rfl) ?_
      refine va_get (D := D) (ci := 3) (v := .ref h0) (C := RX3) (T := TX3) (N := 9) hx hb hts hi3 hown hK hP 0 rfl rfl 0 (by decide) (hts (.fieldLink RX3 10 "PairedChannels" "now" "LPairedChannels$Word;") (List.mem_of_getElem? (i := 4) (by decide +kernel))) (fun _ h9 => h9) rfl dX3_code_22 ?_
      refine va_get (D := D) (ci := 2) (v := .int (nI n)) (C := RX2) (T := TX2) (N := 4) hx hb hts hi2 hown hK hP 1 rfl rfl 2 (by decide) (hts (.fieldLink RX3 51 "PairedChannels$Word" "places" "I") (List.mem_of_getElem? (i := 5) (by decide +kernel))) (fun _ h9 => h9) rfl dX3_code_25 ?_
      refine gR_i (va_runS (As := [.int b, .int (nI n)]) (rest := []) ⟨hx, hb, hml, hown, hts⟩ (c_X3_coded l D K b n (hn.n1)) (va_cwS 2 hts gX3_code_X3_coded rfl rfl rfl (by decide +kernel) ⟨Nat.le_of_ble_eq_true rfl, Nat.le_of_ble_eq_true rfl⟩) (gR_pre hE hS hK hP [] rfl) rfl rfl hl.1 rfl (lv_room (Nat.le_of_ble_eq_true rfl)) dX3_code_28 ⟨Nat.le_of_ble_eq_true rfl, Nat.le_of_ble_eq_true rfl⟩) hS hP (fun rv4 H locs h3 hP hS => ?_)
      have h3 : rv4 = cod b n := h3
      subst h3
      refine W.widen (k := 1) (n := 6) (Nat.le_of_ble_eq_true rfl) (Nat.le_of_ble_eq_true rfl) ?_
      exact vx_ret (gW_iret (v := cod b n) () hx hb hr hlk (rfl) hK hP hD hS (⟨by unfold thCode; rw [if_pos ⟨Int32.not_lt.mp c1, c7⟩], rfl⟩) dX3_code_31)
    · skip
      exact g_throw (cls := "java/lang/IllegalArgumentException") (text := "bits is not 0 to 65535") (ik := 41) (is := 172) (ic := 45) () hx hb hst hE hS hK hP hD (⟨by unfold thCode; first | (first | exact (g_in (fun h => absurd c1 (Int32.not_lt.mpr h.1)) rfl) | exact (g_tn (fun h => absurd c1 (Int32.not_lt.mpr h.1)) rfl) | exact (g_an (fun h => absurd c1 (Int32.not_lt.mpr h.1)) rfl)) | (first | exact (g_in (fun h => c7 h.2) rfl) | exact (g_tn (fun h => c7 h.2) rfl) | exact (g_an (fun h => c7 h.2) rfl)), rfl⟩) hown (by decide +kernel) (by decide +kernel) (by decide +kernel) (hts (.classLink RX3 41 "java/lang/IllegalArgumentException") (List.mem_of_getElem? (i := 1) (by decide +kernel))) (hts (.initialized "java/lang/IllegalArgumentException") (List.mem_of_getElem? (i := 2) (by decide +kernel))) (fun w h => hts w (List.mem_cons_of_mem _ (List.mem_append_right _ (h)))) (by decide +kernel) (by decide +kernel) (hl.1.trans hml.symm) dX3_code_10 dX3_code_13 dX3_code_14 dX3_code_16 dX3_code_19 htab (Nat.le_of_ble_eq_true rfl) (Nat.le_of_ble_eq_true rfl) (Nat.le_of_ble_eq_true rfl) (Nat.le_of_ble_eq_true rfl) hlk (Nat.le_of_ble_eq_true rfl) (Nat.le_of_ble_eq_true rfl)

set_option maxHeartbeats 4000000 in
set_option maxRecDepth 100000 in
theorem w_X3_code (l : Launch) (D : va_G) (K : Nat → ClassId) (x0 : Nat) (x1 : Nat) (x2 : Nat) (t0 : Nat) (r0 : Nat) (y0 : Nat) (o : Nat) (c : Nat) (fz : Int32) (h0 : Nat) (hv : Nat) (hs : Nat) (n : Nat) (mask : Int32) (vf : Nat → Int32) (sf : Nat → Int32) (b : Int32) (hn : okN n) (hno : thCode b = 0) : MWi l yX3_code wsX3_code ({ frames := 6, cells := 0, slots := 0, locals := 90 } : Room) D (gTy K) [.ref x0, .int b] [(x0, .inr (3, [.ref h0, .ref x1, .int (nI o), .int (nI c), .ref t0, .ref x2, .ref r0, .int fz, .ref y0])), (h0, .inr (2, [.ref hv, .ref hs, .int (nI n), .int mask])), (hv, .inl (K 0, 16, .inl vf)), (hs, .inl (K 0, 4, .inl sf))] (fun (u : Unit) => [(x0, .inr (3, [.ref h0, .ref x1, .int (nI o), .int (nI c), .ref t0, .ref x2, .ref r0, .int fz, .ref y0])), (h0, .inr (2, [.ref hv, .ref hs, .int (nI n), .int mask])), (hv, .inl (K 0, 16, .inl vf)), (hs, .inl (K 0, 4, .inl sf))]) (fun r (u : Unit) => thCode b = 0 ∧ r = cod b n) 0 0 := by
  refine g_ofW (Qc := fun A => va_Qi _ (gB D (gTy K) A _) A) (cc := cX3_code) (maxL := 2) (ret := (some .int)) (own := RX3) (by decide) rfl rfl (Nat.le_of_ble_eq_true rfl) ?_
  intro pp ee s mm below meth cc A hfx hnm hK hP hD hE hS hA ls hl
  obtain ⟨hx, hb, hr, hml, hown, hts, hlk⟩ := hfx
  have hl : lv_has ls 2 [(0, .ref x0), (1, .int b)] := hl
  have hi2 : ∀ w ∈ u_ws RX2 TX2 4, w ∈ wsX3_code := fun w h => List.mem_cons_of_mem _ (List.mem_append_left _ (List.mem_append_right _ (h)))
  have hi3 : ∀ w ∈ u_ws RX3 TX3 9, w ∈ wsX3_code := fun w h => List.mem_cons_of_mem _ (List.mem_append_left _ (List.mem_append_left _ (List.mem_append_right _ (h))))
  refine lv_iload_n hx hb dX3_code_0 rfl (lv_at hl 1 rfl) ?_
  refine lv_if_lt (tgt := 10) hx hb dX3_code_1 (by decide) (fun c1 => ?_) (fun c1 => ?_)
  · skip
    exact absurd (hno.symm.trans (show _ = 1 from (by unfold thCode; first | (first | exact (g_in (fun h => absurd c1 (Int32.not_lt.mpr h.1)) rfl) | exact (g_tn (fun h => absurd c1 (Int32.not_lt.mpr h.1)) rfl) | exact (g_an (fun h => absurd c1 (Int32.not_lt.mpr h.1)) rfl)) | (first | exact (g_in (fun h => c7 h.2) rfl) | exact (g_tn (fun h => c7 h.2) rfl) | exact (g_an (fun h => c7 h.2) rfl))))) (by decide)
  · skip
    refine lv_iload_n hx hb dX3_code_4 rfl (lv_at hl 1 rfl) ?_
    refine lv_ldc hx hb hown (hts (.constant RX3 171 (65535)) (List.mem_of_getElem? (i := 3) (by decide +kernel))) dX3_code_5 ?_
    refine lv_icmp_le (tgt := 20) hx hb dX3_code_7 (by decide) (fun c7 => ?_) (fun c7 => ?_)
    · skip
      refine lv_iload_n hx hb dX3_code_20 rfl (lv_at hl 1 rfl) ?_
      refine lv_aload_n hx hb dX3_code_21 rfl (lv_at hl 0 rfl) ?_
      refine va_get (D := D) (ci := 3) (v := .ref h0) (C := RX3) (T := TX3) (N := 9) hx hb hts hi3 hown hK hP 0 rfl rfl 0 (by decide) (hts (.fieldLink RX3 10 "PairedChannels" "now" "LPairedChannels$Word;") (List.mem_of_getElem? (i := 4) (by decide +kernel))) (fun _ h9 => h9) rfl dX3_code_22 ?_
      refine va_get (D := D) (ci := 2) (v := .int (nI n)) (C := RX2) (T := TX2) (N := 4) hx hb hts hi2 hown hK hP 1 rfl rfl 2 (by decide) (hts (.fieldLink RX3 51 "PairedChannels$Word" "places" "I") (List.mem_of_getElem? (i := 5) (by decide +kernel))) (fun _ h9 => h9) rfl dX3_code_25 ?_
      refine gR_i (va_runS (As := [.int b, .int (nI n)]) (rest := []) ⟨hx, hb, hml, hown, hts⟩ (c_X3_coded l D K b n (hn.n1)) (va_cwS 2 hts gX3_code_X3_coded rfl rfl rfl (by decide +kernel) ⟨Nat.le_of_ble_eq_true rfl, Nat.le_of_ble_eq_true rfl⟩) (gR_pre hE hS hK hP [] rfl) rfl rfl hl.1 rfl (lv_room (Nat.le_of_ble_eq_true rfl)) dX3_code_28 ⟨Nat.le_of_ble_eq_true rfl, Nat.le_of_ble_eq_true rfl⟩) hS hP (fun rv4 H locs h3 hP hS => ?_)
      have h3 : rv4 = cod b n := h3
      subst h3
      exact gW_iret (v := cod b n) () hx hb hr hlk (rfl) hK hP hD hS (⟨by unfold thCode; rw [if_pos ⟨Int32.not_lt.mp c1, c7⟩], rfl⟩) dX3_code_31
    · skip
      exact absurd (hno.symm.trans (show _ = 1 from (by unfold thCode; first | (first | exact (g_in (fun h => absurd c1 (Int32.not_lt.mpr h.1)) rfl) | exact (g_tn (fun h => absurd c1 (Int32.not_lt.mpr h.1)) rfl) | exact (g_an (fun h => absurd c1 (Int32.not_lt.mpr h.1)) rfl)) | (first | exact (g_in (fun h => c7 h.2) rfl) | exact (g_tn (fun h => c7 h.2) rfl) | exact (g_an (fun h => c7 h.2) rfl))))) (by decide)

set_option maxHeartbeats 4000000 in
set_option maxRecDepth 100000 in
theorem c_X3_word (l : Launch) (hst : l.stackTraces = false) (D : va_G) (K : Nat → ClassId) (x0 : Nat) (x1 : Nat) (x2 : Nat) (t0 : Nat) (r0 : Nat) (y0 : Nat) (o : Nat) (c : Nat) (fz : Int32) (h0 : Nat) (hv : Nat) (hs : Nat) (n : Nat) (mask : Int32) (vf : Nat → Int32) (sf : Nat → Int32) (b : Int32) (hn : okN n) (hm : okM mask n) (hsf : okS sf) : MXi l yX3_word wsX3_word ({ frames := 6, cells := 1, slots := 6, locals := 102 } : Room) D (gTy K) [.ref x0, .int b] [(x0, .inr (3, [.ref h0, .ref x1, .int (nI o), .int (nI c), .ref t0, .ref x2, .ref r0, .int fz, .ref y0])), (h0, .inr (2, [.ref hv, .ref hs, .int (nI n), .int mask])), (hv, .inl (K 0, 16, .inl vf)), (hs, .inl (K 0, 4, .inl sf))] (fun (u : Unit) => [(x0, .inr (3, [.ref h0, .ref x1, .int (nI o), .int (nI c), .ref t0, .ref x2, .ref r0, .int fz, .ref y0])), (h0, .inr (2, [.ref hv, .ref hs, .int (nI n), .int mask])), (hv, .inl (K 0, 16, .inl vf)), (hs, .inl (K 0, 4, .inl sf))]) (fun r (u : Unit) => thBody n mask sf b = 0 ∧ r = wof n mask (wck n mask sf b)) (fun (E : String) (u : Unit) => ((thBody n mask sf b = 1 ∧ E = xIA))) 1 6 := by
  refine g_ofX (Qc := fun A => va_Qi _ (gB D (gTy K) A _) A) (XC := fun A => gX D (gTy K) A _ _) (cc := cX3_word) (maxL := 2) (ret := (some .int)) (own := RX3) (by decide) rfl rfl (Nat.le_of_ble_eq_true rfl) ?_
  intro pp ee s mm below meth cc A hfx htab hK hP hD hE hS hA ls hl
  obtain ⟨hx, hb, hr, hml, hown, hts, hlk⟩ := hfx
  have hl : lv_has ls 2 [(0, .ref x0), (1, .int b)] := hl
  have hi3 : ∀ w ∈ u_ws RX3 TX3 9, w ∈ wsX3_word := fun w h => List.mem_cons_of_mem _ (List.mem_append_left _ (List.mem_append_left _ (List.mem_append_right _ (h))))
  refine lv_aload_n hx hb dX3_word_0 rfl (lv_at hl 0 rfl) ?_
  refine va_get (D := D) (ci := 3) (v := .ref h0) (C := RX3) (T := TX3) (N := 9) hx hb hts hi3 hown hK hP 0 rfl rfl 0 (by decide) (hts (.fieldLink RX3 10 "PairedChannels" "now" "LPairedChannels$Word;") (List.mem_of_getElem? (i := 3) (by decide +kernel))) (fun _ h9 => h9) rfl dX3_word_1 ?_
  refine lv_iload_n hx hb dX3_word_4 rfl (lv_at hl 1 rfl) ?_
  refine gR_i (va_runV (As := [.int b]) (rest := []) ⟨hx, hb, hml, hown, hts⟩ (c_X2_hasRoomFor l D K h0 hv hs n mask sf b (by first | assumption | omega) (by first | assumption | omega) (by first | assumption | omega)) (cwV 1 hts gX3_word_X2_hasRoomFor rfl rfl rfl (by decide +kernel) ⟨Nat.le_of_ble_eq_true rfl, Nat.le_of_ble_eq_true rfl⟩) (gR_preV hE hS hK hP [1, 3] rfl 1 rfl rfl rfl) rfl rfl hl.1 rfl (lv_room (Nat.le_of_ble_eq_true rfl)) dX3_word_5 ⟨Nat.le_of_ble_eq_true rfl, Nat.le_of_ble_eq_true rfl⟩) hS hP (fun rv2 H locs h1 hP hS => ?_)
  have h1 : rv2 = (if 0 ≤ b ∧ b >>> (nI (bdB mask n sf) &&& 31) = 0 then 1 else 0) := h1
  subst h1
  refine lv_if_ne (tgt := 21) hx hb dX3_word_8 (by decide) (fun c8 => ?_) (fun c8 => ?_)
  · skip
    have c8 : 0 ≤ b ∧ b >>> (nI (bdB mask n sf) &&& 31) = 0 := b_ne0 c8
    refine lv_aload_n hx hb dX3_word_21 rfl (lv_at hl 0 rfl) ?_
    refine va_get (D := D) (ci := 3) (v := .ref h0) (C := RX3) (T := TX3) (N := 9) hx hb hts hi3 hown hK hP 0 rfl rfl 0 (by decide) (hts (.fieldLink RX3 10 "PairedChannels" "now" "LPairedChannels$Word;") (List.mem_of_getElem? (i := 3) (by decide +kernel))) (fun _ h9 => h9) rfl dX3_word_22 ?_
    refine lv_aload_n hx hb dX3_word_25 rfl (lv_at hl 0 rfl) ?_
    refine va_get (D := D) (ci := 3) (v := .ref h0) (C := RX3) (T := TX3) (N := 9) hx hb hts hi3 hown hK hP 0 rfl rfl 0 (by decide) (hts (.fieldLink RX3 10 "PairedChannels" "now" "LPairedChannels$Word;") (List.mem_of_getElem? (i := 3) (by decide +kernel))) (fun _ h9 => h9) rfl dX3_word_26 ?_
    refine lv_iload_n hx hb dX3_word_29 rfl (lv_at hl 1 rfl) ?_
    refine gR_i (va_runV (As := [.int b]) (rest := [.ref h0]) ⟨hx, hb, hml, hown, hts⟩ (c_X2_withChecks l D K h0 hv hs n mask sf b (by first | assumption | omega) (by first | assumption | omega) (by first | assumption | omega)) (cwV 1 hts gX3_word_X2_withChecks rfl rfl rfl (by decide +kernel) ⟨Nat.le_of_ble_eq_true rfl, Nat.le_of_ble_eq_true rfl⟩) (gR_preV hE hS hK hP [1, 3] rfl 1 rfl rfl rfl) rfl rfl hl.1 rfl (lv_room (Nat.le_of_ble_eq_true rfl)) dX3_word_30 ⟨Nat.le_of_ble_eq_true rfl, Nat.le_of_ble_eq_true rfl⟩) hS hP (fun rv5 H locs h4 hP hS => ?_)
    have h4 : rv5 = wck n mask sf b := h4
    subst h4
    refine gR_i (va_runV (As := [.int (wck n mask sf b)]) (rest := []) ⟨hx, hb, hml, hown, hts⟩ (c_X2_wordOf l D K h0 hv hs n mask (wck n mask sf b) (by first | assumption | omega)) (cwV 1 hts gX3_word_X2_wordOf rfl rfl rfl (by decide +kernel) ⟨Nat.le_of_ble_eq_true rfl, Nat.le_of_ble_eq_true rfl⟩) (gR_preV hE hS hK hP [1] rfl 1 rfl rfl rfl) rfl rfl hl.1 rfl (lv_room (Nat.le_of_ble_eq_true rfl)) dX3_word_33 ⟨Nat.le_of_ble_eq_true rfl, Nat.le_of_ble_eq_true rfl⟩) hS hP (fun rv7 H locs h6 hP hS => ?_)
    have h6 : rv7 = wof n mask (wck n mask sf b) := h6
    subst h6
    refine W.widen (k := 1) (n := 6) (Nat.le_of_ble_eq_true rfl) (Nat.le_of_ble_eq_true rfl) ?_
    exact vx_ret (gW_iret (v := wof n mask (wck n mask sf b)) () hx hb hr hlk (rfl) hK hP hD hS (⟨by unfold thBody; rw [if_pos c8], rfl⟩) dX3_word_36)
  · skip
    have c8 : ¬ (0 ≤ b ∧ b >>> (nI (bdB mask n sf) &&& 31) = 0) := b_eq0 c8
    exact g_throw (cls := "java/lang/IllegalArgumentException") (text := "there is no such body") (ik := 41) (is := 100) (ic := 45) () hx hb hst hE hS hK hP hD (⟨by unfold thBody; rw [if_neg c8], rfl⟩) hown (by decide +kernel) (by decide +kernel) (by decide +kernel) (hts (.classLink RX3 41 "java/lang/IllegalArgumentException") (List.mem_of_getElem? (i := 1) (by decide +kernel))) (hts (.initialized "java/lang/IllegalArgumentException") (List.mem_of_getElem? (i := 2) (by decide +kernel))) (fun w h => hts w (List.mem_cons_of_mem _ (List.mem_append_right _ (h)))) (by decide +kernel) (by decide +kernel) (hl.1.trans hml.symm) dX3_word_11 dX3_word_14 dX3_word_15 dX3_word_17 dX3_word_20 htab (Nat.le_of_ble_eq_true rfl) (Nat.le_of_ble_eq_true rfl) (Nat.le_of_ble_eq_true rfl) (Nat.le_of_ble_eq_true rfl) hlk (Nat.le_of_ble_eq_true rfl) (Nat.le_of_ble_eq_true rfl)

set_option maxHeartbeats 4000000 in
set_option maxRecDepth 100000 in
theorem w_X3_word (l : Launch) (D : va_G) (K : Nat → ClassId) (x0 : Nat) (x1 : Nat) (x2 : Nat) (t0 : Nat) (r0 : Nat) (y0 : Nat) (o : Nat) (c : Nat) (fz : Int32) (h0 : Nat) (hv : Nat) (hs : Nat) (n : Nat) (mask : Int32) (vf : Nat → Int32) (sf : Nat → Int32) (b : Int32) (hn : okN n) (hm : okM mask n) (hsf : okS sf) (hno : thBody n mask sf b = 0) : MWi l yX3_word wsX3_word ({ frames := 6, cells := 0, slots := 0, locals := 102 } : Room) D (gTy K) [.ref x0, .int b] [(x0, .inr (3, [.ref h0, .ref x1, .int (nI o), .int (nI c), .ref t0, .ref x2, .ref r0, .int fz, .ref y0])), (h0, .inr (2, [.ref hv, .ref hs, .int (nI n), .int mask])), (hv, .inl (K 0, 16, .inl vf)), (hs, .inl (K 0, 4, .inl sf))] (fun (u : Unit) => [(x0, .inr (3, [.ref h0, .ref x1, .int (nI o), .int (nI c), .ref t0, .ref x2, .ref r0, .int fz, .ref y0])), (h0, .inr (2, [.ref hv, .ref hs, .int (nI n), .int mask])), (hv, .inl (K 0, 16, .inl vf)), (hs, .inl (K 0, 4, .inl sf))]) (fun r (u : Unit) => thBody n mask sf b = 0 ∧ r = wof n mask (wck n mask sf b)) 0 0 := by
  refine g_ofW (Qc := fun A => va_Qi _ (gB D (gTy K) A _) A) (cc := cX3_word) (maxL := 2) (ret := (some .int)) (own := RX3) (by decide) rfl rfl (Nat.le_of_ble_eq_true rfl) ?_
  intro pp ee s mm below meth cc A hfx hnm hK hP hD hE hS hA ls hl
  obtain ⟨hx, hb, hr, hml, hown, hts, hlk⟩ := hfx
  have hl : lv_has ls 2 [(0, .ref x0), (1, .int b)] := hl
  have hi3 : ∀ w ∈ u_ws RX3 TX3 9, w ∈ wsX3_word := fun w h => List.mem_cons_of_mem _ (List.mem_append_left _ (List.mem_append_left _ (List.mem_append_right _ (h))))
  refine lv_aload_n hx hb dX3_word_0 rfl (lv_at hl 0 rfl) ?_
  refine va_get (D := D) (ci := 3) (v := .ref h0) (C := RX3) (T := TX3) (N := 9) hx hb hts hi3 hown hK hP 0 rfl rfl 0 (by decide) (hts (.fieldLink RX3 10 "PairedChannels" "now" "LPairedChannels$Word;") (List.mem_of_getElem? (i := 3) (by decide +kernel))) (fun _ h9 => h9) rfl dX3_word_1 ?_
  refine lv_iload_n hx hb dX3_word_4 rfl (lv_at hl 1 rfl) ?_
  refine gR_i (va_runV (As := [.int b]) (rest := []) ⟨hx, hb, hml, hown, hts⟩ (c_X2_hasRoomFor l D K h0 hv hs n mask sf b (by first | assumption | omega) (by first | assumption | omega) (by first | assumption | omega)) (cwV 1 hts gX3_word_X2_hasRoomFor rfl rfl rfl (by decide +kernel) ⟨Nat.le_of_ble_eq_true rfl, Nat.le_of_ble_eq_true rfl⟩) (gR_preV hE hS hK hP [1, 3] rfl 1 rfl rfl rfl) rfl rfl hl.1 rfl (lv_room (Nat.le_of_ble_eq_true rfl)) dX3_word_5 ⟨Nat.le_of_ble_eq_true rfl, Nat.le_of_ble_eq_true rfl⟩) hS hP (fun rv2 H locs h1 hP hS => ?_)
  have h1 : rv2 = (if 0 ≤ b ∧ b >>> (nI (bdB mask n sf) &&& 31) = 0 then 1 else 0) := h1
  subst h1
  refine lv_if_ne (tgt := 21) hx hb dX3_word_8 (by decide) (fun c8 => ?_) (fun c8 => ?_)
  · skip
    have c8 : 0 ≤ b ∧ b >>> (nI (bdB mask n sf) &&& 31) = 0 := b_ne0 c8
    refine lv_aload_n hx hb dX3_word_21 rfl (lv_at hl 0 rfl) ?_
    refine va_get (D := D) (ci := 3) (v := .ref h0) (C := RX3) (T := TX3) (N := 9) hx hb hts hi3 hown hK hP 0 rfl rfl 0 (by decide) (hts (.fieldLink RX3 10 "PairedChannels" "now" "LPairedChannels$Word;") (List.mem_of_getElem? (i := 3) (by decide +kernel))) (fun _ h9 => h9) rfl dX3_word_22 ?_
    refine lv_aload_n hx hb dX3_word_25 rfl (lv_at hl 0 rfl) ?_
    refine va_get (D := D) (ci := 3) (v := .ref h0) (C := RX3) (T := TX3) (N := 9) hx hb hts hi3 hown hK hP 0 rfl rfl 0 (by decide) (hts (.fieldLink RX3 10 "PairedChannels" "now" "LPairedChannels$Word;") (List.mem_of_getElem? (i := 3) (by decide +kernel))) (fun _ h9 => h9) rfl dX3_word_26 ?_
    refine lv_iload_n hx hb dX3_word_29 rfl (lv_at hl 1 rfl) ?_
    refine gR_i (va_runV (As := [.int b]) (rest := [.ref h0]) ⟨hx, hb, hml, hown, hts⟩ (c_X2_withChecks l D K h0 hv hs n mask sf b (by first | assumption | omega) (by first | assumption | omega) (by first | assumption | omega)) (cwV 1 hts gX3_word_X2_withChecks rfl rfl rfl (by decide +kernel) ⟨Nat.le_of_ble_eq_true rfl, Nat.le_of_ble_eq_true rfl⟩) (gR_preV hE hS hK hP [1, 3] rfl 1 rfl rfl rfl) rfl rfl hl.1 rfl (lv_room (Nat.le_of_ble_eq_true rfl)) dX3_word_30 ⟨Nat.le_of_ble_eq_true rfl, Nat.le_of_ble_eq_true rfl⟩) hS hP (fun rv5 H locs h4 hP hS => ?_)
    have h4 : rv5 = wck n mask sf b := h4
    subst h4
    refine gR_i (va_runV (As := [.int (wck n mask sf b)]) (rest := []) ⟨hx, hb, hml, hown, hts⟩ (c_X2_wordOf l D K h0 hv hs n mask (wck n mask sf b) (by first | assumption | omega)) (cwV 1 hts gX3_word_X2_wordOf rfl rfl rfl (by decide +kernel) ⟨Nat.le_of_ble_eq_true rfl, Nat.le_of_ble_eq_true rfl⟩) (gR_preV hE hS hK hP [1] rfl 1 rfl rfl rfl) rfl rfl hl.1 rfl (lv_room (Nat.le_of_ble_eq_true rfl)) dX3_word_33 ⟨Nat.le_of_ble_eq_true rfl, Nat.le_of_ble_eq_true rfl⟩) hS hP (fun rv7 H locs h6 hP hS => ?_)
    have h6 : rv7 = wof n mask (wck n mask sf b) := h6
    subst h6
    exact gW_iret (v := wof n mask (wck n mask sf b)) () hx hb hr hlk (rfl) hK hP hD hS (⟨by unfold thBody; rw [if_pos c8], rfl⟩) dX3_word_36
  · skip
    have c8 : ¬ (0 ≤ b ∧ b >>> (nI (bdB mask n sf) &&& 31) = 0) := b_eq0 c8
    exact absurd (hno.symm.trans (show _ = 1 from (by unfold thBody; rw [if_neg c8]))) (by decide)

set_option maxHeartbeats 4000000 in
set_option maxRecDepth 100000 in
theorem c_X3_setting (l : Launch) (hst : l.stackTraces = false) (D : va_G) (K : Nat → ClassId) (x0 : Nat) (x1 : Nat) (x2 : Nat) (t0 : Nat) (r0 : Nat) (y0 : Nat) (o : Nat) (c : Nat) (fz : Int32) (h0 : Nat) (hv : Nat) (hs : Nat) (n : Nat) (mask : Int32) (vf : Nat → Int32) (sf : Nat → Int32) (q : Int32)  : MXi l yX3_setting wsX3_setting ({ frames := 6, cells := 1, slots := 6, locals := 90 } : Room) D (gTy K) [.ref x0, .int q] [(x0, .inr (3, [.ref h0, .ref x1, .int (nI o), .int (nI c), .ref t0, .ref x2, .ref r0, .int fz, .ref y0])), (h0, .inr (2, [.ref hv, .ref hs, .int (nI n), .int mask])), (hv, .inl (K 0, 16, .inl vf)), (hs, .inl (K 0, 4, .inl sf))] (fun (u : Unit) => [(x0, .inr (3, [.ref h0, .ref x1, .int (nI o), .int (nI c), .ref t0, .ref x2, .ref r0, .int fz, .ref y0])), (h0, .inr (2, [.ref hv, .ref hs, .int (nI n), .int mask])), (hv, .inl (K 0, 16, .inl vf)), (hs, .inl (K 0, 4, .inl sf))]) (fun r (u : Unit) => thSett q = 0 ∧ r = sf q.toNatClampNeg) (fun (E : String) (u : Unit) => ((thSett q = 1 ∧ E = xIO))) 1 6 := by
  refine g_ofX (Qc := fun A => va_Qi _ (gB D (gTy K) A _) A) (XC := fun A => gX D (gTy K) A _ _) (cc := cX3_setting) (maxL := 2) (ret := (some .int)) (own := RX3) (by decide) rfl rfl (Nat.le_of_ble_eq_true rfl) ?_
  intro pp ee s mm below meth cc A hfx htab hK hP hD hE hS hA ls hl
  obtain ⟨hx, hb, hr, hml, hown, hts, hlk⟩ := hfx
  have hl : lv_has ls 2 [(0, .ref x0), (1, .int q)] := hl
  have hi2 : ∀ w ∈ u_ws RX2 TX2 4, w ∈ wsX3_setting := fun w h => List.mem_cons_of_mem _ (List.mem_append_left _ (List.mem_append_right _ (h)))
  have hi3 : ∀ w ∈ u_ws RX3 TX3 9, w ∈ wsX3_setting := fun w h => List.mem_cons_of_mem _ (List.mem_append_left _ (List.mem_append_left _ (List.mem_append_right _ (h))))
  refine lv_iload_n hx hb dX3_setting_0 rfl (lv_at hl 1 rfl) ?_
  refine lv_if_lt (tgt := 9) hx hb dX3_setting_1 (by decide) (fun c1 => ?_) (fun c1 => ?_)
  · skip
    exact g_throw (cls := "java/lang/IndexOutOfBoundsException") (text := "there is no such setting") (ik := 76) (is := 84) (ic := 80) () hx hb hst hE hS hK hP hD (⟨by unfold thSett; first | (first | exact (g_in (fun h => absurd c1 (Int32.not_lt.mpr h.1)) rfl) | exact (g_tn (fun h => absurd c1 (Int32.not_lt.mpr h.1)) rfl) | exact (g_an (fun h => absurd c1 (Int32.not_lt.mpr h.1)) rfl)) | (first | exact (g_in (fun h => c6 (le3_lt4 h.2)) rfl) | exact (g_tn (fun h => c6 (le3_lt4 h.2)) rfl) | exact (g_an (fun h => c6 (le3_lt4 h.2)) rfl)), rfl⟩) hown (by decide +kernel) (by decide +kernel) (by decide +kernel) (hts (.classLink RX3 76 "java/lang/IndexOutOfBoundsException") (List.mem_of_getElem? (i := 1) (by decide +kernel))) (hts (.initialized "java/lang/IndexOutOfBoundsException") (List.mem_of_getElem? (i := 2) (by decide +kernel))) (fun w h => hts w (List.mem_cons_of_mem _ (List.mem_append_right _ (h)))) (by decide +kernel) (by decide +kernel) (hl.1.trans hml.symm) dX3_setting_9 dX3_setting_12 dX3_setting_13 dX3_setting_15 dX3_setting_18 htab (Nat.le_of_ble_eq_true rfl) (Nat.le_of_ble_eq_true rfl) (Nat.le_of_ble_eq_true rfl) (Nat.le_of_ble_eq_true rfl) hlk (Nat.le_of_ble_eq_true rfl) (Nat.le_of_ble_eq_true rfl)
  · skip
    refine lv_iload_n hx hb dX3_setting_4 rfl (lv_at hl 1 rfl) ?_
    refine lv_iconst (v := 4) hx hb dX3_setting_5 (by decide) ?_
    refine lv_icmp_lt (tgt := 19) hx hb dX3_setting_6 (by decide) (fun c6 => ?_) (fun c6 => ?_)
    · skip
      have hq4 : 0 ≤ q ∧ q < nI 4 := ⟨Int32.not_lt.mp c1, c6⟩
      have hth : thSett q = 0 := by unfold thSett; rw [if_pos ⟨hq4.1, lt4_le3 c6⟩]
      obtain ⟨j, hj, ej⟩ := in_nat (by omega) hq4
      have ekc : q.toNatClampNeg = j := by rw [ej, nI_clamp (by omega)]
      subst ej
      rw [ekc]
      refine lv_aload_n hx hb dX3_setting_19 rfl (lv_at hl 0 rfl) ?_
      refine va_get (D := D) (ci := 3) (v := .ref h0) (C := RX3) (T := TX3) (N := 9) hx hb hts hi3 hown hK hP 0 rfl rfl 0 (by decide) (hts (.fieldLink RX3 10 "PairedChannels" "now" "LPairedChannels$Word;") (List.mem_of_getElem? (i := 3) (by decide +kernel))) (fun _ h9 => h9) rfl dX3_setting_20 ?_
      refine va_get (D := D) (ci := 2) (v := .ref hs) (C := RX2) (T := TX2) (N := 4) hx hb hts hi2 hown hK hP 1 rfl rfl 1 (by decide) (hts (.fieldLink RX3 94 "PairedChannels$Word" "settings" "[I") (List.mem_of_getElem? (i := 4) (by decide +kernel))) (fun _ h9 => h9) rfl dX3_setting_23 ?_
      refine lv_iload_n hx hb dX3_setting_26 rfl (lv_at hl 1 rfl) ?_
      refine wa_iald hx hb hK hP 3 0 rfl rfl (j) rfl (by omega) (by decide) dX3_setting_27 ?_
      refine W.widen (k := 1) (n := 6) (Nat.le_of_ble_eq_true rfl) (Nat.le_of_ble_eq_true rfl) ?_
      exact vx_ret (gW_iret (v := sf j) () hx hb hr hlk (rfl) hK hP hD hS (⟨hth, rfl⟩) dX3_setting_28)
    · skip
      exact g_throw (cls := "java/lang/IndexOutOfBoundsException") (text := "there is no such setting") (ik := 76) (is := 84) (ic := 80) () hx hb hst hE hS hK hP hD (⟨by unfold thSett; first | (first | exact (g_in (fun h => absurd c1 (Int32.not_lt.mpr h.1)) rfl) | exact (g_tn (fun h => absurd c1 (Int32.not_lt.mpr h.1)) rfl) | exact (g_an (fun h => absurd c1 (Int32.not_lt.mpr h.1)) rfl)) | (first | exact (g_in (fun h => c6 (le3_lt4 h.2)) rfl) | exact (g_tn (fun h => c6 (le3_lt4 h.2)) rfl) | exact (g_an (fun h => c6 (le3_lt4 h.2)) rfl)), rfl⟩) hown (by decide +kernel) (by decide +kernel) (by decide +kernel) (hts (.classLink RX3 76 "java/lang/IndexOutOfBoundsException") (List.mem_of_getElem? (i := 1) (by decide +kernel))) (hts (.initialized "java/lang/IndexOutOfBoundsException") (List.mem_of_getElem? (i := 2) (by decide +kernel))) (fun w h => hts w (List.mem_cons_of_mem _ (List.mem_append_right _ (h)))) (by decide +kernel) (by decide +kernel) (hl.1.trans hml.symm) dX3_setting_9 dX3_setting_12 dX3_setting_13 dX3_setting_15 dX3_setting_18 htab (Nat.le_of_ble_eq_true rfl) (Nat.le_of_ble_eq_true rfl) (Nat.le_of_ble_eq_true rfl) (Nat.le_of_ble_eq_true rfl) hlk (Nat.le_of_ble_eq_true rfl) (Nat.le_of_ble_eq_true rfl)

set_option maxHeartbeats 4000000 in
set_option maxRecDepth 100000 in
theorem w_X3_setting (l : Launch) (D : va_G) (K : Nat → ClassId) (x0 : Nat) (x1 : Nat) (x2 : Nat) (t0 : Nat) (r0 : Nat) (y0 : Nat) (o : Nat) (c : Nat) (fz : Int32) (h0 : Nat) (hv : Nat) (hs : Nat) (n : Nat) (mask : Int32) (vf : Nat → Int32) (sf : Nat → Int32) (q : Int32) (hno : thSett q = 0) : MWi l yX3_setting wsX3_setting ({ frames := 6, cells := 0, slots := 0, locals := 90 } : Room) D (gTy K) [.ref x0, .int q] [(x0, .inr (3, [.ref h0, .ref x1, .int (nI o), .int (nI c), .ref t0, .ref x2, .ref r0, .int fz, .ref y0])), (h0, .inr (2, [.ref hv, .ref hs, .int (nI n), .int mask])), (hv, .inl (K 0, 16, .inl vf)), (hs, .inl (K 0, 4, .inl sf))] (fun (u : Unit) => [(x0, .inr (3, [.ref h0, .ref x1, .int (nI o), .int (nI c), .ref t0, .ref x2, .ref r0, .int fz, .ref y0])), (h0, .inr (2, [.ref hv, .ref hs, .int (nI n), .int mask])), (hv, .inl (K 0, 16, .inl vf)), (hs, .inl (K 0, 4, .inl sf))]) (fun r (u : Unit) => thSett q = 0 ∧ r = sf q.toNatClampNeg) 0 0 := by
  refine g_ofW (Qc := fun A => va_Qi _ (gB D (gTy K) A _) A) (cc := cX3_setting) (maxL := 2) (ret := (some .int)) (own := RX3) (by decide) rfl rfl (Nat.le_of_ble_eq_true rfl) ?_
  intro pp ee s mm below meth cc A hfx hnm hK hP hD hE hS hA ls hl
  obtain ⟨hx, hb, hr, hml, hown, hts, hlk⟩ := hfx
  have hl : lv_has ls 2 [(0, .ref x0), (1, .int q)] := hl
  have hi2 : ∀ w ∈ u_ws RX2 TX2 4, w ∈ wsX3_setting := fun w h => List.mem_cons_of_mem _ (List.mem_append_left _ (List.mem_append_right _ (h)))
  have hi3 : ∀ w ∈ u_ws RX3 TX3 9, w ∈ wsX3_setting := fun w h => List.mem_cons_of_mem _ (List.mem_append_left _ (List.mem_append_left _ (List.mem_append_right _ (h))))
  refine lv_iload_n hx hb dX3_setting_0 rfl (lv_at hl 1 rfl) ?_
  refine lv_if_lt (tgt := 9) hx hb dX3_setting_1 (by decide) (fun c1 => ?_) (fun c1 => ?_)
  · skip
    exact absurd (hno.symm.trans (show _ = 1 from (by unfold thSett; first | (first | exact (g_in (fun h => absurd c1 (Int32.not_lt.mpr h.1)) rfl) | exact (g_tn (fun h => absurd c1 (Int32.not_lt.mpr h.1)) rfl) | exact (g_an (fun h => absurd c1 (Int32.not_lt.mpr h.1)) rfl)) | (first | exact (g_in (fun h => c6 (le3_lt4 h.2)) rfl) | exact (g_tn (fun h => c6 (le3_lt4 h.2)) rfl) | exact (g_an (fun h => c6 (le3_lt4 h.2)) rfl))))) (by decide)
  · skip
    refine lv_iload_n hx hb dX3_setting_4 rfl (lv_at hl 1 rfl) ?_
    refine lv_iconst (v := 4) hx hb dX3_setting_5 (by decide) ?_
    refine lv_icmp_lt (tgt := 19) hx hb dX3_setting_6 (by decide) (fun c6 => ?_) (fun c6 => ?_)
    · skip
      have hq4 : 0 ≤ q ∧ q < nI 4 := ⟨Int32.not_lt.mp c1, c6⟩
      have hth : thSett q = 0 := by unfold thSett; rw [if_pos ⟨hq4.1, lt4_le3 c6⟩]
      obtain ⟨j, hj, ej⟩ := in_nat (by omega) hq4
      have ekc : q.toNatClampNeg = j := by rw [ej, nI_clamp (by omega)]
      subst ej
      rw [ekc]
      refine lv_aload_n hx hb dX3_setting_19 rfl (lv_at hl 0 rfl) ?_
      refine va_get (D := D) (ci := 3) (v := .ref h0) (C := RX3) (T := TX3) (N := 9) hx hb hts hi3 hown hK hP 0 rfl rfl 0 (by decide) (hts (.fieldLink RX3 10 "PairedChannels" "now" "LPairedChannels$Word;") (List.mem_of_getElem? (i := 3) (by decide +kernel))) (fun _ h9 => h9) rfl dX3_setting_20 ?_
      refine va_get (D := D) (ci := 2) (v := .ref hs) (C := RX2) (T := TX2) (N := 4) hx hb hts hi2 hown hK hP 1 rfl rfl 1 (by decide) (hts (.fieldLink RX3 94 "PairedChannels$Word" "settings" "[I") (List.mem_of_getElem? (i := 4) (by decide +kernel))) (fun _ h9 => h9) rfl dX3_setting_23 ?_
      refine lv_iload_n hx hb dX3_setting_26 rfl (lv_at hl 1 rfl) ?_
      refine wa_iald hx hb hK hP 3 0 rfl rfl (j) rfl (by omega) (by decide) dX3_setting_27 ?_
      exact gW_iret (v := sf j) () hx hb hr hlk (rfl) hK hP hD hS (⟨hth, rfl⟩) dX3_setting_28
    · skip
      exact absurd (hno.symm.trans (show _ = 1 from (by unfold thSett; first | (first | exact (g_in (fun h => absurd c1 (Int32.not_lt.mpr h.1)) rfl) | exact (g_tn (fun h => absurd c1 (Int32.not_lt.mpr h.1)) rfl) | exact (g_an (fun h => absurd c1 (Int32.not_lt.mpr h.1)) rfl)) | (first | exact (g_in (fun h => c6 (le3_lt4 h.2)) rfl) | exact (g_tn (fun h => c6 (le3_lt4 h.2)) rfl) | exact (g_an (fun h => c6 (le3_lt4 h.2)) rfl))))) (by decide)

set_option maxHeartbeats 4000000 in
set_option maxRecDepth 100000 in
theorem c_X3_read (l : Launch) (hst : l.stackTraces = false) (D : va_G) (K : Nat → ClassId) (x0 : Nat) (x1 : Nat) (x2 : Nat) (t0 : Nat) (r0 : Nat) (y0 : Nat) (o : Nat) (c : Nat) (fz : Int32) (h0 : Nat) (hv : Nat) (hs : Nat) (n : Nat) (mask : Int32) (vf : Nat → Int32) (sf : Nat → Int32) (r1 : Nat) (r2 : Nat) (r3 : Nat) (r4 : Nat) (r5 : Nat) (r6 : Nat) (r7 : Nat) (r8 : Nat) (n0 : Nat) (ig : Int32) (ip : Int32) (ir : Int32) (fr : Nat → Int32) (fw : Nat → Int32) (fb : Nat → Int32) (fp : Nat → Int32) (fm : Nat → Int32) (fi : Nat → Int32) (gb : Nat → Int32) (gp : Nat → Int32) (q : Int32) (hn : okN n) (hm : okM mask n) (hsf : okS sf) (hvv : okV vf) (hfz : fz = 0 ∨ (fz = 1 ∧ rdG n mask vf sf n0 ip ir fr fb fp fm fi)) : MXi l yX3_read wsX3_read ({ frames := 7, cells := 1, slots := 6, locals := 149 } : Room) D (gTy K) [.ref x0, .int q] [(x0, .inr (3, [.ref h0, .ref x1, .int (nI o), .int (nI c), .ref t0, .ref x2, .ref r0, .int fz, .ref y0])), (h0, .inr (2, [.ref hv, .ref hs, .int (nI n), .int mask])), (hv, .inl (K 0, 16, .inl vf)), (hs, .inl (K 0, 4, .inl sf)), (r0, .inr (0, [.ref r1, .ref r2, .ref r3, .ref r4, .ref r5, .ref r6, .ref r7, .ref r8, .int ig, .int (nI n0), .int ip, .int ir])), (r1, .inl (K 0, 16, .inl fr)), (r2, .inl (K 0, 16, .inl fw)), (r3, .inl (K 0, 4, .inl fb)), (r4, .inl (K 0, 4, .inl fp)), (r5, .inl (K 0, 4, .inl fm)), (r6, .inl (K 1, 4, .inl fi)), (r7, .inl (K 0, 8, .inl gb)), (r8, .inl (K 0, 8, .inl gp))] (fun (u : Int32 × RT) => [(x0, .inr (3, [.ref h0, .ref x1, .int (nI o), .int (nI c), .ref t0, .ref x2, .ref r0, .int u.1, .ref y0])), (h0, .inr (2, [.ref hv, .ref hs, .int (nI n), .int mask])), (hv, .inl (K 0, 16, .inl vf)), (hs, .inl (K 0, 4, .inl sf)), (r0, .inr (0, [.ref r1, .ref r2, .ref r3, .ref r4, .ref r5, .ref r6, .ref r7, .ref r8, .int u.2.2.1, .int (nI u.2.1), .int u.2.2.2.1, .int u.2.2.2.2.1])), (r1, .inl (K 0, 16, .inl u.2.2.2.2.2.1)), (r2, .inl (K 0, 16, .inl u.2.2.2.2.2.2.1)), (r3, .inl (K 0, 4, .inl u.2.2.2.2.2.2.2.1)), (r4, .inl (K 0, 4, .inl u.2.2.2.2.2.2.2.2.1)), (r5, .inl (K 0, 4, .inl u.2.2.2.2.2.2.2.2.2.1)), (r6, .inl (K 1, 4, .inl u.2.2.2.2.2.2.2.2.2.2.1)), (r7, .inl (K 0, 8, .inl u.2.2.2.2.2.2.2.2.2.2.2.1)), (r8, .inl (K 0, 8, .inl u.2.2.2.2.2.2.2.2.2.2.2.2))]) (fun r (u : Int32 × RT) => thRead q = 0 ∧ frs n mask vf sf u.1 u.2 ∧ r = rdA n mask vf sf (rdS n mask vf sf) q) (fun (E : String) (u : Int32 × RT) => ((thRead q = 1 ∧ E = xIA)) ∧ u = (fz, (n0, ig, ip, ir, fr, fw, fb, fp, fm, fi, gb, gp))) 1 6 := by
  refine g_ofX (Qc := fun A => va_Qi _ (gB D (gTy K) A _) A) (XC := fun A => gX D (gTy K) A _ _) (cc := cX3_read) (maxL := 5) (ret := (some .int)) (own := RX3) (by decide) rfl rfl (Nat.le_of_ble_eq_true rfl) ?_
  intro pp ee s mm below meth cc A hfx htab hK hP hD hE hS hA ls hl
  obtain ⟨hx, hb, hr, hml, hown, hts, hlk⟩ := hfx
  have hl : lv_has ls 5 [(0, .ref x0), (1, .int q)] := hl
  have hi0 : ∀ w ∈ u_ws RX0 TX0 12, w ∈ wsX3_read := fun w h => List.mem_cons_of_mem _ (List.mem_append_left _ (List.mem_append_left _ (List.mem_append_left _ (List.mem_append_right _ (h)))))
  have hi3 : ∀ w ∈ u_ws RX3 TX3 9, w ∈ wsX3_read := fun w h => List.mem_cons_of_mem _ (List.mem_append_left _ (List.mem_append_left _ (List.mem_append_right _ (h))))
  have hnl := hn.le
  have hll : 1 ≤ (rdS n mask vf sf).length ∧ (rdS n mask vf sf).length ≤ lmN sf := rdL_len (n := n) (mask := mask) (vf := vf) (okS.l hsf).2.1
  have hl44 := (okS.l hsf).2.2
  refine lv_iload_n hx hb dX3_read_0 rfl (lv_at hl 1 rfl) ?_
  refine lv_if_lt (tgt := 9) hx hb dX3_read_1 (by decide) (fun c1 => ?_) (fun c1 => ?_)
  · skip
    exact g_throw (cls := "java/lang/IllegalArgumentException") (text := "what is not 0 to 4") (ik := 41) (is := 178) (ic := 45) (fz, (n0, ig, ip, ir, fr, fw, fb, fp, fm, fi, gb, gp)) hx hb hst hE hS hK hP hD (⟨⟨by unfold thRead; first | (first | exact (g_in (fun h => absurd c1 (Int32.not_lt.mpr h.1)) rfl) | exact (g_tn (fun h => absurd c1 (Int32.not_lt.mpr h.1)) rfl) | exact (g_an (fun h => absurd c1 (Int32.not_lt.mpr h.1)) rfl)) | (first | exact (g_in (fun h => c6 h.2) rfl) | exact (g_tn (fun h => c6 h.2) rfl) | exact (g_an (fun h => c6 h.2) rfl)), rfl⟩, rfl⟩) hown (by decide +kernel) (by decide +kernel) (by decide +kernel) (hts (.classLink RX3 41 "java/lang/IllegalArgumentException") (List.mem_of_getElem? (i := 1) (by decide +kernel))) (hts (.initialized "java/lang/IllegalArgumentException") (List.mem_of_getElem? (i := 2) (by decide +kernel))) (fun w h => hts w (List.mem_cons_of_mem _ (List.mem_append_right _ (h)))) (by decide +kernel) (by decide +kernel) (hl.1.trans hml.symm) dX3_read_9 dX3_read_12 dX3_read_13 dX3_read_15 dX3_read_18 htab (Nat.le_of_ble_eq_true rfl) (Nat.le_of_ble_eq_true rfl) (Nat.le_of_ble_eq_true rfl) (Nat.le_of_ble_eq_true rfl) hlk (Nat.le_of_ble_eq_true rfl) (Nat.le_of_ble_eq_true rfl)
  · skip
    refine lv_iload_n hx hb dX3_read_4 rfl (lv_at hl 1 rfl) ?_
    refine lv_iconst (v := 4) hx hb dX3_read_5 (by decide) ?_
    refine lv_icmp_le (tgt := 19) hx hb dX3_read_6 (by decide) (fun c6 => ?_) (fun c6 => ?_)
    · skip
      have hth : thRead q = 0 := by unfold thRead; rw [if_pos ⟨Int32.not_lt.mp c1, c6⟩]
      refine lv_aload_n hx hb dX3_read_19 rfl (lv_at hl 0 rfl) ?_
      refine gW_r (wr := []) (W2 := (fun (u : Int32 × (Nat → Int32) × (Nat → Int32) × (Nat → Int32) × (Nat → Int32) × (Nat → Int32) × (Nat → Int32) × (Nat → Int32)) => [(x0, .inr (3, [.ref h0, .ref x1, .int (nI o), .int (nI c), .ref t0, .ref x2, .ref r0, .int 1, .ref y0])), (h0, .inr (2, [.ref hv, .ref hs, .int (nI n), .int mask])), (hv, .inl (K 0, 16, .inl vf)), (hs, .inl (K 0, 4, .inl sf)), (r0, .inr (0, [.ref r1, .ref r2, .ref r3, .ref r4, .ref r5, .ref r6, .ref r7, .ref r8, .int u.1, .int (nI n), .int (nI (rdS n mask vf sf).length), .int (rrk n mask sf (rdS n mask vf sf) (rdS n mask vf sf).length)])), (r1, .inl (K 0, 16, .inl vf)), (r2, .inl (K 0, 16, .inl u.2.1)), (r3, .inl (K 0, 4, .inl u.2.2.1)), (r4, .inl (K 0, 4, .inl u.2.2.2.1)), (r5, .inl (K 0, 4, .inl u.2.2.2.2.1)), (r6, .inl (K 1, 4, .inl u.2.2.2.2.2.1)), (r7, .inl (K 0, 8, .inl u.2.2.2.2.2.2.1)), (r8, .inl (K 0, 8, .inl u.2.2.2.2.2.2.2))])) (va_runV (As := []) (rest := []) ⟨hx, hb, hml, hown, hts⟩ ((c_X3_currentReading l D K x0 x1 x2 t0 r0 y0 o c fz h0 hv hs n mask vf sf r1 r2 r3 r4 r5 r6 r7 r8 n0 ig ip ir fr fw fb fp fm fi gb gp (by first | assumption | omega) (by first | assumption | omega) (by first | assumption | omega) (by first | assumption | omega) (by first | assumption | omega)) _) (cwV 0 hts gX3_read_X3_currentReading rfl rfl rfl (by decide +kernel) ⟨Nat.le_of_ble_eq_true rfl, Nat.le_of_ble_eq_true rfl⟩) (gW_preV hE hS hK hP hD hA [0, 1, 2, 3, 4, 5, 6, 7, 8, 9, 10, 11, 12] rfl (by decide) 0 rfl rfl rfl) rfl rfl hl.1 rfl (lv_room (Nat.le_of_ble_eq_true rfl)) dX3_read_20 ⟨Nat.le_of_ble_eq_true rfl, Nat.le_of_ble_eq_true rfl⟩) hS hP hD hA [0, 1, 2, 3, 4, 5, 6, 7, 8, 9, 10, 11, 12] [] [0, 1, 2, 3, 4, 5, 6, 7, 8, 9, 10, 11, 12] rfl rfl (by decide) (by decide) (by decide) (fun _ => rfl) (fun u3 H locs h4 hP hD hS => ?_)
      have hP : va_P D vwCl [(x0, .inr (3, [.ref h0, .ref x1, .int (nI o), .int (nI c), .ref t0, .ref x2, .ref r0, .int 1, .ref y0])), (h0, .inr (2, [.ref hv, .ref hs, .int (nI n), .int mask])), (hv, .inl (K 0, 16, .inl vf)), (hs, .inl (K 0, 4, .inl sf)), (r0, .inr (0, [.ref r1, .ref r2, .ref r3, .ref r4, .ref r5, .ref r6, .ref r7, .ref r8, .int u3.1, .int (nI n), .int (nI ((rdS n mask vf sf).length)), .int (rrk n mask sf (rdS n mask vf sf) (rdS n mask vf sf).length)])), (r1, .inl (K 0, 16, .inl vf)), (r2, .inl (K 0, 16, .inl u3.2.1)), (r3, .inl (K 0, 4, .inl u3.2.2.1)), (r4, .inl (K 0, 4, .inl u3.2.2.2.1)), (r5, .inl (K 0, 4, .inl u3.2.2.2.2.1)), (r6, .inl (K 1, 4, .inl u3.2.2.2.2.2.1)), (r7, .inl (K 0, 8, .inl u3.2.2.2.2.2.2.1)), (r8, .inl (K 0, 8, .inl u3.2.2.2.2.2.2.2))] _ := hP
      have hD : va_D A [(x0, .inr (3, [.ref h0, .ref x1, .int (nI o), .int (nI c), .ref t0, .ref x2, .ref r0, .int 1, .ref y0])), (h0, .inr (2, [.ref hv, .ref hs, .int (nI n), .int mask])), (hv, .inl (K 0, 16, .inl vf)), (hs, .inl (K 0, 4, .inl sf)), (r0, .inr (0, [.ref r1, .ref r2, .ref r3, .ref r4, .ref r5, .ref r6, .ref r7, .ref r8, .int u3.1, .int (nI n), .int (nI ((rdS n mask vf sf).length)), .int (rrk n mask sf (rdS n mask vf sf) (rdS n mask vf sf).length)])), (r1, .inl (K 0, 16, .inl vf)), (r2, .inl (K 0, 16, .inl u3.2.1)), (r3, .inl (K 0, 4, .inl u3.2.2.1)), (r4, .inl (K 0, 4, .inl u3.2.2.2.1)), (r5, .inl (K 0, 4, .inl u3.2.2.2.2.1)), (r6, .inl (K 1, 4, .inl u3.2.2.2.2.2.1)), (r7, .inl (K 0, 8, .inl u3.2.2.2.2.2.2.1)), (r8, .inl (K 0, 8, .inl u3.2.2.2.2.2.2.2))] := hD
      have hrd : rdH n mask sf (rdS n mask vf sf) u3.2.2.1 u3.2.2.2.1 u3.2.2.2.2.1 u3.2.2.2.2.2.1 := h4
      refine lv_astore_n (lv' := [(2, .ref r0), (0, .ref x0), (1, .int q)]) hx hb dX3_read_23 rfl hl (by decide) rfl (fun ls hl => ?_)
      refine lv_aload_n hx hb dX3_read_24 rfl (lv_at hl 0 rfl) ?_
      refine va_get (D := D) (ci := 0) (v := .int (rrk n mask sf (rdS n mask vf sf) (rdS n mask vf sf).length)) (C := RX0) (T := TX0) (N := 12) hx hb hts hi0 hown hK hP 4 rfl rfl 11 (by decide) (hts (.fieldLink RX3 184 "PairedChannels$Reading" "rankRead" "I") (List.mem_of_getElem? (i := 3) (by decide +kernel))) (fun _ h9 => h9) rfl dX3_read_25 ?_
      by_cases hrr : fstX n mask sf (rdS n mask vf sf) (rdS n mask vf sf).length < (rdS n mask vf sf).length
      · skip
        refine lv_eqi (nI (fstX n mask sf (rdS n mask vf sf) (rdS n mask vf sf).length)) (rrk_p hrr) ?_
        refine lv_istore_n (lv' := [(3, .int (nI (fstX n mask sf (rdS n mask vf sf) (rdS n mask vf sf).length))), (2, .ref r0), (0, .ref x0), (1, .int q)]) hx hb dX3_read_28 rfl hl (by decide) rfl (fun ls hl => ?_)
        refine lv_iload_n hx hb dX3_read_29 rfl (lv_at hl 0 rfl) ?_
        refine lv_if_lt (tgt := 38) hx hb dX3_read_30 (by decide) (fun c30 => ?_) (fun c30 => ?_)
        · skip
          have c30 : fstX n mask sf (rdS n mask vf sf) (rdS n mask vf sf).length < 0 := (nI_ltI (a := fstX n mask sf (rdS n mask vf sf) (rdS n mask vf sf).length) (b := 0) (by omega) (by omega)).mp c30
          exact absurd c30 (by omega)
        · skip
          have c30 : ¬ fstX n mask sf (rdS n mask vf sf) (rdS n mask vf sf).length < 0 := fun h9 => c30 ((nI_ltI (a := fstX n mask sf (rdS n mask vf sf) (rdS n mask vf sf).length) (b := 0) (by omega) (by omega)).mpr h9)
          refine lv_iload_n hx hb dX3_read_33 rfl (lv_at hl 0 rfl) ?_
          refine lv_iconst (v := 4) hx hb dX3_read_34 (by decide) ?_
          refine lv_icmp_lt (tgt := 40) hx hb dX3_read_35 (by decide) (fun c7 => ?_) (fun c7 => ?_)
          · skip
            have c7 : fstX n mask sf (rdS n mask vf sf) (rdS n mask vf sf).length < 4 := (nI_ltI (a := fstX n mask sf (rdS n mask vf sf) (rdS n mask vf sf).length) (b := 4) (by omega) (by omega)).mp c7
            refine lv_aload_n hx hb dX3_read_40 rfl (lv_at hl 1 rfl) ?_
            refine va_get (D := D) (ci := 0) (v := .ref r5) (C := RX0) (T := TX0) (N := 12) hx hb hts hi0 hown hK hP 4 rfl rfl 4 (by decide) (hts (.fieldLink RX3 187 "PairedChannels$Reading" "messages" "[I") (List.mem_of_getElem? (i := 4) (by decide +kernel))) (fun _ h9 => h9) rfl dX3_read_41 ?_
            refine lv_iload_n hx hb dX3_read_44 rfl (lv_at hl 0 rfl) ?_
            refine wa_iald hx hb hK hP 9 0 rfl rfl (fstX n mask sf (rdS n mask vf sf) (rdS n mask vf sf).length) rfl (by omega) (by decide) dX3_read_45 ?_
            refine lv_eqi (msP n mask (rdS n mask vf sf) (fstX n mask sf (rdS n mask vf sf) (rdS n mask vf sf).length)) ((hrd.2 _ hrr).1) ?_
            refine lv_istore (lv' := [(4, .int (msP n mask (rdS n mask vf sf) (fstX n mask sf (rdS n mask vf sf) (rdS n mask vf sf).length))), (3, .int (nI (fstX n mask sf (rdS n mask vf sf) (rdS n mask vf sf).length))), (2, .ref r0), (0, .ref x0), (1, .int q)]) hx hb dX3_read_46 hl (by decide) rfl (fun ls hl => ?_)
            refine lv_iload_n hx hb dX3_read_48 rfl (lv_at hl 4 rfl) ?_
            by_cases s49_0 : q = 0
            · skip
              subst s49_0
              have hl : lv_has ls 5 [(4, .int (msP n mask (rdS n mask vf sf) (fstX n mask sf (rdS n mask vf sf) (rdS n mask vf sf).length))), (3, .int (nI (fstX n mask sf (rdS n mask vf sf) (rdS n mask vf sf).length))), (2, .ref r0), (0, .ref x0), (1, .int 0)] := hl
              refine lv_tableIn (off := 31) (tgt := 80) hx hb dX3_read_49 (by decide) (by decide) (by decide) (by decide) ?_
              refine lv_iload hx hb dX3_read_80 (lv_at hl 0 rfl) ?_
              refine W.widen (k := 1) (n := 6) (Nat.le_of_ble_eq_true rfl) (Nat.le_of_ble_eq_true rfl) ?_
              exact vx_ret (gW_iret (v := msP n mask (rdS n mask vf sf) (fstX n mask sf (rdS n mask vf sf) (rdS n mask vf sf).length)) (1, (n, u3.1, nI ((rdS n mask vf sf).length), rrk n mask sf (rdS n mask vf sf) (rdS n mask vf sf).length, vf, u3.2.1, u3.2.2.1, u3.2.2.2.1, u3.2.2.2.2.1, u3.2.2.2.2.2.1, u3.2.2.2.2.2.2.1, u3.2.2.2.2.2.2.2)) hx hb hr hlk (rfl) hK hP hD hS (⟨hth, Or.inr ⟨rfl, rfl, rfl, rfl, fun _ _ => rfl, hrd⟩, by unfold rdA; first | (rw [if_neg hrr]; done) | (rw [if_pos hrr, if_pos rfl]; done) | ((first | exact (g_ip hrr (g_in (by decide) (g_ip rfl rfl))) | exact (g_tp hrr (g_tn (by decide) (g_tp rfl rfl))) | exact (g_ap hrr (g_an (by decide) (g_ap rfl rfl))))) | ((first | exact (g_ip hrr (g_in (by decide) (g_in (by decide) (g_ip rfl rfl)))) | exact (g_tp hrr (g_tn (by decide) (g_tn (by decide) (g_tp rfl rfl)))) | exact (g_ap hrr (g_an (by decide) (g_an (by decide) (g_ap rfl rfl)))))) | ((first | exact (g_ip hrr (g_in (by decide) (g_in (by decide) (g_in (by decide) (g_ip rfl rfl))))) | exact (g_tp hrr (g_tn (by decide) (g_tn (by decide) (g_tn (by decide) (g_tp rfl rfl))))) | exact (g_ap hrr (g_an (by decide) (g_an (by decide) (g_an (by decide) (g_ap rfl rfl))))))) | (rw [if_pos hrr, if_neg s49_0, if_neg s49_1, if_neg s49_2, if_neg s49_3]; done)⟩) dX3_read_82)
            by_cases s49_1 : q = 1
            · skip
              subst s49_1
              have hl : lv_has ls 5 [(4, .int (msP n mask (rdS n mask vf sf) (fstX n mask sf (rdS n mask vf sf) (rdS n mask vf sf).length))), (3, .int (nI (fstX n mask sf (rdS n mask vf sf) (rdS n mask vf sf).length))), (2, .ref r0), (0, .ref x0), (1, .int 1)] := hl
              refine lv_tableIn (off := 34) (tgt := 83) hx hb dX3_read_49 (by decide) (by decide) (by decide) (by decide) ?_
              refine lv_aload_n hx hb dX3_read_83 rfl (lv_at hl 3 rfl) ?_
              refine va_get (D := D) (ci := 3) (v := .ref h0) (C := RX3) (T := TX3) (N := 9) hx hb hts hi3 hown hK hP 0 rfl rfl 0 (by decide) (hts (.fieldLink RX3 10 "PairedChannels" "now" "LPairedChannels$Word;") (List.mem_of_getElem? (i := 5) (by decide +kernel))) (fun _ h9 => h9) rfl dX3_read_84 ?_
              refine lv_iload hx hb dX3_read_87 (lv_at hl 0 rfl) ?_
              refine gR_i (va_runV (As := [.int (msP n mask (rdS n mask vf sf) (fstX n mask sf (rdS n mask vf sf) (rdS n mask vf sf).length))]) (rest := []) ⟨hx, hb, hml, hown, hts⟩ (c_X2_bodyOf l D K h0 hv hs n mask sf (msP n mask (rdS n mask vf sf) (fstX n mask sf (rdS n mask vf sf) (rdS n mask vf sf).length)) (by first | assumption | omega) (by first | assumption | omega) (by first | assumption | omega)) (cwV 1 hts gX3_read_X2_bodyOf rfl rfl rfl (by decide +kernel) ⟨Nat.le_of_ble_eq_true rfl, Nat.le_of_ble_eq_true rfl⟩) (gR_preV hE hS hK hP [1, 3] rfl 1 rfl rfl rfl) rfl rfl hl.1 rfl (lv_room (Nat.le_of_ble_eq_true rfl)) dX3_read_89 ⟨Nat.le_of_ble_eq_true rfl, Nat.le_of_ble_eq_true rfl⟩) hS hP (fun rv9 H locs h8 hP hS => ?_)
              have h8 : rv9 = (msP n mask (rdS n mask vf sf) (fstX n mask sf (rdS n mask vf sf) (rdS n mask vf sf).length)) &&& ((1 <<< (nI (bdB mask n sf) &&& 31)) - 1) := h8
              subst h8
              refine W.widen (k := 1) (n := 6) (Nat.le_of_ble_eq_true rfl) (Nat.le_of_ble_eq_true rfl) ?_
              exact vx_ret (gW_iret (v := (msP n mask (rdS n mask vf sf) (fstX n mask sf (rdS n mask vf sf) (rdS n mask vf sf).length)) &&& ((1 <<< (nI (bdB mask n sf) &&& 31)) - 1)) (1, (n, u3.1, nI ((rdS n mask vf sf).length), rrk n mask sf (rdS n mask vf sf) (rdS n mask vf sf).length, vf, u3.2.1, u3.2.2.1, u3.2.2.2.1, u3.2.2.2.2.1, u3.2.2.2.2.2.1, u3.2.2.2.2.2.2.1, u3.2.2.2.2.2.2.2)) hx hb hr hlk (rfl) hK hP hD hS (⟨hth, Or.inr ⟨rfl, rfl, rfl, rfl, fun _ _ => rfl, hrd⟩, by unfold rdA; first | (rw [if_neg hrr]; done) | (rw [if_pos hrr, if_pos rfl]; done) | ((first | exact (g_ip hrr (g_in (by decide) (g_ip rfl rfl))) | exact (g_tp hrr (g_tn (by decide) (g_tp rfl rfl))) | exact (g_ap hrr (g_an (by decide) (g_ap rfl rfl))))) | ((first | exact (g_ip hrr (g_in (by decide) (g_in (by decide) (g_ip rfl rfl)))) | exact (g_tp hrr (g_tn (by decide) (g_tn (by decide) (g_tp rfl rfl)))) | exact (g_ap hrr (g_an (by decide) (g_an (by decide) (g_ap rfl rfl)))))) | ((first | exact (g_ip hrr (g_in (by decide) (g_in (by decide) (g_in (by decide) (g_ip rfl rfl))))) | exact (g_tp hrr (g_tn (by decide) (g_tn (by decide) (g_tn (by decide) (g_tp rfl rfl))))) | exact (g_ap hrr (g_an (by decide) (g_an (by decide) (g_an (by decide) (g_ap rfl rfl))))))) | (rw [if_pos hrr, if_neg s49_0, if_neg s49_1, if_neg s49_2, if_neg s49_3]; done)⟩) dX3_read_92)
            by_cases s49_2 : q = 2
            · skip
              subst s49_2
              have hl : lv_has ls 5 [(4, .int (msP n mask (rdS n mask vf sf) (fstX n mask sf (rdS n mask vf sf) (rdS n mask vf sf).length))), (3, .int (nI (fstX n mask sf (rdS n mask vf sf) (rdS n mask vf sf).length))), (2, .ref r0), (0, .ref x0), (1, .int 2)] := hl
              refine lv_tableIn (off := 44) (tgt := 93) hx hb dX3_read_49 (by decide) (by decide) (by decide) (by decide) ?_
              refine lv_iload_n hx hb dX3_read_93 rfl (lv_at hl 1 rfl) ?_
              refine W.widen (k := 1) (n := 6) (Nat.le_of_ble_eq_true rfl) (Nat.le_of_ble_eq_true rfl) ?_
              exact vx_ret (gW_iret (v := nI (fstX n mask sf (rdS n mask vf sf) (rdS n mask vf sf).length)) (1, (n, u3.1, nI ((rdS n mask vf sf).length), rrk n mask sf (rdS n mask vf sf) (rdS n mask vf sf).length, vf, u3.2.1, u3.2.2.1, u3.2.2.2.1, u3.2.2.2.2.1, u3.2.2.2.2.2.1, u3.2.2.2.2.2.2.1, u3.2.2.2.2.2.2.2)) hx hb hr hlk (rfl) hK hP hD hS (⟨hth, Or.inr ⟨rfl, rfl, rfl, rfl, fun _ _ => rfl, hrd⟩, by unfold rdA; first | (rw [if_neg hrr]; done) | (rw [if_pos hrr, if_pos rfl]; done) | ((first | exact (g_ip hrr (g_in (by decide) (g_ip rfl rfl))) | exact (g_tp hrr (g_tn (by decide) (g_tp rfl rfl))) | exact (g_ap hrr (g_an (by decide) (g_ap rfl rfl))))) | ((first | exact (g_ip hrr (g_in (by decide) (g_in (by decide) (g_ip rfl rfl)))) | exact (g_tp hrr (g_tn (by decide) (g_tn (by decide) (g_tp rfl rfl)))) | exact (g_ap hrr (g_an (by decide) (g_an (by decide) (g_ap rfl rfl)))))) | ((first | exact (g_ip hrr (g_in (by decide) (g_in (by decide) (g_in (by decide) (g_ip rfl rfl))))) | exact (g_tp hrr (g_tn (by decide) (g_tn (by decide) (g_tn (by decide) (g_tp rfl rfl))))) | exact (g_ap hrr (g_an (by decide) (g_an (by decide) (g_an (by decide) (g_ap rfl rfl))))))) | (rw [if_pos hrr, if_neg s49_0, if_neg s49_1, if_neg s49_2, if_neg s49_3]; done)⟩) dX3_read_94)
            by_cases s49_3 : q = 3
            · skip
              subst s49_3
              have hl : lv_has ls 5 [(4, .int (msP n mask (rdS n mask vf sf) (fstX n mask sf (rdS n mask vf sf) (rdS n mask vf sf).length))), (3, .int (nI (fstX n mask sf (rdS n mask vf sf) (rdS n mask vf sf).length))), (2, .ref r0), (0, .ref x0), (1, .int 3)] := hl
              refine lv_tableIn (off := 46) (tgt := 95) hx hb dX3_read_49 (by decide) (by decide) (by decide) (by decide) ?_
              refine lv_aload_n hx hb dX3_read_95 rfl (lv_at hl 2 rfl) ?_
              refine va_get (D := D) (ci := 0) (v := .ref r4) (C := RX0) (T := TX0) (N := 12) hx hb hts hi0 hown hK hP 4 rfl rfl 3 (by decide) (hts (.fieldLink RX3 193 "PairedChannels$Reading" "penalties" "[I") (List.mem_of_getElem? (i := 6) (by decide +kernel))) (fun _ h9 => h9) rfl dX3_read_96 ?_
              refine lv_iload_n hx hb dX3_read_99 rfl (lv_at hl 1 rfl) ?_
              refine wa_iald hx hb hK hP 8 0 rfl rfl (fstX n mask sf (rdS n mask vf sf) (rdS n mask vf sf).length) rfl (by omega) (by decide) dX3_read_100 ?_
              refine lv_eqi ((atL (rdS n mask vf sf) (fstX n mask sf (rdS n mask vf sf) (rdS n mask vf sf).length)).2) ((hrd.1 _ hrr).2) ?_
              refine W.widen (k := 1) (n := 6) (Nat.le_of_ble_eq_true rfl) (Nat.le_of_ble_eq_true rfl) ?_
              exact vx_ret (gW_iret (v := (atL (rdS n mask vf sf) (fstX n mask sf (rdS n mask vf sf) (rdS n mask vf sf).length)).2) (1, (n, u3.1, nI ((rdS n mask vf sf).length), rrk n mask sf (rdS n mask vf sf) (rdS n mask vf sf).length, vf, u3.2.1, u3.2.2.1, u3.2.2.2.1, u3.2.2.2.2.1, u3.2.2.2.2.2.1, u3.2.2.2.2.2.2.1, u3.2.2.2.2.2.2.2)) hx hb hr hlk (rfl) hK hP hD hS (⟨hth, Or.inr ⟨rfl, rfl, rfl, rfl, fun _ _ => rfl, hrd⟩, by unfold rdA; first | (rw [if_neg hrr]; done) | (rw [if_pos hrr, if_pos rfl]; done) | ((first | exact (g_ip hrr (g_in (by decide) (g_ip rfl rfl))) | exact (g_tp hrr (g_tn (by decide) (g_tp rfl rfl))) | exact (g_ap hrr (g_an (by decide) (g_ap rfl rfl))))) | ((first | exact (g_ip hrr (g_in (by decide) (g_in (by decide) (g_ip rfl rfl)))) | exact (g_tp hrr (g_tn (by decide) (g_tn (by decide) (g_tp rfl rfl)))) | exact (g_ap hrr (g_an (by decide) (g_an (by decide) (g_ap rfl rfl)))))) | ((first | exact (g_ip hrr (g_in (by decide) (g_in (by decide) (g_in (by decide) (g_ip rfl rfl))))) | exact (g_tp hrr (g_tn (by decide) (g_tn (by decide) (g_tn (by decide) (g_tp rfl rfl))))) | exact (g_ap hrr (g_an (by decide) (g_an (by decide) (g_an (by decide) (g_ap rfl rfl))))))) | (rw [if_pos hrr, if_neg s49_0, if_neg s49_1, if_neg s49_2, if_neg s49_3]; done)⟩) dX3_read_101)
            have so10 : (q : Int32).toInt < 0 ∨ 3 < (q : Int32).toInt := by
              have n0 := lv_neT (k := 0) (a := 0) s49_0 (by decide)
              have n1 := lv_neT (k := 1) (a := 1) s49_1 (by decide)
              have n2 := lv_neT (k := 2) (a := 2) s49_2 (by decide)
              have n3 := lv_neT (k := 3) (a := 3) s49_3 (by decide)
              omega
            refine lv_tableOut (tgt := 102) hx hb dX3_read_49 so10 (by decide) ?_
            refine lv_aload_n hx hb dX3_read_102 rfl (lv_at hl 3 rfl) ?_
            refine va_get (D := D) (ci := 3) (v := .ref h0) (C := RX3) (T := TX3) (N := 9) hx hb hts hi3 hown hK hP 0 rfl rfl 0 (by decide) (hts (.fieldLink RX3 10 "PairedChannels" "now" "LPairedChannels$Word;") (List.mem_of_getElem? (i := 5) (by decide +kernel))) (fun _ h9 => h9) rfl dX3_read_103 ?_
            refine lv_aload_n hx hb dX3_read_106 rfl (lv_at hl 3 rfl) ?_
            refine va_get (D := D) (ci := 3) (v := .ref h0) (C := RX3) (T := TX3) (N := 9) hx hb hts hi3 hown hK hP 0 rfl rfl 0 (by decide) (hts (.fieldLink RX3 10 "PairedChannels" "now" "LPairedChannels$Word;") (List.mem_of_getElem? (i := 5) (by decide +kernel))) (fun _ h9 => h9) rfl dX3_read_107 ?_
            refine lv_iload hx hb dX3_read_110 (lv_at hl 0 rfl) ?_
            refine gR_i (va_runV (As := [.int (msP n mask (rdS n mask vf sf) (fstX n mask sf (rdS n mask vf sf) (rdS n mask vf sf).length))]) (rest := [.ref h0]) ⟨hx, hb, hml, hown, hts⟩ (c_X2_wordOf l D K h0 hv hs n mask (msP n mask (rdS n mask vf sf) (fstX n mask sf (rdS n mask vf sf) (rdS n mask vf sf).length)) (by first | assumption | omega)) (cwV 1 hts gX3_read_X2_wordOf rfl rfl rfl (by decide +kernel) ⟨Nat.le_of_ble_eq_true rfl, Nat.le_of_ble_eq_true rfl⟩) (gR_preV hE hS hK hP [1] rfl 1 rfl rfl rfl) rfl rfl hl.1 rfl (lv_room (Nat.le_of_ble_eq_true rfl)) dX3_read_112 ⟨Nat.le_of_ble_eq_true rfl, Nat.le_of_ble_eq_true rfl⟩) hS hP (fun rv12 H locs h11 hP hS => ?_)
            have h11 : rv12 = wof n mask (msP n mask (rdS n mask vf sf) (fstX n mask sf (rdS n mask vf sf) (rdS n mask vf sf).length)) := h11
            subst h11
            refine gR_i (va_runV (As := [.int (wof n mask (msP n mask (rdS n mask vf sf) (fstX n mask sf (rdS n mask vf sf) (rdS n mask vf sf).length)))]) (rest := []) ⟨hx, hb, hml, hown, hts⟩ (c_X2_differences l D K h0 hv hs n mask vf (wof n mask (msP n mask (rdS n mask vf sf) (fstX n mask sf (rdS n mask vf sf) (rdS n mask vf sf).length))) (by first | assumption | omega)) (cwV 1 hts gX3_read_X2_differences rfl rfl rfl (by decide +kernel) ⟨Nat.le_of_ble_eq_true rfl, Nat.le_of_ble_eq_true rfl⟩) (gR_preV hE hS hK hP [1, 2] rfl 1 rfl rfl rfl) rfl rfl hl.1 rfl (lv_room (Nat.le_of_ble_eq_true rfl)) dX3_read_115 ⟨Nat.le_of_ble_eq_true rfl, Nat.le_of_ble_eq_true rfl⟩) hS hP (fun rv14 H locs h13 hP hS => ?_)
            have h13 : rv14 = nI (difS (wof n mask (msP n mask (rdS n mask vf sf) (fstX n mask sf (rdS n mask vf sf) (rdS n mask vf sf).length))) vf n) := h13
            subst h13
            refine W.widen (k := 1) (n := 6) (Nat.le_of_ble_eq_true rfl) (Nat.le_of_ble_eq_true rfl) ?_
            exact vx_ret (gW_iret (v := nI (difS (wof n mask (msP n mask (rdS n mask vf sf) (fstX n mask sf (rdS n mask vf sf) (rdS n mask vf sf).length))) vf n)) (1, (n, u3.1, nI ((rdS n mask vf sf).length), rrk n mask sf (rdS n mask vf sf) (rdS n mask vf sf).length, vf, u3.2.1, u3.2.2.1, u3.2.2.2.1, u3.2.2.2.2.1, u3.2.2.2.2.2.1, u3.2.2.2.2.2.2.1, u3.2.2.2.2.2.2.2)) hx hb hr hlk (rfl) hK hP hD hS (⟨hth, Or.inr ⟨rfl, rfl, rfl, rfl, fun _ _ => rfl, hrd⟩, by unfold rdA; first | (rw [if_neg hrr]; done) | (rw [if_pos hrr, if_pos rfl]; done) | ((first | exact (g_ip hrr (g_in (by decide) (g_ip rfl rfl))) | exact (g_tp hrr (g_tn (by decide) (g_tp rfl rfl))) | exact (g_ap hrr (g_an (by decide) (g_ap rfl rfl))))) | ((first | exact (g_ip hrr (g_in (by decide) (g_in (by decide) (g_ip rfl rfl)))) | exact (g_tp hrr (g_tn (by decide) (g_tn (by decide) (g_tp rfl rfl)))) | exact (g_ap hrr (g_an (by decide) (g_an (by decide) (g_ap rfl rfl)))))) | ((first | exact (g_ip hrr (g_in (by decide) (g_in (by decide) (g_in (by decide) (g_ip rfl rfl))))) | exact (g_tp hrr (g_tn (by decide) (g_tn (by decide) (g_tn (by decide) (g_tp rfl rfl))))) | exact (g_ap hrr (g_an (by decide) (g_an (by decide) (g_an (by decide) (g_ap rfl rfl))))))) | (rw [if_pos hrr, if_neg s49_0, if_neg s49_1, if_neg s49_2, if_neg s49_3]; done)⟩) dX3_read_118)
          · skip
            have c7 : ¬ fstX n mask sf (rdS n mask vf sf) (rdS n mask vf sf).length < 4 := fun h9 => c7 ((nI_ltI (a := fstX n mask sf (rdS n mask vf sf) (rdS n mask vf sf).length) (b := 4) (by omega) (by omega)).mpr h9)
            omega
      · skip
        refine lv_eqi (-1) (rrk_n hrr) ?_
        refine lv_istore_n (lv' := [(3, .int (-1)), (2, .ref r0), (0, .ref x0), (1, .int q)]) hx hb dX3_read_28 rfl hl (by decide) rfl (fun ls hl => ?_)
        refine lv_iload_n hx hb dX3_read_29 rfl (lv_at hl 0 rfl) ?_
        refine lv_if_lt (tgt := 38) hx hb dX3_read_30 (by decide) (fun c30 => ?_) (fun c30 => ?_)
        · skip
          refine lv_iconst (v := (-1)) hx hb dX3_read_38 (by decide) ?_
          refine W.widen (k := 1) (n := 6) (Nat.le_of_ble_eq_true rfl) (Nat.le_of_ble_eq_true rfl) ?_
          exact vx_ret (gW_iret (v := (-1)) (1, (n, u3.1, nI ((rdS n mask vf sf).length), rrk n mask sf (rdS n mask vf sf) (rdS n mask vf sf).length, vf, u3.2.1, u3.2.2.1, u3.2.2.2.1, u3.2.2.2.2.1, u3.2.2.2.2.2.1, u3.2.2.2.2.2.2.1, u3.2.2.2.2.2.2.2)) hx hb hr hlk (rfl) hK hP hD hS (⟨hth, Or.inr ⟨rfl, rfl, rfl, rfl, fun _ _ => rfl, hrd⟩, by unfold rdA; first | (rw [if_neg hrr]; done) | (rw [if_pos hrr, if_pos rfl]; done) | ((first | exact (g_ip hrr (g_in (by decide) (g_ip rfl rfl))) | exact (g_tp hrr (g_tn (by decide) (g_tp rfl rfl))) | exact (g_ap hrr (g_an (by decide) (g_ap rfl rfl))))) | ((first | exact (g_ip hrr (g_in (by decide) (g_in (by decide) (g_ip rfl rfl)))) | exact (g_tp hrr (g_tn (by decide) (g_tn (by decide) (g_tp rfl rfl)))) | exact (g_ap hrr (g_an (by decide) (g_an (by decide) (g_ap rfl rfl)))))) | ((first | exact (g_ip hrr (g_in (by decide) (g_in (by decide) (g_in (by decide) (g_ip rfl rfl))))) | exact (g_tp hrr (g_tn (by decide) (g_tn (by decide) (g_tn (by decide) (g_tp rfl rfl))))) | exact (g_ap hrr (g_an (by decide) (g_an (by decide) (g_an (by decide) (g_ap rfl rfl))))))) | (rw [if_pos hrr, if_neg s49_0, if_neg s49_1, if_neg s49_2, if_neg s49_3]; done)⟩) dX3_read_39)
        · skip
          exact absurd (by decide) c30
    · skip
      exact g_throw (cls := "java/lang/IllegalArgumentException") (text := "what is not 0 to 4") (ik := 41) (is := 178) (ic := 45) (fz, (n0, ig, ip, ir, fr, fw, fb, fp, fm, fi, gb, gp)) hx hb hst hE hS hK hP hD (⟨⟨by unfold thRead; first | (first | exact (g_in (fun h => absurd c1 (Int32.not_lt.mpr h.1)) rfl) | exact (g_tn (fun h => absurd c1 (Int32.not_lt.mpr h.1)) rfl) | exact (g_an (fun h => absurd c1 (Int32.not_lt.mpr h.1)) rfl)) | (first | exact (g_in (fun h => c6 h.2) rfl) | exact (g_tn (fun h => c6 h.2) rfl) | exact (g_an (fun h => c6 h.2) rfl)), rfl⟩, rfl⟩) hown (by decide +kernel) (by decide +kernel) (by decide +kernel) (hts (.classLink RX3 41 "java/lang/IllegalArgumentException") (List.mem_of_getElem? (i := 1) (by decide +kernel))) (hts (.initialized "java/lang/IllegalArgumentException") (List.mem_of_getElem? (i := 2) (by decide +kernel))) (fun w h => hts w (List.mem_cons_of_mem _ (List.mem_append_right _ (h)))) (by decide +kernel) (by decide +kernel) (hl.1.trans hml.symm) dX3_read_9 dX3_read_12 dX3_read_13 dX3_read_15 dX3_read_18 htab (Nat.le_of_ble_eq_true rfl) (Nat.le_of_ble_eq_true rfl) (Nat.le_of_ble_eq_true rfl) (Nat.le_of_ble_eq_true rfl) hlk (Nat.le_of_ble_eq_true rfl) (Nat.le_of_ble_eq_true rfl)
