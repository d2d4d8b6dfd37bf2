set_option maxHeartbeats 4000000 in
set_option maxRecDepth 100000 in
theorem c_X4_in (l : Launch) (D : va_G) (K : Nat → ClassId) (v : Int32) (lo : Int32) (hi : Int32)  : MRi l yX4_in wsX4_in ({ frames := 0, cells := 0, slots := 0, locals := 0 } : Room) D (gTy K) [.int v, .int lo, .int hi] [] (fun r => r = (if lo ≤ v ∧ v ≤ hi then 1 else 0)) := by
  refine g_ofR (cc := cX4_in) (maxL := 3) (ret := (some .boolean)) (own := RX4) (by decide) rfl rfl (Nat.le_of_ble_eq_true rfl) ?_
  intro pp ee s mm below meth cc hfx hK hP hE hS ls hl
  obtain ⟨hx, hb, hr, hml, hown, hts, hlk⟩ := hfx
  have hl : lv_has ls 3 [(0, .int v), (1, .int lo), (2, .int hi)] := hl
  refine lv_iload_n hx hb dX4_in_0 rfl (lv_at hl 0 rfl) ?_
  refine lv_iload_n hx hb dX4_in_1 rfl (lv_at hl 1 rfl) ?_
  refine lv_icmp_lt (tgt := 14) hx hb dX4_in_2 (by decide) (fun c2 => ?_) (fun c2 => ?_)
  · skip
    refine lv_iconst (v := 0) hx hb dX4_in_14 (by decide) ?_
    exact gR_iret (v := 0) hx hb hr hlk (rfl) hS (by first | (first | exact (g_ip ⟨Int32.not_lt.mp c2, Int32.not_lt.mp c7⟩ rfl) | exact (g_tp ⟨Int32.not_lt.mp c2, Int32.not_lt.mp c7⟩ rfl) | exact (g_ap ⟨Int32.not_lt.mp c2, Int32.not_lt.mp c7⟩ rfl)) | (first | exact (g_in (fun h => absurd c2 (Int32.not_lt.mpr h.1)) rfl) | exact (g_tn (fun h => absurd c2 (Int32.not_lt.mpr h.1)) rfl) | exact (g_an (fun h => absurd c2 (Int32.not_lt.mpr h.1)) rfl)) | (first | exact (g_in (fun h => absurd c7 (Int32.not_lt.mpr h.2)) rfl) | exact (g_tn (fun h => absurd c7 (Int32.not_lt.mpr h.2)) rfl) | exact (g_an (fun h => absurd c7 (Int32.not_lt.mpr h.2)) rfl))) dX4_in_15
  · skip
    refine lv_iload_n hx hb dX4_in_5 rfl (lv_at hl 0 rfl) ?_
    refine lv_iload_n hx hb dX4_in_6 rfl (lv_at hl 2 rfl) ?_
    refine lv_icmp_gt (tgt := 14) hx hb dX4_in_7 (by decide) (fun c7 => ?_) (fun c7 => ?_)
    · skip
      refine lv_iconst (v := 0) hx hb dX4_in_14 (by decide) ?_
      exact gR_iret (v := 0) hx hb hr hlk (rfl) hS (by first | (first | exact (g_ip ⟨Int32.not_lt.mp c2, Int32.not_lt.mp c7⟩ rfl) | exact (g_tp ⟨Int32.not_lt.mp c2, Int32.not_lt.mp c7⟩ rfl) | exact (g_ap ⟨Int32.not_lt.mp c2, Int32.not_lt.mp c7⟩ rfl)) | (first | exact (g_in (fun h => absurd c2 (Int32.not_lt.mpr h.1)) rfl) | exact (g_tn (fun h => absurd c2 (Int32.not_lt.mpr h.1)) rfl) | exact (g_an (fun h => absurd c2 (Int32.not_lt.mpr h.1)) rfl)) | (first | exact (g_in (fun h => absurd c7 (Int32.not_lt.mpr h.2)) rfl) | exact (g_tn (fun h => absurd c7 (Int32.not_lt.mpr h.2)) rfl) | exact (g_an (fun h => absurd c7 (Int32.not_lt.mpr h.2)) rfl))) dX4_in_15
    · skip
      refine lv_iconst (v := 1) hx hb dX4_in_10 (by decide) ?_
      refine lv_goto (tgt := 15) hx hb dX4_in_11 (by decide) ?_
      exact gR_iret (v := 1) hx hb hr hlk (rfl) hS (by first | (first | exact (g_ip ⟨Int32.not_lt.mp c2, Int32.not_lt.mp c7⟩ rfl) | exact (g_tp ⟨Int32.not_lt.mp c2, Int32.not_lt.mp c7⟩ rfl) | exact (g_ap ⟨Int32.not_lt.mp c2, Int32.not_lt.mp c7⟩ rfl)) | (first | exact (g_in (fun h => absurd c2 (Int32.not_lt.mpr h.1)) rfl) | exact (g_tn (fun h => absurd c2 (Int32.not_lt.mpr h.1)) rfl) | exact (g_an (fun h => absurd c2 (Int32.not_lt.mpr h.1)) rfl)) | (first | exact (g_in (fun h => absurd c7 (Int32.not_lt.mpr h.2)) rfl) | exact (g_tn (fun h => absurd c7 (Int32.not_lt.mpr h.2)) rfl) | exact (g_an (fun h => absurd c7 (Int32.not_lt.mpr h.2)) rfl))) dX4_in_15

set_option maxHeartbeats 4000000 in
set_option maxRecDepth 100000 in
theorem c_X4_size (l : Launch) (D : va_G) (K : Nat → ClassId) (v : Int32)  : MRi l yX4_size wsX4_size ({ frames := 0, cells := 0, slots := 0, locals := 0 } : Room) D (gTy K) [.int v] [] (fun r => r = absI v) := by
  refine g_ofR (cc := cX4_size) (maxL := 1) (ret := (some .int)) (own := RX4) (by decide) rfl rfl (Nat.le_of_ble_eq_true rfl) ?_
  intro pp ee s mm below meth cc hfx hK hP hE hS ls hl
  obtain ⟨hx, hb, hr, hml, hown, hts, hlk⟩ := hfx
  have hl : lv_has ls 1 [(0, .int v)] := hl
  refine lv_iload_n hx hb dX4_size_0 rfl (lv_at hl 0 rfl) ?_
  refine g_cut (F0 mm 10 ls [.int (if 0 ≤ v then v else (-v))]) (fun hJ => ?_) ?_
  · refine lv_if_ge (tgt := 9) hx hb dX4_size_1 (by decide) (fun c1 => ?_) (fun c1 => ?_)
    · skip
      refine lv_iload_n hx hb dX4_size_9 rfl (lv_at hl 0 rfl) ?_
      refine lv_eqi ((if 0 ≤ v then v else (-v))) (if_pos c1).symm ?_
      exact hJ
    · skip
      refine lv_iload_n hx hb dX4_size_4 rfl (lv_at hl 0 rfl) ?_
      refine lv_ineg hx hb dX4_size_5 ?_
      refine lv_goto (tgt := 10) hx hb dX4_size_6 (by decide) ?_
      refine lv_eqi ((if 0 ≤ v then v else (-v))) (if_neg c1).symm ?_
      exact hJ
  · skip
    refine lv_eqi (absI v) (abs3 v) ?_
    exact gR_iret (v := absI v) hx hb hr hlk (rfl) hS (rfl) dX4_size_10

set_option maxHeartbeats 4000000 in
set_option maxRecDepth 100000 in
theorem c_X4_fails (l : Launch) (D : va_G) (K : Nat → ClassId) (m0 : Nat) (m1 : Nat) (m2 : Nat) (m3 : Nat) (m4 : Nat) (m5 : Nat) (m6 : Nat) (m7 : Nat) (m8 : Nat) (m9 : Nat) (m10 : Nat) (th : Int32) (sy : Nat) (ly : Nat) (py : Nat) (ay : Nat) (iw : Bool) (ty : Nat) (hy : Int64) (e : Int32)  : MWi l yX4_fails wsX4_fails ({ frames := 0, cells := 0, slots := 0, locals := 0 } : Room) D (gTy K) [.ref m0, .int e] [(m0, .inr (4, [.int th, .ref m1, .ref m2, .ref m3, .int (nI sy), .ref m4, .int (nI ly), .ref m5, .ref m6, .int (nI py), .ref m7, .ref m8, .ref m9, .int (nI ay), .int (if iw = true then 1 else 0), .ref m10, .int (nI ty), .long hy]))] (fun (u : Unit) => [(m0, .inr (4, [.int e, .ref m1, .ref m2, .ref m3, .int (nI sy), .ref m4, .int (nI ly), .ref m5, .ref m6, .int (nI py), .ref m7, .ref m8, .ref m9, .int (nI ay), .int (if iw = true then 1 else 0), .ref m10, .int (nI ty), .long hy]))]) (fun r (u : Unit) => r = 0) 0 0 := by
  refine g_ofW (Qc := fun A => va_Qi _ (gB D (gTy K) A _) A) (cc := cX4_fails) (maxL := 2) (ret := (some .int)) (own := RX4) (by decide) rfl rfl (Nat.le_of_ble_eq_true rfl) ?_
  intro pp ee s mm below meth cc A hfx hnm hK hP hD hE hS hA ls hl
  obtain ⟨hx, hb, hr, hml, hown, hts, hlk⟩ := hfx
  have hl : lv_has ls 2 [(0, .ref m0), (1, .int e)] := hl
  have hi4 : ∀ w ∈ u_ws RX4 TX4 18, w ∈ wsX4_fails := fun w h => List.mem_cons_of_mem _ (List.mem_append_right _ (h))
  refine lv_aload_n hx hb dX4_fails_0 rfl (lv_at hl 0 rfl) ?_
  refine lv_iload_n hx hb dX4_fails_1 rfl (lv_at hl 1 rfl) ?_
  refine va_put (D := D) (ci := 4) (v := .int e) (ty := .int) (C := RX4) (T := TX4) (N := 18) hx hb hts hi4 tyX4 tyX4_ok nmX4 hown hK hP hD hS 0 rfl rfl 0 (by decide) (hts (.fieldLink RX4 40 "PairedChannelsModel" "thrown" "I") (List.mem_of_getElem? (i := 1) (by decide +kernel))) (fun _ h9 => h9) rfl (by decide +kernel) (rfl) (rfl) (Nat.le_of_ble_eq_true rfl) dX4_fails_2 (fun H locs hP hD hS => ?_)
  have hP : va_P D vwCl [(m0, .inr (4, [.int e, .ref m1, .ref m2, .ref m3, .int (nI sy), .ref m4, .int (nI ly), .ref m5, .ref m6, .int (nI py), .ref m7, .ref m8, .ref m9, .int (nI ay), .int (if iw = true then 1 else 0), .ref m10, .int (nI ty), .long hy]))] _ := hP
  have hD : va_D A [(m0, .inr (4, [.int e, .ref m1, .ref m2, .ref m3, .int (nI sy), .ref m4, .int (nI ly), .ref m5, .ref m6, .int (nI py), .ref m7, .ref m8, .ref m9, .int (nI ay), .int (if iw = true then 1 else 0), .ref m10, .int (nI ty), .long hy]))] := hD
  refine lv_iconst (v := 0) hx hb dX4_fails_5 (by decide) ?_
  exact gW_iret (v := 0) () hx hb hr hlk (rfl) hK hP hD hS (rfl) dX4_fails_6

set_option maxHeartbeats 4000000 in
set_option maxRecDepth 100000 in
theorem c_X4_isPlace (l : Launch) (D : va_G) (K : Nat → ClassId) (m0 : Nat) (m1 : Nat) (m2 : Nat) (m3 : Nat) (m4 : Nat) (m5 : Nat) (m6 : Nat) (m7 : Nat) (m8 : Nat) (m9 : Nat) (m10 : Nat) (th : Int32) (sy : Nat) (ly : Nat) (py : Nat) (ay : Nat) (iw : Bool) (ty : Nat) (hy : Int64) (n : Nat) (mask : Int32) (vf : Nat → Int32) (sf : Nat → Int32) (k : Int32) (hn : okN n) : MRi l yX4_isPlace wsX4_isPlace ({ frames := 1, cells := 0, slots := 0, locals := 22 } : Room) D (gTy K) [.ref m0, .int k] [(m0, .inr (4, [.int th, .ref m1, .ref m2, .ref m3, .int (nI sy), .ref m4, .int (nI ly), .ref m5, .ref m6, .int (nI py), .ref m7, .ref m8, .ref m9, .int (nI ay), .int (if iw = true then 1 else 0), .ref m10, .int (nI ty), .long hy])), (m1, .inl (K 0, 22, .inl (mst n mask vf sf)))] (fun r => r = (if 0 ≤ k ∧ k < nI n then 1 else 0)) := by
  refine g_ofR (cc := cX4_isPlace) (maxL := 2) (ret := (some .boolean)) (own := RX4) (by decide) rfl rfl (Nat.le_of_ble_eq_true rfl) ?_
  intro pp ee s mm below meth cc hfx hK hP hE hS ls hl
  obtain ⟨hx, hb, hr, hml, hown, hts, hlk⟩ := hfx
  have hl : lv_has ls 2 [(0, .ref m0), (1, .int k)] := hl
  have hi4 : ∀ w ∈ u_ws RX4 TX4 18, w ∈ wsX4_isPlace := fun w h => List.mem_cons_of_mem _ (List.mem_append_right _ (h))
  have hnl := hn.le
  refine lv_iload_n hx hb dX4_isPlace_0 rfl (lv_at hl 1 rfl) ?_
  refine lv_iconst (v := 0) hx hb dX4_isPlace_1 (by decide) ?_
  refine lv_aload_n hx hb dX4_isPlace_2 rfl (lv_at hl 0 rfl) ?_
  refine va_get (D := D) (ci := 4) (v := .ref m1) (C := RX4) (T := TX4) (N := 18) hx hb hts hi4 hown hK hP 0 rfl rfl 1 (by decide) (hts (.fieldLink RX4 7 "PairedChannelsModel" "s" "[I") (List.mem_of_getElem? (i := 1) (by decide +kernel))) (fun _ h9 => h9) rfl dX4_isPlace_3 ?_
  refine lv_iconst (v := 0) hx hb dX4_isPlace_6 (by decide) ?_
  refine wa_iald hx hb hK hP 1 0 rfl rfl (0) rfl (by omega) (by decide) dX4_isPlace_7 ?_
  refine lv_eqi (nI n) (rfl) ?_
  refine lv_iconst (v := 1) hx hb dX4_isPlace_8 (by decide) ?_
  refine lv_isub hx hb dX4_isPlace_9 ?_
  refine lv_eqi (nI (n - 1)) (pk_sub (a := n) (b := 1) (by omega)) ?_
  refine gR_i (va_runS (As := [.int k, .int 0, .int (nI (n - 1))]) (rest := []) ⟨hx, hb, hml, hown, hts⟩ (c_X4_in l D K k 0 (nI (n - 1)) ) (va_cwS 3 hts gX4_isPlace_X4_in rfl rfl rfl (by decide +kernel) ⟨Nat.le_of_ble_eq_true rfl, Nat.le_of_ble_eq_true rfl⟩) (gR_pre hE hS hK hP [] rfl) rfl rfl hl.1 rfl (lv_room (Nat.le_of_ble_eq_true rfl)) dX4_isPlace_10 ⟨Nat.le_of_ble_eq_true rfl, Nat.le_of_ble_eq_true rfl⟩) hS hP (fun rv2 H locs h1 hP hS => ?_)
  have h1 : rv2 = (if 0 ≤ k ∧ k ≤ (nI (n - 1)) then 1 else 0) := h1
  subst h1
  exact gR_iret (v := (if 0 ≤ k ∧ k ≤ (nI (n - 1)) then 1 else 0)) hx hb hr hlk (nar_b _) hS (isPl_eq (by omega) hnl.2 k) dX4_isPlace_13

set_option maxHeartbeats 4000000 in
set_option maxRecDepth 100000 in
theorem c_X4_isOpen (l : Launch) (D : va_G) (K : Nat → ClassId) (m0 : Nat) (m1 : Nat) (m2 : Nat) (m3 : Nat) (m4 : Nat) (m5 : Nat) (m6 : Nat) (m7 : Nat) (m8 : Nat) (m9 : Nat) (m10 : Nat) (th : Int32) (sy : Nat) (ly : Nat) (py : Nat) (ay : Nat) (iw : Bool) (ty : Nat) (hy : Int64) (n : Nat) (mask : Int32) (vf : Nat → Int32) (sf : Nat → Int32) (pl : Nat)  : MRi l yX4_isOpen wsX4_isOpen ({ frames := 0, cells := 0, slots := 0, locals := 0 } : Room) D (gTy K) [.ref m0, .int (nI pl)] [(m0, .inr (4, [.int th, .ref m1, .ref m2, .ref m3, .int (nI sy), .ref m4, .int (nI ly), .ref m5, .ref m6, .int (nI py), .ref m7, .ref m8, .ref m9, .int (nI ay), .int (if iw = true then 1 else 0), .ref m10, .int (nI ty), .long hy])), (m1, .inl (K 0, 22, .inl (mst n mask vf sf)))] (fun r => r = (if opn mask pl then 1 else 0)) := by
  refine g_ofR (cc := cX4_isOpen) (maxL := 2) (ret := (some .boolean)) (own := RX4) (by decide) rfl rfl (Nat.le_of_ble_eq_true rfl) ?_
  intro pp ee s mm below meth cc hfx hK hP hE hS ls hl
  obtain ⟨hx, hb, hr, hml, hown, hts, hlk⟩ := hfx
  have hl : lv_has ls 2 [(0, .ref m0), (1, .int (nI pl))] := hl
  have hi4 : ∀ w ∈ u_ws RX4 TX4 18, w ∈ wsX4_isOpen := fun w h => List.mem_cons_of_mem _ (List.mem_append_right _ (h))
  refine lv_aload_n hx hb dX4_isOpen_0 rfl (lv_at hl 0 rfl) ?_
  refine va_get (D := D) (ci := 4) (v := .ref m1) (C := RX4) (T := TX4) (N := 18) hx hb hts hi4 hown hK hP 0 rfl rfl 1 (by decide) (hts (.fieldLink RX4 7 "PairedChannelsModel" "s" "[I") (List.mem_of_getElem? (i := 1) (by decide +kernel))) (fun _ h9 => h9) rfl dX4_isOpen_1 ?_
  refine lv_iconst (v := 1) hx hb dX4_isOpen_4 (by decide) ?_
  refine wa_iald hx hb hK hP 1 0 rfl rfl (1) rfl (by omega) (by decide) dX4_isOpen_5 ?_
  refine lv_eqi (mask) (rfl) ?_
  refine lv_iload_n hx hb dX4_isOpen_6 rfl (lv_at hl 1 rfl) ?_
  refine lv_ishr hx hb dX4_isOpen_7 ?_
  refine lv_iconst (v := 1) hx hb dX4_isOpen_8 (by decide) ?_
  refine lv_iand hx hb dX4_isOpen_9 ?_
  refine lv_eqi (bitI mask pl) rfl ?_
  refine lv_iconst (v := 1) hx hb dX4_isOpen_10 (by decide) ?_
  refine g_cut (F0 mm 19 ls [.int (if bitI mask pl = 1 then 1 else 0)]) (fun hJ => ?_) ?_
  · refine lv_icmp_ne (tgt := 18) hx hb dX4_isOpen_11 (by decide) (fun c1 => ?_) (fun c1 => ?_)
    · skip
      refine lv_iconst (v := 0) hx hb dX4_isOpen_18 (by decide) ?_
      refine lv_eqi ((if bitI mask pl = 1 then 1 else 0)) (if_neg c1).symm ?_
      exact hJ
    · skip
      refine lv_iconst (v := 1) hx hb dX4_isOpen_14 (by decide) ?_
      refine lv_goto (tgt := 19) hx hb dX4_isOpen_15 (by decide) ?_
      refine lv_eqi ((if bitI mask pl = 1 then 1 else 0)) (if_pos c1).symm ?_
      exact hJ
  · skip
    exact gR_iret (v := (if bitI mask pl = 1 then 1 else 0)) hx hb hr hlk (nar_b _) hS (rfl) dX4_isOpen_19

set_option maxHeartbeats 4000000 in
set_option maxRecDepth 100000 in
theorem c_X4_openMany (l : Launch) (D : va_G) (K : Nat → ClassId) (m0 : Nat) (m1 : Nat) (m2 : Nat) (m3 : Nat) (m4 : Nat) (m5 : Nat) (m6 : Nat) (m7 : Nat) (m8 : Nat) (m9 : Nat) (m10 : Nat) (th : Int32) (sy : Nat) (ly : Nat) (py : Nat) (ay : Nat) (iw : Bool) (ty : Nat) (hy : Int64) (n : Nat) (mask : Int32) (vf : Nat → Int32) (sf : Nat → Int32) (hn : okN n) : MRi l yX4_openMany wsX4_openMany ({ frames := 1, cells := 0, slots := 0, locals := 21 } : Room) D (gTy K) [.ref m0] [(m0, .inr (4, [.int th, .ref m1, .ref m2, .ref m3, .int (nI sy), .ref m4, .int (nI ly), .ref m5, .ref m6, .int (nI py), .ref m7, .ref m8, .ref m9, .int (nI ay), .int (if iw = true then 1 else 0), .ref m10, .int (nI ty), .long hy])), (m1, .inl (K 0, 22, .inl (mst n mask vf sf)))] (fun r => r = nI (cntO mask n)) := by
  refine g_ofR (cc := cX4_openMany) (maxL := 3) (ret := (some .int)) (own := RX4) (by decide) rfl rfl (Nat.le_of_ble_eq_true rfl) ?_
  intro pp ee s mm below meth cc hfx hK hP hE hS ls hl
  obtain ⟨hx, hb, hr, hml, hown, hts, hlk⟩ := hfx
  have hl : lv_has ls 3 [(0, .ref m0)] := hl
  have hi4 : ∀ w ∈ u_ws RX4 TX4 18, w ∈ wsX4_openMany := fun w h => List.mem_cons_of_mem _ (List.mem_append_right _ (h))
  have hnl := hn.le
  refine lv_iconst (v := 0) hx hb dX4_openMany_0 (by decide) ?_
  refine lv_istore_n (lv' := [(1, .int 0), (0, .ref m0)]) hx hb dX4_openMany_1 rfl hl (by decide) rfl (fun ls hl => ?_)
  refine lv_iconst (v := 0) hx hb dX4_openMany_2 (by decide) ?_
  refine lv_istore_n (lv' := [(2, .int 0), (1, .int 0), (0, .ref m0)]) hx hb dX4_openMany_3 rfl hl (by decide) rfl (fun ls hl => ?_)
  refine g_loopW (st := []) (N := n) (fun i H locs ls => va_P D vwCl [(m0, .inr (4, [.int th, .ref m1, .ref m2, .ref m3, .int (nI sy), .ref m4, .int (nI ly), .ref m5, .ref m6, .int (nI py), .ref m7, .ref m8, .ref m9, .int (nI ay), .int (if iw = true then 1 else 0), .ref m10, .int (nI ty), .long hy])), (m1, .inl (K 0, 22, .inl (mst n mask vf sf)))] H ∧ va_S gNo s.heap H locs ∧ lv_has ls 3 [(2, .int (nI i)), (1, .int (nI (cntO mask i))), (0, .ref m0)]) 0 (Nat.zero_le _) ?_ ?_ ?_
  · intro H locs ls hI
    obtain ⟨hP, hS, hl⟩ := hI
    refine lv_iload_n hx hb dX4_openMany_4 rfl (lv_at hl 0 rfl) ?_
    refine lv_aload_n hx hb dX4_openMany_5 rfl (lv_at hl 2 rfl) ?_
    refine va_get (D := D) (ci := 4) (v := .ref m1) (C := RX4) (T := TX4) (N := 18) hx hb hts hi4 hown hK hP 0 rfl rfl 1 (by decide) (hts (.fieldLink RX4 7 "PairedChannelsModel" "s" "[I") (List.mem_of_getElem? (i := 1) (by decide +kernel))) (fun _ h9 => h9) rfl dX4_openMany_6 ?_
    refine lv_iconst (v := 0) hx hb dX4_openMany_9 (by decide) ?_
    refine wa_iald hx hb hK hP 1 0 rfl rfl (0) rfl (by omega) (by decide) dX4_openMany_10 ?_
    refine lv_eqi (nI n) (rfl) ?_
    refine lv_icmp_ge (tgt := 36) hx hb dX4_openMany_11 (by decide) (fun c2 => ?_) (fun c2 => ?_)
    · skip
      have c2 : n ≤ n := (nI_leI (a := n) (b := n) (by omega) (by omega)).mp c2
      refine lv_iload_n hx hb dX4_openMany_36 rfl (lv_at hl 1 rfl) ?_
      exact gR_iret (v := nI (cntO mask n)) hx hb hr hlk (rfl) hS (rfl) dX4_openMany_37
    · skip
      have c2 : ¬ n ≤ n := fun h9 => c2 ((nI_leI (a := n) (b := n) (by omega) (by omega)).mpr h9)
      omega
  · intro i hi ih1 H locs ls hI
    obtain ⟨hP, hS, hl⟩ := hI
    refine lv_iload_n hx hb dX4_openMany_4 rfl (lv_at hl 0 rfl) ?_
    refine lv_aload_n hx hb dX4_openMany_5 rfl (lv_at hl 2 rfl) ?_
    refine va_get (D := D) (ci := 4) (v := .ref m1) (C := RX4) (T := TX4) (N := 18) hx hb hts hi4 hown hK hP 0 rfl rfl 1 (by decide) (hts (.fieldLink RX4 7 "PairedChannelsModel" "s" "[I") (List.mem_of_getElem? (i := 1) (by decide +kernel))) (fun _ h9 => h9) rfl dX4_openMany_6 ?_
    refine lv_iconst (v := 0) hx hb dX4_openMany_9 (by decide) ?_
    refine wa_iald hx hb hK hP 1 0 rfl rfl (0) rfl (by omega) (by decide) dX4_openMany_10 ?_
    refine lv_eqi (nI n) (rfl) ?_
    refine lv_icmp_ge (tgt := 36) hx hb dX4_openMany_11 (by decide) (fun c3 => ?_) (fun c3 => ?_)
    · skip
      have c3 : n ≤ i := (nI_leI (a := n) (b := i) (by omega) (by omega)).mp c3
      omega
    · skip
      have c3 : ¬ n ≤ i := fun h9 => c3 ((nI_leI (a := n) (b := i) (by omega) (by omega)).mpr h9)
      refine lv_iload_n hx hb dX4_openMany_14 rfl (lv_at hl 1 rfl) ?_
      refine lv_aload_n hx hb dX4_openMany_15 rfl (lv_at hl 2 rfl) ?_
      refine lv_iload_n hx hb dX4_openMany_16 rfl (lv_at hl 0 rfl) ?_
      refine gR_i (va_runV (As := [.int (nI i)]) (rest := [.int (nI (cntO mask i))]) ⟨hx, hb, hml, hown, hts⟩ (c_X4_isOpen l D K m0 m1 m2 m3 m4 m5 m6 m7 m8 m9 m10 th sy ly py ay iw ty hy n mask vf sf i ) (cwV 1 hts gX4_openMany_X4_isOpen rfl rfl rfl (by decide +kernel) ⟨Nat.le_of_ble_eq_true rfl, Nat.le_of_ble_eq_true rfl⟩) (gR_preV hE hS hK hP [0, 1] rfl 0 rfl rfl rfl) rfl rfl hl.1 rfl (lv_room (Nat.le_of_ble_eq_true rfl)) dX4_openMany_17 ⟨Nat.le_of_ble_eq_true rfl, Nat.le_of_ble_eq_true rfl⟩) hS hP (fun rv5 H locs h4 hP hS => ?_)
      have h4 : rv5 = (if opn mask i then 1 else 0) := h4
      subst h4
      refine g_cut (F0 mm 28 ls [.int (if opn mask i then 1 else 0), .int (nI (cntO mask i))]) (fun hJ => ?_) ?_
      · refine lv_if_eq (tgt := 27) hx hb dX4_openMany_20 (by decide) (fun c6 => ?_) (fun c6 => ?_)
        · skip
          have c6 : ¬ (opn mask i) := b_eq0 c6
          refine lv_iconst (v := 0) hx hb dX4_openMany_27 (by decide) ?_
          refine lv_eqi ((if opn mask i then 1 else 0)) (if_neg c6).symm ?_
          exact hJ
        · skip
          have c6 : opn mask i := b_ne0 c6
          refine lv_iconst (v := 1) hx hb dX4_openMany_23 (by decide) ?_
          refine lv_goto (tgt := 28) hx hb dX4_openMany_24 (by decide) ?_
          refine lv_eqi ((if opn mask i then 1 else 0)) (if_pos c6).symm ?_
          exact hJ
      · skip
        refine lv_iadd hx hb dX4_openMany_28 ?_
        refine lv_istore_n (lv' := [(1, .int (nI (cntO mask i) + (if opn mask i then 1 else 0))), (2, .int (nI i)), (0, .ref m0)]) hx hb dX4_openMany_29 rfl hl (by decide) rfl (fun ls hl => ?_)
        refine lv_iinc (v := nI (i + 1)) (lv' := [(2, .int (nI (i + 1))), (1, .int (nI (cntO mask i) + (if opn mask i then 1 else 0))), (0, .ref m0)]) hx hb dX4_openMany_30 hl (k := 1) rfl (nI_add i 1) (by decide) rfl (fun ls hl => ?_)
        refine lv_goto (tgt := 4) hx hb dX4_openMany_33 (by decide) ?_
        have e9 : (nI (cntO mask i) + (if opn mask i then 1 else 0)) = (nI (cntO mask (i + 1))) := nI_ite _ _
        rw [e9] at hl
        exact ih1 H locs ls ⟨hP, hS, lv_sub hl [0, 1, 2] rfl⟩
  · exact ⟨hP, hS, lv_sub hl [0, 1, 2] rfl⟩

set_option maxHeartbeats 4000000 in
set_option maxRecDepth 100000 in
theorem c_X4_checkMany (l : Launch) (D : va_G) (K : Nat → ClassId) (m0 : Nat) (m1 : Nat) (m2 : Nat) (m3 : Nat) (m4 : Nat) (m5 : Nat) (m6 : Nat) (m7 : Nat) (m8 : Nat) (m9 : Nat) (m10 : Nat) (th : Int32) (sy : Nat) (ly : Nat) (py : Nat) (ay : Nat) (iw : Bool) (ty : Nat) (hy : Int64) (n : Nat) (mask : Int32) (vf : Nat → Int32) (sf : Nat → Int32) (hn : okN n) (hsf : okS sf) : MRi l yX4_checkMany wsX4_checkMany ({ frames := 2, cells := 0, slots := 0, locals := 43 } : Room) D (gTy K) [.ref m0] [(m0, .inr (4, [.int th, .ref m1, .ref m2, .ref m3, .int (nI sy), .ref m4, .int (nI ly), .ref m5, .ref m6, .int (nI py), .ref m7, .ref m8, .ref m9, .int (nI ay), .int (if iw = true then 1 else 0), .ref m10, .int (nI ty), .long hy])), (m1, .inl (K 0, 22, .inl (mst n mask vf sf)))] (fun r => r = nI (ckB mask n sf)) := by
  refine g_ofR (cc := cX4_checkMany) (maxL := 2) (ret := (some .int)) (own := RX4) (by decide) rfl rfl (Nat.le_of_ble_eq_true rfl) ?_
  intro pp ee s mm below meth cc hfx hK hP hE hS ls hl
  obtain ⟨hx, hb, hr, hml, hown, hts, hlk⟩ := hfx
  have hl : lv_has ls 2 [(0, .ref m0)] := hl
  have hi4 : ∀ w ∈ u_ws RX4 TX4 18, w ∈ wsX4_checkMany := fun w h => List.mem_cons_of_mem _ (List.mem_append_right _ (h))
  refine lv_aload_n hx hb dX4_checkMany_0 rfl (lv_at hl 0 rfl) ?_
  refine gR_i (va_runV (As := []) (rest := []) ⟨hx, hb, hml, hown, hts⟩ (c_X4_openMany l D K m0 m1 m2 m3 m4 m5 m6 m7 m8 m9 m10 th sy ly py ay iw ty hy n mask vf sf (by first | assumption | omega)) (cwV 0 hts gX4_checkMany_X4_openMany rfl rfl rfl (by decide +kernel) ⟨Nat.le_of_ble_eq_true rfl, Nat.le_of_ble_eq_true rfl⟩) (gR_preV hE hS hK hP [0, 1] rfl 0 rfl rfl rfl) rfl rfl hl.1 rfl (lv_room (Nat.le_of_ble_eq_true rfl)) dX4_checkMany_1 ⟨Nat.le_of_ble_eq_true rfl, Nat.le_of_ble_eq_true rfl⟩) hS hP (fun rv2 H locs h1 hP hS => ?_)
  have h1 : rv2 = nI (cntO mask n) := h1
  subst h1
  refine lv_istore_n (lv' := [(1, .int (nI (cntO mask n))), (0, .ref m0)]) hx hb dX4_checkMany_4 rfl hl (by decide) rfl (fun ls hl => ?_)
  refine lv_iload_n hx hb dX4_checkMany_5 rfl (lv_at hl 0 rfl) ?_
  refine lv_aload_n hx hb dX4_checkMany_6 rfl (lv_at hl 1 rfl) ?_
  refine va_get (D := D) (ci := 4) (v := .ref m1) (C := RX4) (T := TX4) (N := 18) hx hb hts hi4 hown hK hP 0 rfl rfl 1 (by decide) (hts (.fieldLink RX4 7 "PairedChannelsModel" "s" "[I") (List.mem_of_getElem? (i := 1) (by decide +kernel))) (fun _ h9 => h9) rfl dX4_checkMany_7 ?_
  refine lv_iconst (v := 4) hx hb dX4_checkMany_10 (by decide) ?_
  refine wa_iald hx hb hK hP 1 0 rfl rfl (4) rfl (by omega) (by decide) dX4_checkMany_11 ?_
  refine lv_eqi (sf 2) (rfl) ?_
  refine g_cut (F0 mm 25 ls [.int (if sf 2 ≤ nI (cntO mask n) then sf 2 else nI (cntO mask n))]) (fun hJ => ?_) ?_
  · refine lv_icmp_ge (tgt := 19) hx hb dX4_checkMany_12 (by decide) (fun c3 => ?_) (fun c3 => ?_)
    · skip
      refine lv_aload_n hx hb dX4_checkMany_19 rfl (lv_at hl 1 rfl) ?_
      refine va_get (D := D) (ci := 4) (v := .ref m1) (C := RX4) (T := TX4) (N := 18) hx hb hts hi4 hown hK hP 0 rfl rfl 1 (by decide) (hts (.fieldLink RX4 7 "PairedChannelsModel" "s" "[I") (List.mem_of_getElem? (i := 1) (by decide +kernel))) (fun _ h9 => h9) rfl dX4_checkMany_20 ?_
      refine lv_iconst (v := 4) hx hb dX4_checkMany_23 (by decide) ?_
      refine wa_iald hx hb hK hP 1 0 rfl rfl (4) rfl (by omega) (by decide) dX4_checkMany_24 ?_
      refine lv_eqi (sf 2) (rfl) ?_
      refine lv_eqi ((if sf 2 ≤ nI (cntO mask n) then sf 2 else nI (cntO mask n))) (if_pos c3).symm ?_
      exact hJ
    · skip
      refine lv_iload_n hx hb dX4_checkMany_15 rfl (lv_at hl 0 rfl) ?_
      refine lv_goto (tgt := 25) hx hb dX4_checkMany_16 (by decide) ?_
      refine lv_eqi ((if sf 2 ≤ nI (cntO mask n) then sf 2 else nI (cntO mask n))) (if_neg c3).symm ?_
      exact hJ
  · skip
    refine lv_eqi (nI (ckB mask n sf)) (ck_min2 hsf hn.le.2) ?_
    exact gR_iret (v := nI (ckB mask n sf)) hx hb hr hlk (rfl) hS (rfl) dX4_checkMany_25

set_option maxHeartbeats 4000000 in
set_option maxRecDepth 100000 in
theorem c_X4_bodyMany (l : Launch) (D : va_G) (K : Nat → ClassId) (m0 : Nat) (m1 : Nat) (m2 : Nat) (m3 : Nat) (m4 : Nat) (m5 : Nat) (m6 : Nat) (m7 : Nat) (m8 : Nat) (m9 : Nat) (m10 : Nat) (th : Int32) (sy : Nat) (ly : Nat) (py : Nat) (ay : Nat) (iw : Bool) (ty : Nat) (hy : Int64) (n : Nat) (mask : Int32) (vf : Nat → Int32) (sf : Nat → Int32) (hn : okN n) (hsf : okS sf) : MRi l yX4_bodyMany wsX4_bodyMany ({ frames := 3, cells := 0, slots := 0, locals := 64 } : Room) D (gTy K) [.ref m0] [(m0, .inr (4, [.int th, .ref m1, .ref m2, .ref m3, .int (nI sy), .ref m4, .int (nI ly), .ref m5, .ref m6, .int (nI py), .ref m7, .ref m8, .ref m9, .int (nI ay), .int (if iw = true then 1 else 0), .ref m10, .int (nI ty), .long hy])), (m1, .inl (K 0, 22, .inl (mst n mask vf sf)))] (fun r => r = nI (bdB mask n sf)) := by
  refine g_ofR (cc := cX4_bodyMany) (maxL := 1) (ret := (some .int)) (own := RX4) (by decide) rfl rfl (Nat.le_of_ble_eq_true rfl) ?_
  intro pp ee s mm below meth cc hfx hK hP hE hS ls hl
  obtain ⟨hx, hb, hr, hml, hown, hts, hlk⟩ := hfx
  have hl : lv_has ls 1 [(0, .ref m0)] := hl
  refine lv_aload_n hx hb dX4_bodyMany_0 rfl (lv_at hl 0 rfl) ?_
  refine gR_i (va_runV (As := []) (rest := []) ⟨hx, hb, hml, hown, hts⟩ (c_X4_openMany l D K m0 m1 m2 m3 m4 m5 m6 m7 m8 m9 m10 th sy ly py ay iw ty hy n mask vf sf (by first | assumption | omega)) (cwV 0 hts gX4_bodyMany_X4_openMany rfl rfl rfl (by decide +kernel) ⟨Nat.le_of_ble_eq_true rfl, Nat.le_of_ble_eq_true rfl⟩) (gR_preV hE hS hK hP [0, 1] rfl 0 rfl rfl rfl) rfl rfl hl.1 rfl (lv_room (Nat.le_of_ble_eq_true rfl)) dX4_bodyMany_1 ⟨Nat.le_of_ble_eq_true rfl, Nat.le_of_ble_eq_true rfl⟩) hS hP (fun rv2 H locs h1 hP hS => ?_)
  have h1 : rv2 = nI (cntO mask n) := h1
  subst h1
  refine lv_aload_n hx hb dX4_bodyMany_4 rfl (lv_at hl 0 rfl) ?_
  refine gR_i (va_runV (As := []) (rest := [.int (nI (cntO mask n))]) ⟨hx, hb, hml, hown, hts⟩ (c_X4_checkMany l D K m0 m1 m2 m3 m4 m5 m6 m7 m8 m9 m10 th sy ly py ay iw ty hy n mask vf sf (by first | assumption | omega) (by first | assumption | omega)) (cwV 0 hts gX4_bodyMany_X4_checkMany rfl rfl rfl (by decide +kernel) ⟨Nat.le_of_ble_eq_true rfl, Nat.le_of_ble_eq_true rfl⟩) (gR_preV hE hS hK hP [0, 1] rfl 0 rfl rfl rfl) rfl rfl hl.1 rfl (lv_room (Nat.le_of_ble_eq_true rfl)) dX4_bodyMany_5 ⟨Nat.le_of_ble_eq_true rfl, Nat.le_of_ble_eq_true rfl⟩) hS hP (fun rv4 H locs h3 hP hS => ?_)
  have h3 : rv4 = nI (ckB mask n sf) := h3
  subst h3
  refine lv_isub hx hb dX4_bodyMany_8 ?_
  refine lv_eqi (nI (bdB mask n sf)) (pk_sub (ckB_le mask n sf)) ?_
  exact gR_iret (v := nI (bdB mask n sf)) hx hb hr hlk (rfl) hS (rfl) dX4_bodyMany_9

set_option maxHeartbeats 4000000 in
set_option maxRecDepth 100000 in
theorem c_X4_coded (l : Launch) (D : va_G) (K : Nat → ClassId) (x : Int32) (n : Nat) (hn1 : okN1 n) : MRi l yX4_coded wsX4_coded ({ frames := 0, cells := 0, slots := 0, locals := 0 } : Room) D (gTy K) [.int x, .int (nI n)] [] (fun r => r = cod x n) := by
  refine g_ofR (cc := cX4_coded) (maxL := 5) (ret := (some .int)) (own := RX4) (by decide) rfl rfl (Nat.le_of_ble_eq_true rfl) ?_
  intro pp ee s mm below meth cc hfx hK hP hE hS ls hl
  obtain ⟨hx, hb, hr, hml, hown, hts, hlk⟩ := hfx
  have hl : lv_has ls 5 [(0, .int x), (1, .int (nI n))] := hl
  have hlg := lg_le hn1
  have hnl := hn1.le
  refine lv_iload_n hx hb dX4_coded_0 rfl (lv_at hl 0 rfl) ?_
  refine lv_iconst (v := 1) hx hb dX4_coded_1 (by decide) ?_
  refine lv_iload_n hx hb dX4_coded_2 rfl (lv_at hl 1 rfl) ?_
  refine lv_ishl hx hb dX4_coded_3 ?_
  refine lv_iconst (v := 1) hx hb dX4_coded_4 (by decide) ?_
  refine lv_isub hx hb dX4_coded_5 ?_
  refine lv_iand hx hb dX4_coded_6 ?_
  refine lv_istore_n (lv' := [(2, .int (x &&& ((1 <<< ((nI n) &&& 31)) - 1))), (0, .int x), (1, .int (nI n))]) hx hb dX4_coded_7 rfl hl (by decide) rfl (fun ls hl => ?_)
  refine lv_iconst (v := 1) hx hb dX4_coded_8 (by decide) ?_
  refine lv_istore_n (lv' := [(3, .int 1), (2, .int (x &&& ((1 <<< ((nI n) &&& 31)) - 1))), (0, .int x), (1, .int (nI n))]) hx hb dX4_coded_9 rfl hl (by decide) rfl (fun ls hl => ?_)
  refine g_loopW (st := []) (N := lg n) (fun k H locs ls => va_P D vwCl [] H ∧ va_S gNo s.heap H locs ∧ lv_has ls 5 [(3, .int (nI (2 ^ k))), (2, .int (codS (x &&& ((1 <<< (nI n &&& 31)) - 1)) k)), (0, .int x), (1, .int (nI n))]) 0 (Nat.zero_le _) ?_ ?_ ?_
  · intro H locs ls hI
    obtain ⟨hP, hS, hl⟩ := hI
    have hp9 := pw_le hlg
    refine lv_iload_n hx hb dX4_coded_10 rfl (lv_at hl 0 rfl) ?_
    refine lv_iload_n hx hb dX4_coded_11 rfl (lv_at hl 3 rfl) ?_
    refine lv_icmp_ge (tgt := 64) hx hb dX4_coded_12 (by decide) (fun c12 => ?_) (fun c12 => ?_)
    · skip
      have c12 : n ≤ 2 ^ (lg n) := (nI_leI (a := n) (b := 2 ^ (lg n)) (by omega) (by omega)).mp c12
      refine lv_iload_n hx hb dX4_coded_64 rfl (lv_at hl 1 rfl) ?_
      exact gR_iret (v := codS (x &&& ((1 <<< (nI n &&& 31)) - 1)) (lg n)) hx hb hr hlk (rfl) hS (rfl) dX4_coded_65
    · skip
      have c12 : ¬ n ≤ 2 ^ (lg n) := fun h9 => c12 ((nI_leI (a := n) (b := 2 ^ (lg n)) (by omega) (by omega)).mpr h9)
      exact absurd (Nat.le_of_eq (lg_pow hn1)) c12
  · intro k hk ih1 H locs ls hI
    obtain ⟨hP, hS, hl⟩ := hI
    have hpi : 2 ^ k < n := by rw [lg_pow hn1]; exact Nat.pow_lt_pow_right (by decide) hk
    have hpk := pw_le (k := k) (by omega)
    refine lv_iload_n hx hb dX4_coded_10 rfl (lv_at hl 0 rfl) ?_
    refine lv_iload_n hx hb dX4_coded_11 rfl (lv_at hl 3 rfl) ?_
    refine lv_icmp_ge (tgt := 64) hx hb dX4_coded_12 (by decide) (fun c12 => ?_) (fun c12 => ?_)
    · skip
      have c12 : n ≤ 2 ^ k := (nI_leI (a := n) (b := 2 ^ k) (by omega) (by omega)).mp c12
      omega
    · skip
      have c12 : ¬ n ≤ 2 ^ k := fun h9 => c12 ((nI_leI (a := n) (b := 2 ^ k) (by omega) (by omega)).mpr h9)
      refine lv_iconst (v := 0) hx hb dX4_coded_15 (by decide) ?_
      refine lv_istore (lv' := [(4, .int 0), (3, .int (nI (2 ^ k))), (2, .int (codS (x &&& ((1 <<< (nI n &&& 31)) - 1)) k)), (0, .int x), (1, .int (nI n))]) hx hb dX4_coded_16 hl (by decide) rfl (fun ls hl => ?_)
      refine g_loopW (st := []) (N := n) (fun p H locs ls => va_P D vwCl [] H ∧ va_S gNo s.heap H locs ∧ lv_has ls 5 [(4, .int (nI p)), (3, .int (nI (2 ^ k))), (2, .int (mcS (codS (x &&& ((1 <<< (nI n &&& 31)) - 1)) k) k p)), (0, .int x), (1, .int (nI n))]) 0 (Nat.zero_le _) ?_ ?_ ?_
      · intro H locs ls hI
        obtain ⟨hP, hS, hl⟩ := hI
        refine lv_iload hx hb dX4_coded_18 (lv_at hl 0 rfl) ?_
        refine lv_iload_n hx hb dX4_coded_20 rfl (lv_at hl 4 rfl) ?_
        refine lv_icmp_ge (tgt := 57) hx hb dX4_coded_21 (by decide) (fun c5 => ?_) (fun c5 => ?_)
        · skip
          have c5 : n ≤ n := (nI_leI (a := n) (b := n) (by omega) (by omega)).mp c5
          have e9 : (mcS (codS (x &&& ((1 <<< (nI n &&& 31)) - 1)) k) k n) = (codS (x &&& ((1 <<< (nI n &&& 31)) - 1)) (k + 1)) := mcS_step hn1 hk x
          rw [e9] at hl
          refine lv_iload_n hx hb dX4_coded_57 rfl (lv_at hl 1 rfl) ?_
          refine lv_iconst (v := 2) hx hb dX4_coded_58 (by decide) ?_
          refine lv_imul hx hb dX4_coded_59 ?_
          refine lv_istore_n (lv' := [(3, .int (nI (2 ^ k) * 2)), (4, .int (nI n)), (2, .int (codS (x &&& ((1 <<< (nI n &&& 31)) - 1)) (k + 1))), (0, .int x), (1, .int (nI n))]) hx hb dX4_coded_60 rfl hl (by decide) rfl (fun ls hl => ?_)
          refine lv_goto (tgt := 10) hx hb dX4_coded_61 (by decide) ?_
          have e9 : (nI (2 ^ k) * 2) = (nI (2 ^ (k + 1))) := pw_m k
          rw [e9] at hl
          exact ih1 H locs ls ⟨hP, hS, lv_sub hl [0, 2, 3, 4] rfl⟩
        · skip
          have c5 : ¬ n ≤ n := fun h9 => c5 ((nI_leI (a := n) (b := n) (by omega) (by omega)).mpr h9)
          omega
      · intro p hp ih4 H locs ls hI
        obtain ⟨hP, hS, hl⟩ := hI
        have hpd := Nat.div_le_self p (2 ^ k)
        refine lv_iload hx hb dX4_coded_18 (lv_at hl 0 rfl) ?_
        refine lv_iload_n hx hb dX4_coded_20 rfl (lv_at hl 4 rfl) ?_
        refine lv_icmp_ge (tgt := 57) hx hb dX4_coded_21 (by decide) (fun c6 => ?_) (fun c6 => ?_)
        · skip
          have c6 : n ≤ p := (nI_leI (a := n) (b := p) (by omega) (by omega)).mp c6
          omega
        · skip
          have c6 : ¬ n ≤ p := fun h9 => c6 ((nI_leI (a := n) (b := p) (by omega) (by omega)).mpr h9)
          refine lv_iload_n hx hb dX4_coded_24 rfl (lv_at hl 2 rfl) ?_
          refine lv_iload hx hb dX4_coded_25 (lv_at hl 0 rfl) ?_
          refine lv_iload_n hx hb dX4_coded_27 rfl (lv_at hl 1 rfl) ?_
          refine lv_idiv hx hb dX4_coded_28 (nI_ne0 (by omega) (by omega)) ?_
          refine lv_eqi (nI (p / (2 ^ k))) (pk_div (a := p) (d := 2 ^ k) (by omega) (by omega) (by omega)) ?_
          refine lv_iconst (v := 2) hx hb dX4_coded_29 (by decide) ?_
          refine lv_irem hx hb dX4_coded_30 (by decide) ?_
          refine lv_eqi (nI ((p / (2 ^ k)) % 2)) (pk_rem (a := p / (2 ^ k)) (d := 2) (by omega) (by omega) (by omega)) ?_
          refine g_cut (F0 mm 49 ls [.int (if (p / (2 ^ k)) % 2 = 0 then ((bitI (mcS (codS (x &&& ((1 <<< (nI n &&& 31)) - 1)) k) k p) (p + (2 ^ k))) <<< ((nI p) &&& 31)) else 0), .int (mcS (codS (x &&& ((1 <<< (nI n &&& 31)) - 1)) k) k p)]) (fun hJ => ?_) ?_
          · refine lv_if_ne (tgt := 48) hx hb dX4_coded_31 (by decide) (fun c7 => ?_) (fun c7 => ?_)
            · skip
              have c7 : ¬ (p / (2 ^ k)) % 2 = 0 := fun h9 => c7 ((nI_eq (a := (p / (2 ^ k)) % 2) (b := 0) (by omega) (by omega)).mpr h9)
              refine lv_iconst (v := 0) hx hb dX4_coded_48 (by decide) ?_
              refine lv_eqi ((if (p / (2 ^ k)) % 2 = 0 then ((bitI (mcS (codS (x &&& ((1 <<< (nI n &&& 31)) - 1)) k) k p) (p + (2 ^ k))) <<< ((nI p) &&& 31)) else 0)) (if_neg c7).symm ?_
              exact hJ
            · skip
              have c7 : (p / (2 ^ k)) % 2 = 0 := (nI_eq (a := (p / (2 ^ k)) % 2) (b := 0) (by omega) (by omega)).mp c7
              refine lv_iload_n hx hb dX4_coded_34 rfl (lv_at hl 2 rfl) ?_
              refine lv_iload hx hb dX4_coded_35 (lv_at hl 0 rfl) ?_
              refine lv_iload_n hx hb dX4_coded_37 rfl (lv_at hl 1 rfl) ?_
              refine lv_iadd hx hb dX4_coded_38 ?_
              refine lv_eqi (nI (p + (2 ^ k))) ((nI_add p (2 ^ k)).trans (congrArg nI (by omega))) ?_
              refine lv_ishr hx hb dX4_coded_39 ?_
              refine lv_iconst (v := 1) hx hb dX4_coded_40 (by decide) ?_
              refine lv_iand hx hb dX4_coded_41 ?_
              refine lv_eqi (bitI (mcS (codS (x &&& ((1 <<< (nI n &&& 31)) - 1)) k) k p) (p + (2 ^ k))) rfl ?_
              refine lv_iload hx hb dX4_coded_42 (lv_at hl 0 rfl) ?_
              refine lv_ishl hx hb dX4_coded_44 ?_
              refine lv_goto (tgt := 49) hx hb dX4_coded_45 (by decide) ?_
              refine lv_eqi ((if (p / (2 ^ k)) % 2 = 0 then ((bitI (mcS (codS (x &&& ((1 <<< (nI n &&& 31)) - 1)) k) k p) (p + (2 ^ k))) <<< ((nI p) &&& 31)) else 0)) (if_pos c7).symm ?_
              exact hJ
          · skip
            refine lv_ixor hx hb dX4_coded_49 ?_
            refine lv_istore_n (lv' := [(2, .int (mcS (codS (x &&& ((1 <<< (nI n &&& 31)) - 1)) k) k p ^^^ (if (p / (2 ^ k)) % 2 = 0 then ((bitI (mcS (codS (x &&& ((1 <<< (nI n &&& 31)) - 1)) k) k p) (p + (2 ^ k))) <<< ((nI p) &&& 31)) else 0))), (4, .int (nI p)), (3, .int (nI (2 ^ k))), (0, .int x), (1, .int (nI n))]) hx hb dX4_coded_50 rfl hl (by decide) rfl (fun ls hl => ?_)
            refine lv_iinc (v := nI (p + 1)) (lv' := [(4, .int (nI (p + 1))), (2, .int (mcS (codS (x &&& ((1 <<< (nI n &&& 31)) - 1)) k) k p ^^^ (if (p / (2 ^ k)) % 2 = 0 then ((bitI (mcS (codS (x &&& ((1 <<< (nI n &&& 31)) - 1)) k) k p) (p + (2 ^ k))) <<< ((nI p) &&& 31)) else 0))), (3, .int (nI (2 ^ k))), (0, .int x), (1, .int (nI n))]) hx hb dX4_coded_51 hl (k := 1) rfl (nI_add p 1) (by decide) rfl (fun ls hl => ?_)
            refine lv_goto (tgt := 18) hx hb dX4_coded_54 (by decide) ?_
            have e9 : (mcS (codS (x &&& ((1 <<< (nI n &&& 31)) - 1)) k) k p ^^^ (if (p / (2 ^ k)) % 2 = 0 then ((bitI (mcS (codS (x &&& ((1 <<< (nI n &&& 31)) - 1)) k) k p) (p + (2 ^ k))) <<< ((nI p) &&& 31)) else 0)) = (mcS (codS (x &&& ((1 <<< (nI n &&& 31)) - 1)) k) k (p + 1)) := xor_if _ _ _
            rw [e9] at hl
            exact ih4 H locs ls ⟨hP, hS, lv_sub hl [0, 2, 1, 3, 4] rfl⟩
      · exact ⟨hP, hS, lv_sub hl [0, 1, 2, 3, 4] rfl⟩
  · exact ⟨hP, hS, lv_sub hl [0, 1, 2, 3] rfl⟩
