set_option maxHeartbeats 4000000 in
set_option maxRecDepth 100000 in
theorem c_X4_weakest (l : Launch) (D : va_G) (K : Nat → ClassId) (m0 : Nat) (m1 : Nat) (m2 : Nat) (m3 : Nat) (m4 : Nat) (m5 : Nat) (m6 : Nat) (m7 : Nat) (m8 : Nat) (m9 : Nat) (m10 : Nat) (th : Int32) (sy : Nat) (ly : Nat) (py : Nat) (ay : Nat) (iw : Bool) (ty : Nat) (hy : Int64) (n : Nat) (mask : Int32) (vf : Nat → Int32) (sf : Nat → Int32) (fw : Nat → Int32) (fb : Nat → Int32) (fp : Nat → Int32) (gb : Nat → Int32) (gp : Nat → Int32) (hn : okN n) (hsf : okS sf) : MWi l yX4_weakest wsX4_weakest ({ frames := 10, cells := 0, slots := 0, locals := 225 } : Room) D (gTy K) [.ref m0] [(m0, .inr (4, [.int th, .ref m1, .ref m2, .ref m3, .int (nI sy), .ref m4, .int (nI ly), .ref m5, .ref m6, .int (nI py), .ref m7, .ref m8, .ref m9, .int (nI ay), .int (if iw = true then 1 else 0), .ref m10, .int (nI ty), .long hy])), (m1, .inl (K 0, 22, .inl (mst n mask vf sf))), (m9, .inl (K 0, 16, .inl fw)), (m5, .inl (K 0, 8, .inl fb)), (m6, .inl (K 0, 8, .inl fp)), (m7, .inl (K 0, 8, .inl gb)), (m8, .inl (K 0, 8, .inl gp))] (fun (u : Nat × (Nat → Int32) × (Nat → Int32) × (Nat → Int32) × (Nat → Int32) × (Nat → Int32)) => [(m0, .inr (4, [.int 0, .ref m1, .ref m2, .ref m3, .int (nI sy), .ref m4, .int (nI ly), .ref m5, .ref m6, .int (nI u.1), .ref m7, .ref m8, .ref m9, .int (nI ay), .int (if iw = true then 1 else 0), .ref m10, .int (nI ty), .long hy])), (m1, .inl (K 0, 22, .inl (mst n mask vf sf))), (m9, .inl (K 0, 16, .inl u.2.1)), (m5, .inl (K 0, 8, .inl u.2.2.1)), (m6, .inl (K 0, 8, .inl u.2.2.2.1)), (m7, .inl (K 0, 8, .inl u.2.2.2.2.1)), (m8, .inl (K 0, 8, .inl u.2.2.2.2.2))]) (fun r (u : Nat × (Nat → Int32) × (Nat → Int32) × (Nat → Int32) × (Nat → Int32) × (Nat → Int32)) => r = wkA n mask vf sf) 0 0 := by
  refine g_ofW (Qc := fun A => va_Qi _ (gB D (gTy K) A _) A) (cc := cX4_weakest) (maxL := 1) (ret := (some .int)) (own := RX4) (by decide) rfl rfl (Nat.le_of_ble_eq_true rfl) ?_
  intro pp ee s mm below meth cc A hfx hnm hK hP hD hE hS hA ls hl
  obtain ⟨hx, hb, hr, hml, hown, hts, hlk⟩ := hfx
  have hl : lv_has ls 1 [(0, .ref m0)] := hl
  have hi4 : ∀ w ∈ u_ws RX4 TX4 18, w ∈ wsX4_weakest := fun w h => List.mem_cons_of_mem _ (List.mem_append_right _ (h))
  refine lv_aload_n hx hb dX4_weakest_0 rfl (lv_at hl 0 rfl) ?_
  refine lv_iconst (v := 0) hx hb dX4_weakest_1 (by decide) ?_
  refine va_put (D := D) (ci := 4) (v := .int 0) (ty := .int) (C := RX4) (T := TX4) (N := 18) hx hb hts hi4 tyX4 tyX4_ok nmX4 hown hK hP hD hS 0 rfl rfl 0 (by decide) (hts (.fieldLink RX4 40 "PairedChannelsModel" "thrown" "I") (List.mem_of_getElem? (i := 1) (by decide +kernel))) (fun _ h9 => h9) rfl (by decide +kernel) (rfl) (rfl) (Nat.le_of_ble_eq_true rfl) dX4_weakest_2 (fun H locs hP hD hS => ?_)
  have hP : va_P D vwCl [(m0, .inr (4, [.int 0, .ref m1, .ref m2, .ref m3, .int (nI sy), .ref m4, .int (nI ly), .ref m5, .ref m6, .int (nI py), .ref m7, .ref m8, .ref m9, .int (nI ay), .int (if iw = true then 1 else 0), .ref m10, .int (nI ty), .long hy])), (m1, .inl (K 0, 22, .inl (mst n mask vf sf))), (m9, .inl (K 0, 16, .inl fw)), (m5, .inl (K 0, 8, .inl fb)), (m6, .inl (K 0, 8, .inl fp)), (m7, .inl (K 0, 8, .inl gb)), (m8, .inl (K 0, 8, .inl gp))] _ := hP
  have hD : va_D A [(m0, .inr (4, [.int 0, .ref m1, .ref m2, .ref m3, .int (nI sy), .ref m4, .int (nI ly), .ref m5, .ref m6, .int (nI py), .ref m7, .ref m8, .ref m9, .int (nI ay), .int (if iw = true then 1 else 0), .ref m10, .int (nI ty), .long hy])), (m1, .inl (K 0, 22, .inl (mst n mask vf sf))), (m9, .inl (K 0, 16, .inl fw)), (m5, .inl (K 0, 8, .inl fb)), (m6, .inl (K 0, 8, .inl fp)), (m7, .inl (K 0, 8, .inl gb)), (m8, .inl (K 0, 8, .inl gp))] := hD
  refine lv_aload_n hx hb dX4_weakest_5 rfl (lv_at hl 0 rfl) ?_
  refine gW_i (wr := []) (W2 := (fun (u : Nat × (Nat → Int32) × (Nat → Int32) × (Nat → Int32) × (Nat → Int32) × (Nat → Int32)) => [(m0, .inr (4, [.int 0, .ref m1, .ref m2, .ref m3, .int (nI sy), .ref m4, .int (nI ly), .ref m5, .ref m6, .int (nI u.1), .ref m7, .ref m8, .ref m9, .int (nI ay), .int (if iw = true then 1 else 0), .ref m10, .int (nI ty), .long hy])), (m1, .inl (K 0, 22, .inl (mst n mask vf sf))), (m9, .inl (K 0, 16, .inl u.2.1)), (m5, .inl (K 0, 8, .inl u.2.2.1)), (m6, .inl (K 0, 8, .inl u.2.2.2.1)), (m7, .inl (K 0, 8, .inl u.2.2.2.2.1)), (m8, .inl (K 0, 8, .inl u.2.2.2.2.2))])) (va_runV (As := []) (rest := []) ⟨hx, hb, hml, hown, hts⟩ ((c_X4_weak l D K m0 m1 m2 m3 m4 m5 m6 m7 m8 m9 m10 0 sy ly py ay iw ty hy n mask vf sf fw fb fp gb gp (by first | assumption | omega) (by first | assumption | omega)) _) (cwV 0 hts gX4_weakest_X4_weak rfl rfl rfl (by decide +kernel) ⟨Nat.le_of_ble_eq_true rfl, Nat.le_of_ble_eq_true rfl⟩) (gW_preV hE hS hK hP hD hA [0, 1, 2, 3, 4, 5, 6] rfl (by decide) 0 rfl rfl rfl) rfl rfl hl.1 rfl (lv_room (Nat.le_of_ble_eq_true rfl)) dX4_weakest_6 ⟨Nat.le_of_ble_eq_true rfl, Nat.le_of_ble_eq_true rfl⟩) hS hP hD hA [0, 1, 2, 3, 4, 5, 6] [] [0, 1, 2, 3, 4, 5, 6] rfl rfl (by decide) (by decide) (by decide) (fun _ => rfl) (fun rv3 u1 H locs h2 hP hD hS => ?_)
  have hP : va_P D vwCl [(m0, .inr (4, [.int 0, .ref m1, .ref m2, .ref m3, .int (nI sy), .ref m4, .int (nI ly), .ref m5, .ref m6, .int (nI u1.1), .ref m7, .ref m8, .ref m9, .int (nI ay), .int (if iw = true then 1 else 0), .ref m10, .int (nI ty), .long hy])), (m1, .inl (K 0, 22, .inl (mst n mask vf sf))), (m9, .inl (K 0, 16, .inl u1.2.1)), (m5, .inl (K 0, 8, .inl u1.2.2.1)), (m6, .inl (K 0, 8, .inl u1.2.2.2.1)), (m7, .inl (K 0, 8, .inl u1.2.2.2.2.1)), (m8, .inl (K 0, 8, .inl u1.2.2.2.2.2))] _ := hP
  have hD : va_D A [(m0, .inr (4, [.int 0, .ref m1, .ref m2, .ref m3, .int (nI sy), .ref m4, .int (nI ly), .ref m5, .ref m6, .int (nI u1.1), .ref m7, .ref m8, .ref m9, .int (nI ay), .int (if iw = true then 1 else 0), .ref m10, .int (nI ty), .long hy])), (m1, .inl (K 0, 22, .inl (mst n mask vf sf))), (m9, .inl (K 0, 16, .inl u1.2.1)), (m5, .inl (K 0, 8, .inl u1.2.2.1)), (m6, .inl (K 0, 8, .inl u1.2.2.2.1)), (m7, .inl (K 0, 8, .inl u1.2.2.2.2.1)), (m8, .inl (K 0, 8, .inl u1.2.2.2.2.2))] := hD
  have hm2 : rv3 = wkA n mask vf sf := h2
  exact gW_iret (v := rv3) (u1.1, u1.2.1, u1.2.2.1, u1.2.2.2.1, u1.2.2.2.2.1, u1.2.2.2.2.2) hx hb hr hlk (rfl) hK hP hD hS (hm2) dX4_weakest_9

set_option maxHeartbeats 4000000 in
set_option maxRecDepth 100000 in
theorem c_X4_borneMany (l : Launch) (D : va_G) (K : Nat → ClassId) (m0 : Nat) (m1 : Nat) (m2 : Nat) (m3 : Nat) (m4 : Nat) (m5 : Nat) (m6 : Nat) (m7 : Nat) (m8 : Nat) (m9 : Nat) (m10 : Nat) (th : Int32) (sy : Nat) (ly : Nat) (py : Nat) (ay : Nat) (iw : Bool) (ty : Nat) (hy : Int64) (n : Nat) (mask : Int32) (vf : Nat → Int32) (sf : Nat → Int32) (fa : Nat → Int32) (fw : Nat → Int32) (fb : Nat → Int32) (fp : Nat → Int32) (gb : Nat → Int32) (gp : Nat → Int32) (hn : okN n) (hsf : okS sf) : MWi l yX4_borneMany wsX4_borneMany ({ frames := 8, cells := 0, slots := 0, locals := 181 } : Room) D (gTy K) [.ref m0] [(m0, .inr (4, [.int th, .ref m1, .ref m2, .ref m3, .int (nI sy), .ref m4, .int (nI ly), .ref m5, .ref m6, .int (nI py), .ref m7, .ref m8, .ref m9, .int (nI ay), .int (if iw = true then 1 else 0), .ref m10, .int (nI ty), .long hy])), (m1, .inl (K 0, 22, .inl (mst n mask vf sf))), (m2, .inl (K 0, 22, .inl fa)), (m9, .inl (K 0, 16, .inl fw)), (m5, .inl (K 0, 8, .inl fb)), (m6, .inl (K 0, 8, .inl fp)), (m7, .inl (K 0, 8, .inl gb)), (m8, .inl (K 0, 8, .inl gp))] (fun (u : (Nat → Int32) × Nat × (Nat → Int32) × (Nat → Int32) × (Nat → Int32) × (Nat → Int32) × (Nat → Int32)) => [(m0, .inr (4, [.int th, .ref m1, .ref m2, .ref m3, .int (nI sy), .ref m4, .int (nI ly), .ref m5, .ref m6, .int (nI u.2.1), .ref m7, .ref m8, .ref m9, .int (nI ay), .int (if iw = true then 1 else 0), .ref m10, .int (nI ty), .long hy])), (m1, .inl (K 0, 22, .inl (mst n mask vf sf))), (m2, .inl (K 0, 22, .inl u.1)), (m9, .inl (K 0, 16, .inl u.2.2.1)), (m5, .inl (K 0, 8, .inl u.2.2.2.1)), (m6, .inl (K 0, 8, .inl u.2.2.2.2.1)), (m7, .inl (K 0, 8, .inl u.2.2.2.2.2.1)), (m8, .inl (K 0, 8, .inl u.2.2.2.2.2.2))]) (fun r (u : (Nat → Int32) × Nat × (Nat → Int32) × (Nat → Int32) × (Nat → Int32) × (Nat → Int32) × (Nat → Int32)) => r = nI (boX n mask vf sf n)) 0 0 := by
  refine g_ofW (Qc := fun A => va_Qi _ (gB D (gTy K) A _) A) (cc := cX4_borneMany) (maxL := 4) (ret := (some .int)) (own := RX4) (by decide) rfl rfl (Nat.le_of_ble_eq_true rfl) ?_
  intro pp ee s mm below meth cc A hfx hnm hK hP hD hE hS hA ls hl
  obtain ⟨hx, hb, hr, hml, hown, hts, hlk⟩ := hfx
  have hl : lv_has ls 4 [(0, .ref m0)] := hl
  have hi4 : ∀ w ∈ u_ws RX4 TX4 18, w ∈ wsX4_borneMany := fun w h => List.mem_cons_of_mem _ (List.mem_append_right _ (h))
  have hnl := hn.le
  refine lv_aload_n hx hb dX4_borneMany_0 rfl (lv_at hl 0 rfl) ?_
  refine gW_i (wr := [(m2, .inl (K 0, 22, .inl fa))]) (W2 := (fun (u : (Nat → Int32) × (Nat → Int32) × (Nat → Int32) × (Nat → Int32) × (Nat → Int32)) => [(m0, .inr (4, [.int th, .ref m1, .ref m2, .ref m3, .int (nI sy), .ref m4, .int (nI ly), .ref m5, .ref m6, .int (nI ((rdS n mask vf sf).length)), .ref m7, .ref m8, .ref m9, .int (nI ay), .int (if iw = true then 1 else 0), .ref m10, .int (nI ty), .long hy])), (m1, .inl (K 0, 22, .inl (mst n mask vf sf))), (m2, .inl (K 0, 22, .inl fa)), (m9, .inl (K 0, 16, .inl u.1)), (m5, .inl (K 0, 8, .inl u.2.1)), (m6, .inl (K 0, 8, .inl u.2.2.1)), (m7, .inl (K 0, 8, .inl u.2.2.2.1)), (m8, .inl (K 0, 8, .inl u.2.2.2.2))])) (va_runV (As := []) (rest := []) ⟨hx, hb, hml, hown, hts⟩ ((c_X4_readMessage l D K m0 m1 m2 m3 m4 m5 m6 m7 m8 m9 m10 th sy ly py ay iw ty hy n mask vf sf fw fb fp gb gp (by first | assumption | omega) (by first | assumption | omega)) _) (cwV 0 hts gX4_borneMany_X4_readMessage rfl rfl rfl (by decide +kernel) ⟨Nat.le_of_ble_eq_true rfl, Nat.le_of_ble_eq_true rfl⟩) (gW_preV hE hS hK hP hD hA [0, 1, 3, 4, 5, 6, 7] rfl (by decide) 0 rfl rfl rfl) rfl rfl hl.1 rfl (lv_room (Nat.le_of_ble_eq_true rfl)) dX4_borneMany_1 ⟨Nat.le_of_ble_eq_true rfl, Nat.le_of_ble_eq_true rfl⟩) hS hP hD hA [0, 1, 3, 4, 5, 6, 7] [2] [1, 2, 0, 3, 4, 5, 6, 7] rfl rfl (by decide) (by decide) (by decide) (fun _ => rfl) (fun rv3 u1 H locs h2 hP hD hS => ?_)
  have hP : va_P D vwCl [(m0, .inr (4, [.int th, .ref m1, .ref m2, .ref m3, .int (nI sy), .ref m4, .int (nI ly), .ref m5, .ref m6, .int (nI ((rdS n mask vf sf).length)), .ref m7, .ref m8, .ref m9, .int (nI ay), .int (if iw = true then 1 else 0), .ref m10, .int (nI ty), .long hy])), (m1, .inl (K 0, 22, .inl (mst n mask vf sf))), (m2, .inl (K 0, 22, .inl fa)), (m9, .inl (K 0, 16, .inl u1.1)), (m5, .inl (K 0, 8, .inl u1.2.1)), (m6, .inl (K 0, 8, .inl u1.2.2.1)), (m7, .inl (K 0, 8, .inl u1.2.2.2.1)), (m8, .inl (K 0, 8, .inl u1.2.2.2.2))] _ := hP
  have hD : va_D A [(m0, .inr (4, [.int th, .ref m1, .ref m2, .ref m3, .int (nI sy), .ref m4, .int (nI ly), .ref m5, .ref m6, .int (nI ((rdS n mask vf sf).length)), .ref m7, .ref m8, .ref m9, .int (nI ay), .int (if iw = true then 1 else 0), .ref m10, .int (nI ty), .long hy])), (m1, .inl (K 0, 22, .inl (mst n mask vf sf))), (m2, .inl (K 0, 22, .inl fa)), (m9, .inl (K 0, 16, .inl u1.1)), (m5, .inl (K 0, 8, .inl u1.2.1)), (m6, .inl (K 0, 8, .inl u1.2.2.1)), (m7, .inl (K 0, 8, .inl u1.2.2.2.1)), (m8, .inl (K 0, 8, .inl u1.2.2.2.2))] := hD
  have hnw : rv3 = rdN n mask vf sf ∧ hol (rdS n mask vf sf) u1.2.1 u1.2.2.1 := h2
  refine lv_eqi ((rdN n mask vf sf)) (hnw.1) ?_
  refine lv_istore_n (lv' := [(1, .int (rdN n mask vf sf)), (0, .ref m0)]) hx hb dX4_borneMany_4 rfl hl (by decide) rfl (fun ls hl => ?_)
  refine lv_aload_n hx hb dX4_borneMany_5 rfl (lv_at hl 1 rfl) ?_
  refine gW_v (wr := [(m9, .inl (K 0, 16, .inl u1.1)), (m5, .inl (K 0, 8, .inl u1.2.1)), (m6, .inl (K 0, 8, .inl u1.2.2.1)), (m7, .inl (K 0, 8, .inl u1.2.2.2.1)), (m8, .inl (K 0, 8, .inl u1.2.2.2.2))]) (W2 := (fun (u : Nat → Int32) => [(m0, .inr (4, [.int th, .ref m1, .ref m2, .ref m3, .int (nI sy), .ref m4, .int (nI ly), .ref m5, .ref m6, .int (nI ((rdS n mask vf sf).length)), .ref m7, .ref m8, .ref m9, .int (nI ay), .int (if iw = true then 1 else 0), .ref m10, .int (nI ty), .long hy])), (m1, .inl (K 0, 22, .inl (mst n mask vf sf))), (m2, .inl (K 0, 22, .inl u)), (m9, .inl (K 0, 16, .inl u1.1)), (m5, .inl (K 0, 8, .inl u1.2.1)), (m6, .inl (K 0, 8, .inl u1.2.2.1)), (m7, .inl (K 0, 8, .inl u1.2.2.2.1)), (m8, .inl (K 0, 8, .inl u1.2.2.2.2))])) (va_runV (As := []) (rest := []) ⟨hx, hb, hml, hown, hts⟩ ((c_X4_putAside l D K m0 m1 m2 m3 m4 m5 m6 m7 m8 m9 m10 th sy ly ((rdS n mask vf sf).length) ay iw ty hy n mask vf sf fa ) _) (cwV 0 hts gX4_borneMany_X4_putAside rfl rfl rfl (by decide +kernel) ⟨Nat.le_of_ble_eq_true rfl, Nat.le_of_ble_eq_true rfl⟩) (gW_preV hE hS hK hP hD hA [0, 1, 2] rfl (by decide) 0 rfl rfl rfl) rfl rfl hl.1 rfl (lv_room (Nat.le_of_ble_eq_true rfl)) dX4_borneMany_6 ⟨Nat.le_of_ble_eq_true rfl, Nat.le_of_ble_eq_true rfl⟩) hS hP hD hA [0, 1, 2] [3, 4, 5, 6, 7] [5, 6, 7, 0, 1, 2, 3, 4] rfl rfl (by decide) (by decide) (by decide) (fun _ => rfl) (fun u4 H locs h5 hP hD hS => ?_)
  have hP : va_P D vwCl [(m0, .inr (4, [.int th, .ref m1, .ref m2, .ref m3, .int (nI sy), .ref m4, .int (nI ly), .ref m5, .ref m6, .int (nI ((rdS n mask vf sf).length)), .ref m7, .ref m8, .ref m9, .int (nI ay), .int (if iw = true then 1 else 0), .ref m10, .int (nI ty), .long hy])), (m1, .inl (K 0, 22, .inl (mst n mask vf sf))), (m2, .inl (K 0, 22, .inl u4)), (m9, .inl (K 0, 16, .inl u1.1)), (m5, .inl (K 0, 8, .inl u1.2.1)), (m6, .inl (K 0, 8, .inl u1.2.2.1)), (m7, .inl (K 0, 8, .inl u1.2.2.2.1)), (m8, .inl (K 0, 8, .inl u1.2.2.2.2))] _ := hP
  have hD : va_D A [(m0, .inr (4, [.int th, .ref m1, .ref m2, .ref m3, .int (nI sy), .ref m4, .int (nI ly), .ref m5, .ref m6, .int (nI ((rdS n mask vf sf).length)), .ref m7, .ref m8, .ref m9, .int (nI ay), .int (if iw = true then 1 else 0), .ref m10, .int (nI ty), .long hy])), (m1, .inl (K 0, 22, .inl (mst n mask vf sf))), (m2, .inl (K 0, 22, .inl u4)), (m9, .inl (K 0, 16, .inl u1.1)), (m5, .inl (K 0, 8, .inl u1.2.1)), (m6, .inl (K 0, 8, .inl u1.2.2.1)), (m7, .inl (K 0, 8, .inl u1.2.2.2.1)), (m8, .inl (K 0, 8, .inl u1.2.2.2.2))] := hD
  have hpa : ∀ i, i < 22 → u4 i = mst n mask vf sf i := h5
  have e7 : (mst n mask vf sf) = (mst n mask (flN vf 0) sf) := congrArg (fun z => mst n mask z sf) (flN_0 vf)
  rw [e7] at hP hD
  have hP : va_P D vwCl [(m0, .inr (4, [.int th, .ref m1, .ref m2, .ref m3, .int (nI sy), .ref m4, .int (nI ly), .ref m5, .ref m6, .int (nI ((rdS n mask vf sf).length)), .ref m7, .ref m8, .ref m9, .int (nI ay), .int (if iw = true then 1 else 0), .ref m10, .int (nI ty), .long hy])), (m1, .inl (K 0, 22, .inl (mst n mask (flN vf 0) sf))), (m2, .inl (K 0, 22, .inl u4)), (m9, .inl (K 0, 16, .inl u1.1)), (m5, .inl (K 0, 8, .inl u1.2.1)), (m6, .inl (K 0, 8, .inl u1.2.2.1)), (m7, .inl (K 0, 8, .inl u1.2.2.2.1)), (m8, .inl (K 0, 8, .inl u1.2.2.2.2))] _ := hP
  have hD : va_D A [(m0, .inr (4, [.int th, .ref m1, .ref m2, .ref m3, .int (nI sy), .ref m4, .int (nI ly), .ref m5, .ref m6, .int (nI ((rdS n mask vf sf).length)), .ref m7, .ref m8, .ref m9, .int (nI ay), .int (if iw = true then 1 else 0), .ref m10, .int (nI ty), .long hy])), (m1, .inl (K 0, 22, .inl (mst n mask (flN vf 0) sf))), (m2, .inl (K 0, 22, .inl u4)), (m9, .inl (K 0, 16, .inl u1.1)), (m5, .inl (K 0, 8, .inl u1.2.1)), (m6, .inl (K 0, 8, .inl u1.2.2.1)), (m7, .inl (K 0, 8, .inl u1.2.2.2.1)), (m8, .inl (K 0, 8, .inl u1.2.2.2.2))] := hD
  refine lv_iconst (v := 0) hx hb dX4_borneMany_9 (by decide) ?_
  refine lv_istore_n (lv' := [(2, .int 0), (1, .int (rdN n mask vf sf)), (0, .ref m0)]) hx hb dX4_borneMany_10 rfl hl (by decide) rfl (fun ls hl => ?_)
  refine lv_iconst (v := 1) hx hb dX4_borneMany_11 (by decide) ?_
  refine lv_istore_n (lv' := [(3, .int 1), (2, .int 0), (1, .int (rdN n mask vf sf)), (0, .ref m0)]) hx hb dX4_borneMany_12 rfl hl (by decide) rfl (fun ls hl => ?_)
  refine g_loopW (st := []) (N := n) (fun q9 H locs ls => ∃ p9 : Nat, ∃ fw : Nat → Int32, ∃ fb : Nat → Int32, ∃ fp : Nat → Int32, ∃ gb : Nat → Int32, ∃ gp : Nat → Int32, (boX n mask vf sf q9 = q9) ∧ va_P D vwCl [(m0, .inr (4, [.int th, .ref m1, .ref m2, .ref m3, .int (nI sy), .ref m4, .int (nI ly), .ref m5, .ref m6, .int (nI p9), .ref m7, .ref m8, .ref m9, .int (nI ay), .int (if iw = true then 1 else 0), .ref m10, .int (nI ty), .long hy])), (m1, .inl (K 0, 22, .inl (mst n mask (flN vf q9) sf))), (m2, .inl (K 0, 22, .inl u4)), (m9, .inl (K 0, 16, .inl fw)), (m5, .inl (K 0, 8, .inl fb)), (m6, .inl (K 0, 8, .inl fp)), (m7, .inl (K 0, 8, .inl gb)), (m8, .inl (K 0, 8, .inl gp))] H ∧ va_D A [(m0, .inr (4, [.int th, .ref m1, .ref m2, .ref m3, .int (nI sy), .ref m4, .int (nI ly), .ref m5, .ref m6, .int (nI p9), .ref m7, .ref m8, .ref m9, .int (nI ay), .int (if iw = true then 1 else 0), .ref m10, .int (nI ty), .long hy])), (m1, .inl (K 0, 22, .inl (mst n mask (flN vf q9) sf))), (m2, .inl (K 0, 22, .inl u4)), (m9, .inl (K 0, 16, .inl fw)), (m5, .inl (K 0, 8, .inl fb)), (m6, .inl (K 0, 8, .inl fp)), (m7, .inl (K 0, 8, .inl gb)), (m8, .inl (K 0, 8, .inl gp))] ∧ va_S A s.heap H locs ∧ lv_has ls 4 [(3, .int 1), (2, .int (nI q9)), (1, .int (rdN n mask vf sf)), (0, .ref m0)]) 0 (Nat.zero_le _) ?_ ?_ ?_
  · intro H locs ls hI
    obtain ⟨p9, fw, fb, fp, gb, gp, hw, hP, hD, hS, hl⟩ := hI
    refine lv_iload_n hx hb dX4_borneMany_13 rfl (lv_at hl 0 rfl) ?_
    refine lv_if_eq (tgt := 75) hx hb dX4_borneMany_14 (by decide) (fun c9 => ?_) (fun c9 => ?_)
    · skip
      have c9 : 1 = 0 := (nI_eq (a := 1) (b := 0) (by omega) (by omega)).mp c9
      omega
    · skip
      have c9 : ¬ 1 = 0 := fun h9 => c9 ((nI_eq (a := 1) (b := 0) (by omega) (by omega)).mpr h9)
      refine lv_iload_n hx hb dX4_borneMany_17 rfl (lv_at hl 1 rfl) ?_
      refine lv_aload_n hx hb dX4_borneMany_18 rfl (lv_at hl 3 rfl) ?_
      refine va_get (D := D) (ci := 4) (v := .ref m1) (C := RX4) (T := TX4) (N := 18) hx hb hts hi4 hown hK hP 0 rfl rfl 1 (by decide) (hts (.fieldLink RX4 7 "PairedChannelsModel" "s" "[I") (List.mem_of_getElem? (i := 1) (by decide +kernel))) (fun _ h9 => h9) rfl dX4_borneMany_19 ?_
      refine lv_iconst (v := 0) hx hb dX4_borneMany_22 (by decide) ?_
      refine wa_iald hx hb hK hP 1 0 rfl rfl (0) rfl (by omega) (by decide) dX4_borneMany_23 ?_
      refine lv_eqi (nI n) (rfl) ?_
      refine lv_icmp_ge (tgt := 75) hx hb dX4_borneMany_24 (by decide) (fun c10 => ?_) (fun c10 => ?_)
      · skip
        have c10 : n ≤ n := (nI_leI (a := n) (b := n) (by omega) (by omega)).mp c10
        refine lv_aload_n hx hb dX4_borneMany_75 rfl (lv_at hl 3 rfl) ?_
        refine gW_v (wr := [(m9, .inl (K 0, 16, .inl fw)), (m5, .inl (K 0, 8, .inl fb)), (m6, .inl (K 0, 8, .inl fp)), (m7, .inl (K 0, 8, .inl gb)), (m8, .inl (K 0, 8, .inl gp))]) (W2 := (fun (u : Unit) => [(m0, .inr (4, [.int th, .ref m1, .ref m2, .ref m3, .int (nI sy), .ref m4, .int (nI ly), .ref m5, .ref m6, .int (nI p9), .ref m7, .ref m8, .ref m9, .int (nI ay), .int (if iw = true then 1 else 0), .ref m10, .int (nI ty), .long hy])), (m1, .inl (K 0, 22, .inl (mst n mask vf sf))), (m2, .inl (K 0, 22, .inl u4)), (m9, .inl (K 0, 16, .inl fw)), (m5, .inl (K 0, 8, .inl fb)), (m6, .inl (K 0, 8, .inl fp)), (m7, .inl (K 0, 8, .inl gb)), (m8, .inl (K 0, 8, .inl gp))])) (va_runV (As := []) (rest := []) ⟨hx, hb, hml, hown, hts⟩ ((c_X4_takeBack l D K m0 m1 m2 m3 m4 m5 m6 m7 m8 m9 m10 th sy ly p9 ay iw ty hy n mask vf sf u4 (mst n mask (flN vf n) sf) (hpa)) _) (cwV 0 hts gX4_borneMany_X4_takeBack rfl rfl rfl (by decide +kernel) ⟨Nat.le_of_ble_eq_true rfl, Nat.le_of_ble_eq_true rfl⟩) (gW_preV hE hS hK hP hD hA [0, 1, 2] rfl (by decide) 0 rfl rfl rfl) rfl rfl hl.1 rfl (lv_room (Nat.le_of_ble_eq_true rfl)) dX4_borneMany_76 ⟨Nat.le_of_ble_eq_true rfl, Nat.le_of_ble_eq_true rfl⟩) hS hP hD hA [0, 1, 2] [3, 4, 5, 6, 7] [5, 6, 7, 0, 1, 2, 3, 4] rfl rfl (by decide) (by decide) (by decide) (fun _ => rfl) (fun u11 H locs h12 hP hD hS => ?_)
        have hP : va_P D vwCl [(m0, .inr (4, [.int th, .ref m1, .ref m2, .ref m3, .int (nI sy), .ref m4, .int (nI ly), .ref m5, .ref m6, .int (nI p9), .ref m7, .ref m8, .ref m9, .int (nI ay), .int (if iw = true then 1 else 0), .ref m10, .int (nI ty), .long hy])), (m1, .inl (K 0, 22, .inl (mst n mask vf sf))), (m2, .inl (K 0, 22, .inl u4)), (m9, .inl (K 0, 16, .inl fw)), (m5, .inl (K 0, 8, .inl fb)), (m6, .inl (K 0, 8, .inl fp)), (m7, .inl (K 0, 8, .inl gb)), (m8, .inl (K 0, 8, .inl gp))] _ := hP
        have hD : va_D A [(m0, .inr (4, [.int th, .ref m1, .ref m2, .ref m3, .int (nI sy), .ref m4, .int (nI ly), .ref m5, .ref m6, .int (nI p9), .ref m7, .ref m8, .ref m9, .int (nI ay), .int (if iw = true then 1 else 0), .ref m10, .int (nI ty), .long hy])), (m1, .inl (K 0, 22, .inl (mst n mask vf sf))), (m2, .inl (K 0, 22, .inl u4)), (m9, .inl (K 0, 16, .inl fw)), (m5, .inl (K 0, 8, .inl fb)), (m6, .inl (K 0, 8, .inl fp)), (m7, .inl (K 0, 8, .inl gb)), (m8, .inl (K 0, 8, .inl gp))] := hD
        refine lv_iload_n hx hb dX4_borneMany_79 rfl (lv_at hl 1 rfl) ?_
        exact gW_iret (v := nI n) (u4, p9, fw, fb, fp, gb, gp) hx hb hr hlk (rfl) hK hP hD hS (congrArg nI hw.symm) dX4_borneMany_80
      · skip
        have c10 : ¬ n ≤ n := fun h9 => c10 ((nI_leI (a := n) (b := n) (by omega) (by omega)).mpr h9)
        omega
  · intro q9 hq9 ih8 H locs ls hI
    obtain ⟨p9, fw, fb, fp, gb, gp, hw, hP, hD, hS, hl⟩ := hI
    refine lv_iload_n hx hb dX4_borneMany_13 rfl (lv_at hl 0 rfl) ?_
    refine lv_if_eq (tgt := 75) hx hb dX4_borneMany_14 (by decide) (fun c14 => ?_) (fun c14 => ?_)
    · skip
      have c14 : 1 = 0 := (nI_eq (a := 1) (b := 0) (by omega) (by omega)).mp c14
      omega
    · skip
      have c14 : ¬ 1 = 0 := fun h9 => c14 ((nI_eq (a := 1) (b := 0) (by omega) (by omega)).mpr h9)
      refine lv_iload_n hx hb dX4_borneMany_17 rfl (lv_at hl 1 rfl) ?_
      refine lv_aload_n hx hb dX4_borneMany_18 rfl (lv_at hl 3 rfl) ?_
      refine va_get (D := D) (ci := 4) (v := .ref m1) (C := RX4) (T := TX4) (N := 18) hx hb hts hi4 hown hK hP 0 rfl rfl 1 (by decide) (hts (.fieldLink RX4 7 "PairedChannelsModel" "s" "[I") (List.mem_of_getElem? (i := 1) (by decide +kernel))) (fun _ h9 => h9) rfl dX4_borneMany_19 ?_
      refine lv_iconst (v := 0) hx hb dX4_borneMany_22 (by decide) ?_
      refine wa_iald hx hb hK hP 1 0 rfl rfl (0) rfl (by omega) (by decide) dX4_borneMany_23 ?_
      refine lv_eqi (nI n) (rfl) ?_
      refine lv_icmp_ge (tgt := 75) hx hb dX4_borneMany_24 (by decide) (fun c15 => ?_) (fun c15 => ?_)
      · skip
        have c15 : n ≤ q9 := (nI_leI (a := n) (b := q9) (by omega) (by omega)).mp c15
        omega
      · skip
        have c15 : ¬ n ≤ q9 := fun h9 => c15 ((nI_leI (a := n) (b := q9) (by omega) (by omega)).mpr h9)
        refine lv_aload_n hx hb dX4_borneMany_27 rfl (lv_at hl 3 rfl) ?_
        refine va_get (D := D) (ci := 4) (v := .ref m1) (C := RX4) (T := TX4) (N := 18) hx hb hts hi4 hown hK hP 0 rfl rfl 1 (by decide) (hts (.fieldLink RX4 7 "PairedChannelsModel" "s" "[I") (List.mem_of_getElem? (i := 1) (by decide +kernel))) (fun _ h9 => h9) rfl dX4_borneMany_28 ?_
        refine lv_bipush (v := 6) hx hb dX4_borneMany_31 (by decide) ?_
        refine lv_iload_n hx hb dX4_borneMany_33 rfl (lv_at hl 1 rfl) ?_
        refine lv_iadd hx hb dX4_borneMany_34 ?_
        refine lv_eqi (nI (6 + q9)) (nI_add 6 q9) ?_
        refine lv_aload_n hx hb dX4_borneMany_35 rfl (lv_at hl 3 rfl) ?_
        refine va_get (D := D) (ci := 4) (v := .ref m1) (C := RX4) (T := TX4) (N := 18) hx hb hts hi4 hown hK hP 0 rfl rfl 1 (by decide) (hts (.fieldLink RX4 7 "PairedChannelsModel" "s" "[I") (List.mem_of_getElem? (i := 1) (by decide +kernel))) (fun _ h9 => h9) rfl dX4_borneMany_36 ?_
        refine lv_bipush (v := 6) hx hb dX4_borneMany_39 (by decide) ?_
        refine lv_iload_n hx hb dX4_borneMany_41 rfl (lv_at hl 1 rfl) ?_
        refine lv_iadd hx hb dX4_borneMany_42 ?_
        refine lv_eqi (nI (6 + q9)) (nI_add 6 q9) ?_
        refine wa_iald hx hb hK hP 1 0 rfl rfl (6 + q9) rfl (by omega) (by decide) dX4_borneMany_43 ?_
        refine lv_eqi ((flN vf q9) q9) (mst_p _) ?_
        refine lv_eqi ((vf q9)) (flN_at vf q9) ?_
        refine lv_ineg hx hb dX4_borneMany_44 ?_
        refine wa_iast (x := (-(vf q9))) hx hb hK hP hD hS 1 0 rfl rfl (6 + q9) rfl (by omega) (by decide) dX4_borneMany_45 (fun H locs hP hD hS => ?_)
        have hP : va_P D vwCl [(m0, .inr (4, [.int th, .ref m1, .ref m2, .ref m3, .int (nI sy), .ref m4, .int (nI ly), .ref m5, .ref m6, .int (nI p9), .ref m7, .ref m8, .ref m9, .int (nI ay), .int (if iw = true then 1 else 0), .ref m10, .int (nI ty), .long hy])), (m1, .inl (K 0, 22, .inl (upd (mst n mask (flN vf q9) sf) (6 + q9) (-(vf q9))))), (m2, .inl (K 0, 22, .inl u4)), (m9, .inl (K 0, 16, .inl fw)), (m5, .inl (K 0, 8, .inl fb)), (m6, .inl (K 0, 8, .inl fp)), (m7, .inl (K 0, 8, .inl gb)), (m8, .inl (K 0, 8, .inl gp))] _ := hP
        have hD : va_D A [(m0, .inr (4, [.int th, .ref m1, .ref m2, .ref m3, .int (nI sy), .ref m4, .int (nI ly), .ref m5, .ref m6, .int (nI p9), .ref m7, .ref m8, .ref m9, .int (nI ay), .int (if iw = true then 1 else 0), .ref m10, .int (nI ty), .long hy])), (m1, .inl (K 0, 22, .inl (upd (mst n mask (flN vf q9) sf) (6 + q9) (-(vf q9))))), (m2, .inl (K 0, 22, .inl u4)), (m9, .inl (K 0, 16, .inl fw)), (m5, .inl (K 0, 8, .inl fb)), (m6, .inl (K 0, 8, .inl fp)), (m7, .inl (K 0, 8, .inl gb)), (m8, .inl (K 0, 8, .inl gp))] := hD
        have e16 : (upd (mst n mask (flN vf q9) sf) (6 + q9) (-(vf q9))) = (mst n mask (upd (flN vf q9) q9 (-(vf q9))) sf) := mst_up _ _
        rw [e16] at hP hD
        have hP : va_P D vwCl [(m0, .inr (4, [.int th, .ref m1, .ref m2, .ref m3, .int (nI sy), .ref m4, .int (nI ly), .ref m5, .ref m6, .int (nI p9), .ref m7, .ref m8, .ref m9, .int (nI ay), .int (if iw = true then 1 else 0), .ref m10, .int (nI ty), .long hy])), (m1, .inl (K 0, 22, .inl (mst n mask (upd (flN vf q9) q9 (-(vf q9))) sf))), (m2, .inl (K 0, 22, .inl u4)), (m9, .inl (K 0, 16, .inl fw)), (m5, .inl (K 0, 8, .inl fb)), (m6, .inl (K 0, 8, .inl fp)), (m7, .inl (K 0, 8, .inl gb)), (m8, .inl (K 0, 8, .inl gp))] _ := hP
        have hD : va_D A [(m0, .inr (4, [.int th, .ref m1, .ref m2, .ref m3, .int (nI sy), .ref m4, .int (nI ly), .ref m5, .ref m6, .int (nI p9), .ref m7, .ref m8, .ref m9, .int (nI ay), .int (if iw = true then 1 else 0), .ref m10, .int (nI ty), .long hy])), (m1, .inl (K 0, 22, .inl (mst n mask (upd (flN vf q9) q9 (-(vf q9))) sf))), (m2, .inl (K 0, 22, .inl u4)), (m9, .inl (K 0, 16, .inl fw)), (m5, .inl (K 0, 8, .inl fb)), (m6, .inl (K 0, 8, .inl fp)), (m7, .inl (K 0, 8, .inl gb)), (m8, .inl (K 0, 8, .inl gp))] := hD
        have e17 : (mst n mask (upd (flN vf q9) q9 (-(vf q9))) sf) = (mst n mask (flN vf (q9 + 1)) sf) := congrArg (fun z => mst n mask z sf) (flN_up vf q9)
        rw [e17] at hP hD
        have hP : va_P D vwCl [(m0, .inr (4, [.int th, .ref m1, .ref m2, .ref m3, .int (nI sy), .ref m4, .int (nI ly), .ref m5, .ref m6, .int (nI p9), .ref m7, .ref m8, .ref m9, .int (nI ay), .int (if iw = true then 1 else 0), .ref m10, .int (nI ty), .long hy])), (m1, .inl (K 0, 22, .inl (mst n mask (flN vf (q9 + 1)) sf))), (m2, .inl (K 0, 22, .inl u4)), (m9, .inl (K 0, 16, .inl fw)), (m5, .inl (K 0, 8, .inl fb)), (m6, .inl (K 0, 8, .inl fp)), (m7, .inl (K 0, 8, .inl gb)), (m8, .inl (K 0, 8, .inl gp))] _ := hP
        have hD : va_D A [(m0, .inr (4, [.int th, .ref m1, .ref m2, .ref m3, .int (nI sy), .ref m4, .int (nI ly), .ref m5, .ref m6, .int (nI p9), .ref m7, .ref m8, .ref m9, .int (nI ay), .int (if iw = true then 1 else 0), .ref m10, .int (nI ty), .long hy])), (m1, .inl (K 0, 22, .inl (mst n mask (flN vf (q9 + 1)) sf))), (m2, .inl (K 0, 22, .inl u4)), (m9, .inl (K 0, 16, .inl fw)), (m5, .inl (K 0, 8, .inl fb)), (m6, .inl (K 0, 8, .inl fp)), (m7, .inl (K 0, 8, .inl gb)), (m8, .inl (K 0, 8, .inl gp))] := hD
        refine lv_aload_n hx hb dX4_borneMany_46 rfl (lv_at hl 3 rfl) ?_
        refine gW_i (wr := [(m2, .inl (K 0, 22, .inl u4))]) (W2 := (fun (u : (Nat → Int32) × (Nat → Int32) × (Nat → Int32) × (Nat → Int32) × (Nat → Int32)) => [(m0, .inr (4, [.int th, .ref m1, .ref m2, .ref m3, .int (nI sy), .ref m4, .int (nI ly), .ref m5, .ref m6, .int (nI ((rdS n mask (flN vf (q9 + 1)) sf).length)), .ref m7, .ref m8, .ref m9, .int (nI ay), .int (if iw = true then 1 else 0), .ref m10, .int (nI ty), .long hy])), (m1, .inl (K 0, 22, .inl (mst n mask (flN vf (q9 + 1)) sf))), (m2, .inl (K 0, 22, .inl u4)), (m9, .inl (K 0, 16, .inl u.1)), (m5, .inl (K 0, 8, .inl u.2.1)), (m6, .inl (K 0, 8, .inl u.2.2.1)), (m7, .inl (K 0, 8, .inl u.2.2.2.1)), (m8, .inl (K 0, 8, .inl u.2.2.2.2))])) (va_runV (As := []) (rest := []) ⟨hx, hb, hml, hown, hts⟩ ((c_X4_readMessage l D K m0 m1 m2 m3 m4 m5 m6 m7 m8 m9 m10 th sy ly p9 ay iw ty hy n mask (flN vf (q9 + 1)) sf fw fb fp gb gp (by first | assumption | omega) (by first | assumption | omega)) _) (cwV 0 hts gX4_borneMany_X4_readMessage rfl rfl rfl (by decide +kernel) ⟨Nat.le_of_ble_eq_true rfl, Nat.le_of_ble_eq_true rfl⟩) (gW_preV hE hS hK hP hD hA [0, 1, 3, 4, 5, 6, 7] rfl (by decide) 0 rfl rfl rfl) rfl rfl hl.1 rfl (lv_room (Nat.le_of_ble_eq_true rfl)) dX4_borneMany_47 ⟨Nat.le_of_ble_eq_true rfl, Nat.le_of_ble_eq_true rfl⟩) hS hP hD hA [0, 1, 3, 4, 5, 6, 7] [2] [1, 2, 0, 3, 4, 5, 6, 7] rfl rfl (by decide) (by decide) (by decide) (fun _ => rfl) (fun rv20 u18 H locs h19 hP hD hS => ?_)
        have hP : va_P D vwCl [(m0, .inr (4, [.int th, .ref m1, .ref m2, .ref m3, .int (nI sy), .ref m4, .int (nI ly), .ref m5, .ref m6, .int (nI ((rdS n mask (flN vf (q9 + 1)) sf).length)), .ref m7, .ref m8, .ref m9, .int (nI ay), .int (if iw = true then 1 else 0), .ref m10, .int (nI ty), .long hy])), (m1, .inl (K 0, 22, .inl (mst n mask (flN vf (q9 + 1)) sf))), (m2, .inl (K 0, 22, .inl u4)), (m9, .inl (K 0, 16, .inl u18.1)), (m5, .inl (K 0, 8, .inl u18.2.1)), (m6, .inl (K 0, 8, .inl u18.2.2.1)), (m7, .inl (K 0, 8, .inl u18.2.2.2.1)), (m8, .inl (K 0, 8, .inl u18.2.2.2.2))] _ := hP
        have hD : va_D A [(m0, .inr (4, [.int th, .ref m1, .ref m2, .ref m3, .int (nI sy), .ref m4, .int (nI ly), .ref m5, .ref m6, .int (nI ((rdS n mask (flN vf (q9 + 1)) sf).length)), .ref m7, .ref m8, .ref m9, .int (nI ay), .int (if iw = true then 1 else 0), .ref m10, .int (nI ty), .long hy])), (m1, .inl (K 0, 22, .inl (mst n mask (flN vf (q9 + 1)) sf))), (m2, .inl (K 0, 22, .inl u4)), (m9, .inl (K 0, 16, .inl u18.1)), (m5, .inl (K 0, 8, .inl u18.2.1)), (m6, .inl (K 0, 8, .inl u18.2.2.1)), (m7, .inl (K 0, 8, .inl u18.2.2.2.1)), (m8, .inl (K 0, 8, .inl u18.2.2.2.2))] := hD
        have hm2 : rv20 = rdN n mask (flN vf (q9 + 1)) sf ∧ hol (rdS n mask (flN vf (q9 + 1)) sf) u18.2.1 u18.2.2.1 := h19
        refine lv_iload_n hx hb dX4_borneMany_50 rfl (lv_at hl 2 rfl) ?_
        refine lv_icmp_ne (tgt := 58) hx hb dX4_borneMany_51 (by decide) (fun c51 => ?_) (fun c51 => ?_)
        · skip
          refine lv_iconst (v := 0) hx hb dX4_borneMany_58 (by decide) ?_
          refine lv_istore_n (lv' := [(3, .int 0), (2, .int (nI q9)), (1, .int (rdN n mask vf sf)), (0, .ref m0)]) hx hb dX4_borneMany_59 rfl hl (by decide) rfl (fun ls hl => ?_)
          refine lv_iload_n hx hb dX4_borneMany_60 rfl (lv_at hl 1 rfl) ?_
          refine lv_iload_n hx hb dX4_borneMany_61 rfl (lv_at hl 0 rfl) ?_
          refine lv_if_eq (tgt := 69) hx hb dX4_borneMany_62 (by decide) (fun c22 => ?_) (fun c22 => ?_)
          · skip
            have c22 : 0 = 0 := (nI_eq (a := 0) (b := 0) (by omega) (by omega)).mp c22
            refine lv_iconst (v := 0) hx hb dX4_borneMany_69 (by decide) ?_
            refine lv_iadd hx hb dX4_borneMany_70 ?_
            refine lv_eqi (nI (q9 + 0)) (nI_add q9 0) ?_
            refine lv_eqi (nI q9) (rfl) ?_
            refine lv_istore_n (lv' := [(2, .int (nI q9)), (3, .int 0), (1, .int (rdN n mask vf sf)), (0, .ref m0)]) hx hb dX4_borneMany_71 rfl hl (by decide) rfl (fun ls hl => ?_)
            refine lv_goto (tgt := 13) hx hb dX4_borneMany_72 (by decide) ?_
            refine lv_iload_n hx hb dX4_borneMany_13 rfl (lv_at hl 1 rfl) ?_
            refine lv_if_eq (tgt := 75) hx hb dX4_borneMany_14 (by decide) (fun c23 => ?_) (fun c23 => ?_)
            · skip
              have c23 : 0 = 0 := (nI_eq (a := 0) (b := 0) (by omega) (by omega)).mp c23
              refine lv_aload_n hx hb dX4_borneMany_75 rfl (lv_at hl 3 rfl) ?_
              refine gW_v (wr := [(m9, .inl (K 0, 16, .inl u18.1)), (m5, .inl (K 0, 8, .inl u18.2.1)), (m6, .inl (K 0, 8, .inl u18.2.2.1)), (m7, .inl (K 0, 8, .inl u18.2.2.2.1)), (m8, .inl (K 0, 8, .inl u18.2.2.2.2))]) (W2 := (fun (u : Unit) => [(m0, .inr (4, [.int th, .ref m1, .ref m2, .ref m3, .int (nI sy), .ref m4, .int (nI ly), .ref m5, .ref m6, .int (nI ((rdS n mask (flN vf (q9 + 1)) sf).length)), .ref m7, .ref m8, .ref m9, .int (nI ay), .int (if iw = true then 1 else 0), .ref m10, .int (nI ty), .long hy])), (m1, .inl (K 0, 22, .inl (mst n mask vf sf))), (m2, .inl (K 0, 22, .inl u4)), (m9, .inl (K 0, 16, .inl u18.1)), (m5, .inl (K 0, 8, .inl u18.2.1)), (m6, .inl (K 0, 8, .inl u18.2.2.1)), (m7, .inl (K 0, 8, .inl u18.2.2.2.1)), (m8, .inl (K 0, 8, .inl u18.2.2.2.2))])) (va_runV (As := []) (rest := []) ⟨hx, hb, hml, hown, hts⟩ ((c_X4_takeBack l D K m0 m1 m2 m3 m4 m5 m6 m7 m8 m9 m10 th sy ly ((rdS n mask (flN vf (q9 + 1)) sf).length) ay iw ty hy n mask vf sf u4 (mst n mask (flN vf (q9 + 1)) sf) (hpa)) _) (cwV 0 hts gX4_borneMany_X4_takeBack rfl rfl rfl (by decide +kernel) ⟨Nat.le_of_ble_eq_true rfl, Nat.le_of_ble_eq_true rfl⟩) (gW_preV hE hS hK hP hD hA [0, 1, 2] rfl (by decide) 0 rfl rfl rfl) rfl rfl hl.1 rfl (lv_room (Nat.le_of_ble_eq_true rfl)) dX4_borneMany_76 ⟨Nat.le_of_ble_eq_true rfl, Nat.le_of_ble_eq_true rfl⟩) hS hP hD hA [0, 1, 2] [3, 4, 5, 6, 7] [5, 6, 7, 0, 1, 2, 3, 4] rfl rfl (by decide) (by decide) (by decide) (fun _ => rfl) (fun u24 H locs h25 hP hD hS => ?_)
              have hP : va_P D vwCl [(m0, .inr (4, [.int th, .ref m1, .ref m2, .ref m3, .int (nI sy), .ref m4, .int (nI ly), .ref m5, .ref m6, .int (nI ((rdS n mask (flN vf (q9 + 1)) sf).length)), .ref m7, .ref m8, .ref m9, .int (nI ay), .int (if iw = true then 1 else 0), .ref m10, .int (nI ty), .long hy])), (m1, .inl (K 0, 22, .inl (mst n mask vf sf))), (m2, .inl (K 0, 22, .inl u4)), (m9, .inl (K 0, 16, .inl u18.1)), (m5, .inl (K 0, 8, .inl u18.2.1)), (m6, .inl (K 0, 8, .inl u18.2.2.1)), (m7, .inl (K 0, 8, .inl u18.2.2.2.1)), (m8, .inl (K 0, 8, .inl u18.2.2.2.2))] _ := hP
              have hD : va_D A [(m0, .inr (4, [.int th, .ref m1, .ref m2, .ref m3, .int (nI sy), .ref m4, .int (nI ly), .ref m5, .ref m6, .int (nI ((rdS n mask (flN vf (q9 + 1)) sf).length)), .ref m7, .ref m8, .ref m9, .int (nI ay), .int (if iw = true then 1 else 0), .ref m10, .int (nI ty), .long hy])), (m1, .inl (K 0, 22, .inl (mst n mask vf sf))), (m2, .inl (K 0, 22, .inl u4)), (m9, .inl (K 0, 16, .inl u18.1)), (m5, .inl (K 0, 8, .inl u18.2.1)), (m6, .inl (K 0, 8, .inl u18.2.2.1)), (m7, .inl (K 0, 8, .inl u18.2.2.2.1)), (m8, .inl (K 0, 8, .inl u18.2.2.2.2))] := hD
              refine lv_iload_n hx hb dX4_borneMany_79 rfl (lv_at hl 0 rfl) ?_
              exact gW_iret (v := nI q9) (u4, ((rdS n mask (flN vf (q9 + 1)) sf).length), u18.1, u18.2.1, u18.2.2.1, u18.2.2.2.1, u18.2.2.2.2) hx hb hr hlk (rfl) hK hP hD hS (congrArg nI (boX_f hw (fun h => c51 (hm2.1.trans h)) n hq9).symm) dX4_borneMany_80
            · skip
              have c23 : ¬ 0 = 0 := fun h9 => c23 ((nI_eq (a := 0) (b := 0) (by omega) (by omega)).mpr h9)
              omega
          · skip
            have c22 : ¬ 0 = 0 := fun h9 => c22 ((nI_eq (a := 0) (b := 0) (by omega) (by omega)).mpr h9)
            omega
        · skip
          refine lv_iconst (v := 1) hx hb dX4_borneMany_54 (by decide) ?_
          refine lv_goto (tgt := 59) hx hb dX4_borneMany_55 (by decide) ?_
          refine lv_istore_n (lv' := [(3, .int 1), (2, .int (nI q9)), (1, .int (rdN n mask vf sf)), (0, .ref m0)]) hx hb dX4_borneMany_59 rfl hl (by decide) rfl (fun ls hl => ?_)
          refine lv_iload_n hx hb dX4_borneMany_60 rfl (lv_at hl 1 rfl) ?_
          refine lv_iload_n hx hb dX4_borneMany_61 rfl (lv_at hl 0 rfl) ?_
          refine lv_if_eq (tgt := 69) hx hb dX4_borneMany_62 (by decide) (fun c27 => ?_) (fun c27 => ?_)
          · skip
            have c27 : 1 = 0 := (nI_eq (a := 1) (b := 0) (by omega) (by omega)).mp c27
            omega
          · skip
            have c27 : ¬ 1 = 0 := fun h9 => c27 ((nI_eq (a := 1) (b := 0) (by omega) (by omega)).mpr h9)
            refine lv_iconst (v := 1) hx hb dX4_borneMany_65 (by decide) ?_
            refine lv_goto (tgt := 70) hx hb dX4_borneMany_66 (by decide) ?_
            refine lv_iadd hx hb dX4_borneMany_70 ?_
            refine lv_eqi (nI (q9 + 1)) (nI_add q9 1) ?_
            refine lv_istore_n (lv' := [(2, .int (nI (q9 + 1))), (3, .int 1), (1, .int (rdN n mask vf sf)), (0, .ref m0)]) hx hb dX4_borneMany_71 rfl hl (by decide) rfl (fun ls hl => ?_)
            refine lv_goto (tgt := 13) hx hb dX4_borneMany_72 (by decide) ?_
            exact ih8 H locs ls ⟨((rdS n mask (flN vf (q9 + 1)) sf).length), u18.1, u18.2.1, u18.2.2.1, u18.2.2.2.1, u18.2.2.2.2, (boX_t hw (hm2.1.symm.trans c51)), hP, hD, hS, lv_sub hl [1, 0, 2, 3] rfl⟩
  · exact ⟨((rdS n mask vf sf).length), u1.1, u1.2.1, u1.2.2.1, u1.2.2.2.1, u1.2.2.2.2, rfl, hP, hD, hS, lv_sub hl [0, 1, 2, 3] rfl⟩

set_option maxHeartbeats 4000000 in
set_option maxRecDepth 100000 in
theorem c_X4_borne (l : Launch) (D : va_G) (K : Nat → ClassId) (m0 : Nat) (m1 : Nat) (m2 : Nat) (m3 : Nat) (m4 : Nat) (m5 : Nat) (m6 : Nat) (m7 : Nat) (m8 : Nat) (m9 : Nat) (m10 : Nat) (th : Int32) (sy : Nat) (ly : Nat) (py : Nat) (ay : Nat) (iw : Bool) (ty : Nat) (hy : Int64) (n : Nat) (mask : Int32) (vf : Nat → Int32) (sf : Nat → Int32) (fa : Nat → Int32) (fw : Nat → Int32) (fb : Nat → Int32) (fp : Nat → Int32) (gb : Nat → Int32) (gp : Nat → Int32) (hn : okN n) (hsf : okS sf) : MWi l yX4_borne wsX4_borne ({ frames := 9, cells := 0, slots := 0, locals := 204 } : Room) D (gTy K) [.ref m0] [(m0, .inr (4, [.int th, .ref m1, .ref m2, .ref m3, .int (nI sy), .ref m4, .int (nI ly), .ref m5, .ref m6, .int (nI py), .ref m7, .ref m8, .ref m9, .int (nI ay), .int (if iw = true then 1 else 0), .ref m10, .int (nI ty), .long hy])), (m1, .inl (K 0, 22, .inl (mst n mask vf sf))), (m2, .inl (K 0, 22, .inl fa)), (m9, .inl (K 0, 16, .inl fw)), (m5, .inl (K 0, 8, .inl fb)), (m6, .inl (K 0, 8, .inl fp)), (m7, .inl (K 0, 8, .inl gb)), (m8, .inl (K 0, 8, .inl gp))] (fun (u : (Nat → Int32) × Nat × (Nat → Int32) × (Nat → Int32) × (Nat → Int32) × (Nat → Int32) × (Nat → Int32)) => [(m0, .inr (4, [.int 0, .ref m1, .ref m2, .ref m3, .int (nI sy), .ref m4, .int (nI ly), .ref m5, .ref m6, .int (nI u.2.1), .ref m7, .ref m8, .ref m9, .int (nI ay), .int (if iw = true then 1 else 0), .ref m10, .int (nI ty), .long hy])), (m1, .inl (K 0, 22, .inl (mst n mask vf sf))), (m2, .inl (K 0, 22, .inl u.1)), (m9, .inl (K 0, 16, .inl u.2.2.1)), (m5, .inl (K 0, 8, .inl u.2.2.2.1)), (m6, .inl (K 0, 8, .inl u.2.2.2.2.1)), (m7, .inl (K 0, 8, .inl u.2.2.2.2.2.1)), (m8, .inl (K 0, 8, .inl u.2.2.2.2.2.2))]) (fun r (u : (Nat → Int32) × Nat × (Nat → Int32) × (Nat → Int32) × (Nat → Int32) × (Nat → Int32) × (Nat → Int32)) => r = nI (boX n mask vf sf n)) 0 0 := by
  refine g_ofW (Qc := fun A => va_Qi _ (gB D (gTy K) A _) A) (cc := cX4_borne) (maxL := 1) (ret := (some .int)) (own := RX4) (by decide) rfl rfl (Nat.le_of_ble_eq_true rfl) ?_
  intro pp ee s mm below meth cc A hfx hnm hK hP hD hE hS hA ls hl
  obtain ⟨hx, hb, hr, hml, hown, hts, hlk⟩ := hfx
  have hl : lv_has ls 1 [(0, .ref m0)] := hl
  have hi4 : ∀ w ∈ u_ws RX4 TX4 18, w ∈ wsX4_borne := fun w h => List.mem_cons_of_mem _ (List.mem_append_right _ (h))
  refine lv_aload_n hx hb dX4_borne_0 rfl (lv_at hl 0 rfl) ?_
  refine lv_iconst (v := 0) hx hb dX4_borne_1 (by decide) ?_
  refine va_put (D := D) (ci := 4) (v := .int 0) (ty := .int) (C := RX4) (T := TX4) (N := 18) hx hb hts hi4 tyX4 tyX4_ok nmX4 hown hK hP hD hS 0 rfl rfl 0 (by decide) (hts (.fieldLink RX4 40 "PairedChannelsModel" "thrown" "I") (List.mem_of_getElem? (i := 1) (by decide +kernel))) (fun _ h9 => h9) rfl (by decide +kernel) (rfl) (rfl) (Nat.le_of_ble_eq_true rfl) dX4_borne_2 (fun H locs hP hD hS => ?_)
  have hP : va_P D vwCl [(m0, .inr (4, [.int 0, .ref m1, .ref m2, .ref m3, .int (nI sy), .ref m4, .int (nI ly), .ref m5, .ref m6, .int (nI py), .ref m7, .ref m8, .ref m9, .int (nI ay), .int (if iw = true then 1 else 0), .ref m10, .int (nI ty), .long hy])), (m1, .inl (K 0, 22, .inl (mst n mask vf sf))), (m2, .inl (K 0, 22, .inl fa)), (m9, .inl (K 0, 16, .inl fw)), (m5, .inl (K 0, 8, .inl fb)), (m6, .inl (K 0, 8, .inl fp)), (m7, .inl (K 0, 8, .inl gb)), (m8, .inl (K 0, 8, .inl gp))] _ := hP
  have hD : va_D A [(m0, .inr (4, [.int 0, .ref m1, .ref m2, .ref m3, .int (nI sy), .ref m4, .int (nI ly), .ref m5, .ref m6, .int (nI py), .ref m7, .ref m8, .ref m9, .int (nI ay), .int (if iw = true then 1 else 0), .ref m10, .int (nI ty), .long hy])), (m1, .inl (K 0, 22, .inl (mst n mask vf sf))), (m2, .inl (K 0, 22, .inl fa)), (m9, .inl (K 0, 16, .inl fw)), (m5, .inl (K 0, 8, .inl fb)), (m6, .inl (K 0, 8, .inl fp)), (m7, .inl (K 0, 8, .inl gb)), (m8, .inl (K 0, 8, .inl gp))] := hD
  refine lv_aload_n hx hb dX4_borne_5 rfl (lv_at hl 0 rfl) ?_
  refine gW_i (wr := []) (W2 := (fun (u : (Nat → Int32) × Nat × (Nat → Int32) × (Nat → Int32) × (Nat → Int32) × (Nat → Int32) × (Nat → Int32)) => [(m0, .inr (4, [.int 0, .ref m1, .ref m2, .ref m3, .int (nI sy), .ref m4, .int (nI ly), .ref m5, .ref m6, .int (nI u.2.1), .ref m7, .ref m8, .ref m9, .int (nI ay), .int (if iw = true then 1 else 0), .ref m10, .int (nI ty), .long hy])), (m1, .inl (K 0, 22, .inl (mst n mask vf sf))), (m2, .inl (K 0, 22, .inl u.1)), (m9, .inl (K 0, 16, .inl u.2.2.1)), (m5, .inl (K 0, 8, .inl u.2.2.2.1)), (m6, .inl (K 0, 8, .inl u.2.2.2.2.1)), (m7, .inl (K 0, 8, .inl u.2.2.2.2.2.1)), (m8, .inl (K 0, 8, .inl u.2.2.2.2.2.2))])) (va_runV (As := []) (rest := []) ⟨hx, hb, hml, hown, hts⟩ ((c_X4_borneMany l D K m0 m1 m2 m3 m4 m5 m6 m7 m8 m9 m10 0 sy ly py ay iw ty hy n mask vf sf fa fw fb fp gb gp (by first | assumption | omega) (by first | assumption | omega)) _) (cwV 0 hts gX4_borne_X4_borneMany rfl rfl rfl (by decide +kernel) ⟨Nat.le_of_ble_eq_true rfl, Nat.le_of_ble_eq_true rfl⟩) (gW_preV hE hS hK hP hD hA [0, 1, 2, 3, 4, 5, 6, 7] rfl (by decide) 0 rfl rfl rfl) rfl rfl hl.1 rfl (lv_room (Nat.le_of_ble_eq_true rfl)) dX4_borne_6 ⟨Nat.le_of_ble_eq_true rfl, Nat.le_of_ble_eq_true rfl⟩) hS hP hD hA [0, 1, 2, 3, 4, 5, 6, 7] [] [0, 1, 2, 3, 4, 5, 6, 7] rfl rfl (by decide) (by decide) (by decide) (fun _ => rfl) (fun rv3 u1 H locs h2 hP hD hS => ?_)
  have hP : va_P D vwCl [(m0, .inr (4, [.int 0, .ref m1, .ref m2, .ref m3, .int (nI sy), .ref m4, .int (nI ly), .ref m5, .ref m6, .int (nI u1.2.1), .ref m7, .ref m8, .ref m9, .int (nI ay), .int (if iw = true then 1 else 0), .ref m10, .int (nI ty), .long hy])), (m1, .inl (K 0, 22, .inl (mst n mask vf sf))), (m2, .inl (K 0, 22, .inl u1.1)), (m9, .inl (K 0, 16, .inl u1.2.2.1)), (m5, .inl (K 0, 8, .inl u1.2.2.2.1)), (m6, .inl (K 0, 8, .inl u1.2.2.2.2.1)), (m7, .inl (K 0, 8, .inl u1.2.2.2.2.2.1)), (m8, .inl (K 0, 8, .inl u1.2.2.2.2.2.2))] _ := hP
  have hD : va_D A [(m0, .inr (4, [.int 0, .ref m1, .ref m2, .ref m3, .int (nI sy), .ref m4, .int (nI ly), .ref m5, .ref m6, .int (nI u1.2.1), .ref m7, .ref m8, .ref m9, .int (nI ay), .int (if iw = true then 1 else 0), .ref m10, .int (nI ty), .long hy])), (m1, .inl (K 0, 22, .inl (mst n mask vf sf))), (m2, .inl (K 0, 22, .inl u1.1)), (m9, .inl (K 0, 16, .inl u1.2.2.1)), (m5, .inl (K 0, 8, .inl u1.2.2.2.1)), (m6, .inl (K 0, 8, .inl u1.2.2.2.2.1)), (m7, .inl (K 0, 8, .inl u1.2.2.2.2.2.1)), (m8, .inl (K 0, 8, .inl u1.2.2.2.2.2.2))] := hD
  have hm2 : rv3 = nI (boX n mask vf sf n) := h2
  exact gW_iret (v := rv3) (u1.1, u1.2.1, u1.2.2.1, u1.2.2.2.1, u1.2.2.2.2.1, u1.2.2.2.2.2.1, u1.2.2.2.2.2.2) hx hb hr hlk (rfl) hK hP hD hS (hm2) dX4_borne_9

set_option maxHeartbeats 4000000 in
set_option maxRecDepth 100000 in
theorem c_X4_share (l : Launch) (D : va_G) (K : Nat → ClassId) (m0 : Nat) (m1 : Nat) (m2 : Nat) (m3 : Nat) (m4 : Nat) (m5 : Nat) (m6 : Nat) (m7 : Nat) (m8 : Nat) (m9 : Nat) (m10 : Nat) (th : Int32) (sy : Nat) (ly : Nat) (py : Nat) (ay : Nat) (iw : Bool) (ty : Nat) (hy : Int64) (n : Nat) (mask : Int32) (vf : Nat → Int32) (sf : Nat → Int32) (hn : okN n) (hsf : okS sf) : MRd l yX4_share wsX4_share ({ frames := 2, cells := 0, slots := 0, locals := 43 } : Room) D (gTy K) [.ref m0] [(m0, .inr (4, [.int th, .ref m1, .ref m2, .ref m3, .int (nI sy), .ref m4, .int (nI ly), .ref m5, .ref m6, .int (nI py), .ref m7, .ref m8, .ref m9, .int (nI ay), .int (if iw = true then 1 else 0), .ref m10, .int (nI ty), .long hy])), (m1, .inl (K 0, 22, .inl (mst n mask vf sf)))] (fun r => r = shA n mask sf) := by
  refine g_ofR (cc := cX4_share) (maxL := 4) (ret := (some .double)) (own := RX4) (by decide) rfl rfl (Nat.le_of_ble_eq_true rfl) ?_
  intro pp ee s mm below meth cc hfx hK hP hE hS ls hl
  obtain ⟨hx, hb, hr, hml, hown, hts, hlk⟩ := hfx
  have hl : lv_has ls 4 [(0, .ref m0)] := hl
  have hi4 : ∀ w ∈ u_ws RX4 TX4 18, w ∈ wsX4_share := fun w h => List.mem_cons_of_mem _ (List.mem_append_right _ (h))
  have hnl := hn.le
  have hsb := unsS_b hsf mask n n hnl.2
  have hcn := cntO_le mask n
  refine lv_lconst (v := 0) hx hb dX4_share_0 (by decide) ?_
  refine lv_lstore_n (lv' := [(1, .long 0), (0, .ref m0)]) hx hb dX4_share_1 rfl hl (by decide) rfl (fun ls hl => ?_)
  refine lv_iconst (v := 0) hx hb dX4_share_2 (by decide) ?_
  refine lv_istore_n (lv' := [(3, .int 0), (1, .long 0), (0, .ref m0)]) hx hb dX4_share_3 rfl hl (by decide) rfl (fun ls hl => ?_)
  refine g_loopW (st := []) (N := n) (fun i H locs ls => va_P D vwCl [(m0, .inr (4, [.int th, .ref m1, .ref m2, .ref m3, .int (nI sy), .ref m4, .int (nI ly), .ref m5, .ref m6, .int (nI py), .ref m7, .ref m8, .ref m9, .int (nI ay), .int (if iw = true then 1 else 0), .ref m10, .int (nI ty), .long hy])), (m1, .inl (K 0, 22, .inl (mst n mask vf sf)))] H ∧ va_S gNo s.heap H locs ∧ lv_has ls 4 [(3, .int (nI i)), (1, .long (unsS sf mask n i)), (0, .ref m0)]) 0 (Nat.zero_le _) ?_ ?_ ?_
  · intro H locs ls hI
    obtain ⟨hP, hS, hl⟩ := hI
    refine lv_iload_n hx hb dX4_share_4 rfl (lv_at hl 0 rfl) ?_
    refine lv_aload_n hx hb dX4_share_5 rfl (lv_at hl 2 rfl) ?_
    refine va_get (D := D) (ci := 4) (v := .ref m1) (C := RX4) (T := TX4) (N := 18) hx hb hts hi4 hown hK hP 0 rfl rfl 1 (by decide) (hts (.fieldLink RX4 7 "PairedChannelsModel" "s" "[I") (List.mem_of_getElem? (i := 1) (by decide +kernel))) (fun _ h9 => h9) rfl dX4_share_6 ?_
    refine lv_iconst (v := 0) hx hb dX4_share_9 (by decide) ?_
    refine wa_iald hx hb hK hP 1 0 rfl rfl (0) rfl (by omega) (by decide) dX4_share_10 ?_
    refine lv_eqi (nI n) (rfl) ?_
    refine lv_icmp_ge (tgt := 41) hx hb dX4_share_11 (by decide) (fun c2 => ?_) (fun c2 => ?_)
    · skip
      have c2 : n ≤ n := (nI_leI (a := n) (b := n) (by omega) (by omega)).mp c2
      refine lv_aload_n hx hb dX4_share_41 rfl (lv_at hl 2 rfl) ?_
      refine gR_i (va_runV (As := []) (rest := []) ⟨hx, hb, hml, hown, hts⟩ (c_X4_openMany l D K m0 m1 m2 m3 m4 m5 m6 m7 m8 m9 m10 th sy ly py ay iw ty hy n mask vf sf (by first | assumption | omega)) (cwV 0 hts gX4_share_X4_openMany rfl rfl rfl (by decide +kernel) ⟨Nat.le_of_ble_eq_true rfl, Nat.le_of_ble_eq_true rfl⟩) (gR_preV hE hS hK hP [0, 1] rfl 0 rfl rfl rfl) rfl rfl hl.1 rfl (lv_room (Nat.le_of_ble_eq_true rfl)) dX4_share_42 ⟨Nat.le_of_ble_eq_true rfl, Nat.le_of_ble_eq_true rfl⟩) hS hP (fun rv4 H locs h3 hP hS => ?_)
      have h3 : rv4 = nI (cntO mask n) := h3
      subst h3
      refine lv_istore_n (lv' := [(3, .int (nI (cntO mask n))), (1, .long (unsS sf mask n n)), (0, .ref m0)]) hx hb dX4_share_45 rfl hl (by decide) rfl (fun ls hl => ?_)
      refine lv_iload_n hx hb dX4_share_46 rfl (lv_at hl 0 rfl) ?_
      refine lv_if_ne (tgt := 54) hx hb dX4_share_47 (by decide) (fun c47 => ?_) (fun c47 => ?_)
      · skip
        have c47 : ¬ cntO mask n = 0 := fun h9 => c47 ((nI_eq (a := cntO mask n) (b := 0) (by omega) (by omega)).mpr h9)
        refine lv_lload_n hx hb dX4_share_54 rfl (lv_at hl 1 rfl) ?_
        refine lv_l2d hx hb dX4_share_55 ?_
        refine lv_ldc2d hx hb hown (hts (.constantDouble RX4 225 (4696837146684686336)) (List.mem_of_getElem? (i := 2) (by decide +kernel))) dX4_share_56 ?_
        refine lv_iload_n hx hb dX4_share_59 rfl (lv_at hl 0 rfl) ?_
        refine lv_i2d hx hb dX4_share_60 ?_
        refine lv_dmul hx hb dX4_share_61 ((sh_rng (by omega) (by omega) hsb.1 hsb.2).1) ?_
        refine lv_ddiv hx hb dX4_share_62 (shr1_num (sh_rng (by omega) (by omega) hsb.1 hsb.2).2) ?_
        exact gR_dret (v := (FP.ddiv (FP.l2d (unsS sf mask n n)) (FP.dmul 4696837146684686336 (FP.i2d (nI (cntO mask n)))))) hx hb hr hlk hS (by unfold shA; first | exact g_ip (by omega) rfl | exact g_in (by omega) rfl) dX4_share_63
      · skip
        have c47 : cntO mask n = 0 := (nI_eq (a := cntO mask n) (b := 0) (by omega) (by omega)).mp c47
        refine lv_dconst0 hx hb dX4_share_50 ?_
        refine lv_goto (tgt := 63) hx hb dX4_share_51 (by decide) ?_
        exact gR_dret (v := FP.dconst0) hx hb hr hlk hS (by unfold shA; first | exact g_ip (by omega) rfl | exact g_in (by omega) rfl) dX4_share_63
    · skip
      have c2 : ¬ n ≤ n := fun h9 => c2 ((nI_leI (a := n) (b := n) (by omega) (by omega)).mpr h9)
      omega
  · intro i hi ih1 H locs ls hI
    obtain ⟨hP, hS, hl⟩ := hI
    refine lv_iload_n hx hb dX4_share_4 rfl (lv_at hl 0 rfl) ?_
    refine lv_aload_n hx hb dX4_share_5 rfl (lv_at hl 2 rfl) ?_
    refine va_get (D := D) (ci := 4) (v := .ref m1) (C := RX4) (T := TX4) (N := 18) hx hb hts hi4 hown hK hP 0 rfl rfl 1 (by decide) (hts (.fieldLink RX4 7 "PairedChannelsModel" "s" "[I") (List.mem_of_getElem? (i := 1) (by decide +kernel))) (fun _ h9 => h9) rfl dX4_share_6 ?_
    refine lv_iconst (v := 0) hx hb dX4_share_9 (by decide) ?_
    refine wa_iald hx hb hK hP 1 0 rfl rfl (0) rfl (by omega) (by decide) dX4_share_10 ?_
    refine lv_eqi (nI n) (rfl) ?_
    refine lv_icmp_ge (tgt := 41) hx hb dX4_share_11 (by decide) (fun c6 => ?_) (fun c6 => ?_)
    · skip
      have c6 : n ≤ i := (nI_leI (a := n) (b := i) (by omega) (by omega)).mp c6
      omega
    · skip
      have c6 : ¬ n ≤ i := fun h9 => c6 ((nI_leI (a := n) (b := i) (by omega) (by omega)).mpr h9)
      refine lv_lload_n hx hb dX4_share_14 rfl (lv_at hl 1 rfl) ?_
      refine lv_aload_n hx hb dX4_share_15 rfl (lv_at hl 2 rfl) ?_
      refine lv_iload_n hx hb dX4_share_16 rfl (lv_at hl 0 rfl) ?_
      refine gR_i (va_runV (As := [.int (nI i)]) (rest := [.long (unsS sf mask n i)]) ⟨hx, hb, hml, hown, hts⟩ (c_X4_isOpen l D K m0 m1 m2 m3 m4 m5 m6 m7 m8 m9 m10 th sy ly py ay iw ty hy n mask vf sf i ) (cwV 1 hts gX4_share_X4_isOpen rfl rfl rfl (by decide +kernel) ⟨Nat.le_of_ble_eq_true rfl, Nat.le_of_ble_eq_true rfl⟩) (gR_preV hE hS hK hP [0, 1] rfl 0 rfl rfl rfl) rfl rfl hl.1 rfl (lv_room (Nat.le_of_ble_eq_true rfl)) dX4_share_17 ⟨Nat.le_of_ble_eq_true rfl, Nat.le_of_ble_eq_true rfl⟩) hS hP (fun rv8 H locs h7 hP hS => ?_)
      have h7 : rv8 = (if opn mask i then 1 else 0) := h7
      subst h7
      refine lv_if_eq (tgt := 32) hx hb dX4_share_20 (by decide) (fun c20 => ?_) (fun c20 => ?_)
      · skip
        have c20 : ¬ (opn mask i) := b_eq0 c20
        refine lv_lconst (v := 0) hx hb dX4_share_32 (by decide) ?_
        refine lv_ladd hx hb dX4_share_33 ?_
        refine lv_lstore_n (lv' := [(1, .long (unsS sf mask n i + 0)), (3, .int (nI i)), (0, .ref m0)]) hx hb dX4_share_34 rfl hl (by decide) rfl (fun ls hl => ?_)
        refine lv_iinc (v := nI (i + 1)) (lv' := [(3, .int (nI (i + 1))), (1, .long (unsS sf mask n i + 0)), (0, .ref m0)]) hx hb dX4_share_35 hl (k := 1) rfl (nI_add i 1) (by decide) rfl (fun ls hl => ?_)
        refine lv_goto (tgt := 4) hx hb dX4_share_38 (by decide) ?_
        have e9 : (unsS sf mask n i + 0) = (unsS sf mask n (i + 1)) := by show _ = (if opn mask i then unsS sf mask n i + (uns sf n i).toInt64 else unsS sf mask n i); first | exact g_ip c20 rfl | exact g_in c20 (Int64.add_zero _)
        rw [e9] at hl
        exact ih1 H locs ls ⟨hP, hS, lv_sub hl [0, 1, 2] rfl⟩
      · skip
        have c20 : opn mask i := b_ne0 c20
        refine lv_aload_n hx hb dX4_share_23 rfl (lv_at hl 2 rfl) ?_
        refine lv_iload_n hx hb dX4_share_24 rfl (lv_at hl 0 rfl) ?_
        refine gR_i (va_runV (As := [.int (nI i)]) (rest := [.long (unsS sf mask n i)]) ⟨hx, hb, hml, hown, hts⟩ (c_X4_unsure l D K m0 m1 m2 m3 m4 m5 m6 m7 m8 m9 m10 th sy ly py ay iw ty hy n mask vf sf i (by first | assumption | omega) (by first | assumption | omega)) (cwV 1 hts gX4_share_X4_unsure rfl rfl rfl (by decide +kernel) ⟨Nat.le_of_ble_eq_true rfl, Nat.le_of_ble_eq_true rfl⟩) (gR_preV hE hS hK hP [0, 1] rfl 0 rfl rfl rfl) rfl rfl hl.1 rfl (lv_room (Nat.le_of_ble_eq_true rfl)) dX4_share_25 ⟨Nat.le_of_ble_eq_true rfl, Nat.le_of_ble_eq_true rfl⟩) hS hP (fun rv11 H locs h10 hP hS => ?_)
        have h10 : rv11 = uns sf n i := h10
        subst h10
        refine lv_i2l (v := ((uns sf n i).toInt64)) hx hb dX4_share_28 rfl ?_
        refine lv_goto (tgt := 33) hx hb dX4_share_29 (by decide) ?_
        refine lv_ladd hx hb dX4_share_33 ?_
        refine lv_lstore_n (lv' := [(1, .long (unsS sf mask n i + ((uns sf n i).toInt64))), (3, .int (nI i)), (0, .ref m0)]) hx hb dX4_share_34 rfl hl (by decide) rfl (fun ls hl => ?_)
        refine lv_iinc (v := nI (i + 1)) (lv' := [(3, .int (nI (i + 1))), (1, .long (unsS sf mask n i + ((uns sf n i).toInt64))), (0, .ref m0)]) hx hb dX4_share_35 hl (k := 1) rfl (nI_add i 1) (by decide) rfl (fun ls hl => ?_)
        refine lv_goto (tgt := 4) hx hb dX4_share_38 (by decide) ?_
        have e9 : (unsS sf mask n i + ((uns sf n i).toInt64)) = (unsS sf mask n (i + 1)) := by show _ = (if opn mask i then unsS sf mask n i + (uns sf n i).toInt64 else unsS sf mask n i); first | exact g_ip c20 rfl | exact g_in c20 (Int64.add_zero _)
        rw [e9] at hl
        exact ih1 H locs ls ⟨hP, hS, lv_sub hl [0, 1, 2] rfl⟩
  · exact ⟨hP, hS, lv_sub hl [0, 1, 2] rfl⟩
