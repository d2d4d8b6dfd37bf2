set_option maxHeartbeats 4000000 in
set_option maxRecDepth 100000 in
theorem c_X4_setting (l : Launch) (D : va_G) (K : Nat → ClassId) (m0 : Nat) (m1 : Nat) (m2 : Nat) (m3 : Nat) (m4 : Nat) (m5 : Nat) (m6 : Nat) (m7 : Nat) (m8 : Nat) (m9 : Nat) (m10 : Nat) (th : Int32) (sy : Nat) (ly : Nat) (py : Nat) (ay : Nat) (iw : Bool) (ty : Nat) (hy : Int64) (n : Nat) (mask : Int32) (vf : Nat → Int32) (sf : Nat → Int32) (q : Int32)  : MWi l yX4_setting wsX4_setting ({ frames := 1, cells := 0, slots := 0, locals := 22 } : Room) D (gTy K) [.ref m0, .int q] [(m0, .inr (4, [.int th, .ref m1, .ref m2, .ref m3, .int (nI sy), .ref m4, .int (nI ly), .ref m5, .ref m6, .int (nI py), .ref m7, .ref m8, .ref m9, .int (nI ay), .int (if iw = true then 1 else 0), .ref m10, .int (nI ty), .long hy])), (m1, .inl (K 0, 22, .inl (mst n mask vf sf)))] (fun (u : Int32) => [(m0, .inr (4, [.int u, .ref m1, .ref m2, .ref m3, .int (nI sy), .ref m4, .int (nI ly), .ref m5, .ref m6, .int (nI py), .ref m7, .ref m8, .ref m9, .int (nI ay), .int (if iw = true then 1 else 0), .ref m10, .int (nI ty), .long hy])), (m1, .inl (K 0, 22, .inl (mst n mask vf sf)))]) (fun r (u : Int32) => (thSett q = 0 ∧ u = 0 ∧ r = sf q.toNatClampNeg) ∨ (¬ thSett q = 0 ∧ u = nI (thSett q) ∧ r = 0)) 0 0 := by
  refine g_ofW (Qc := fun A => va_Qi _ (gB D (gTy K) A _) A) (cc := cX4_setting) (maxL := 2) (ret := (some .int)) (own := RX4) (by decide) rfl rfl (Nat.le_of_ble_eq_true rfl) ?_
  intro pp ee s mm below meth cc A hfx hnm hK hP hD hE hS hA ls hl
  obtain ⟨hx, hb, hr, hml, hown, hts, hlk⟩ := hfx
  have hl : lv_has ls 2 [(0, .ref m0), (1, .int q)] := hl
  have hi4 : ∀ w ∈ u_ws RX4 TX4 18, w ∈ wsX4_setting := fun w h => List.mem_cons_of_mem _ (List.mem_append_right _ (h))
  refine lv_aload_n hx hb dX4_setting_0 rfl (lv_at hl 0 rfl) ?_
  refine lv_iconst (v := 0) hx hb dX4_setting_1 (by decide) ?_
  refine va_put (D := D) (ci := 4) (v := .int 0) (ty := .int) (C := RX4) (T := TX4) (N := 18) hx hb hts hi4 tyX4 tyX4_ok nmX4 hown hK hP hD hS 0 rfl rfl 0 (by decide) (hts (.fieldLink RX4 40 "PairedChannelsModel" "thrown" "I") (List.mem_of_getElem? (i := 1) (by decide +kernel))) (fun _ h9 => h9) rfl (by decide +kernel) (rfl) (rfl) (Nat.le_of_ble_eq_true rfl) dX4_setting_2 (fun H locs hP hD hS => ?_)
  have hP : va_P D vwCl [(m0, .inr (4, [.int 0, .ref m1, .ref m2, .ref m3, .int (nI sy), .ref m4, .int (nI ly), .ref m5, .ref m6, .int (nI py), .ref m7, .ref m8, .ref m9, .int (nI ay), .int (if iw = true then 1 else 0), .ref m10, .int (nI ty), .long hy])), (m1, .inl (K 0, 22, .inl (mst n mask vf sf)))] _ := hP
  have hD : va_D A [(m0, .inr (4, [.int 0, .ref m1, .ref m2, .ref m3, .int (nI sy), .ref m4, .int (nI ly), .ref m5, .ref m6, .int (nI py), .ref m7, .ref m8, .ref m9, .int (nI ay), .int (if iw = true then 1 else 0), .ref m10, .int (nI ty), .long hy])), (m1, .inl (K 0, 22, .inl (mst n mask vf sf)))] := hD
  refine lv_iload_n hx hb dX4_setting_5 rfl (lv_at hl 1 rfl) ?_
  refine lv_iconst (v := 0) hx hb dX4_setting_6 (by decide) ?_
  refine lv_iconst (v := 3) hx hb dX4_setting_7 (by decide) ?_
  refine gR_i (va_runS (As := [.int q, .int 0, .int 3]) (rest := []) ⟨hx, hb, hml, hown, hts⟩ (c_X4_in l D K q 0 3 ) (va_cwS 3 hts gX4_setting_X4_in rfl rfl rfl (by decide +kernel) ⟨Nat.le_of_ble_eq_true rfl, Nat.le_of_ble_eq_true rfl⟩) (gR_pre hE hS hK hP [] rfl) rfl rfl hl.1 rfl (lv_room (Nat.le_of_ble_eq_true rfl)) dX4_setting_8 ⟨Nat.le_of_ble_eq_true rfl, Nat.le_of_ble_eq_true rfl⟩) hS hP (fun rv2 H locs h1 hP hS => ?_)
  have h1 : rv2 = (if 0 ≤ q ∧ q ≤ 3 then 1 else 0) := h1
  subst h1
  refine lv_if_eq (tgt := 25) hx hb dX4_setting_11 (by decide) (fun c11 => ?_) (fun c11 => ?_)
  · skip
    have c11 : ¬ (0 ≤ q ∧ q ≤ 3) := b_eq0 c11
    refine lv_aload_n hx hb dX4_setting_25 rfl (lv_at hl 0 rfl) ?_
    refine lv_iconst (v := 1) hx hb dX4_setting_26 (by decide) ?_
    refine gW_i (wr := [(m1, .inl (K 0, 22, .inl (mst n mask vf sf)))]) (W2 := (fun (u : Unit) => [(m0, .inr (4, [.int 1, .ref m1, .ref m2, .ref m3, .int (nI sy), .ref m4, .int (nI ly), .ref m5, .ref m6, .int (nI py), .ref m7, .ref m8, .ref m9, .int (nI ay), .int (if iw = true then 1 else 0), .ref m10, .int (nI ty), .long hy])), (m1, .inl (K 0, 22, .inl (mst n mask vf sf)))])) (va_runV (As := [.int 1]) (rest := []) ⟨hx, hb, hml, hown, hts⟩ ((c_X4_fails l D K m0 m1 m2 m3 m4 m5 m6 m7 m8 m9 m10 0 sy ly py ay iw ty hy 1 ) _) (cwV 1 hts gX4_setting_X4_fails rfl rfl rfl (by decide +kernel) ⟨Nat.le_of_ble_eq_true rfl, Nat.le_of_ble_eq_true rfl⟩) (gW_preV hE hS hK hP hD hA [0] rfl (by decide) 0 rfl rfl rfl) rfl rfl hl.1 rfl (lv_room (Nat.le_of_ble_eq_true rfl)) dX4_setting_27 ⟨Nat.le_of_ble_eq_true rfl, Nat.le_of_ble_eq_true rfl⟩) hS hP hD hA [0] [1] [1, 0] rfl rfl (by decide) (by decide) (by decide) (fun _ => rfl) (fun rv6 u4 H locs h5 hP hD hS => ?_)
    have hP : va_P D vwCl [(m0, .inr (4, [.int 1, .ref m1, .ref m2, .ref m3, .int (nI sy), .ref m4, .int (nI ly), .ref m5, .ref m6, .int (nI py), .ref m7, .ref m8, .ref m9, .int (nI ay), .int (if iw = true then 1 else 0), .ref m10, .int (nI ty), .long hy])), (m1, .inl (K 0, 22, .inl (mst n mask vf sf)))] _ := hP
    have hD : va_D A [(m0, .inr (4, [.int 1, .ref m1, .ref m2, .ref m3, .int (nI sy), .ref m4, .int (nI ly), .ref m5, .ref m6, .int (nI py), .ref m7, .ref m8, .ref m9, .int (nI ay), .int (if iw = true then 1 else 0), .ref m10, .int (nI ty), .long hy])), (m1, .inl (K 0, 22, .inl (mst n mask vf sf)))] := hD
    have h5 : rv6 = 0 := h5
    exact gW_iret (v := rv6) 1 hx hb hr hlk (rfl) hK hP hD hS (Or.inr (by have hh9 : thSett q = 1 := (if_neg c11); rw [hh9]; exact ⟨by decide, rfl, h5⟩)) dX4_setting_30
  · skip
    have c11 : 0 ≤ q ∧ q ≤ 3 := b_ne0 c11
    obtain ⟨j, hj, ej⟩ := sw_of (k := 3) (by decide) c11
    have ekc : q.toNatClampNeg = j := by rw [ej, nI_clamp (by omega)]
    have hth : thSett q = 0 := if_pos c11
    subst ej
    rw [ekc]
    refine lv_aload_n hx hb dX4_setting_14 rfl (lv_at hl 0 rfl) ?_
    refine va_get (D := D) (ci := 4) (v := .ref m1) (C := RX4) (T := TX4) (N := 18) hx hb hts hi4 hown hK hP 0 rfl rfl 1 (by decide) (hts (.fieldLink RX4 7 "PairedChannelsModel" "s" "[I") (List.mem_of_getElem? (i := 2) (by decide +kernel))) (fun _ h9 => h9) rfl dX4_setting_15 ?_
    refine lv_iconst (v := 2) hx hb dX4_setting_18 (by decide) ?_
    refine lv_iload_n hx hb dX4_setting_19 rfl (lv_at hl 1 rfl) ?_
    refine lv_iadd hx hb dX4_setting_20 ?_
    refine lv_eqi (nI (2 + j)) (nI_add 2 j) ?_
    refine wa_iald hx hb hK hP 1 0 rfl rfl (2 + j) rfl (by omega) (by decide) dX4_setting_21 ?_
    refine lv_eqi (sf j) (mst_s (by omega)) ?_
    refine lv_goto (tgt := 30) hx hb dX4_setting_22 (by decide) ?_
    exact gW_iret (v := sf j) 0 hx hb hr hlk (rfl) hK hP hD hS (Or.inl ⟨hth, rfl, rfl⟩) dX4_setting_30

set_option maxHeartbeats 4000000 in
set_option maxRecDepth 100000 in
theorem c_X4_sizes0 (l : Launch) (D : va_G) (K : Nat → ClassId) (m0 : Nat) (m1 : Nat) (m2 : Nat) (m3 : Nat) (m4 : Nat) (m5 : Nat) (m6 : Nat) (m7 : Nat) (m8 : Nat) (m9 : Nat) (m10 : Nat) (th : Int32) (sy : Nat) (ly : Nat) (py : Nat) (ay : Nat) (iw : Bool) (ty : Nat) (hy : Int64) (n : Nat) (mask : Int32) (vf : Nat → Int32) (sf : Nat → Int32) (hn : okN n) : MRi l yX4_sizes wsX4_sizes ({ frames := 1, cells := 0, slots := 0, locals := 20 } : Room) D (gTy K) [.ref m0, .int 0] [(m0, .inr (4, [.int th, .ref m1, .ref m2, .ref m3, .int (nI sy), .ref m4, .int (nI ly), .ref m5, .ref m6, .int (nI py), .ref m7, .ref m8, .ref m9, .int (nI ay), .int (if iw = true then 1 else 0), .ref m10, .int (nI ty), .long hy])), (m1, .inl (K 0, 22, .inl (mst n mask vf sf)))] (fun r => r = sizS vf n) := by
  refine g_ofR (cc := cX4_sizes) (maxL := 4) (ret := (some .int)) (own := RX4) (by decide) rfl rfl (Nat.le_of_ble_eq_true rfl) ?_
  intro pp ee s mm below meth cc hfx hK hP hE hS ls hl
  obtain ⟨hx, hb, hr, hml, hown, hts, hlk⟩ := hfx
  have hl : lv_has ls 4 [(0, .ref m0), (1, .int 0)] := hl
  have hi4 : ∀ w ∈ u_ws RX4 TX4 18, w ∈ wsX4_sizes := fun w h => List.mem_cons_of_mem _ (List.mem_append_right _ (h))
  have hnl := hn.le
  refine lv_iconst (v := 0) hx hb dX4_sizes_0 (by decide) ?_
  refine lv_istore_n (lv' := [(2, .int 0), (0, .ref m0), (1, .int 0)]) hx hb dX4_sizes_1 rfl hl (by decide) rfl (fun ls hl => ?_)
  refine lv_iconst (v := 0) hx hb dX4_sizes_2 (by decide) ?_
  refine lv_istore_n (lv' := [(3, .int 0), (2, .int 0), (0, .ref m0), (1, .int 0)]) hx hb dX4_sizes_3 rfl hl (by decide) rfl (fun ls hl => ?_)
  refine g_loopW (st := []) (N := n) (fun i H locs ls => va_P D vwCl [(m0, .inr (4, [.int th, .ref m1, .ref m2, .ref m3, .int (nI sy), .ref m4, .int (nI ly), .ref m5, .ref m6, .int (nI py), .ref m7, .ref m8, .ref m9, .int (nI ay), .int (if iw = true then 1 else 0), .ref m10, .int (nI ty), .long hy])), (m1, .inl (K 0, 22, .inl (mst n mask vf sf)))] H ∧ va_S gNo s.heap H locs ∧ lv_has ls 4 [(3, .int (nI i)), (2, .int (sizS vf i)), (0, .ref m0), (1, .int 0)]) 0 (Nat.zero_le _) ?_ ?_ ?_
  · intro H locs ls hI
    obtain ⟨hP, hS, hl⟩ := hI
    refine lv_iload_n hx hb dX4_sizes_4 rfl (lv_at hl 0 rfl) ?_
    refine lv_aload_n hx hb dX4_sizes_5 rfl (lv_at hl 2 rfl) ?_
    refine va_get (D := D) (ci := 4) (v := .ref m1) (C := RX4) (T := TX4) (N := 18) hx hb hts hi4 hown hK hP 0 rfl rfl 1 (by decide) (hts (.fieldLink RX4 7 "PairedChannelsModel" "s" "[I") (List.mem_of_getElem? (i := 1) (by decide +kernel))) (fun _ h9 => h9) rfl dX4_sizes_6 ?_
    refine lv_iconst (v := 0) hx hb dX4_sizes_9 (by decide) ?_
    refine wa_iald hx hb hK hP 1 0 rfl rfl (0) rfl (by omega) (by decide) dX4_sizes_10 ?_
    refine lv_eqi (nI n) (rfl) ?_
    refine lv_icmp_ge (tgt := 59) hx hb dX4_sizes_11 (by decide) (fun c2 => ?_) (fun c2 => ?_)
    · skip
      have c2 : n ≤ n := (nI_leI (a := n) (b := n) (by omega) (by omega)).mp c2
      refine lv_iload_n hx hb dX4_sizes_59 rfl (lv_at hl 1 rfl) ?_
      exact gR_iret (v := sizS vf n) hx hb hr hlk (rfl) hS (rfl) dX4_sizes_60
    · skip
      have c2 : ¬ n ≤ n := fun h9 => c2 ((nI_leI (a := n) (b := n) (by omega) (by omega)).mpr h9)
      omega
  · intro i hi ih1 H locs ls hI
    obtain ⟨hP, hS, hl⟩ := hI
    refine lv_iload_n hx hb dX4_sizes_4 rfl (lv_at hl 0 rfl) ?_
    refine lv_aload_n hx hb dX4_sizes_5 rfl (lv_at hl 2 rfl) ?_
    refine va_get (D := D) (ci := 4) (v := .ref m1) (C := RX4) (T := TX4) (N := 18) hx hb hts hi4 hown hK hP 0 rfl rfl 1 (by decide) (hts (.fieldLink RX4 7 "PairedChannelsModel" "s" "[I") (List.mem_of_getElem? (i := 1) (by decide +kernel))) (fun _ h9 => h9) rfl dX4_sizes_6 ?_
    refine lv_iconst (v := 0) hx hb dX4_sizes_9 (by decide) ?_
    refine wa_iald hx hb hK hP 1 0 rfl rfl (0) rfl (by omega) (by decide) dX4_sizes_10 ?_
    refine lv_eqi (nI n) (rfl) ?_
    refine lv_icmp_ge (tgt := 59) hx hb dX4_sizes_11 (by decide) (fun c3 => ?_) (fun c3 => ?_)
    · skip
      have c3 : n ≤ i := (nI_leI (a := n) (b := i) (by omega) (by omega)).mp c3
      omega
    · skip
      have c3 : ¬ n ≤ i := fun h9 => c3 ((nI_leI (a := n) (b := i) (by omega) (by omega)).mpr h9)
      refine lv_iload_n hx hb dX4_sizes_14 rfl (lv_at hl 1 rfl) ?_
      refine lv_iload_n hx hb dX4_sizes_15 rfl (lv_at hl 3 rfl) ?_
      refine lv_if_eq (tgt := 39) hx hb dX4_sizes_16 (by decide) (fun c4 => ?_) (fun c4 => ?_)
      · skip
        have c4 : 0 = 0 := (nI_eq (a := 0) (b := 0) (by omega) (by omega)).mp c4
        refine lv_aload_n hx hb dX4_sizes_39 rfl (lv_at hl 2 rfl) ?_
        refine va_get (D := D) (ci := 4) (v := .ref m1) (C := RX4) (T := TX4) (N := 18) hx hb hts hi4 hown hK hP 0 rfl rfl 1 (by decide) (hts (.fieldLink RX4 7 "PairedChannelsModel" "s" "[I") (List.mem_of_getElem? (i := 1) (by decide +kernel))) (fun _ h9 => h9) rfl dX4_sizes_40 ?_
        refine lv_bipush (v := 6) hx hb dX4_sizes_43 (by decide) ?_
        refine lv_iload_n hx hb dX4_sizes_45 rfl (lv_at hl 0 rfl) ?_
        refine lv_iadd hx hb dX4_sizes_46 ?_
        refine lv_eqi (nI (6 + i)) (nI_add 6 i) ?_
        refine wa_iald hx hb hK hP 1 0 rfl rfl (6 + i) rfl (by omega) (by decide) dX4_sizes_47 ?_
        refine lv_eqi (vf i) (mst_p _) ?_
        refine gR_i (va_runS (As := [.int (vf i)]) (rest := [.int (sizS vf i)]) ⟨hx, hb, hml, hown, hts⟩ (c_X4_size l D K (vf i) ) (va_cwS 1 hts gX4_sizes_X4_size rfl rfl rfl (by decide +kernel) ⟨Nat.le_of_ble_eq_true rfl, Nat.le_of_ble_eq_true rfl⟩) (gR_pre hE hS hK hP [] rfl) rfl rfl hl.1 rfl (lv_room (Nat.le_of_ble_eq_true rfl)) dX4_sizes_48 ⟨Nat.le_of_ble_eq_true rfl, Nat.le_of_ble_eq_true rfl⟩) hS hP (fun rv6 H locs h5 hP hS => ?_)
        have h5 : rv6 = absI (vf i) := h5
        subst h5
        refine lv_iadd hx hb dX4_sizes_51 ?_
        refine lv_istore_n (lv' := [(2, .int (sizS vf i + absI (vf i))), (3, .int (nI i)), (0, .ref m0), (1, .int 0)]) hx hb dX4_sizes_52 rfl hl (by decide) rfl (fun ls hl => ?_)
        refine lv_iinc (v := nI (i + 1)) (lv' := [(3, .int (nI (i + 1))), (2, .int (sizS vf i + absI (vf i))), (0, .ref m0), (1, .int 0)]) hx hb dX4_sizes_53 hl (k := 1) rfl (nI_add i 1) (by decide) rfl (fun ls hl => ?_)
        refine lv_goto (tgt := 4) hx hb dX4_sizes_56 (by decide) ?_
        have e9 : (sizS vf i + absI (vf i)) = (sizS vf (i + 1)) := rfl
        rw [e9] at hl
        exact ih1 H locs ls ⟨hP, hS, lv_sub hl [0, 1, 2, 3] rfl⟩
      · skip
        have c4 : ¬ 0 = 0 := fun h9 => c4 ((nI_eq (a := 0) (b := 0) (by omega) (by omega)).mpr h9)
        omega
  · exact ⟨hP, hS, lv_sub hl [0, 1, 2, 3] rfl⟩

set_option maxHeartbeats 4000000 in
set_option maxRecDepth 100000 in
theorem c_X4_sizes1 (l : Launch) (D : va_G) (K : Nat → ClassId) (m0 : Nat) (m1 : Nat) (m2 : Nat) (m3 : Nat) (m4 : Nat) (m5 : Nat) (m6 : Nat) (m7 : Nat) (m8 : Nat) (m9 : Nat) (m10 : Nat) (th : Int32) (sy : Nat) (ly : Nat) (py : Nat) (ay : Nat) (iw : Bool) (ty : Nat) (hy : Int64) (n : Nat) (mask : Int32) (vf : Nat → Int32) (sf : Nat → Int32) (hn : okN n) : MRi l yX4_sizes wsX4_sizes ({ frames := 1, cells := 0, slots := 0, locals := 20 } : Room) D (gTy K) [.ref m0, .int 1] [(m0, .inr (4, [.int th, .ref m1, .ref m2, .ref m3, .int (nI sy), .ref m4, .int (nI ly), .ref m5, .ref m6, .int (nI py), .ref m7, .ref m8, .ref m9, .int (nI ay), .int (if iw = true then 1 else 0), .ref m10, .int (nI ty), .long hy])), (m1, .inl (K 0, 22, .inl (mst n mask vf sf)))] (fun r => r = nI (zerS vf n)) := by
  refine g_ofR (cc := cX4_sizes) (maxL := 4) (ret := (some .int)) (own := RX4) (by decide) rfl rfl (Nat.le_of_ble_eq_true rfl) ?_
  intro pp ee s mm below meth cc hfx hK hP hE hS ls hl
  obtain ⟨hx, hb, hr, hml, hown, hts, hlk⟩ := hfx
  have hl : lv_has ls 4 [(0, .ref m0), (1, .int 1)] := hl
  have hi4 : ∀ w ∈ u_ws RX4 TX4 18, w ∈ wsX4_sizes := fun w h => List.mem_cons_of_mem _ (List.mem_append_right _ (h))
  have hnl := hn.le
  refine lv_iconst (v := 0) hx hb dX4_sizes_0 (by decide) ?_
  refine lv_istore_n (lv' := [(2, .int 0), (0, .ref m0), (1, .int 1)]) hx hb dX4_sizes_1 rfl hl (by decide) rfl (fun ls hl => ?_)
  refine lv_iconst (v := 0) hx hb dX4_sizes_2 (by decide) ?_
  refine lv_istore_n (lv' := [(3, .int 0), (2, .int 0), (0, .ref m0), (1, .int 1)]) hx hb dX4_sizes_3 rfl hl (by decide) rfl (fun ls hl => ?_)
  refine g_loopW (st := []) (N := n) (fun i H locs ls => va_P D vwCl [(m0, .inr (4, [.int th, .ref m1, .ref m2, .ref m3, .int (nI sy), .ref m4, .int (nI ly), .ref m5, .ref m6, .int (nI py), .ref m7, .ref m8, .ref m9, .int (nI ay), .int (if iw = true then 1 else 0), .ref m10, .int (nI ty), .long hy])), (m1, .inl (K 0, 22, .inl (mst n mask vf sf)))] H ∧ va_S gNo s.heap H locs ∧ lv_has ls 4 [(3, .int (nI i)), (2, .int (nI (zerS vf i))), (0, .ref m0), (1, .int 1)]) 0 (Nat.zero_le _) ?_ ?_ ?_
  · intro H locs ls hI
    obtain ⟨hP, hS, hl⟩ := hI
    refine lv_iload_n hx hb dX4_sizes_4 rfl (lv_at hl 0 rfl) ?_
    refine lv_aload_n hx hb dX4_sizes_5 rfl (lv_at hl 2 rfl) ?_
    refine va_get (D := D) (ci := 4) (v := .ref m1) (C := RX4) (T := TX4) (N := 18) hx hb hts hi4 hown hK hP 0 rfl rfl 1 (by decide) (hts (.fieldLink RX4 7 "PairedChannelsModel" "s" "[I") (List.mem_of_getElem? (i := 1) (by decide +kernel))) (fun _ h9 => h9) rfl dX4_sizes_6 ?_
    refine lv_iconst (v := 0) hx hb dX4_sizes_9 (by decide) ?_
    refine wa_iald hx hb hK hP 1 0 rfl rfl (0) rfl (by omega) (by decide) dX4_sizes_10 ?_
    refine lv_eqi (nI n) (rfl) ?_
    refine lv_icmp_ge (tgt := 59) hx hb dX4_sizes_11 (by decide) (fun c2 => ?_) (fun c2 => ?_)
    · skip
      have c2 : n ≤ n := (nI_leI (a := n) (b := n) (by omega) (by omega)).mp c2
      refine lv_iload_n hx hb dX4_sizes_59 rfl (lv_at hl 1 rfl) ?_
      exact gR_iret (v := nI (zerS vf n)) hx hb hr hlk (rfl) hS (rfl) dX4_sizes_60
    · skip
      have c2 : ¬ n ≤ n := fun h9 => c2 ((nI_leI (a := n) (b := n) (by omega) (by omega)).mpr h9)
      omega
  · intro i hi ih1 H locs ls hI
    obtain ⟨hP, hS, hl⟩ := hI
    refine lv_iload_n hx hb dX4_sizes_4 rfl (lv_at hl 0 rfl) ?_
    refine lv_aload_n hx hb dX4_sizes_5 rfl (lv_at hl 2 rfl) ?_
    refine va_get (D := D) (ci := 4) (v := .ref m1) (C := RX4) (T := TX4) (N := 18) hx hb hts hi4 hown hK hP 0 rfl rfl 1 (by decide) (hts (.fieldLink RX4 7 "PairedChannelsModel" "s" "[I") (List.mem_of_getElem? (i := 1) (by decide +kernel))) (fun _ h9 => h9) rfl dX4_sizes_6 ?_
    refine lv_iconst (v := 0) hx hb dX4_sizes_9 (by decide) ?_
    refine wa_iald hx hb hK hP 1 0 rfl rfl (0) rfl (by omega) (by decide) dX4_sizes_10 ?_
    refine lv_eqi (nI n) (rfl) ?_
    refine lv_icmp_ge (tgt := 59) hx hb dX4_sizes_11 (by decide) (fun c3 => ?_) (fun c3 => ?_)
    · skip
      have c3 : n ≤ i := (nI_leI (a := n) (b := i) (by omega) (by omega)).mp c3
      omega
    · skip
      have c3 : ¬ n ≤ i := fun h9 => c3 ((nI_leI (a := n) (b := i) (by omega) (by omega)).mpr h9)
      refine lv_iload_n hx hb dX4_sizes_14 rfl (lv_at hl 1 rfl) ?_
      refine lv_iload_n hx hb dX4_sizes_15 rfl (lv_at hl 3 rfl) ?_
      refine lv_if_eq (tgt := 39) hx hb dX4_sizes_16 (by decide) (fun c4 => ?_) (fun c4 => ?_)
      · skip
        have c4 : 1 = 0 := (nI_eq (a := 1) (b := 0) (by omega) (by omega)).mp c4
        omega
      · skip
        have c4 : ¬ 1 = 0 := fun h9 => c4 ((nI_eq (a := 1) (b := 0) (by omega) (by omega)).mpr h9)
        refine lv_aload_n hx hb dX4_sizes_19 rfl (lv_at hl 2 rfl) ?_
        refine va_get (D := D) (ci := 4) (v := .ref m1) (C := RX4) (T := TX4) (N := 18) hx hb hts hi4 hown hK hP 0 rfl rfl 1 (by decide) (hts (.fieldLink RX4 7 "PairedChannelsModel" "s" "[I") (List.mem_of_getElem? (i := 1) (by decide +kernel))) (fun _ h9 => h9) rfl dX4_sizes_20 ?_
        refine lv_bipush (v := 6) hx hb dX4_sizes_23 (by decide) ?_
        refine lv_iload_n hx hb dX4_sizes_25 rfl (lv_at hl 0 rfl) ?_
        refine lv_iadd hx hb dX4_sizes_26 ?_
        refine lv_eqi (nI (6 + i)) (nI_add 6 i) ?_
        refine wa_iald hx hb hK hP 1 0 rfl rfl (6 + i) rfl (by omega) (by decide) dX4_sizes_27 ?_
        refine lv_eqi (vf i) (mst_p _) ?_
        refine lv_if_ne (tgt := 35) hx hb dX4_sizes_28 (by decide) (fun c28 => ?_) (fun c28 => ?_)
        · skip
          refine lv_iconst (v := 0) hx hb dX4_sizes_35 (by decide) ?_
          refine lv_goto (tgt := 51) hx hb dX4_sizes_36 (by decide) ?_
          refine lv_iadd hx hb dX4_sizes_51 ?_
          refine lv_eqi (nI (zerS vf i + 0)) (nI_add (zerS vf i) 0) ?_
          refine lv_istore_n (lv' := [(2, .int (nI (zerS vf i + 0))), (3, .int (nI i)), (0, .ref m0), (1, .int 1)]) hx hb dX4_sizes_52 rfl hl (by decide) rfl (fun ls hl => ?_)
          refine lv_iinc (v := nI (i + 1)) (lv' := [(3, .int (nI (i + 1))), (2, .int (nI (zerS vf i + 0))), (0, .ref m0), (1, .int 1)]) hx hb dX4_sizes_53 hl (k := 1) rfl (nI_add i 1) (by decide) rfl (fun ls hl => ?_)
          refine lv_goto (tgt := 4) hx hb dX4_sizes_56 (by decide) ?_
          have e9 : (nI (zerS vf i + 0)) = (nI (zerS vf (i + 1))) := congrArg nI (by show _ = zerS vf i + (if vf i = 0 then 1 else 0); first | (rw [if_pos c28]; done) | (rw [if_neg c28]; done))
          rw [e9] at hl
          exact ih1 H locs ls ⟨hP, hS, lv_sub hl [0, 1, 2, 3] rfl⟩
        · skip
          refine lv_iconst (v := 1) hx hb dX4_sizes_31 (by decide) ?_
          refine lv_goto (tgt := 51) hx hb dX4_sizes_32 (by decide) ?_
          refine lv_iadd hx hb dX4_sizes_51 ?_
          refine lv_eqi (nI (zerS vf i + 1)) (nI_add (zerS vf i) 1) ?_
          refine lv_istore_n (lv' := [(2, .int (nI (zerS vf i + 1))), (3, .int (nI i)), (0, .ref m0), (1, .int 1)]) hx hb dX4_sizes_52 rfl hl (by decide) rfl (fun ls hl => ?_)
          refine lv_iinc (v := nI (i + 1)) (lv' := [(3, .int (nI (i + 1))), (2, .int (nI (zerS vf i + 1))), (0, .ref m0), (1, .int 1)]) hx hb dX4_sizes_53 hl (k := 1) rfl (nI_add i 1) (by decide) rfl (fun ls hl => ?_)
          refine lv_goto (tgt := 4) hx hb dX4_sizes_56 (by decide) ?_
          have e9 : (nI (zerS vf i + 1)) = (nI (zerS vf (i + 1))) := congrArg nI (by show _ = zerS vf i + (if vf i = 0 then 1 else 0); first | (rw [if_pos c28]; done) | (rw [if_neg c28]; done))
          rw [e9] at hl
          exact ih1 H locs ls ⟨hP, hS, lv_sub hl [0, 1, 2, 3] rfl⟩
  · exact ⟨hP, hS, lv_sub hl [0, 1, 2, 3] rfl⟩

set_option maxHeartbeats 4000000 in
set_option maxRecDepth 100000 in
theorem c_X4_rightMany (l : Launch) (D : va_G) (K : Nat → ClassId) (m0 : Nat) (m1 : Nat) (m2 : Nat) (m3 : Nat) (m4 : Nat) (m5 : Nat) (m6 : Nat) (m7 : Nat) (m8 : Nat) (m9 : Nat) (m10 : Nat) (th : Int32) (sy : Nat) (ly : Nat) (py : Nat) (ay : Nat) (iw : Bool) (ty : Nat) (hy : Int64) (n : Nat) (mask : Int32) (vf : Nat → Int32) (sf : Nat → Int32) (P : PL) (fb : Nat → Int32) (hn : okN n) (hsf : okS sf) (hP4 : P.length ≤ 4) (hfb : ∀ i, i < P.length → fb i = (atL P i).1) : MRi l yX4_rightMany wsX4_rightMany ({ frames := 6, cells := 0, slots := 0, locals := 128 } : Room) D (gTy K) [.ref m0] [(m0, .inr (4, [.int th, .ref m1, .ref m2, .ref m3, .int (nI sy), .ref m4, .int (nI ly), .ref m5, .ref m6, .int (nI P.length), .ref m7, .ref m8, .ref m9, .int (nI ay), .int (if iw = true then 1 else 0), .ref m10, .int (nI ty), .long hy])), (m1, .inl (K 0, 22, .inl (mst n mask vf sf))), (m5, .inl (K 0, 8, .inl fb))] (fun r => r = nI (rgC n mask sf P P.length)) := by
  refine g_ofR (cc := cX4_rightMany) (maxL := 3) (ret := (some .int)) (own := RX4) (by decide) rfl rfl (Nat.le_of_ble_eq_true rfl) ?_
  intro pp ee s mm below meth cc hfx hK hP hE hS ls hl
  obtain ⟨hx, hb, hr, hml, hown, hts, hlk⟩ := hfx
  have hl : lv_has ls 3 [(0, .ref m0)] := hl
  have hi4 : ∀ w ∈ u_ws RX4 TX4 18, w ∈ wsX4_rightMany := fun w h => List.mem_cons_of_mem _ (List.mem_append_right _ (h))
  refine lv_iconst (v := 0) hx hb dX4_rightMany_0 (by decide) ?_
  refine lv_istore_n (lv' := [(1, .int 0), (0, .ref m0)]) hx hb dX4_rightMany_1 rfl hl (by decide) rfl (fun ls hl => ?_)
  refine lv_iconst (v := 0) hx hb dX4_rightMany_2 (by decide) ?_
  refine lv_istore_n (lv' := [(2, .int 0), (1, .int 0), (0, .ref m0)]) hx hb dX4_rightMany_3 rfl hl (by decide) rfl (fun ls hl => ?_)
  refine g_loopW (st := []) (N := P.length) (fun t H locs ls => va_P D vwCl [(m0, .inr (4, [.int th, .ref m1, .ref m2, .ref m3, .int (nI sy), .ref m4, .int (nI ly), .ref m5, .ref m6, .int (nI P.length), .ref m7, .ref m8, .ref m9, .int (nI ay), .int (if iw = true then 1 else 0), .ref m10, .int (nI ty), .long hy])), (m1, .inl (K 0, 22, .inl (mst n mask vf sf))), (m5, .inl (K 0, 8, .inl fb))] H ∧ va_S gNo s.heap H locs ∧ lv_has ls 3 [(2, .int (nI t)), (1, .int (nI (rgC n mask sf P t))), (0, .ref m0)]) 0 (Nat.zero_le _) ?_ ?_ ?_
  · intro H locs ls hI
    obtain ⟨hP, hS, hl⟩ := hI
    refine lv_iload_n hx hb dX4_rightMany_4 rfl (lv_at hl 0 rfl) ?_
    refine lv_aload_n hx hb dX4_rightMany_5 rfl (lv_at hl 2 rfl) ?_
    refine va_get (D := D) (ci := 4) (v := .int (nI P.length)) (C := RX4) (T := TX4) (N := 18) hx hb hts hi4 hown hK hP 0 rfl rfl 9 (by decide) (hts (.fieldLink RX4 99 "PairedChannelsModel" "pathMany" "I") (List.mem_of_getElem? (i := 1) (by decide +kernel))) (fun _ h9 => h9) rfl dX4_rightMany_6 ?_
    refine lv_icmp_ge (tgt := 43) hx hb dX4_rightMany_9 (by decide) (fun c2 => ?_) (fun c2 => ?_)
    · skip
      have c2 : P.length ≤ P.length := (nI_leI (a := P.length) (b := P.length) (by omega) (by omega)).mp c2
      refine lv_iload_n hx hb dX4_rightMany_43 rfl (lv_at hl 1 rfl) ?_
      exact gR_iret (v := nI (rgC n mask sf P P.length)) hx hb hr hlk (rfl) hS (rfl) dX4_rightMany_44
    · skip
      have c2 : ¬ P.length ≤ P.length := fun h9 => c2 ((nI_leI (a := P.length) (b := P.length) (by omega) (by omega)).mpr h9)
      omega
  · intro t ht ih1 H locs ls hI
    obtain ⟨hP, hS, hl⟩ := hI
    refine lv_iload_n hx hb dX4_rightMany_4 rfl (lv_at hl 0 rfl) ?_
    refine lv_aload_n hx hb dX4_rightMany_5 rfl (lv_at hl 2 rfl) ?_
    refine va_get (D := D) (ci := 4) (v := .int (nI P.length)) (C := RX4) (T := TX4) (N := 18) hx hb hts hi4 hown hK hP 0 rfl rfl 9 (by decide) (hts (.fieldLink RX4 99 "PairedChannelsModel" "pathMany" "I") (List.mem_of_getElem? (i := 1) (by decide +kernel))) (fun _ h9 => h9) rfl dX4_rightMany_6 ?_
    refine lv_icmp_ge (tgt := 43) hx hb dX4_rightMany_9 (by decide) (fun c3 => ?_) (fun c3 => ?_)
    · skip
      have c3 : P.length ≤ t := (nI_leI (a := P.length) (b := t) (by omega) (by omega)).mp c3
      omega
    · skip
      have c3 : ¬ P.length ≤ t := fun h9 => c3 ((nI_leI (a := P.length) (b := t) (by omega) (by omega)).mpr h9)
      refine lv_iload_n hx hb dX4_rightMany_12 rfl (lv_at hl 1 rfl) ?_
      refine lv_aload_n hx hb dX4_rightMany_13 rfl (lv_at hl 2 rfl) ?_
      refine lv_aload_n hx hb dX4_rightMany_14 rfl (lv_at hl 2 rfl) ?_
      refine lv_aload_n hx hb dX4_rightMany_15 rfl (lv_at hl 2 rfl) ?_
      refine va_get (D := D) (ci := 4) (v := .ref m5) (C := RX4) (T := TX4) (N := 18) hx hb hts hi4 hown hK hP 0 rfl rfl 7 (by decide) (hts (.fieldLink RX4 22 "PairedChannelsModel" "bits" "[I") (List.mem_of_getElem? (i := 2) (by decide +kernel))) (fun _ h9 => h9) rfl dX4_rightMany_16 ?_
      refine lv_iload_n hx hb dX4_rightMany_19 rfl (lv_at hl 0 rfl) ?_
      refine wa_iald hx hb hK hP 2 0 rfl rfl (t) rfl (by omega) (by decide) dX4_rightMany_20 ?_
      refine lv_eqi ((atL P t).1) (hfb t ht) ?_
      refine gR_i (va_runV (As := [.int ((atL P t).1)]) (rest := [.ref m0, .int (nI (rgC n mask sf P t))]) ⟨hx, hb, hml, hown, hts⟩ (c_X4_messageOf l D K m0 m1 m2 m3 m4 m5 m6 m7 m8 m9 m10 th sy ly P.length ay iw ty hy n mask vf sf ((atL P t).1) (by first | assumption | omega)) (cwV 1 hts gX4_rightMany_X4_messageOf rfl rfl rfl (by decide +kernel) ⟨Nat.le_of_ble_eq_true rfl, Nat.le_of_ble_eq_true rfl⟩) (gR_preV hE hS hK hP [0, 1] rfl 0 rfl rfl rfl) rfl rfl hl.1 rfl (lv_room (Nat.le_of_ble_eq_true rfl)) dX4_rightMany_21 ⟨Nat.le_of_ble_eq_true rfl, Nat.le_of_ble_eq_true rfl⟩) hS hP (fun rv5 H locs h4 hP hS => ?_)
      have h4 : rv5 = mso mask ((atL P t).1) n := h4
      subst h4
      refine lv_eqi (msP n mask P t) (rfl) ?_
      refine gR_i (va_runV (As := [.int (msP n mask P t)]) (rest := [.int (nI (rgC n mask sf P t))]) ⟨hx, hb, hml, hown, hts⟩ (c_X4_isRight l D K m0 m1 m2 m3 m4 m5 m6 m7 m8 m9 m10 th sy ly P.length ay iw ty hy n mask vf sf (msP n mask P t) (by first | assumption | omega) (by first | assumption | omega)) (cwV 1 hts gX4_rightMany_X4_isRight rfl rfl rfl (by decide +kernel) ⟨Nat.le_of_ble_eq_true rfl, Nat.le_of_ble_eq_true rfl⟩) (gR_preV hE hS hK hP [0, 1] rfl 0 rfl rfl rfl) rfl rfl hl.1 rfl (lv_room (Nat.le_of_ble_eq_true rfl)) dX4_rightMany_24 ⟨Nat.le_of_ble_eq_true rfl, Nat.le_of_ble_eq_true rfl⟩) hS hP (fun rv7 H locs h6 hP hS => ?_)
      have h6 : rv7 = (if rgt n mask sf (msP n mask P t) then 1 else 0) := h6
      subst h6
      refine g_cut (F0 mm 35 ls [.int (if rgt n mask sf (msP n mask P t) then 1 else 0), .int (nI (rgC n mask sf P t))]) (fun hJ => ?_) ?_
      · refine lv_if_eq (tgt := 34) hx hb dX4_rightMany_27 (by decide) (fun c8 => ?_) (fun c8 => ?_)
        · skip
          have c8 : ¬ (rgt n mask sf (msP n mask P t)) := b_eq0 c8
          refine lv_iconst (v := 0) hx hb dX4_rightMany_34 (by decide) ?_
          refine lv_eqi ((if rgt n mask sf (msP n mask P t) then 1 else 0)) (if_neg c8).symm ?_
          exact hJ
        · skip
          have c8 : rgt n mask sf (msP n mask P t) := b_ne0 c8
          refine lv_iconst (v := 1) hx hb dX4_rightMany_30 (by decide) ?_
          refine lv_goto (tgt := 35) hx hb dX4_rightMany_31 (by decide) ?_
          refine lv_eqi ((if rgt n mask sf (msP n mask P t) then 1 else 0)) (if_pos c8).symm ?_
          exact hJ
      · skip
        refine lv_iadd hx hb dX4_rightMany_35 ?_
        refine lv_istore_n (lv' := [(1, .int (nI (rgC n mask sf P t) + (if rgt n mask sf (msP n mask P t) then 1 else 0))), (2, .int (nI t)), (0, .ref m0)]) hx hb dX4_rightMany_36 rfl hl (by decide) rfl (fun ls hl => ?_)
        refine lv_iinc (v := nI (t + 1)) (lv' := [(2, .int (nI (t + 1))), (1, .int (nI (rgC n mask sf P t) + (if rgt n mask sf (msP n mask P t) then 1 else 0))), (0, .ref m0)]) hx hb dX4_rightMany_37 hl (k := 1) rfl (nI_add t 1) (by decide) rfl (fun ls hl => ?_)
        refine lv_goto (tgt := 4) hx hb dX4_rightMany_40 (by decide) ?_
        have e9 : (nI (rgC n mask sf P t) + (if rgt n mask sf (msP n mask P t) then 1 else 0)) = (nI (rgC n mask sf P (t + 1))) := nI_ite _ _
        rw [e9] at hl
        exact ih1 H locs ls ⟨hP, hS, lv_sub hl [0, 1, 2] rfl⟩
  · exact ⟨hP, hS, lv_sub hl [0, 1, 2] rfl⟩
