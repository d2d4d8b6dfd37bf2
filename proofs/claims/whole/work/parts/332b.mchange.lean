set_option maxHeartbeats 4000000 in
set_option maxRecDepth 100000 in
theorem c_X4_isSetting (l : Launch) (D : va_G) (K : Nat → ClassId) (q : Int32) (v : Int32) (hq : 0 ≤ q ∧ q ≤ 3) : MRi l yX4_isSetting wsX4_isSetting ({ frames := 1, cells := 0, slots := 0, locals := 22 } : Room) D (gTy K) [.int q, .int v] [] (fun r => r = (if tL q.toNatClampNeg ≤ v ∧ v ≤ tM q.toNatClampNeg then 1 else 0)) := by
  refine g_ofR (cc := cX4_isSetting) (maxL := 2) (ret := (some .boolean)) (own := RX4) (by decide) rfl rfl (Nat.le_of_ble_eq_true rfl) ?_
  intro pp ee s mm below meth cc hfx hK hP hE hS ls hl
  obtain ⟨hx, hb, hr, hml, hown, hts, hlk⟩ := hfx
  have hl : lv_has ls 2 [(0, .int q), (1, .int v)] := hl
  refine lv_iload_n hx hb dX4_isSetting_0 rfl (lv_at hl 0 rfl) ?_
  by_cases s1_0 : q = 0
  · skip
    subst s1_0
    have hl : lv_has ls 2 [(0, .int 0), (1, .int v)] := hl
    refine lv_tableIn (off := 27) (tgt := 28) hx hb dX4_isSetting_1 (by decide) (by decide) (by decide) (by decide) ?_
    refine lv_iload_n hx hb dX4_isSetting_28 rfl (lv_at hl 1 rfl) ?_
    refine lv_iconst (v := 1) hx hb dX4_isSetting_29 (by decide) ?_
    refine lv_sipush (v := 999) hx hb dX4_isSetting_30 (by decide) ?_
    refine gR_i (va_runS (As := [.int v, .int 1, .int 999]) (rest := []) ⟨hx, hb, hml, hown, hts⟩ (c_X4_in l D K v 1 999 ) (va_cwS 3 hts gX4_isSetting_X4_in rfl rfl rfl (by decide +kernel) ⟨Nat.le_of_ble_eq_true rfl, Nat.le_of_ble_eq_true rfl⟩) (gR_pre hE hS hK hP [] rfl) rfl rfl hl.1 rfl (lv_room (Nat.le_of_ble_eq_true rfl)) dX4_isSetting_33 ⟨Nat.le_of_ble_eq_true rfl, Nat.le_of_ble_eq_true rfl⟩) hS hP (fun rv2 H locs h1 hP hS => ?_)
    have h1 : rv2 = (if 1 ≤ v ∧ v ≤ 999 then 1 else 0) := h1
    subst h1
    exact gR_iret (v := (if 1 ≤ v ∧ v ≤ 999 then 1 else 0)) hx hb hr hlk (nar_b _) hS (rfl) dX4_isSetting_36
  by_cases s1_1 : q = 1
  · skip
    subst s1_1
    have hl : lv_has ls 2 [(0, .int 1), (1, .int v)] := hl
    refine lv_tableIn (off := 36) (tgt := 37) hx hb dX4_isSetting_1 (by decide) (by decide) (by decide) (by decide) ?_
    refine lv_iload_n hx hb dX4_isSetting_37 rfl (lv_at hl 1 rfl) ?_
    refine lv_iconst (v := 1) hx hb dX4_isSetting_38 (by decide) ?_
    refine lv_iconst (v := 4) hx hb dX4_isSetting_39 (by decide) ?_
    refine gR_i (va_runS (As := [.int v, .int 1, .int 4]) (rest := []) ⟨hx, hb, hml, hown, hts⟩ (c_X4_in l D K v 1 4 ) (va_cwS 3 hts gX4_isSetting_X4_in rfl rfl rfl (by decide +kernel) ⟨Nat.le_of_ble_eq_true rfl, Nat.le_of_ble_eq_true rfl⟩) (gR_pre hE hS hK hP [] rfl) rfl rfl hl.1 rfl (lv_room (Nat.le_of_ble_eq_true rfl)) dX4_isSetting_40 ⟨Nat.le_of_ble_eq_true rfl, Nat.le_of_ble_eq_true rfl⟩) hS hP (fun rv4 H locs h3 hP hS => ?_)
    have h3 : rv4 = (if 1 ≤ v ∧ v ≤ 4 then 1 else 0) := h3
    subst h3
    exact gR_iret (v := (if 1 ≤ v ∧ v ≤ 4 then 1 else 0)) hx hb hr hlk (nar_b _) hS (rfl) dX4_isSetting_43
  by_cases s1_2 : q = 2
  · skip
    subst s1_2
    have hl : lv_has ls 2 [(0, .int 2), (1, .int v)] := hl
    refine lv_tableIn (off := 43) (tgt := 44) hx hb dX4_isSetting_1 (by decide) (by decide) (by decide) (by decide) ?_
    refine lv_iload_n hx hb dX4_isSetting_44 rfl (lv_at hl 1 rfl) ?_
    refine lv_iconst (v := 0) hx hb dX4_isSetting_45 (by decide) ?_
    refine lv_iconst (v := 3) hx hb dX4_isSetting_46 (by decide) ?_
    refine gR_i (va_runS (As := [.int v, .int 0, .int 3]) (rest := []) ⟨hx, hb, hml, hown, hts⟩ (c_X4_in l D K v 0 3 ) (va_cwS 3 hts gX4_isSetting_X4_in rfl rfl rfl (by decide +kernel) ⟨Nat.le_of_ble_eq_true rfl, Nat.le_of_ble_eq_true rfl⟩) (gR_pre hE hS hK hP [] rfl) rfl rfl hl.1 rfl (lv_room (Nat.le_of_ble_eq_true rfl)) dX4_isSetting_47 ⟨Nat.le_of_ble_eq_true rfl, Nat.le_of_ble_eq_true rfl⟩) hS hP (fun rv6 H locs h5 hP hS => ?_)
    have h5 : rv6 = (if 0 ≤ v ∧ v ≤ 3 then 1 else 0) := h5
    subst h5
    exact gR_iret (v := (if 0 ≤ v ∧ v ≤ 3 then 1 else 0)) hx hb hr hlk (nar_b _) hS (rfl) dX4_isSetting_50
  have so7 : (q : Int32).toInt < 0 ∨ 2 < (q : Int32).toInt := by
    have n0 := lv_neT (k := 0) (a := 0) s1_0 (by decide)
    have n1 := lv_neT (k := 1) (a := 1) s1_1 (by decide)
    have n2 := lv_neT (k := 2) (a := 2) s1_2 (by decide)
    omega
  refine lv_tableOut (tgt := 51) hx hb dX4_isSetting_1 so7 (by decide) ?_
  have eq3 := sw_3 hq s1_0 s1_1 s1_2
  subst eq3
  refine lv_iload_n hx hb dX4_isSetting_51 rfl (lv_at hl 1 rfl) ?_
  refine lv_iconst (v := 1) hx hb dX4_isSetting_52 (by decide) ?_
  refine lv_bipush (v := 99) hx hb dX4_isSetting_53 (by decide) ?_
  refine gR_i (va_runS (As := [.int v, .int 1, .int 99]) (rest := []) ⟨hx, hb, hml, hown, hts⟩ (c_X4_in l D K v 1 99 ) (va_cwS 3 hts gX4_isSetting_X4_in rfl rfl rfl (by decide +kernel) ⟨Nat.le_of_ble_eq_true rfl, Nat.le_of_ble_eq_true rfl⟩) (gR_pre hE hS hK hP [] rfl) rfl rfl hl.1 rfl (lv_room (Nat.le_of_ble_eq_true rfl)) dX4_isSetting_55 ⟨Nat.le_of_ble_eq_true rfl, Nat.le_of_ble_eq_true rfl⟩) hS hP (fun rv9 H locs h8 hP hS => ?_)
  have h8 : rv9 = (if 1 ≤ v ∧ v ≤ 99 then 1 else 0) := h8
  subst h8
  exact gR_iret (v := (if 1 ≤ v ∧ v ≤ 99 then 1 else 0)) hx hb hr hlk (nar_b _) hS (rfl) dX4_isSetting_58

set_option maxHeartbeats 4000000 in
set_option maxRecDepth 100000 in
theorem c_X4_set (l : Launch) (D : va_G) (K : Nat → ClassId) (m0 : Nat) (m1 : Nat) (m2 : Nat) (m3 : Nat) (m4 : Nat) (m5 : Nat) (m6 : Nat) (m7 : Nat) (m8 : Nat) (m9 : Nat) (m10 : Nat) (th : Int32) (sy : Nat) (ly : Nat) (py : Nat) (ay : Nat) (iw : Bool) (ty : Nat) (hy : Int64) (n : Nat) (mask : Int32) (vf : Nat → Int32) (sf : Nat → Int32) (z : Nat → Wd) (q : Int32) (v : Int32) (hsy : sy ≤ 6) : MWi l yX4_set wsX4_set ({ frames := 2, cells := 0, slots := 0, locals := 43 } : Room) D (gTy K) [.ref m0, .int q, .int v] [(m0, .inr (4, [.int th, .ref m1, .ref m2, .ref m3, .int (nI sy), .ref m4, .int (nI ly), .ref m5, .ref m6, .int (nI py), .ref m7, .ref m8, .ref m9, .int (nI ay), .int (if iw = true then 1 else 0), .ref m10, .int (nI ty), .long hy])), (m1, .inl (K 0, 22, .inl (mst n mask vf sf))), (m3, .inl (K 0, 132, .inl (msv z)))] (fun (u : Wd × (Nat → Wd) × Nat × Int32) => [(m0, .inr (4, [.int u.2.2.2, .ref m1, .ref m2, .ref m3, .int (nI u.2.2.1), .ref m4, .int (nI ly), .ref m5, .ref m6, .int (nI py), .ref m7, .ref m8, .ref m9, .int (nI ay), .int (if iw = true then 1 else 0), .ref m10, .int (nI ty), .long hy])), (m1, .inl (K 0, 22, .inl (mst u.1.1 u.1.2.1 u.1.2.2.1 u.1.2.2.2))), (m3, .inl (K 0, 132, .inl (msv u.2.1)))]) (fun r (u : Wd × (Nat → Wd) × Nat × Int32) => (thSet q v = 0 ∧ u = ((n, mask, vf, upd sf q.toNatClampNeg v), mzS z sy (n, mask, vf, sf), svC sy, 0) ∧ r = sf q.toNatClampNeg) ∨ (¬ thSet q v = 0 ∧ u = ((n, mask, vf, sf), z, sy, nI (thSet q v)) ∧ r = 0)) 0 0 := by
  refine g_ofW (Qc := fun A => va_Qi _ (gB D (gTy K) A _) A) (cc := cX4_set) (maxL := 4) (ret := (some .int)) (own := RX4) (by decide) rfl rfl (Nat.le_of_ble_eq_true rfl) ?_
  intro pp ee s mm below meth cc A hfx hnm hK hP hD hE hS hA ls hl
  obtain ⟨hx, hb, hr, hml, hown, hts, hlk⟩ := hfx
  have hl : lv_has ls 4 [(0, .ref m0), (1, .int q), (2, .int v)] := hl
  have hi4 : ∀ w ∈ u_ws RX4 TX4 18, w ∈ wsX4_set := fun w h => List.mem_cons_of_mem _ (List.mem_append_right _ (h))
  refine lv_aload_n hx hb dX4_set_0 rfl (lv_at hl 0 rfl) ?_
  refine lv_iconst (v := 0) hx hb dX4_set_1 (by decide) ?_
  refine va_put (D := D) (ci := 4) (v := .int 0) (ty := .int) (C := RX4) (T := TX4) (N := 18) hx hb hts hi4 tyX4 tyX4_ok nmX4 hown hK hP hD hS 0 rfl rfl 0 (by decide) (hts (.fieldLink RX4 40 "PairedChannelsModel" "thrown" "I") (List.mem_of_getElem? (i := 1) (by decide +kernel))) (fun _ h9 => h9) rfl (by decide +kernel) (rfl) (rfl) (Nat.le_of_ble_eq_true rfl) dX4_set_2 (fun H locs hP hD hS => ?_)
  have hP : va_P D vwCl [(m0, .inr (4, [.int 0, .ref m1, .ref m2, .ref m3, .int (nI sy), .ref m4, .int (nI ly), .ref m5, .ref m6, .int (nI py), .ref m7, .ref m8, .ref m9, .int (nI ay), .int (if iw = true then 1 else 0), .ref m10, .int (nI ty), .long hy])), (m1, .inl (K 0, 22, .inl (mst n mask vf sf))), (m3, .inl (K 0, 132, .inl (msv z)))] _ := hP
  have hD : va_D A [(m0, .inr (4, [.int 0, .ref m1, .ref m2, .ref m3, .int (nI sy), .ref m4, .int (nI ly), .ref m5, .ref m6, .int (nI py), .ref m7, .ref m8, .ref m9, .int (nI ay), .int (if iw = true then 1 else 0), .ref m10, .int (nI ty), .long hy])), (m1, .inl (K 0, 22, .inl (mst n mask vf sf))), (m3, .inl (K 0, 132, .inl (msv z)))] := hD
  refine lv_iload_n hx hb dX4_set_5 rfl (lv_at hl 1 rfl) ?_
  refine lv_iconst (v := 0) hx hb dX4_set_6 (by decide) ?_
  refine lv_iconst (v := 3) hx hb dX4_set_7 (by decide) ?_
  refine gR_i (va_runS (As := [.int q, .int 0, .int 3]) (rest := []) ⟨hx, hb, hml, hown, hts⟩ (c_X4_in l D K q 0 3 ) (va_cwS 3 hts gX4_set_X4_in rfl rfl rfl (by decide +kernel) ⟨Nat.le_of_ble_eq_true rfl, Nat.le_of_ble_eq_true rfl⟩) (gR_pre hE hS hK hP [] rfl) rfl rfl hl.1 rfl (lv_room (Nat.le_of_ble_eq_true rfl)) dX4_set_8 ⟨Nat.le_of_ble_eq_true rfl, Nat.le_of_ble_eq_true rfl⟩) hS hP (fun rv2 H locs h1 hP hS => ?_)
  have h1 : rv2 = (if 0 ≤ q ∧ q ≤ 3 then 1 else 0) := h1
  subst h1
  refine lv_if_ne (tgt := 20) hx hb dX4_set_11 (by decide) (fun c11 => ?_) (fun c11 => ?_)
  · skip
    have c11 : 0 ≤ q ∧ q ≤ 3 := b_ne0 c11
    have hq4 : 0 ≤ q ∧ q < nI 4 := ⟨c11.1, le3_lt4 c11.2⟩
    refine lv_iload_n hx hb dX4_set_20 rfl (lv_at hl 1 rfl) ?_
    refine lv_iload_n hx hb dX4_set_21 rfl (lv_at hl 2 rfl) ?_
    refine gR_i (va_runS (As := [.int q, .int v]) (rest := []) ⟨hx, hb, hml, hown, hts⟩ (c_X4_isSetting l D K q v (c11)) (va_cwS 2 hts gX4_set_X4_isSetting rfl rfl rfl (by decide +kernel) ⟨Nat.le_of_ble_eq_true rfl, Nat.le_of_ble_eq_true rfl⟩) (gR_pre hE hS hK hP [] rfl) rfl rfl hl.1 rfl (lv_room (Nat.le_of_ble_eq_true rfl)) dX4_set_22 ⟨Nat.le_of_ble_eq_true rfl, Nat.le_of_ble_eq_true rfl⟩) hS hP (fun rv5 H locs h4 hP hS => ?_)
    have h4 : rv5 = (if tL q.toNatClampNeg ≤ v ∧ v ≤ tM q.toNatClampNeg then 1 else 0) := h4
    subst h4
    refine lv_if_ne (tgt := 34) hx hb dX4_set_25 (by decide) (fun c25 => ?_) (fun c25 => ?_)
    · skip
      have c25 : tL q.toNatClampNeg ≤ v ∧ v ≤ tM q.toNatClampNeg := b_ne0 c25
      obtain ⟨j, hj, ej⟩ := in_nat (by omega) hq4
      have ekc : q.toNatClampNeg = j := by rw [ej, nI_clamp (by omega)]
      have hth : thSet q v = 0 := by unfold thSet; exact (if_pos (show 0 ≤ q ∧ q < 4 from hq4)).trans (if_pos c25)
      subst ej
      rw [ekc]
      refine lv_aload_n hx hb dX4_set_34 rfl (lv_at hl 0 rfl) ?_
      refine gW_v (wr := []) (W2 := (fun (u : Unit) => [(m0, .inr (4, [.int 0, .ref m1, .ref m2, .ref m3, .int (nI (svC sy)), .ref m4, .int (nI ly), .ref m5, .ref m6, .int (nI py), .ref m7, .ref m8, .ref m9, .int (nI ay), .int (if iw = true then 1 else 0), .ref m10, .int (nI ty), .long hy])), (m1, .inl (K 0, 22, .inl (mst n mask vf sf))), (m3, .inl (K 0, 132, .inl (msv (mzS z sy (n, mask, vf, sf)))))])) (va_runV (As := []) (rest := []) ⟨hx, hb, hml, hown, hts⟩ ((c_X4_saves l D K m0 m1 m2 m3 m4 m5 m6 m7 m8 m9 m10 0 sy ly py ay iw ty hy n mask vf sf z (by first | assumption | omega)) _) (cwV 0 hts gX4_set_X4_saves rfl rfl rfl (by decide +kernel) ⟨Nat.le_of_ble_eq_true rfl, Nat.le_of_ble_eq_true rfl⟩) (gW_preV hE hS hK hP hD hA [0, 1, 2] rfl (by decide) 0 rfl rfl rfl) rfl rfl hl.1 rfl (lv_room (Nat.le_of_ble_eq_true rfl)) dX4_set_35 ⟨Nat.le_of_ble_eq_true rfl, Nat.le_of_ble_eq_true rfl⟩) hS hP hD hA [0, 1, 2] [] [0, 1, 2] rfl rfl (by decide) (by decide) (by decide) (fun _ => rfl) (fun u7 H locs h8 hP hD hS => ?_)
      have hP : va_P D vwCl [(m0, .inr (4, [.int 0, .ref m1, .ref m2, .ref m3, .int (nI (svC sy)), .ref m4, .int (nI ly), .ref m5, .ref m6, .int (nI py), .ref m7, .ref m8, .ref m9, .int (nI ay), .int (if iw = true then 1 else 0), .ref m10, .int (nI ty), .long hy])), (m1, .inl (K 0, 22, .inl (mst n mask vf sf))), (m3, .inl (K 0, 132, .inl (msv (mzS z sy (n, mask, vf, sf)))))] _ := hP
      have hD : va_D A [(m0, .inr (4, [.int 0, .ref m1, .ref m2, .ref m3, .int (nI (svC sy)), .ref m4, .int (nI ly), .ref m5, .ref m6, .int (nI py), .ref m7, .ref m8, .ref m9, .int (nI ay), .int (if iw = true then 1 else 0), .ref m10, .int (nI ty), .long hy])), (m1, .inl (K 0, 22, .inl (mst n mask vf sf))), (m3, .inl (K 0, 132, .inl (msv (mzS z sy (n, mask, vf, sf)))))] := hD
      refine lv_aload_n hx hb dX4_set_38 rfl (lv_at hl 0 rfl) ?_
      refine va_get (D := D) (ci := 4) (v := .ref m1) (C := RX4) (T := TX4) (N := 18) hx hb hts hi4 hown hK hP 0 rfl rfl 1 (by decide) (hts (.fieldLink RX4 7 "PairedChannelsModel" "s" "[I") (List.mem_of_getElem? (i := 2) (by decide +kernel))) (fun _ h9 => h9) rfl dX4_set_39 ?_
      refine lv_iconst (v := 2) hx hb dX4_set_42 (by decide) ?_
      refine lv_iload_n hx hb dX4_set_43 rfl (lv_at hl 1 rfl) ?_
      refine lv_iadd hx hb dX4_set_44 ?_
      refine lv_eqi (nI (2 + j)) (nI_add 2 j) ?_
      refine wa_iald hx hb hK hP 1 0 rfl rfl (2 + j) rfl (by omega) (by decide) dX4_set_45 ?_
      refine lv_eqi (sf j) (mst_s (by omega)) ?_
      refine lv_istore_n (lv' := [(3, .int (sf j)), (0, .ref m0), (1, .int (nI j)), (2, .int v)]) hx hb dX4_set_46 rfl hl (by decide) rfl (fun ls hl => ?_)
      refine lv_aload_n hx hb dX4_set_47 rfl (lv_at hl 1 rfl) ?_
      refine va_get (D := D) (ci := 4) (v := .ref m1) (C := RX4) (T := TX4) (N := 18) hx hb hts hi4 hown hK hP 0 rfl rfl 1 (by decide) (hts (.fieldLink RX4 7 "PairedChannelsModel" "s" "[I") (List.mem_of_getElem? (i := 2) (by decide +kernel))) (fun _ h9 => h9) rfl dX4_set_48 ?_
      refine lv_iconst (v := 2) hx hb dX4_set_51 (by decide) ?_
      refine lv_iload_n hx hb dX4_set_52 rfl (lv_at hl 2 rfl) ?_
      refine lv_iadd hx hb dX4_set_53 ?_
      refine lv_eqi (nI (2 + j)) (nI_add 2 j) ?_
      refine lv_iload_n hx hb dX4_set_54 rfl (lv_at hl 3 rfl) ?_
      refine wa_iast (x := v) hx hb hK hP hD hS 1 0 rfl rfl (2 + j) rfl (by omega) (by decide) dX4_set_55 (fun H locs hP hD hS => ?_)
      have hP : va_P D vwCl [(m0, .inr (4, [.int 0, .ref m1, .ref m2, .ref m3, .int (nI (svC sy)), .ref m4, .int (nI ly), .ref m5, .ref m6, .int (nI py), .ref m7, .ref m8, .ref m9, .int (nI ay), .int (if iw = true then 1 else 0), .ref m10, .int (nI ty), .long hy])), (m1, .inl (K 0, 22, .inl (upd (mst n mask vf sf) (2 + j) v))), (m3, .inl (K 0, 132, .inl (msv (mzS z sy (n, mask, vf, sf)))))] _ := hP
      have hD : va_D A [(m0, .inr (4, [.int 0, .ref m1, .ref m2, .ref m3, .int (nI (svC sy)), .ref m4, .int (nI ly), .ref m5, .ref m6, .int (nI py), .ref m7, .ref m8, .ref m9, .int (nI ay), .int (if iw = true then 1 else 0), .ref m10, .int (nI ty), .long hy])), (m1, .inl (K 0, 22, .inl (upd (mst n mask vf sf) (2 + j) v))), (m3, .inl (K 0, 132, .inl (msv (mzS z sy (n, mask, vf, sf)))))] := hD
      have e10 : (upd (mst n mask vf sf) (2 + j) v) = (mst n mask vf (upd sf j v)) := mst_us (by omega) _
      rw [e10] at hP hD
      have hP : va_P D vwCl [(m0, .inr (4, [.int 0, .ref m1, .ref m2, .ref m3, .int (nI (svC sy)), .ref m4, .int (nI ly), .ref m5, .ref m6, .int (nI py), .ref m7, .ref m8, .ref m9, .int (nI ay), .int (if iw = true then 1 else 0), .ref m10, .int (nI ty), .long hy])), (m1, .inl (K 0, 22, .inl (mst n mask vf (upd sf j v)))), (m3, .inl (K 0, 132, .inl (msv (mzS z sy (n, mask, vf, sf)))))] _ := hP
      have hD : va_D A [(m0, .inr (4, [.int 0, .ref m1, .ref m2, .ref m3, .int (nI (svC sy)), .ref m4, .int (nI ly), .ref m5, .ref m6, .int (nI py), .ref m7, .ref m8, .ref m9, .int (nI ay), .int (if iw = true then 1 else 0), .ref m10, .int (nI ty), .long hy])), (m1, .inl (K 0, 22, .inl (mst n mask vf (upd sf j v)))), (m3, .inl (K 0, 132, .inl (msv (mzS z sy (n, mask, vf, sf)))))] := hD
      refine lv_iload_n hx hb dX4_set_56 rfl (lv_at hl 0 rfl) ?_
      exact gW_iret (v := sf j) ((n, mask, vf, upd sf j v), mzS z sy (n, mask, vf, sf), svC sy, 0) hx hb hr hlk (rfl) hK hP hD hS (Or.inl ⟨hth, rfl, rfl⟩) dX4_set_57
    · skip
      have c25 : ¬ (tL q.toNatClampNeg ≤ v ∧ v ≤ tM q.toNatClampNeg) := b_eq0 c25
      refine lv_aload_n hx hb dX4_set_28 rfl (lv_at hl 0 rfl) ?_
      refine lv_iconst (v := 2) hx hb dX4_set_29 (by decide) ?_
      refine gW_i (wr := [(m1, .inl (K 0, 22, .inl (mst n mask vf sf))), (m3, .inl (K 0, 132, .inl (msv z)))]) (W2 := (fun (u : Unit) => [(m0, .inr (4, [.int 2, .ref m1, .ref m2, .ref m3, .int (nI sy), .ref m4, .int (nI ly), .ref m5, .ref m6, .int (nI py), .ref m7, .ref m8, .ref m9, .int (nI ay), .int (if iw = true then 1 else 0), .ref m10, .int (nI ty), .long hy])), (m1, .inl (K 0, 22, .inl (mst n mask vf sf))), (m3, .inl (K 0, 132, .inl (msv z)))])) (va_runV (As := [.int 2]) (rest := []) ⟨hx, hb, hml, hown, hts⟩ ((c_X4_fails l D K m0 m1 m2 m3 m4 m5 m6 m7 m8 m9 m10 0 sy ly py ay iw ty hy 2 ) _) (cwV 1 hts gX4_set_X4_fails rfl rfl rfl (by decide +kernel) ⟨Nat.le_of_ble_eq_true rfl, Nat.le_of_ble_eq_true rfl⟩) (gW_preV hE hS hK hP hD hA [0] rfl (by decide) 0 rfl rfl rfl) rfl rfl hl.1 rfl (lv_room (Nat.le_of_ble_eq_true rfl)) dX4_set_30 ⟨Nat.le_of_ble_eq_true rfl, Nat.le_of_ble_eq_true rfl⟩) hS hP hD hA [0] [1, 2] [2, 0, 1] rfl rfl (by decide) (by decide) (by decide) (fun _ => rfl) (fun rv13 u11 H locs h12 hP hD hS => ?_)
      have hP : va_P D vwCl [(m0, .inr (4, [.int 2, .ref m1, .ref m2, .ref m3, .int (nI sy), .ref m4, .int (nI ly), .ref m5, .ref m6, .int (nI py), .ref m7, .ref m8, .ref m9, .int (nI ay), .int (if iw = true then 1 else 0), .ref m10, .int (nI ty), .long hy])), (m1, .inl (K 0, 22, .inl (mst n mask vf sf))), (m3, .inl (K 0, 132, .inl (msv z)))] _ := hP
      have hD : va_D A [(m0, .inr (4, [.int 2, .ref m1, .ref m2, .ref m3, .int (nI sy), .ref m4, .int (nI ly), .ref m5, .ref m6, .int (nI py), .ref m7, .ref m8, .ref m9, .int (nI ay), .int (if iw = true then 1 else 0), .ref m10, .int (nI ty), .long hy])), (m1, .inl (K 0, 22, .inl (mst n mask vf sf))), (m3, .inl (K 0, 132, .inl (msv z)))] := hD
      have h12 : rv13 = 0 := h12
      exact gW_iret (v := rv13) ((n, mask, vf, sf), z, sy, 2) hx hb hr hlk (rfl) hK hP hD hS (Or.inr (by have hh9 : thSet q v = 2 := (by unfold thSet; exact (if_pos (show 0 ≤ q ∧ q < 4 from hq4)).trans (if_neg c25)); rw [hh9]; exact ⟨by decide, rfl, h12⟩)) dX4_set_33
  · skip
    have c11 : ¬ (0 ≤ q ∧ q ≤ 3) := b_eq0 c11
    refine lv_aload_n hx hb dX4_set_14 rfl (lv_at hl 0 rfl) ?_
    refine lv_iconst (v := 1) hx hb dX4_set_15 (by decide) ?_
    refine gW_i (wr := [(m1, .inl (K 0, 22, .inl (mst n mask vf sf))), (m3, .inl (K 0, 132, .inl (msv z)))]) (W2 := (fun (u : Unit) => [(m0, .inr (4, [.int 1, .ref m1, .ref m2, .ref m3, .int (nI sy), .ref m4, .int (nI ly), .ref m5, .ref m6, .int (nI py), .ref m7, .ref m8, .ref m9, .int (nI ay), .int (if iw = true then 1 else 0), .ref m10, .int (nI ty), .long hy])), (m1, .inl (K 0, 22, .inl (mst n mask vf sf))), (m3, .inl (K 0, 132, .inl (msv z)))])) (va_runV (As := [.int 1]) (rest := []) ⟨hx, hb, hml, hown, hts⟩ ((c_X4_fails l D K m0 m1 m2 m3 m4 m5 m6 m7 m8 m9 m10 0 sy ly py ay iw ty hy 1 ) _) (cwV 1 hts gX4_set_X4_fails rfl rfl rfl (by decide +kernel) ⟨Nat.le_of_ble_eq_true rfl, Nat.le_of_ble_eq_true rfl⟩) (gW_preV hE hS hK hP hD hA [0] rfl (by decide) 0 rfl rfl rfl) rfl rfl hl.1 rfl (lv_room (Nat.le_of_ble_eq_true rfl)) dX4_set_16 ⟨Nat.le_of_ble_eq_true rfl, Nat.le_of_ble_eq_true rfl⟩) hS hP hD hA [0] [1, 2] [2, 0, 1] rfl rfl (by decide) (by decide) (by decide) (fun _ => rfl) (fun rv16 u14 H locs h15 hP hD hS => ?_)
    have hP : va_P D vwCl [(m0, .inr (4, [.int 1, .ref m1, .ref m2, .ref m3, .int (nI sy), .ref m4, .int (nI ly), .ref m5, .ref m6, .int (nI py), .ref m7, .ref m8, .ref m9, .int (nI ay), .int (if iw = true then 1 else 0), .ref m10, .int (nI ty), .long hy])), (m1, .inl (K 0, 22, .inl (mst n mask vf sf))), (m3, .inl (K 0, 132, .inl (msv z)))] _ := hP
    have hD : va_D A [(m0, .inr (4, [.int 1, .ref m1, .ref m2, .ref m3, .int (nI sy), .ref m4, .int (nI ly), .ref m5, .ref m6, .int (nI py), .ref m7, .ref m8, .ref m9, .int (nI ay), .int (if iw = true then 1 else 0), .ref m10, .int (nI ty), .long hy])), (m1, .inl (K 0, 22, .inl (mst n mask vf sf))), (m3, .inl (K 0, 132, .inl (msv z)))] := hD
    have h15 : rv16 = 0 := h15
    exact gW_iret (v := rv16) ((n, mask, vf, sf), z, sy, 1) hx hb hr hlk (rfl) hK hP hD hS (Or.inr (by have hh9 : thSet q v = 1 := (by unfold thSet; exact if_neg (fun h => c11 ⟨h.1, lt4_le3 h.2⟩)); rw [hh9]; exact ⟨by decide, rfl, h15⟩)) dX4_set_19

set_option maxHeartbeats 4000000 in
set_option maxRecDepth 100000 in
theorem c_X4_send (l : Launch) (D : va_G) (K : Nat → ClassId) (m0 : Nat) (m1 : Nat) (m2 : Nat) (m3 : Nat) (m4 : Nat) (m5 : Nat) (m6 : Nat) (m7 : Nat) (m8 : Nat) (m9 : Nat) (m10 : Nat) (th : Int32) (sy : Nat) (ly : Nat) (py : Nat) (ay : Nat) (iw : Bool) (ty : Nat) (hy : Int64) (n : Nat) (mask : Int32) (vf : Nat → Int32) (sf : Nat → Int32) (z : Nat → Wd) (b : Int32) (hsy : sy ≤ 6) (hn : okN n) (hsf : okS sf) : MWi l yX4_send wsX4_send ({ frames := 6, cells := 0, slots := 0, locals := 128 } : Room) D (gTy K) [.ref m0, .int b] [(m0, .inr (4, [.int th, .ref m1, .ref m2, .ref m3, .int (nI sy), .ref m4, .int (nI ly), .ref m5, .ref m6, .int (nI py), .ref m7, .ref m8, .ref m9, .int (nI ay), .int (if iw = true then 1 else 0), .ref m10, .int (nI ty), .long hy])), (m1, .inl (K 0, 22, .inl (mst n mask vf sf))), (m3, .inl (K 0, 132, .inl (msv z)))] (fun (u : Wd × (Nat → Wd) × Nat × Int32) => [(m0, .inr (4, [.int u.2.2.2, .ref m1, .ref m2, .ref m3, .int (nI u.2.2.1), .ref m4, .int (nI ly), .ref m5, .ref m6, .int (nI py), .ref m7, .ref m8, .ref m9, .int (nI ay), .int (if iw = true then 1 else 0), .ref m10, .int (nI ty), .long hy])), (m1, .inl (K 0, 22, .inl (mst u.1.1 u.1.2.1 u.1.2.2.1 u.1.2.2.2))), (m3, .inl (K 0, 132, .inl (msv u.2.1)))]) (fun r (u : Wd × (Nat → Wd) × Nat × Int32) => (thBody n mask sf b = 0 ∧ u = ((n, mask, sndV n (wof n mask (wck n mask sf b)) (sf 3) vf, sf), mzS z sy (n, mask, vf, sf), svC sy, 0) ∧ r = wof n mask (wck n mask sf b)) ∨ (¬ thBody n mask sf b = 0 ∧ u = ((n, mask, vf, sf), z, sy, nI (thBody n mask sf b)) ∧ r = 0)) 0 0 := by
  refine g_ofW (Qc := fun A => va_Qi _ (gB D (gTy K) A _) A) (cc := cX4_send) (maxL := 4) (ret := (some .int)) (own := RX4) (by decide) rfl rfl (Nat.le_of_ble_eq_true rfl) ?_
  intro pp ee s mm below meth cc A hfx hnm hK hP hD hE hS hA ls hl
  obtain ⟨hx, hb, hr, hml, hown, hts, hlk⟩ := hfx
  have hl : lv_has ls 4 [(0, .ref m0), (1, .int b)] := hl
  have hi4 : ∀ w ∈ u_ws RX4 TX4 18, w ∈ wsX4_send := fun w h => List.mem_cons_of_mem _ (List.mem_append_right _ (h))
  have hnl := hn.le
  refine lv_aload_n hx hb dX4_send_0 rfl (lv_at hl 0 rfl) ?_
  refine lv_iconst (v := 0) hx hb dX4_send_1 (by decide) ?_
  refine va_put (D := D) (ci := 4) (v := .int 0) (ty := .int) (C := RX4) (T := TX4) (N := 18) hx hb hts hi4 tyX4 tyX4_ok nmX4 hown hK hP hD hS 0 rfl rfl 0 (by decide) (hts (.fieldLink RX4 40 "PairedChannelsModel" "thrown" "I") (List.mem_of_getElem? (i := 1) (by decide +kernel))) (fun _ h9 => h9) rfl (by decide +kernel) (rfl) (rfl) (Nat.le_of_ble_eq_true rfl) dX4_send_2 (fun H locs hP hD hS => ?_)
  have hP : va_P D vwCl [(m0, .inr (4, [.int 0, .ref m1, .ref m2, .ref m3, .int (nI sy), .ref m4, .int (nI ly), .ref m5, .ref m6, .int (nI py), .ref m7, .ref m8, .ref m9, .int (nI ay), .int (if iw = true then 1 else 0), .ref m10, .int (nI ty), .long hy])), (m1, .inl (K 0, 22, .inl (mst n mask vf sf))), (m3, .inl (K 0, 132, .inl (msv z)))] _ := hP
  have hD : va_D A [(m0, .inr (4, [.int 0, .ref m1, .ref m2, .ref m3, .int (nI sy), .ref m4, .int (nI ly), .ref m5, .ref m6, .int (nI py), .ref m7, .ref m8, .ref m9, .int (nI ay), .int (if iw = true then 1 else 0), .ref m10, .int (nI ty), .long hy])), (m1, .inl (K 0, 22, .inl (mst n mask vf sf))), (m3, .inl (K 0, 132, .inl (msv z)))] := hD
  refine lv_aload_n hx hb dX4_send_5 rfl (lv_at hl 0 rfl) ?_
  refine lv_iload_n hx hb dX4_send_6 rfl (lv_at hl 1 rfl) ?_
  refine gR_i (va_runV (As := [.int b]) (rest := []) ⟨hx, hb, hml, hown, hts⟩ (c_X4_isBody l D K m0 m1 m2 m3 m4 m5 m6 m7 m8 m9 m10 0 sy ly py ay iw ty hy n mask vf sf b (by first | assumption | omega) (by first | assumption | omega)) (cwV 1 hts gX4_send_X4_isBody rfl rfl rfl (by decide +kernel) ⟨Nat.le_of_ble_eq_true rfl, Nat.le_of_ble_eq_true rfl⟩) (gR_preV hE hS hK hP [0, 1] rfl 0 rfl rfl rfl) rfl rfl hl.1 rfl (lv_room (Nat.le_of_ble_eq_true rfl)) dX4_send_7 ⟨Nat.le_of_ble_eq_true rfl, Nat.le_of_ble_eq_true rfl⟩) hS hP (fun rv2 H locs h1 hP hS => ?_)
  have h1 : rv2 = (if 0 ≤ b ∧ b >>> (nI (bdB mask n sf) &&& 31) = 0 then 1 else 0) := h1
  subst h1
  refine lv_if_ne (tgt := 19) hx hb dX4_send_10 (by decide) (fun c8 => ?_) (fun c8 => ?_)
  · skip
    have c8 : 0 ≤ b ∧ b >>> (nI (bdB mask n sf) &&& 31) = 0 := b_ne0 c8
    refine lv_aload_n hx hb dX4_send_19 rfl (lv_at hl 0 rfl) ?_
    refine gW_v (wr := []) (W2 := (fun (u : Unit) => [(m0, .inr (4, [.int 0, .ref m1, .ref m2, .ref m3, .int (nI (svC sy)), .ref m4, .int (nI ly), .ref m5, .ref m6, .int (nI py), .ref m7, .ref m8, .ref m9, .int (nI ay), .int (if iw = true then 1 else 0), .ref m10, .int (nI ty), .long hy])), (m1, .inl (K 0, 22, .inl (mst n mask vf sf))), (m3, .inl (K 0, 132, .inl (msv (mzS z sy (n, mask, vf, sf)))))])) (va_runV (As := []) (rest := []) ⟨hx, hb, hml, hown, hts⟩ ((c_X4_saves l D K m0 m1 m2 m3 m4 m5 m6 m7 m8 m9 m10 0 sy ly py ay iw ty hy n mask vf sf z (by first | assumption | omega)) _) (cwV 0 hts gX4_send_X4_saves rfl rfl rfl (by decide +kernel) ⟨Nat.le_of_ble_eq_true rfl, Nat.le_of_ble_eq_true rfl⟩) (gW_preV hE hS hK hP hD hA [0, 1, 2] rfl (by decide) 0 rfl rfl rfl) rfl rfl hl.1 rfl (lv_room (Nat.le_of_ble_eq_true rfl)) dX4_send_20 ⟨Nat.le_of_ble_eq_true rfl, Nat.le_of_ble_eq_true rfl⟩) hS hP hD hA [0, 1, 2] [] [0, 1, 2] rfl rfl (by decide) (by decide) (by decide) (fun _ => rfl) (fun u4 H locs h5 hP hD hS => ?_)
    have hP : va_P D vwCl [(m0, .inr (4, [.int 0, .ref m1, .ref m2, .ref m3, .int (nI (svC sy)), .ref m4, .int (nI ly), .ref m5, .ref m6, .int (nI py), .ref m7, .ref m8, .ref m9, .int (nI ay), .int (if iw = true then 1 else 0), .ref m10, .int (nI ty), .long hy])), (m1, .inl (K 0, 22, .inl (mst n mask vf sf))), (m3, .inl (K 0, 132, .inl (msv (mzS z sy (n, mask, vf, sf)))))] _ := hP
    have hD : va_D A [(m0, .inr (4, [.int 0, .ref m1, .ref m2, .ref m3, .int (nI (svC sy)), .ref m4, .int (nI ly), .ref m5, .ref m6, .int (nI py), .ref m7, .ref m8, .ref m9, .int (nI ay), .int (if iw = true then 1 else 0), .ref m10, .int (nI ty), .long hy])), (m1, .inl (K 0, 22, .inl (mst n mask vf sf))), (m3, .inl (K 0, 132, .inl (msv (mzS z sy (n, mask, vf, sf)))))] := hD
    refine lv_aload_n hx hb dX4_send_23 rfl (lv_at hl 0 rfl) ?_
    refine lv_iload_n hx hb dX4_send_24 rfl (lv_at hl 1 rfl) ?_
    refine gR_i (va_runV (As := [.int b]) (rest := []) ⟨hx, hb, hml, hown, hts⟩ (c_X4_wordOf l D K m0 m1 m2 m3 m4 m5 m6 m7 m8 m9 m10 0 (svC sy) ly py ay iw ty hy n mask vf sf b (by first | assumption | omega) (by first | assumption | omega)) (cwV 1 hts gX4_send_X4_wordOf rfl rfl rfl (by decide +kernel) ⟨Nat.le_of_ble_eq_true rfl, Nat.le_of_ble_eq_true rfl⟩) (gR_preV hE hS hK hP [0, 1] rfl 0 rfl rfl rfl) rfl rfl hl.1 rfl (lv_room (Nat.le_of_ble_eq_true rfl)) dX4_send_25 ⟨Nat.le_of_ble_eq_true rfl, Nat.le_of_ble_eq_true rfl⟩) hS hP (fun rv8 H locs h7 hP hS => ?_)
    have h7 : rv8 = wof n mask (wck n mask sf b) := h7
    subst h7
    refine lv_istore_n (lv' := [(2, .int (wof n mask (wck n mask sf b))), (0, .ref m0), (1, .int b)]) hx hb dX4_send_28 rfl hl (by decide) rfl (fun ls hl => ?_)
    refine lv_iconst (v := 0) hx hb dX4_send_29 (by decide) ?_
    refine lv_istore_n (lv' := [(3, .int 0), (2, .int (wof n mask (wck n mask sf b))), (0, .ref m0), (1, .int b)]) hx hb dX4_send_30 rfl hl (by decide) rfl (fun ls hl => ?_)
    refine g_loopW (st := []) (N := n) (fun i H locs ls => ∃ v2 : Nat → Int32, (∀ j, j < 16 → v2 j = (if j < i then (if bitI (wof n mask (wck n mask sf b)) j = 1 then -(sf 3) else sf 3) else vf j)) ∧ va_P D vwCl [(m0, .inr (4, [.int 0, .ref m1, .ref m2, .ref m3, .int (nI (svC sy)), .ref m4, .int (nI ly), .ref m5, .ref m6, .int (nI py), .ref m7, .ref m8, .ref m9, .int (nI ay), .int (if iw = true then 1 else 0), .ref m10, .int (nI ty), .long hy])), (m1, .inl (K 0, 22, .inl (mst n mask v2 sf))), (m3, .inl (K 0, 132, .inl (msv (mzS z sy (n, mask, vf, sf)))))] H ∧ va_D A [(m0, .inr (4, [.int 0, .ref m1, .ref m2, .ref m3, .int (nI (svC sy)), .ref m4, .int (nI ly), .ref m5, .ref m6, .int (nI py), .ref m7, .ref m8, .ref m9, .int (nI ay), .int (if iw = true then 1 else 0), .ref m10, .int (nI ty), .long hy])), (m1, .inl (K 0, 22, .inl (mst n mask v2 sf))), (m3, .inl (K 0, 132, .inl (msv (mzS z sy (n, mask, vf, sf)))))] ∧ va_S A s.heap H locs ∧ lv_has ls 4 [(3, .int (nI i)), (2, .int (wof n mask (wck n mask sf b))), (0, .ref m0), (1, .int b)]) 0 (Nat.zero_le _) ?_ ?_ ?_
    · intro H locs ls hI
      obtain ⟨v2, hh, hP, hD, hS, hl⟩ := hI
      refine lv_iload_n hx hb dX4_send_31 rfl (lv_at hl 0 rfl) ?_
      refine lv_aload_n hx hb dX4_send_32 rfl (lv_at hl 2 rfl) ?_
      refine va_get (D := D) (ci := 4) (v := .ref m1) (C := RX4) (T := TX4) (N := 18) hx hb hts hi4 hown hK hP 0 rfl rfl 1 (by decide) (hts (.fieldLink RX4 7 "PairedChannelsModel" "s" "[I") (List.mem_of_getElem? (i := 2) (by decide +kernel))) (fun _ h9 => h9) rfl dX4_send_33 ?_
      refine lv_iconst (v := 0) hx hb dX4_send_36 (by decide) ?_
      refine wa_iald hx hb hK hP 1 0 rfl rfl (0) rfl (by omega) (by decide) dX4_send_37 ?_
      refine lv_eqi (nI n) (rfl) ?_
      refine lv_icmp_ge (tgt := 81) hx hb dX4_send_38 (by decide) (fun c10 => ?_) (fun c10 => ?_)
      · skip
        have c10 : n ≤ n := (nI_leI (a := n) (b := n) (by omega) (by omega)).mp c10
        have hP : va_P D vwCl [(m0, .inr (4, [.int 0, .ref m1, .ref m2, .ref m3, .int (nI (svC sy)), .ref m4, .int (nI ly), .ref m5, .ref m6, .int (nI py), .ref m7, .ref m8, .ref m9, .int (nI ay), .int (if iw = true then 1 else 0), .ref m10, .int (nI ty), .long hy])), (m1, .inl (K 0, 22, .inl (mst n mask (sndV n (wof n mask (wck n mask sf b)) (sf 3) vf) sf))), (m3, .inl (K 0, 132, .inl (msv (mzS z sy (n, mask, vf, sf)))))] _ := gP_ext hP 1 rfl (mst_ext (fun j hj => hh j hj))
        have hD : va_D A [(m0, .inr (4, [.int 0, .ref m1, .ref m2, .ref m3, .int (nI (svC sy)), .ref m4, .int (nI ly), .ref m5, .ref m6, .int (nI py), .ref m7, .ref m8, .ref m9, .int (nI ay), .int (if iw = true then 1 else 0), .ref m10, .int (nI ty), .long hy])), (m1, .inl (K 0, 22, .inl (mst n mask (sndV n (wof n mask (wck n mask sf b)) (sf 3) vf) sf))), (m3, .inl (K 0, 132, .inl (msv (mzS z sy (n, mask, vf, sf)))))] := gD_ext hD 1 rfl
        refine lv_iload_n hx hb dX4_send_81 rfl (lv_at hl 1 rfl) ?_
        exact gW_iret (v := wof n mask (wck n mask sf b)) ((n, mask, sndV n (wof n mask (wck n mask sf b)) (sf 3) vf, sf), mzS z sy (n, mask, vf, sf), svC sy, 0) hx hb hr hlk (rfl) hK hP hD hS (Or.inl ⟨by unfold thBody; rw [if_pos c8], rfl, rfl⟩) dX4_send_82
      · skip
        have c10 : ¬ n ≤ n := fun h9 => c10 ((nI_leI (a := n) (b := n) (by omega) (by omega)).mpr h9)
        omega
    · intro i hi ih9 H locs ls hI
      obtain ⟨v2, hh, hP, hD, hS, hl⟩ := hI
      refine lv_iload_n hx hb dX4_send_31 rfl (lv_at hl 0 rfl) ?_
      refine lv_aload_n hx hb dX4_send_32 rfl (lv_at hl 2 rfl) ?_
      refine va_get (D := D) (ci := 4) (v := .ref m1) (C := RX4) (T := TX4) (N := 18) hx hb hts hi4 hown hK hP 0 rfl rfl 1 (by decide) (hts (.fieldLink RX4 7 "PairedChannelsModel" "s" "[I") (List.mem_of_getElem? (i := 2) (by decide +kernel))) (fun _ h9 => h9) rfl dX4_send_33 ?_
      refine lv_iconst (v := 0) hx hb dX4_send_36 (by decide) ?_
      refine wa_iald hx hb hK hP 1 0 rfl rfl (0) rfl (by omega) (by decide) dX4_send_37 ?_
      refine lv_eqi (nI n) (rfl) ?_
      refine lv_icmp_ge (tgt := 81) hx hb dX4_send_38 (by decide) (fun c11 => ?_) (fun c11 => ?_)
      · skip
        have c11 : n ≤ i := (nI_leI (a := n) (b := i) (by omega) (by omega)).mp c11
        omega
      · skip
        have c11 : ¬ n ≤ i := fun h9 => c11 ((nI_leI (a := n) (b := i) (by omega) (by omega)).mpr h9)
        refine lv_aload_n hx hb dX4_send_41 rfl (lv_at hl 2 rfl) ?_
        refine va_get (D := D) (ci := 4) (v := .ref m1) (C := RX4) (T := TX4) (N := 18) hx hb hts hi4 hown hK hP 0 rfl rfl 1 (by decide) (hts (.fieldLink RX4 7 "PairedChannelsModel" "s" "[I") (List.mem_of_getElem? (i := 2) (by decide +kernel))) (fun _ h9 => h9) rfl dX4_send_42 ?_
        refine lv_bipush (v := 6) hx hb dX4_send_45 (by decide) ?_
        refine lv_iload_n hx hb dX4_send_47 rfl (lv_at hl 0 rfl) ?_
        refine lv_iadd hx hb dX4_send_48 ?_
        refine lv_eqi (nI (6 + i)) (nI_add 6 i) ?_
        refine lv_iload_n hx hb dX4_send_49 rfl (lv_at hl 1 rfl) ?_
        refine lv_iload_n hx hb dX4_send_50 rfl (lv_at hl 0 rfl) ?_
        refine lv_ishr hx hb dX4_send_51 ?_
        refine lv_iconst (v := 1) hx hb dX4_send_52 (by decide) ?_
        refine lv_iand hx hb dX4_send_53 ?_
        refine lv_eqi (bitI (wof n mask (wck n mask sf b)) i) rfl ?_
        refine lv_iconst (v := 1) hx hb dX4_send_54 (by decide) ?_
        refine g_cut (F0 mm 74 ls [.int (if bitI (wof n mask (wck n mask sf b)) i = 1 then (-(sf 3)) else sf 3), .int (nI (6 + i)), .ref m1]) (fun hJ => ?_) ?_
        · refine lv_icmp_ne (tgt := 68) hx hb dX4_send_55 (by decide) (fun c12 => ?_) (fun c12 => ?_)
          · skip
            refine lv_aload_n hx hb dX4_send_68 rfl (lv_at hl 2 rfl) ?_
            refine va_get (D := D) (ci := 4) (v := .ref m1) (C := RX4) (T := TX4) (N := 18) hx hb hts hi4 hown hK hP 0 rfl rfl 1 (by decide) (hts (.fieldLink RX4 7 "PairedChannelsModel" "s" "[I") (List.mem_of_getElem? (i := 2) (by decide +kernel))) (fun _ h9 => h9) rfl dX4_send_69 ?_
            refine lv_iconst (v := 5) hx hb dX4_send_72 (by decide) ?_
            refine wa_iald hx hb hK hP 1 0 rfl rfl (5) rfl (by omega) (by decide) dX4_send_73 ?_
            refine lv_eqi (sf 3) (rfl) ?_
            refine lv_eqi ((if bitI (wof n mask (wck n mask sf b)) i = 1 then (-(sf 3)) else sf 3)) (if_neg c12).symm ?_
            exact hJ
          · skip
            refine lv_aload_n hx hb dX4_send_58 rfl (lv_at hl 2 rfl) ?_
            refine va_get (D := D) (ci := 4) (v := .ref m1) (C := RX4) (T := TX4) (N := 18) hx hb hts hi4 hown hK hP 0 rfl rfl 1 (by decide) (hts (.fieldLink RX4 7 "PairedChannelsModel" "s" "[I") (List.mem_of_getElem? (i := 2) (by decide +kernel))) (fun _ h9 => h9) rfl dX4_send_59 ?_
            refine lv_iconst (v := 5) hx hb dX4_send_62 (by decide) ?_
            refine wa_iald hx hb hK hP 1 0 rfl rfl (5) rfl (by omega) (by decide) dX4_send_63 ?_
            refine lv_eqi (sf 3) (rfl) ?_
            refine lv_ineg hx hb dX4_send_64 ?_
            refine lv_goto (tgt := 74) hx hb dX4_send_65 (by decide) ?_
            refine lv_eqi ((if bitI (wof n mask (wck n mask sf b)) i = 1 then (-(sf 3)) else sf 3)) (if_pos c12).symm ?_
            exact hJ
        · skip
          refine wa_iast (x := (if bitI (wof n mask (wck n mask sf b)) i = 1 then (-(sf 3)) else sf 3)) hx hb hK hP hD hS 1 0 rfl rfl (6 + i) rfl (by omega) (by decide) dX4_send_74 (fun H locs hP hD hS => ?_)
          have hP : va_P D vwCl [(m0, .inr (4, [.int 0, .ref m1, .ref m2, .ref m3, .int (nI (svC sy)), .ref m4, .int (nI ly), .ref m5, .ref m6, .int (nI py), .ref m7, .ref m8, .ref m9, .int (nI ay), .int (if iw = true then 1 else 0), .ref m10, .int (nI ty), .long hy])), (m1, .inl (K 0, 22, .inl (upd (mst n mask v2 sf) (6 + i) (if bitI (wof n mask (wck n mask sf b)) i = 1 then (-(sf 3)) else sf 3)))), (m3, .inl (K 0, 132, .inl (msv (mzS z sy (n, mask, vf, sf)))))] _ := hP
          have hD : va_D A [(m0, .inr (4, [.int 0, .ref m1, .ref m2, .ref m3, .int (nI (svC sy)), .ref m4, .int (nI ly), .ref m5, .ref m6, .int (nI py), .ref m7, .ref m8, .ref m9, .int (nI ay), .int (if iw = true then 1 else 0), .ref m10, .int (nI ty), .long hy])), (m1, .inl (K 0, 22, .inl (upd (mst n mask v2 sf) (6 + i) (if bitI (wof n mask (wck n mask sf b)) i = 1 then (-(sf 3)) else sf 3)))), (m3, .inl (K 0, 132, .inl (msv (mzS z sy (n, mask, vf, sf)))))] := hD
          have e13 : (upd (mst n mask v2 sf) (6 + i) (if bitI (wof n mask (wck n mask sf b)) i = 1 then (-(sf 3)) else sf 3)) = (mst n mask (upd v2 i (if bitI (wof n mask (wck n mask sf b)) i = 1 then (-(sf 3)) else sf 3)) sf) := mst_up _ _
          rw [e13] at hP hD
          have hP : va_P D vwCl [(m0, .inr (4, [.int 0, .ref m1, .ref m2, .ref m3, .int (nI (svC sy)), .ref m4, .int (nI ly), .ref m5, .ref m6, .int (nI py), .ref m7, .ref m8, .ref m9, .int (nI ay), .int (if iw = true then 1 else 0), .ref m10, .int (nI ty), .long hy])), (m1, .inl (K 0, 22, .inl (mst n mask (upd v2 i (if bitI (wof n mask (wck n mask sf b)) i = 1 then (-(sf 3)) else sf 3)) sf))), (m3, .inl (K 0, 132, .inl (msv (mzS z sy (n, mask, vf, sf)))))] _ := hP
          have hD : va_D A [(m0, .inr (4, [.int 0, .ref m1, .ref m2, .ref m3, .int (nI (svC sy)), .ref m4, .int (nI ly), .ref m5, .ref m6, .int (nI py), .ref m7, .ref m8, .ref m9, .int (nI ay), .int (if iw = true then 1 else 0), .ref m10, .int (nI ty), .long hy])), (m1, .inl (K 0, 22, .inl (mst n mask (upd v2 i (if bitI (wof n mask (wck n mask sf b)) i = 1 then (-(sf 3)) else sf 3)) sf))), (m3, .inl (K 0, 132, .inl (msv (mzS z sy (n, mask, vf, sf)))))] := hD
          refine lv_iinc (v := nI (i + 1)) (lv' := [(3, .int (nI (i + 1))), (2, .int (wof n mask (wck n mask sf b))), (0, .ref m0), (1, .int b)]) hx hb dX4_send_75 hl (k := 0) rfl (nI_add i 1) (by decide) rfl (fun ls hl => ?_)
          refine lv_goto (tgt := 31) hx hb dX4_send_78 (by decide) ?_
          exact ih9 H locs ls ⟨(upd v2 i (if bitI (wof n mask (wck n mask sf b)) i = 1 then (-(sf 3)) else sf 3)), (fun j hj => by by_cases e : j = i; subst e; rw [pk_us]; exact g_ip (Nat.lt_succ_self _) rfl; rw [pk_un e, hh j hj]; exact g_iff (by omega) _ _), hP, hD, hS, lv_sub hl [0, 1, 2, 3] rfl⟩
    · exact ⟨vf, (fun j hj => by rw [if_neg (Nat.not_lt_zero j)]), hP, hD, hS, lv_sub hl [0, 1, 2, 3] rfl⟩
  · skip
    have c8 : ¬ (0 ≤ b ∧ b >>> (nI (bdB mask n sf) &&& 31) = 0) := b_eq0 c8
    refine lv_aload_n hx hb dX4_send_13 rfl (lv_at hl 0 rfl) ?_
    refine lv_iconst (v := 1) hx hb dX4_send_14 (by decide) ?_
    refine gW_i (wr := [(m1, .inl (K 0, 22, .inl (mst n mask vf sf))), (m3, .inl (K 0, 132, .inl (msv z)))]) (W2 := (fun (u : Unit) => [(m0, .inr (4, [.int 1, .ref m1, .ref m2, .ref m3, .int (nI sy), .ref m4, .int (nI ly), .ref m5, .ref m6, .int (nI py), .ref m7, .ref m8, .ref m9, .int (nI ay), .int (if iw = true then 1 else 0), .ref m10, .int (nI ty), .long hy])), (m1, .inl (K 0, 22, .inl (mst n mask vf sf))), (m3, .inl (K 0, 132, .inl (msv z)))])) (va_runV (As := [.int 1]) (rest := []) ⟨hx, hb, hml, hown, hts⟩ ((c_X4_fails l D K m0 m1 m2 m3 m4 m5 m6 m7 m8 m9 m10 0 sy ly py ay iw ty hy 1 ) _) (cwV 1 hts gX4_send_X4_fails rfl rfl rfl (by decide +kernel) ⟨Nat.le_of_ble_eq_true rfl, Nat.le_of_ble_eq_true rfl⟩) (gW_preV hE hS hK hP hD hA [0] rfl (by decide) 0 rfl rfl rfl) rfl rfl hl.1 rfl (lv_room (Nat.le_of_ble_eq_true rfl)) dX4_send_15 ⟨Nat.le_of_ble_eq_true rfl, Nat.le_of_ble_eq_true rfl⟩) hS hP hD hA [0] [1, 2] [2, 0, 1] rfl rfl (by decide) (by decide) (by decide) (fun _ => rfl) (fun rv16 u14 H locs h15 hP hD hS => ?_)
    have hP : va_P D vwCl [(m0, .inr (4, [.int 1, .ref m1, .ref m2, .ref m3, .int (nI sy), .ref m4, .int (nI ly), .ref m5, .ref m6, .int (nI py), .ref m7, .ref m8, .ref m9, .int (nI ay), .int (if iw = true then 1 else 0), .ref m10, .int (nI ty), .long hy])), (m1, .inl (K 0, 22, .inl (mst n mask vf sf))), (m3, .inl (K 0, 132, .inl (msv z)))] _ := hP
    have hD : va_D A [(m0, .inr (4, [.int 1, .ref m1, .ref m2, .ref m3, .int (nI sy), .ref m4, .int (nI ly), .ref m5, .ref m6, .int (nI py), .ref m7, .ref m8, .ref m9, .int (nI ay), .int (if iw = true then 1 else 0), .ref m10, .int (nI ty), .long hy])), (m1, .inl (K 0, 22, .inl (mst n mask vf sf))), (m3, .inl (K 0, 132, .inl (msv z)))] := hD
    have h15 : rv16 = 0 := h15
    exact gW_iret (v := rv16) ((n, mask, vf, sf), z, sy, 1) hx hb hr hlk (rfl) hK hP hD hS (Or.inr (by have hh9 : thBody n mask sf b = 1 := (by unfold thBody; rw [if_neg c8]); rw [hh9]; exact ⟨by decide, rfl, h15⟩)) dX4_send_18
