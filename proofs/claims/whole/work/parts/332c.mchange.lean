set_option maxHeartbeats 4000000 in
set_option maxRecDepth 100000 in
theorem c_X4_sign (l : Launch) (D : va_G) (K : Nat → ClassId) (v : Int32)  : MRi l yX4_sign wsX4_sign ({ frames := 0, cells := 0, slots := 0, locals := 0 } : Room) D (gTy K) [.int v] [] (fun r => r = sgnI v) := by
  refine g_ofR (cc := cX4_sign) (maxL := 1) (ret := (some .int)) (own := RX4) (by decide) rfl rfl (Nat.le_of_ble_eq_true rfl) ?_
  intro pp ee s mm below meth cc hfx hK hP hE hS ls hl
  obtain ⟨hx, hb, hr, hml, hown, hts, hlk⟩ := hfx
  have hl : lv_has ls 1 [(0, .int v)] := hl
  refine lv_iload_n hx hb dX4_sign_0 rfl (lv_at hl 0 rfl) ?_
  refine lv_if_le (tgt := 8) hx hb dX4_sign_1 (by decide) (fun c1 => ?_) (fun c1 => ?_)
  · skip
    refine lv_iload_n hx hb dX4_sign_8 rfl (lv_at hl 0 rfl) ?_
    refine lv_if_ge (tgt := 16) hx hb dX4_sign_9 (by decide) (fun c9 => ?_) (fun c9 => ?_)
    · skip
      refine lv_iconst (v := 0) hx hb dX4_sign_16 (by decide) ?_
      exact gR_iret (v := 0) hx hb hr hlk (rfl) hS (by first | exact sgn_1 (Int32.not_le.mp c1) | exact sgn_2 (Int32.not_lt.mpr c1) (Int32.not_le.mp c9) | exact sgn_3 (Int32.not_lt.mpr c1) (Int32.not_lt.mpr c9)) dX4_sign_17
    · skip
      refine lv_iconst (v := (-1)) hx hb dX4_sign_12 (by decide) ?_
      refine lv_goto (tgt := 17) hx hb dX4_sign_13 (by decide) ?_
      exact gR_iret (v := (-1)) hx hb hr hlk (rfl) hS (by first | exact sgn_1 (Int32.not_le.mp c1) | exact sgn_2 (Int32.not_lt.mpr c1) (Int32.not_le.mp c9) | exact sgn_3 (Int32.not_lt.mpr c1) (Int32.not_lt.mpr c9)) dX4_sign_17
  · skip
    refine lv_iconst (v := 1) hx hb dX4_sign_4 (by decide) ?_
    refine lv_goto (tgt := 17) hx hb dX4_sign_5 (by decide) ?_
    exact gR_iret (v := 1) hx hb hr hlk (rfl) hS (by first | exact sgn_1 (Int32.not_le.mp c1) | exact sgn_2 (Int32.not_lt.mpr c1) (Int32.not_le.mp c9) | exact sgn_3 (Int32.not_lt.mpr c1) (Int32.not_lt.mpr c9)) dX4_sign_17

set_option maxHeartbeats 4000000 in
set_option maxRecDepth 100000 in
theorem c_X4_receive (l : Launch) (D : va_G) (K : Nat → ClassId) (m0 : Nat) (m1 : Nat) (m2 : Nat) (m3 : Nat) (m4 : Nat) (m5 : Nat) (m6 : Nat) (m7 : Nat) (m8 : Nat) (m9 : Nat) (m10 : Nat) (th : Int32) (sy : Nat) (ly : Nat) (py : Nat) (ay : Nat) (iw : Bool) (ty : Nat) (hy : Int64) (n : Nat) (mask : Int32) (vf : Nat → Int32) (sf : Nat → Int32) (z : Nat → Wd) (k : Int32) (v : Int32) (hsy : sy ≤ 6) (hn : okN n) : MWi l yX4_receive wsX4_receive ({ frames := 2, cells := 0, slots := 0, locals := 43 } : Room) D (gTy K) [.ref m0, .int k, .int v] [(m0, .inr (4, [.int th, .ref m1, .ref m2, .ref m3, .int (nI sy), .ref m4, .int (nI ly), .ref m5, .ref m6, .int (nI py), .ref m7, .ref m8, .ref m9, .int (nI ay), .int (if iw = true then 1 else 0), .ref m10, .int (nI ty), .long hy])), (m1, .inl (K 0, 22, .inl (mst n mask vf sf))), (m3, .inl (K 0, 132, .inl (msv z)))] (fun (u : Wd × (Nat → Wd) × Nat × Int32) => [(m0, .inr (4, [.int u.2.2.2, .ref m1, .ref m2, .ref m3, .int (nI u.2.2.1), .ref m4, .int (nI ly), .ref m5, .ref m6, .int (nI py), .ref m7, .ref m8, .ref m9, .int (nI ay), .int (if iw = true then 1 else 0), .ref m10, .int (nI ty), .long hy])), (m1, .inl (K 0, 22, .inl (mst u.1.1 u.1.2.1 u.1.2.2.1 u.1.2.2.2))), (m3, .inl (K 0, 132, .inl (msv u.2.1)))]) (fun r (u : Wd × (Nat → Wd) × Nat × Int32) => (thRecv n k v = 0 ∧ u = ((n, mask, upd vf k.toNatClampNeg v, sf), mzS z sy (n, mask, vf, sf), svC sy, 0) ∧ r = (if (0 < vf k.toNatClampNeg ↔ 0 < v) ∧ (vf k.toNatClampNeg < 0 ↔ v < 0) then 0 else 1)) ∨ (¬ thRecv n k v = 0 ∧ u = ((n, mask, vf, sf), z, sy, nI (thRecv n k v)) ∧ r = 0)) 0 0 := by
  refine g_ofW (Qc := fun A => va_Qi _ (gB D (gTy K) A _) A) (cc := cX4_receive) (maxL := 4) (ret := (some .int)) (own := RX4) (by decide) rfl rfl (Nat.le_of_ble_eq_true rfl) ?_
  intro pp ee s mm below meth cc A hfx hnm hK hP hD hE hS hA ls hl
  obtain ⟨hx, hb, hr, hml, hown, hts, hlk⟩ := hfx
  have hl : lv_has ls 4 [(0, .ref m0), (1, .int k), (2, .int v)] := hl
  have hi4 : ∀ w ∈ u_ws RX4 TX4 18, w ∈ wsX4_receive := fun w h => List.mem_cons_of_mem _ (List.mem_append_right _ (h))
  have hnl := hn.le
  refine lv_aload_n hx hb dX4_receive_0 rfl (lv_at hl 0 rfl) ?_
  refine lv_iconst (v := 0) hx hb dX4_receive_1 (by decide) ?_
  refine va_put (D := D) (ci := 4) (v := .int 0) (ty := .int) (C := RX4) (T := TX4) (N := 18) hx hb hts hi4 tyX4 tyX4_ok nmX4 hown hK hP hD hS 0 rfl rfl 0 (by decide) (hts (.fieldLink RX4 40 "PairedChannelsModel" "thrown" "I") (List.mem_of_getElem? (i := 1) (by decide +kernel))) (fun _ h9 => h9) rfl (by decide +kernel) (rfl) (rfl) (Nat.le_of_ble_eq_true rfl) dX4_receive_2 (fun H locs hP hD hS => ?_)
  have hP : va_P D vwCl [(m0, .inr (4, [.int 0, .ref m1, .ref m2, .ref m3, .int (nI sy), .ref m4, .int (nI ly), .ref m5, .ref m6, .int (nI py), .ref m7, .ref m8, .ref m9, .int (nI ay), .int (if iw = true then 1 else 0), .ref m10, .int (nI ty), .long hy])), (m1, .inl (K 0, 22, .inl (mst n mask vf sf))), (m3, .inl (K 0, 132, .inl (msv z)))] _ := hP
  have hD : va_D A [(m0, .inr (4, [.int 0, .ref m1, .ref m2, .ref m3, .int (nI sy), .ref m4, .int (nI ly), .ref m5, .ref m6, .int (nI py), .ref m7, .ref m8, .ref m9, .int (nI ay), .int (if iw = true then 1 else 0), .ref m10, .int (nI ty), .long hy])), (m1, .inl (K 0, 22, .inl (mst n mask vf sf))), (m3, .inl (K 0, 132, .inl (msv z)))] := hD
  refine lv_aload_n hx hb dX4_receive_5 rfl (lv_at hl 0 rfl) ?_
  refine lv_iload_n hx hb dX4_receive_6 rfl (lv_at hl 1 rfl) ?_
  refine gR_i (va_runV (As := [.int k]) (rest := []) ⟨hx, hb, hml, hown, hts⟩ (c_X4_isPlace l D K m0 m1 m2 m3 m4 m5 m6 m7 m8 m9 m10 0 sy ly py ay iw ty hy n mask vf sf k (by first | assumption | omega)) (cwV 1 hts gX4_receive_X4_isPlace rfl rfl rfl (by decide +kernel) ⟨Nat.le_of_ble_eq_true rfl, Nat.le_of_ble_eq_true rfl⟩) (gR_preV hE hS hK hP [0, 1] rfl 0 rfl rfl rfl) rfl rfl hl.1 rfl (lv_room (Nat.le_of_ble_eq_true rfl)) dX4_receive_7 ⟨Nat.le_of_ble_eq_true rfl, Nat.le_of_ble_eq_true rfl⟩) hS hP (fun rv2 H locs h1 hP hS => ?_)
  have h1 : rv2 = (if 0 ≤ k ∧ k < nI n then 1 else 0) := h1
  subst h1
  refine lv_if_ne (tgt := 19) hx hb dX4_receive_10 (by decide) (fun c8 => ?_) (fun c8 => ?_)
  · skip
    have c8 : 0 ≤ k ∧ k < nI n := b_ne0 c8
    refine lv_iload_n hx hb dX4_receive_19 rfl (lv_at hl 2 rfl) ?_
    refine lv_bipush (v := (-99)) hx hb dX4_receive_20 (by decide) ?_
    refine lv_bipush (v := 99) hx hb dX4_receive_22 (by decide) ?_
    refine gR_i (va_runS (As := [.int v, .int (-99), .int 99]) (rest := []) ⟨hx, hb, hml, hown, hts⟩ (c_X4_in l D K v (-99) 99 ) (va_cwS 3 hts gX4_receive_X4_in rfl rfl rfl (by decide +kernel) ⟨Nat.le_of_ble_eq_true rfl, Nat.le_of_ble_eq_true rfl⟩) (gR_pre hE hS hK hP [] rfl) rfl rfl hl.1 rfl (lv_room (Nat.le_of_ble_eq_true rfl)) dX4_receive_24 ⟨Nat.le_of_ble_eq_true rfl, Nat.le_of_ble_eq_true rfl⟩) hS hP (fun rv5 H locs h4 hP hS => ?_)
    have h4 : rv5 = (if (-99) ≤ v ∧ v ≤ 99 then 1 else 0) := h4
    subst h4
    refine lv_if_ne (tgt := 36) hx hb dX4_receive_27 (by decide) (fun c27 => ?_) (fun c27 => ?_)
    · skip
      have c27 : (-99) ≤ v ∧ v ≤ 99 := b_ne0 c27
      obtain ⟨j, hj, ej⟩ := in_nat (by omega) c8
      have ekc : k.toNatClampNeg = j := by rw [ej, nI_clamp (by omega)]
      have hth : thRecv n k v = 0 := by unfold thRecv; exact (if_pos c8).trans (if_pos c27)
      subst ej
      rw [ekc]
      refine lv_aload_n hx hb dX4_receive_36 rfl (lv_at hl 0 rfl) ?_
      refine gW_v (wr := []) (W2 := (fun (u : Unit) => [(m0, .inr (4, [.int 0, .ref m1, .ref m2, .ref m3, .int (nI (svC sy)), .ref m4, .int (nI ly), .ref m5, .ref m6, .int (nI py), .ref m7, .ref m8, .ref m9, .int (nI ay), .int (if iw = true then 1 else 0), .ref m10, .int (nI ty), .long hy])), (m1, .inl (K 0, 22, .inl (mst n mask vf sf))), (m3, .inl (K 0, 132, .inl (msv (mzS z sy (n, mask, vf, sf)))))])) (va_runV (As := []) (rest := []) ⟨hx, hb, hml, hown, hts⟩ ((c_X4_saves l D K m0 m1 m2 m3 m4 m5 m6 m7 m8 m9 m10 0 sy ly py ay iw ty hy n mask vf sf z (by first | assumption | omega)) _) (cwV 0 hts gX4_receive_X4_saves rfl rfl rfl (by decide +kernel) ⟨Nat.le_of_ble_eq_true rfl, Nat.le_of_ble_eq_true rfl⟩) (gW_preV hE hS hK hP hD hA [0, 1, 2] rfl (by decide) 0 rfl rfl rfl) rfl rfl hl.1 rfl (lv_room (Nat.le_of_ble_eq_true rfl)) dX4_receive_37 ⟨Nat.le_of_ble_eq_true rfl, Nat.le_of_ble_eq_true rfl⟩) hS hP hD hA [0, 1, 2] [] [0, 1, 2] rfl rfl (by decide) (by decide) (by decide) (fun _ => rfl) (fun u7 H locs h8 hP hD hS => ?_)
      have hP : va_P D vwCl [(m0, .inr (4, [.int 0, .ref m1, .ref m2, .ref m3, .int (nI (svC sy)), .ref m4, .int (nI ly), .ref m5, .ref m6, .int (nI py), .ref m7, .ref m8, .ref m9, .int (nI ay), .int (if iw = true then 1 else 0), .ref m10, .int (nI ty), .long hy])), (m1, .inl (K 0, 22, .inl (mst n mask vf sf))), (m3, .inl (K 0, 132, .inl (msv (mzS z sy (n, mask, vf, sf)))))] _ := hP
      have hD : va_D A [(m0, .inr (4, [.int 0, .ref m1, .ref m2, .ref m3, .int (nI (svC sy)), .ref m4, .int (nI ly), .ref m5, .ref m6, .int (nI py), .ref m7, .ref m8, .ref m9, .int (nI ay), .int (if iw = true then 1 else 0), .ref m10, .int (nI ty), .long hy])), (m1, .inl (K 0, 22, .inl (mst n mask vf sf))), (m3, .inl (K 0, 132, .inl (msv (mzS z sy (n, mask, vf, sf)))))] := hD
      refine lv_aload_n hx hb dX4_receive_40 rfl (lv_at hl 0 rfl) ?_
      refine va_get (D := D) (ci := 4) (v := .ref m1) (C := RX4) (T := TX4) (N := 18) hx hb hts hi4 hown hK hP 0 rfl rfl 1 (by decide) (hts (.fieldLink RX4 7 "PairedChannelsModel" "s" "[I") (List.mem_of_getElem? (i := 2) (by decide +kernel))) (fun _ h9 => h9) rfl dX4_receive_41 ?_
      refine lv_bipush (v := 6) hx hb dX4_receive_44 (by decide) ?_
      refine lv_iload_n hx hb dX4_receive_46 rfl (lv_at hl 1 rfl) ?_
      refine lv_iadd hx hb dX4_receive_47 ?_
      refine lv_eqi (nI (6 + j)) (nI_add 6 j) ?_
      refine wa_iald hx hb hK hP 1 0 rfl rfl (6 + j) rfl (by omega) (by decide) dX4_receive_48 ?_
      refine lv_eqi (vf j) (mst_p _) ?_
      refine lv_istore_n (lv' := [(3, .int (vf j)), (0, .ref m0), (1, .int (nI j)), (2, .int v)]) hx hb dX4_receive_49 rfl hl (by decide) rfl (fun ls hl => ?_)
      refine lv_aload_n hx hb dX4_receive_50 rfl (lv_at hl 1 rfl) ?_
      refine va_get (D := D) (ci := 4) (v := .ref m1) (C := RX4) (T := TX4) (N := 18) hx hb hts hi4 hown hK hP 0 rfl rfl 1 (by decide) (hts (.fieldLink RX4 7 "PairedChannelsModel" "s" "[I") (List.mem_of_getElem? (i := 2) (by decide +kernel))) (fun _ h9 => h9) rfl dX4_receive_51 ?_
      refine lv_bipush (v := 6) hx hb dX4_receive_54 (by decide) ?_
      refine lv_iload_n hx hb dX4_receive_56 rfl (lv_at hl 2 rfl) ?_
      refine lv_iadd hx hb dX4_receive_57 ?_
      refine lv_eqi (nI (6 + j)) (nI_add 6 j) ?_
      refine lv_iload_n hx hb dX4_receive_58 rfl (lv_at hl 3 rfl) ?_
      refine wa_iast (x := v) hx hb hK hP hD hS 1 0 rfl rfl (6 + j) rfl (by omega) (by decide) dX4_receive_59 (fun H locs hP hD hS => ?_)
      have hP : va_P D vwCl [(m0, .inr (4, [.int 0, .ref m1, .ref m2, .ref m3, .int (nI (svC sy)), .ref m4, .int (nI ly), .ref m5, .ref m6, .int (nI py), .ref m7, .ref m8, .ref m9, .int (nI ay), .int (if iw = true then 1 else 0), .ref m10, .int (nI ty), .long hy])), (m1, .inl (K 0, 22, .inl (upd (mst n mask vf sf) (6 + j) v))), (m3, .inl (K 0, 132, .inl (msv (mzS z sy (n, mask, vf, sf)))))] _ := hP
      have hD : va_D A [(m0, .inr (4, [.int 0, .ref m1, .ref m2, .ref m3, .int (nI (svC sy)), .ref m4, .int (nI ly), .ref m5, .ref m6, .int (nI py), .ref m7, .ref m8, .ref m9, .int (nI ay), .int (if iw = true then 1 else 0), .ref m10, .int (nI ty), .long hy])), (m1, .inl (K 0, 22, .inl (upd (mst n mask vf sf) (6 + j) v))), (m3, .inl (K 0, 132, .inl (msv (mzS z sy (n, mask, vf, sf)))))] := hD
      have e10 : (upd (mst n mask vf sf) (6 + j) v) = (mst n mask (upd vf j v) sf) := mst_up _ _
      rw [e10] at hP hD
      have hP : va_P D vwCl [(m0, .inr (4, [.int 0, .ref m1, .ref m2, .ref m3, .int (nI (svC sy)), .ref m4, .int (nI ly), .ref m5, .ref m6, .int (nI py), .ref m7, .ref m8, .ref m9, .int (nI ay), .int (if iw = true then 1 else 0), .ref m10, .int (nI ty), .long hy])), (m1, .inl (K 0, 22, .inl (mst n mask (upd vf j v) sf))), (m3, .inl (K 0, 132, .inl (msv (mzS z sy (n, mask, vf, sf)))))] _ := hP
      have hD : va_D A [(m0, .inr (4, [.int 0, .ref m1, .ref m2, .ref m3, .int (nI (svC sy)), .ref m4, .int (nI ly), .ref m5, .ref m6, .int (nI py), .ref m7, .ref m8, .ref m9, .int (nI ay), .int (if iw = true then 1 else 0), .ref m10, .int (nI ty), .long hy])), (m1, .inl (K 0, 22, .inl (mst n mask (upd vf j v) sf))), (m3, .inl (K 0, 132, .inl (msv (mzS z sy (n, mask, vf, sf)))))] := hD
      refine lv_iload_n hx hb dX4_receive_60 rfl (lv_at hl 0 rfl) ?_
      refine gR_i (va_runS (As := [.int (vf j)]) (rest := []) ⟨hx, hb, hml, hown, hts⟩ (c_X4_sign l D K (vf j) ) (va_cwS 1 hts gX4_receive_X4_sign rfl rfl rfl (by decide +kernel) ⟨Nat.le_of_ble_eq_true rfl, Nat.le_of_ble_eq_true rfl⟩) (gR_pre hE hS hK hP [] rfl) rfl rfl hl.1 rfl (lv_room (Nat.le_of_ble_eq_true rfl)) dX4_receive_61 ⟨Nat.le_of_ble_eq_true rfl, Nat.le_of_ble_eq_true rfl⟩) hS hP (fun rv12 H locs h11 hP hS => ?_)
      have h11 : rv12 = sgnI (vf j) := h11
      subst h11
      refine lv_iload_n hx hb dX4_receive_64 rfl (lv_at hl 3 rfl) ?_
      refine gR_i (va_runS (As := [.int v]) (rest := [.int (sgnI (vf j))]) ⟨hx, hb, hml, hown, hts⟩ (c_X4_sign l D K v ) (va_cwS 1 hts gX4_receive_X4_sign rfl rfl rfl (by decide +kernel) ⟨Nat.le_of_ble_eq_true rfl, Nat.le_of_ble_eq_true rfl⟩) (gR_pre hE hS hK hP [] rfl) rfl rfl hl.1 rfl (lv_room (Nat.le_of_ble_eq_true rfl)) dX4_receive_65 ⟨Nat.le_of_ble_eq_true rfl, Nat.le_of_ble_eq_true rfl⟩) hS hP (fun rv14 H locs h13 hP hS => ?_)
      have h13 : rv14 = sgnI v := h13
      subst h13
      refine g_cut (F0 mm 76 ls [.int (if ¬ (sgnI (vf j) = sgnI v) then 1 else 0)]) (fun hJ => ?_) ?_
      · refine lv_icmp_ne (tgt := 75) hx hb dX4_receive_68 (by decide) (fun c15 => ?_) (fun c15 => ?_)
        · skip
          refine lv_iconst (v := 1) hx hb dX4_receive_75 (by decide) ?_
          refine lv_eqi ((if ¬ (sgnI (vf j) = sgnI v) then 1 else 0)) (if_pos c15).symm ?_
          exact hJ
        · skip
          refine lv_iconst (v := 0) hx hb dX4_receive_71 (by decide) ?_
          refine lv_goto (tgt := 76) hx hb dX4_receive_72 (by decide) ?_
          refine lv_eqi ((if ¬ (sgnI (vf j) = sgnI v) then 1 else 0)) (if_neg (fun h => h c15)).symm ?_
          exact hJ
      · skip
        refine lv_eqi ((if (0 < vf j ↔ 0 < v) ∧ (vf j < 0 ↔ v < 0) then 0 else 1)) (sgn_eq _ _) ?_
        exact gW_iret (v := (if (0 < vf j ↔ 0 < v) ∧ (vf j < 0 ↔ v < 0) then 0 else 1)) ((n, mask, upd vf j v, sf), mzS z sy (n, mask, vf, sf), svC sy, 0) hx hb hr hlk (rfl) hK hP hD hS (Or.inl ⟨hth, rfl, rfl⟩) dX4_receive_76
    · skip
      have c27 : ¬ ((-99) ≤ v ∧ v ≤ 99) := b_eq0 c27
      refine lv_aload_n hx hb dX4_receive_30 rfl (lv_at hl 0 rfl) ?_
      refine lv_iconst (v := 2) hx hb dX4_receive_31 (by decide) ?_
      refine gW_i (wr := [(m1, .inl (K 0, 22, .inl (mst n mask vf sf))), (m3, .inl (K 0, 132, .inl (msv z)))]) (W2 := (fun (u : Unit) => [(m0, .inr (4, [.int 2, .ref m1, .ref m2, .ref m3, .int (nI sy), .ref m4, .int (nI ly), .ref m5, .ref m6, .int (nI py), .ref m7, .ref m8, .ref m9, .int (nI ay), .int (if iw = true then 1 else 0), .ref m10, .int (nI ty), .long hy])), (m1, .inl (K 0, 22, .inl (mst n mask vf sf))), (m3, .inl (K 0, 132, .inl (msv z)))])) (va_runV (As := [.int 2]) (rest := []) ⟨hx, hb, hml, hown, hts⟩ ((c_X4_fails l D K m0 m1 m2 m3 m4 m5 m6 m7 m8 m9 m10 0 sy ly py ay iw ty hy 2 ) _) (cwV 1 hts gX4_receive_X4_fails rfl rfl rfl (by decide +kernel) ⟨Nat.le_of_ble_eq_true rfl, Nat.le_of_ble_eq_true rfl⟩) (gW_preV hE hS hK hP hD hA [0] rfl (by decide) 0 rfl rfl rfl) rfl rfl hl.1 rfl (lv_room (Nat.le_of_ble_eq_true rfl)) dX4_receive_32 ⟨Nat.le_of_ble_eq_true rfl, Nat.le_of_ble_eq_true rfl⟩) hS hP hD hA [0] [1, 2] [2, 0, 1] rfl rfl (by decide) (by decide) (by decide) (fun _ => rfl) (fun rv19 u17 H locs h18 hP hD hS => ?_)
      have hP : va_P D vwCl [(m0, .inr (4, [.int 2, .ref m1, .ref m2, .ref m3, .int (nI sy), .ref m4, .int (nI ly), .ref m5, .ref m6, .int (nI py), .ref m7, .ref m8, .ref m9, .int (nI ay), .int (if iw = true then 1 else 0), .ref m10, .int (nI ty), .long hy])), (m1, .inl (K 0, 22, .inl (mst n mask vf sf))), (m3, .inl (K 0, 132, .inl (msv z)))] _ := hP
      have hD : va_D A [(m0, .inr (4, [.int 2, .ref m1, .ref m2, .ref m3, .int (nI sy), .ref m4, .int (nI ly), .ref m5, .ref m6, .int (nI py), .ref m7, .ref m8, .ref m9, .int (nI ay), .int (if iw = true then 1 else 0), .ref m10, .int (nI ty), .long hy])), (m1, .inl (K 0, 22, .inl (mst n mask vf sf))), (m3, .inl (K 0, 132, .inl (msv z)))] := hD
      have h18 : rv19 = 0 := h18
      exact gW_iret (v := rv19) ((n, mask, vf, sf), z, sy, 2) hx hb hr hlk (rfl) hK hP hD hS (Or.inr (by have hh9 : thRecv n k v = 2 := (by unfold thRecv; exact (if_pos c8).trans (if_neg c27)); rw [hh9]; exact ⟨by decide, rfl, h18⟩)) dX4_receive_35
  · skip
    have c8 : ¬ (0 ≤ k ∧ k < nI n) := b_eq0 c8
    refine lv_aload_n hx hb dX4_receive_13 rfl (lv_at hl 0 rfl) ?_
    refine lv_iconst (v := 1) hx hb dX4_receive_14 (by decide) ?_
    refine gW_i (wr := [(m1, .inl (K 0, 22, .inl (mst n mask vf sf))), (m3, .inl (K 0, 132, .inl (msv z)))]) (W2 := (fun (u : Unit) => [(m0, .inr (4, [.int 1, .ref m1, .ref m2, .ref m3, .int (nI sy), .ref m4, .int (nI ly), .ref m5, .ref m6, .int (nI py), .ref m7, .ref m8, .ref m9, .int (nI ay), .int (if iw = true then 1 else 0), .ref m10, .int (nI ty), .long hy])), (m1, .inl (K 0, 22, .inl (mst n mask vf sf))), (m3, .inl (K 0, 132, .inl (msv z)))])) (va_runV (As := [.int 1]) (rest := []) ⟨hx, hb, hml, hown, hts⟩ ((c_X4_fails l D K m0 m1 m2 m3 m4 m5 m6 m7 m8 m9 m10 0 sy ly py ay iw ty hy 1 ) _) (cwV 1 hts gX4_receive_X4_fails rfl rfl rfl (by decide +kernel) ⟨Nat.le_of_ble_eq_true rfl, Nat.le_of_ble_eq_true rfl⟩) (gW_preV hE hS hK hP hD hA [0] rfl (by decide) 0 rfl rfl rfl) rfl rfl hl.1 rfl (lv_room (Nat.le_of_ble_eq_true rfl)) dX4_receive_15 ⟨Nat.le_of_ble_eq_true rfl, Nat.le_of_ble_eq_true rfl⟩) hS hP hD hA [0] [1, 2] [2, 0, 1] rfl rfl (by decide) (by decide) (by decide) (fun _ => rfl) (fun rv22 u20 H locs h21 hP hD hS => ?_)
    have hP : va_P D vwCl [(m0, .inr (4, [.int 1, .ref m1, .ref m2, .ref m3, .int (nI sy), .ref m4, .int (nI ly), .ref m5, .ref m6, .int (nI py), .ref m7, .ref m8, .ref m9, .int (nI ay), .int (if iw = true then 1 else 0), .ref m10, .int (nI ty), .long hy])), (m1, .inl (K 0, 22, .inl (mst n mask vf sf))), (m3, .inl (K 0, 132, .inl (msv z)))] _ := hP
    have hD : va_D A [(m0, .inr (4, [.int 1, .ref m1, .ref m2, .ref m3, .int (nI sy), .ref m4, .int (nI ly), .ref m5, .ref m6, .int (nI py), .ref m7, .ref m8, .ref m9, .int (nI ay), .int (if iw = true then 1 else 0), .ref m10, .int (nI ty), .long hy])), (m1, .inl (K 0, 22, .inl (mst n mask vf sf))), (m3, .inl (K 0, 132, .inl (msv z)))] := hD
    have h21 : rv22 = 0 := h21
    exact gW_iret (v := rv22) ((n, mask, vf, sf), z, sy, 1) hx hb hr hlk (rfl) hK hP hD hS (Or.inr (by have hh9 : thRecv n k v = 1 := (by unfold thRecv; rw [if_neg c8]); rw [hh9]; exact ⟨by decide, rfl, h21⟩)) dX4_receive_18

set_option maxHeartbeats 4000000 in
set_option maxRecDepth 100000 in
theorem c_X4_flip (l : Launch) (D : va_G) (K : Nat → ClassId) (m0 : Nat) (m1 : Nat) (m2 : Nat) (m3 : Nat) (m4 : Nat) (m5 : Nat) (m6 : Nat) (m7 : Nat) (m8 : Nat) (m9 : Nat) (m10 : Nat) (th : Int32) (sy : Nat) (ly : Nat) (py : Nat) (ay : Nat) (iw : Bool) (ty : Nat) (hy : Int64) (n : Nat) (mask : Int32) (vf : Nat → Int32) (sf : Nat → Int32) (z : Nat → Wd) (k : Int32) (hsy : sy ≤ 6) (hn : okN n) : MWi l yX4_flip wsX4_flip ({ frames := 2, cells := 0, slots := 0, locals := 43 } : Room) D (gTy K) [.ref m0, .int k] [(m0, .inr (4, [.int th, .ref m1, .ref m2, .ref m3, .int (nI sy), .ref m4, .int (nI ly), .ref m5, .ref m6, .int (nI py), .ref m7, .ref m8, .ref m9, .int (nI ay), .int (if iw = true then 1 else 0), .ref m10, .int (nI ty), .long hy])), (m1, .inl (K 0, 22, .inl (mst n mask vf sf))), (m3, .inl (K 0, 132, .inl (msv z)))] (fun (u : Wd × (Nat → Wd) × Nat × Int32) => [(m0, .inr (4, [.int u.2.2.2, .ref m1, .ref m2, .ref m3, .int (nI u.2.2.1), .ref m4, .int (nI ly), .ref m5, .ref m6, .int (nI py), .ref m7, .ref m8, .ref m9, .int (nI ay), .int (if iw = true then 1 else 0), .ref m10, .int (nI ty), .long hy])), (m1, .inl (K 0, 22, .inl (mst u.1.1 u.1.2.1 u.1.2.2.1 u.1.2.2.2))), (m3, .inl (K 0, 132, .inl (msv u.2.1)))]) (fun r (u : Wd × (Nat → Wd) × Nat × Int32) => (thPl n k = 0 ∧ u = ((n, mask, flp vf k.toNatClampNeg, sf), mzS z sy (n, mask, vf, sf), svC sy, 0) ∧ r = absI (-(vf k.toNatClampNeg))) ∨ (¬ thPl n k = 0 ∧ u = ((n, mask, vf, sf), z, sy, nI (thPl n k)) ∧ r = 0)) 0 0 := by
  refine g_ofW (Qc := fun A => va_Qi _ (gB D (gTy K) A _) A) (cc := cX4_flip) (maxL := 2) (ret := (some .int)) (own := RX4) (by decide) rfl rfl (Nat.le_of_ble_eq_true rfl) ?_
  intro pp ee s mm below meth cc A hfx hnm hK hP hD hE hS hA ls hl
  obtain ⟨hx, hb, hr, hml, hown, hts, hlk⟩ := hfx
  have hl : lv_has ls 2 [(0, .ref m0), (1, .int k)] := hl
  have hi4 : ∀ w ∈ u_ws RX4 TX4 18, w ∈ wsX4_flip := fun w h => List.mem_cons_of_mem _ (List.mem_append_right _ (h))
  have hnl := hn.le
  refine lv_aload_n hx hb dX4_flip_0 rfl (lv_at hl 0 rfl) ?_
  refine lv_iconst (v := 0) hx hb dX4_flip_1 (by decide) ?_
  refine va_put (D := D) (ci := 4) (v := .int 0) (ty := .int) (C := RX4) (T := TX4) (N := 18) hx hb hts hi4 tyX4 tyX4_ok nmX4 hown hK hP hD hS 0 rfl rfl 0 (by decide) (hts (.fieldLink RX4 40 "PairedChannelsModel" "thrown" "I") (List.mem_of_getElem? (i := 1) (by decide +kernel))) (fun _ h9 => h9) rfl (by decide +kernel) (rfl) (rfl) (Nat.le_of_ble_eq_true rfl) dX4_flip_2 (fun H locs hP hD hS => ?_)
  have hP : va_P D vwCl [(m0, .inr (4, [.int 0, .ref m1, .ref m2, .ref m3, .int (nI sy), .ref m4, .int (nI ly), .ref m5, .ref m6, .int (nI py), .ref m7, .ref m8, .ref m9, .int (nI ay), .int (if iw = true then 1 else 0), .ref m10, .int (nI ty), .long hy])), (m1, .inl (K 0, 22, .inl (mst n mask vf sf))), (m3, .inl (K 0, 132, .inl (msv z)))] _ := hP
  have hD : va_D A [(m0, .inr (4, [.int 0, .ref m1, .ref m2, .ref m3, .int (nI sy), .ref m4, .int (nI ly), .ref m5, .ref m6, .int (nI py), .ref m7, .ref m8, .ref m9, .int (nI ay), .int (if iw = true then 1 else 0), .ref m10, .int (nI ty), .long hy])), (m1, .inl (K 0, 22, .inl (mst n mask vf sf))), (m3, .inl (K 0, 132, .inl (msv z)))] := hD
  refine lv_aload_n hx hb dX4_flip_5 rfl (lv_at hl 0 rfl) ?_
  refine lv_iload_n hx hb dX4_flip_6 rfl (lv_at hl 1 rfl) ?_
  refine gR_i (va_runV (As := [.int k]) (rest := []) ⟨hx, hb, hml, hown, hts⟩ (c_X4_isPlace l D K m0 m1 m2 m3 m4 m5 m6 m7 m8 m9 m10 0 sy ly py ay iw ty hy n mask vf sf k (by first | assumption | omega)) (cwV 1 hts gX4_flip_X4_isPlace rfl rfl rfl (by decide +kernel) ⟨Nat.le_of_ble_eq_true rfl, Nat.le_of_ble_eq_true rfl⟩) (gR_preV hE hS hK hP [0, 1] rfl 0 rfl rfl rfl) rfl rfl hl.1 rfl (lv_room (Nat.le_of_ble_eq_true rfl)) dX4_flip_7 ⟨Nat.le_of_ble_eq_true rfl, Nat.le_of_ble_eq_true rfl⟩) hS hP (fun rv2 H locs h1 hP hS => ?_)
  have h1 : rv2 = (if 0 ≤ k ∧ k < nI n then 1 else 0) := h1
  subst h1
  refine lv_if_ne (tgt := 19) hx hb dX4_flip_10 (by decide) (fun c8 => ?_) (fun c8 => ?_)
  · skip
    have c8 : 0 ≤ k ∧ k < nI n := b_ne0 c8
    obtain ⟨j, hj, ej⟩ := in_nat (by omega) c8
    have ekc : k.toNatClampNeg = j := by rw [ej, nI_clamp (by omega)]
    have hth : thPl n k = 0 := by unfold thPl; rw [if_pos c8]
    subst ej
    rw [ekc]
    refine lv_aload_n hx hb dX4_flip_19 rfl (lv_at hl 0 rfl) ?_
    refine gW_v (wr := []) (W2 := (fun (u : Unit) => [(m0, .inr (4, [.int 0, .ref m1, .ref m2, .ref m3, .int (nI (svC sy)), .ref m4, .int (nI ly), .ref m5, .ref m6, .int (nI py), .ref m7, .ref m8, .ref m9, .int (nI ay), .int (if iw = true then 1 else 0), .ref m10, .int (nI ty), .long hy])), (m1, .inl (K 0, 22, .inl (mst n mask vf sf))), (m3, .inl (K 0, 132, .inl (msv (mzS z sy (n, mask, vf, sf)))))])) (va_runV (As := []) (rest := []) ⟨hx, hb, hml, hown, hts⟩ ((c_X4_saves l D K m0 m1 m2 m3 m4 m5 m6 m7 m8 m9 m10 0 sy ly py ay iw ty hy n mask vf sf z (by first | assumption | omega)) _) (cwV 0 hts gX4_flip_X4_saves rfl rfl rfl (by decide +kernel) ⟨Nat.le_of_ble_eq_true rfl, Nat.le_of_ble_eq_true rfl⟩) (gW_preV hE hS hK hP hD hA [0, 1, 2] rfl (by decide) 0 rfl rfl rfl) rfl rfl hl.1 rfl (lv_room (Nat.le_of_ble_eq_true rfl)) dX4_flip_20 ⟨Nat.le_of_ble_eq_true rfl, Nat.le_of_ble_eq_true rfl⟩) hS hP hD hA [0, 1, 2] [] [0, 1, 2] rfl rfl (by decide) (by decide) (by decide) (fun _ => rfl) (fun u4 H locs h5 hP hD hS => ?_)
    have hP : va_P D vwCl [(m0, .inr (4, [.int 0, .ref m1, .ref m2, .ref m3, .int (nI (svC sy)), .ref m4, .int (nI ly), .ref m5, .ref m6, .int (nI py), .ref m7, .ref m8, .ref m9, .int (nI ay), .int (if iw = true then 1 else 0), .ref m10, .int (nI ty), .long hy])), (m1, .inl (K 0, 22, .inl (mst n mask vf sf))), (m3, .inl (K 0, 132, .inl (msv (mzS z sy (n, mask, vf, sf)))))] _ := hP
    have hD : va_D A [(m0, .inr (4, [.int 0, .ref m1, .ref m2, .ref m3, .int (nI (svC sy)), .ref m4, .int (nI ly), .ref m5, .ref m6, .int (nI py), .ref m7, .ref m8, .ref m9, .int (nI ay), .int (if iw = true then 1 else 0), .ref m10, .int (nI ty), .long hy])), (m1, .inl (K 0, 22, .inl (mst n mask vf sf))), (m3, .inl (K 0, 132, .inl (msv (mzS z sy (n, mask, vf, sf)))))] := hD
    refine lv_aload_n hx hb dX4_flip_23 rfl (lv_at hl 0 rfl) ?_
    refine va_get (D := D) (ci := 4) (v := .ref m1) (C := RX4) (T := TX4) (N := 18) hx hb hts hi4 hown hK hP 0 rfl rfl 1 (by decide) (hts (.fieldLink RX4 7 "PairedChannelsModel" "s" "[I") (List.mem_of_getElem? (i := 2) (by decide +kernel))) (fun _ h9 => h9) rfl dX4_flip_24 ?_
    refine lv_bipush (v := 6) hx hb dX4_flip_27 (by decide) ?_
    refine lv_iload_n hx hb dX4_flip_29 rfl (lv_at hl 1 rfl) ?_
    refine lv_iadd hx hb dX4_flip_30 ?_
    refine lv_eqi (nI (6 + j)) (nI_add 6 j) ?_
    refine lv_aload_n hx hb dX4_flip_31 rfl (lv_at hl 0 rfl) ?_
    refine va_get (D := D) (ci := 4) (v := .ref m1) (C := RX4) (T := TX4) (N := 18) hx hb hts hi4 hown hK hP 0 rfl rfl 1 (by decide) (hts (.fieldLink RX4 7 "PairedChannelsModel" "s" "[I") (List.mem_of_getElem? (i := 2) (by decide +kernel))) (fun _ h9 => h9) rfl dX4_flip_32 ?_
    refine lv_bipush (v := 6) hx hb dX4_flip_35 (by decide) ?_
    refine lv_iload_n hx hb dX4_flip_37 rfl (lv_at hl 1 rfl) ?_
    refine lv_iadd hx hb dX4_flip_38 ?_
    refine lv_eqi (nI (6 + j)) (nI_add 6 j) ?_
    refine wa_iald hx hb hK hP 1 0 rfl rfl (6 + j) rfl (by omega) (by decide) dX4_flip_39 ?_
    refine lv_eqi (vf j) (mst_p _) ?_
    refine lv_ineg hx hb dX4_flip_40 ?_
    refine wa_iast (x := (-(vf j))) hx hb hK hP hD hS 1 0 rfl rfl (6 + j) rfl (by omega) (by decide) dX4_flip_41 (fun H locs hP hD hS => ?_)
    have hP : va_P D vwCl [(m0, .inr (4, [.int 0, .ref m1, .ref m2, .ref m3, .int (nI (svC sy)), .ref m4, .int (nI ly), .ref m5, .ref m6, .int (nI py), .ref m7, .ref m8, .ref m9, .int (nI ay), .int (if iw = true then 1 else 0), .ref m10, .int (nI ty), .long hy])), (m1, .inl (K 0, 22, .inl (upd (mst n mask vf sf) (6 + j) (-(vf j))))), (m3, .inl (K 0, 132, .inl (msv (mzS z sy (n, mask, vf, sf)))))] _ := hP
    have hD : va_D A [(m0, .inr (4, [.int 0, .ref m1, .ref m2, .ref m3, .int (nI (svC sy)), .ref m4, .int (nI ly), .ref m5, .ref m6, .int (nI py), .ref m7, .ref m8, .ref m9, .int (nI ay), .int (if iw = true then 1 else 0), .ref m10, .int (nI ty), .long hy])), (m1, .inl (K 0, 22, .inl (upd (mst n mask vf sf) (6 + j) (-(vf j))))), (m3, .inl (K 0, 132, .inl (msv (mzS z sy (n, mask, vf, sf)))))] := hD
    have e7 : (upd (mst n mask vf sf) (6 + j) (-(vf j))) = (mst n mask (upd vf j (-(vf j))) sf) := mst_up _ _
    rw [e7] at hP hD
    have hP : va_P D vwCl [(m0, .inr (4, [.int 0, .ref m1, .ref m2, .ref m3, .int (nI (svC sy)), .ref m4, .int (nI ly), .ref m5, .ref m6, .int (nI py), .ref m7, .ref m8, .ref m9, .int (nI ay), .int (if iw = true then 1 else 0), .ref m10, .int (nI ty), .long hy])), (m1, .inl (K 0, 22, .inl (mst n mask (upd vf j (-(vf j))) sf))), (m3, .inl (K 0, 132, .inl (msv (mzS z sy (n, mask, vf, sf)))))] _ := hP
    have hD : va_D A [(m0, .inr (4, [.int 0, .ref m1, .ref m2, .ref m3, .int (nI (svC sy)), .ref m4, .int (nI ly), .ref m5, .ref m6, .int (nI py), .ref m7, .ref m8, .ref m9, .int (nI ay), .int (if iw = true then 1 else 0), .ref m10, .int (nI ty), .long hy])), (m1, .inl (K 0, 22, .inl (mst n mask (upd vf j (-(vf j))) sf))), (m3, .inl (K 0, 132, .inl (msv (mzS z sy (n, mask, vf, sf)))))] := hD
    refine lv_aload_n hx hb dX4_flip_42 rfl (lv_at hl 0 rfl) ?_
    refine va_get (D := D) (ci := 4) (v := .ref m1) (C := RX4) (T := TX4) (N := 18) hx hb hts hi4 hown hK hP 0 rfl rfl 1 (by decide) (hts (.fieldLink RX4 7 "PairedChannelsModel" "s" "[I") (List.mem_of_getElem? (i := 2) (by decide +kernel))) (fun _ h9 => h9) rfl dX4_flip_43 ?_
    refine lv_bipush (v := 6) hx hb dX4_flip_46 (by decide) ?_
    refine lv_iload_n hx hb dX4_flip_48 rfl (lv_at hl 1 rfl) ?_
    refine lv_iadd hx hb dX4_flip_49 ?_
    refine lv_eqi (nI (6 + j)) (nI_add 6 j) ?_
    refine wa_iald hx hb hK hP 1 0 rfl rfl (6 + j) rfl (by omega) (by decide) dX4_flip_50 ?_
    refine lv_eqi ((upd vf j (-(vf j))) j) (mst_p _) ?_
    refine lv_eqi (-(vf j)) (pk_us) ?_
    refine gR_i (va_runS (As := [.int (-(vf j))]) (rest := []) ⟨hx, hb, hml, hown, hts⟩ (c_X4_size l D K (-(vf j)) ) (va_cwS 1 hts gX4_flip_X4_size rfl rfl rfl (by decide +kernel) ⟨Nat.le_of_ble_eq_true rfl, Nat.le_of_ble_eq_true rfl⟩) (gR_pre hE hS hK hP [] rfl) rfl rfl hl.1 rfl (lv_room (Nat.le_of_ble_eq_true rfl)) dX4_flip_51 ⟨Nat.le_of_ble_eq_true rfl, Nat.le_of_ble_eq_true rfl⟩) hS hP (fun rv9 H locs h8 hP hS => ?_)
    have h8 : rv9 = absI (-(vf j)) := h8
    subst h8
    exact gW_iret (v := absI (-(vf j))) ((n, mask, flp vf j, sf), mzS z sy (n, mask, vf, sf), svC sy, 0) hx hb hr hlk (rfl) hK hP hD hS (Or.inl ⟨hth, rfl, rfl⟩) dX4_flip_54
  · skip
    have c8 : ¬ (0 ≤ k ∧ k < nI n) := b_eq0 c8
    refine lv_aload_n hx hb dX4_flip_13 rfl (lv_at hl 0 rfl) ?_
    refine lv_iconst (v := 1) hx hb dX4_flip_14 (by decide) ?_
    refine gW_i (wr := [(m1, .inl (K 0, 22, .inl (mst n mask vf sf))), (m3, .inl (K 0, 132, .inl (msv z)))]) (W2 := (fun (u : Unit) => [(m0, .inr (4, [.int 1, .ref m1, .ref m2, .ref m3, .int (nI sy), .ref m4, .int (nI ly), .ref m5, .ref m6, .int (nI py), .ref m7, .ref m8, .ref m9, .int (nI ay), .int (if iw = true then 1 else 0), .ref m10, .int (nI ty), .long hy])), (m1, .inl (K 0, 22, .inl (mst n mask vf sf))), (m3, .inl (K 0, 132, .inl (msv z)))])) (va_runV (As := [.int 1]) (rest := []) ⟨hx, hb, hml, hown, hts⟩ ((c_X4_fails l D K m0 m1 m2 m3 m4 m5 m6 m7 m8 m9 m10 0 sy ly py ay iw ty hy 1 ) _) (cwV 1 hts gX4_flip_X4_fails rfl rfl rfl (by decide +kernel) ⟨Nat.le_of_ble_eq_true rfl, Nat.le_of_ble_eq_true rfl⟩) (gW_preV hE hS hK hP hD hA [0] rfl (by decide) 0 rfl rfl rfl) rfl rfl hl.1 rfl (lv_room (Nat.le_of_ble_eq_true rfl)) dX4_flip_15 ⟨Nat.le_of_ble_eq_true rfl, Nat.le_of_ble_eq_true rfl⟩) hS hP hD hA [0] [1, 2] [2, 0, 1] rfl rfl (by decide) (by decide) (by decide) (fun _ => rfl) (fun rv12 u10 H locs h11 hP hD hS => ?_)
    have hP : va_P D vwCl [(m0, .inr (4, [.int 1, .ref m1, .ref m2, .ref m3, .int (nI sy), .ref m4, .int (nI ly), .ref m5, .ref m6, .int (nI py), .ref m7, .ref m8, .ref m9, .int (nI ay), .int (if iw = true then 1 else 0), .ref m10, .int (nI ty), .long hy])), (m1, .inl (K 0, 22, .inl (mst n mask vf sf))), (m3, .inl (K 0, 132, .inl (msv z)))] _ := hP
    have hD : va_D A [(m0, .inr (4, [.int 1, .ref m1, .ref m2, .ref m3, .int (nI sy), .ref m4, .int (nI ly), .ref m5, .ref m6, .int (nI py), .ref m7, .ref m8, .ref m9, .int (nI ay), .int (if iw = true then 1 else 0), .ref m10, .int (nI ty), .long hy])), (m1, .inl (K 0, 22, .inl (mst n mask vf sf))), (m3, .inl (K 0, 132, .inl (msv z)))] := hD
    have h11 : rv12 = 0 := h11
    exact gW_iret (v := rv12) ((n, mask, vf, sf), z, sy, 1) hx hb hr hlk (rfl) hK hP hD hS (Or.inr (by have hh9 : thPl n k = 1 := (by unfold thPl; rw [if_neg c8]); rw [hh9]; exact ⟨by decide, rfl, h11⟩)) dX4_flip_18
