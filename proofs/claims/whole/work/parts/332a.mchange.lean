set_option maxHeartbeats 4000000 in
set_option maxRecDepth 100000 in
theorem c_X4_begin (l : Launch) (D : va_G) (K : Nat → ClassId) (m0 : Nat) (m1 : Nat) (m2 : Nat) (m3 : Nat) (m4 : Nat) (m5 : Nat) (m6 : Nat) (m7 : Nat) (m8 : Nat) (m9 : Nat) (m10 : Nat) (th : Int32) (sy : Nat) (ly : Nat) (py : Nat) (ay : Nat) (iw : Bool) (ty : Nat) (hy : Int64) (n : Nat) (mask : Int32) (vf : Nat → Int32) (sf : Nat → Int32) (z : Nat → Wd) (k : Int32) (hsy : sy ≤ 6) : MWi l yX4_begin wsX4_begin ({ frames := 1, cells := 0, slots := 0, locals := 22 } : Room) D (gTy K) [.ref m0, .int k] [(m0, .inr (4, [.int th, .ref m1, .ref m2, .ref m3, .int (nI sy), .ref m4, .int (nI ly), .ref m5, .ref m6, .int (nI py), .ref m7, .ref m8, .ref m9, .int (nI ay), .int (if iw = true then 1 else 0), .ref m10, .int (nI ty), .long hy])), (m1, .inl (K 0, 22, .inl (mst n mask vf sf))), (m3, .inl (K 0, 132, .inl (msv z)))] (fun (u : Wd × (Nat → Wd) × Nat × Int32) => [(m0, .inr (4, [.int u.2.2.2, .ref m1, .ref m2, .ref m3, .int (nI u.2.2.1), .ref m4, .int (nI ly), .ref m5, .ref m6, .int (nI py), .ref m7, .ref m8, .ref m9, .int (nI ay), .int (if iw = true then 1 else 0), .ref m10, .int (nI ty), .long hy])), (m1, .inl (K 0, 22, .inl (mst u.1.1 u.1.2.1 u.1.2.2.1 u.1.2.2.2))), (m3, .inl (K 0, 132, .inl (msv u.2.1)))]) (fun r (u : Wd × (Nat → Wd) × Nat × Int32) => (thBegin k = 0 ∧ u = ((2 ^ k.toNatClampNeg, 0, (fun _ => 0), sf), mzS z sy (n, mask, vf, sf), svC sy, 0) ∧ r = nI (2 ^ k.toNatClampNeg)) ∨ (¬ thBegin k = 0 ∧ u = ((n, mask, vf, sf), z, sy, nI (thBegin k)) ∧ r = 0)) 0 0 := by
  refine g_ofW (Qc := fun A => va_Qi _ (gB D (gTy K) A _) A) (cc := cX4_begin) (maxL := 3) (ret := (some .int)) (own := RX4) (by decide) rfl rfl (Nat.le_of_ble_eq_true rfl) ?_
  intro pp ee s mm below meth cc A hfx hnm hK hP hD hE hS hA ls hl
  obtain ⟨hx, hb, hr, hml, hown, hts, hlk⟩ := hfx
  have hl : lv_has ls 3 [(0, .ref m0), (1, .int k)] := hl
  have hi4 : ∀ w ∈ u_ws RX4 TX4 18, w ∈ wsX4_begin := fun w h => List.mem_cons_of_mem _ (List.mem_append_right _ (h))
  refine lv_aload_n hx hb dX4_begin_0 rfl (lv_at hl 0 rfl) ?_
  refine lv_iconst (v := 0) hx hb dX4_begin_1 (by decide) ?_
  refine va_put (D := D) (ci := 4) (v := .int 0) (ty := .int) (C := RX4) (T := TX4) (N := 18) hx hb hts hi4 tyX4 tyX4_ok nmX4 hown hK hP hD hS 0 rfl rfl 0 (by decide) (hts (.fieldLink RX4 40 "PairedChannelsModel" "thrown" "I") (List.mem_of_getElem? (i := 1) (by decide +kernel))) (fun _ h9 => h9) rfl (by decide +kernel) (rfl) (rfl) (Nat.le_of_ble_eq_true rfl) dX4_begin_2 (fun H locs hP hD hS => ?_)
  have hP : va_P D vwCl [(m0, .inr (4, [.int 0, .ref m1, .ref m2, .ref m3, .int (nI sy), .ref m4, .int (nI ly), .ref m5, .ref m6, .int (nI py), .ref m7, .ref m8, .ref m9, .int (nI ay), .int (if iw = true then 1 else 0), .ref m10, .int (nI ty), .long hy])), (m1, .inl (K 0, 22, .inl (mst n mask vf sf))), (m3, .inl (K 0, 132, .inl (msv z)))] _ := hP
  have hD : va_D A [(m0, .inr (4, [.int 0, .ref m1, .ref m2, .ref m3, .int (nI sy), .ref m4, .int (nI ly), .ref m5, .ref m6, .int (nI py), .ref m7, .ref m8, .ref m9, .int (nI ay), .int (if iw = true then 1 else 0), .ref m10, .int (nI ty), .long hy])), (m1, .inl (K 0, 22, .inl (mst n mask vf sf))), (m3, .inl (K 0, 132, .inl (msv z)))] := hD
  refine lv_iload_n hx hb dX4_begin_5 rfl (lv_at hl 1 rfl) ?_
  refine lv_iconst (v := 1) hx hb dX4_begin_6 (by decide) ?_
  refine lv_iconst (v := 4) hx hb dX4_begin_7 (by decide) ?_
  refine gR_i (va_runS (As := [.int k, .int 1, .int 4]) (rest := []) ⟨hx, hb, hml, hown, hts⟩ (c_X4_in l D K k 1 4 ) (va_cwS 3 hts gX4_begin_X4_in rfl rfl rfl (by decide +kernel) ⟨Nat.le_of_ble_eq_true rfl, Nat.le_of_ble_eq_true rfl⟩) (gR_pre hE hS hK hP [] rfl) rfl rfl hl.1 rfl (lv_room (Nat.le_of_ble_eq_true rfl)) dX4_begin_8 ⟨Nat.le_of_ble_eq_true rfl, Nat.le_of_ble_eq_true rfl⟩) hS hP (fun rv2 H locs h1 hP hS => ?_)
  have h1 : rv2 = (if 1 ≤ k ∧ k ≤ 4 then 1 else 0) := h1
  subst h1
  refine lv_if_ne (tgt := 20) hx hb dX4_begin_11 (by decide) (fun c11 => ?_) (fun c11 => ?_)
  · skip
    have c11 : 1 ≤ k ∧ k ≤ 4 := b_ne0 c11
    obtain ⟨j, hj1, hj4, ej⟩ := k14 c11
    have ekc : k.toNatClampNeg = j := by rw [ej, nI_clamp (by omega)]
    rw [ekc]
    refine lv_aload_n hx hb dX4_begin_20 rfl (lv_at hl 0 rfl) ?_
    refine gW_v (wr := []) (W2 := (fun (u : Unit) => [(m0, .inr (4, [.int 0, .ref m1, .ref m2, .ref m3, .int (nI (svC sy)), .ref m4, .int (nI ly), .ref m5, .ref m6, .int (nI py), .ref m7, .ref m8, .ref m9, .int (nI ay), .int (if iw = true then 1 else 0), .ref m10, .int (nI ty), .long hy])), (m1, .inl (K 0, 22, .inl (mst n mask vf sf))), (m3, .inl (K 0, 132, .inl (msv (mzS z sy (n, mask, vf, sf)))))])) (va_runV (As := []) (rest := []) ⟨hx, hb, hml, hown, hts⟩ ((c_X4_saves l D K m0 m1 m2 m3 m4 m5 m6 m7 m8 m9 m10 0 sy ly py ay iw ty hy n mask vf sf z (by first | assumption | omega)) _) (cwV 0 hts gX4_begin_X4_saves rfl rfl rfl (by decide +kernel) ⟨Nat.le_of_ble_eq_true rfl, Nat.le_of_ble_eq_true rfl⟩) (gW_preV hE hS hK hP hD hA [0, 1, 2] rfl (by decide) 0 rfl rfl rfl) rfl rfl hl.1 rfl (lv_room (Nat.le_of_ble_eq_true rfl)) dX4_begin_21 ⟨Nat.le_of_ble_eq_true rfl, Nat.le_of_ble_eq_true rfl⟩) hS hP hD hA [0, 1, 2] [] [0, 1, 2] rfl rfl (by decide) (by decide) (by decide) (fun _ => rfl) (fun u4 H locs h5 hP hD hS => ?_)
    have hP : va_P D vwCl [(m0, .inr (4, [.int 0, .ref m1, .ref m2, .ref m3, .int (nI (svC sy)), .ref m4, .int (nI ly), .ref m5, .ref m6, .int (nI py), .ref m7, .ref m8, .ref m9, .int (nI ay), .int (if iw = true then 1 else 0), .ref m10, .int (nI ty), .long hy])), (m1, .inl (K 0, 22, .inl (mst n mask vf sf))), (m3, .inl (K 0, 132, .inl (msv (mzS z sy (n, mask, vf, sf)))))] _ := hP
    have hD : va_D A [(m0, .inr (4, [.int 0, .ref m1, .ref m2, .ref m3, .int (nI (svC sy)), .ref m4, .int (nI ly), .ref m5, .ref m6, .int (nI py), .ref m7, .ref m8, .ref m9, .int (nI ay), .int (if iw = true then 1 else 0), .ref m10, .int (nI ty), .long hy])), (m1, .inl (K 0, 22, .inl (mst n mask vf sf))), (m3, .inl (K 0, 132, .inl (msv (mzS z sy (n, mask, vf, sf)))))] := hD
    refine lv_aload_n hx hb dX4_begin_24 rfl (lv_at hl 0 rfl) ?_
    refine va_get (D := D) (ci := 4) (v := .ref m1) (C := RX4) (T := TX4) (N := 18) hx hb hts hi4 hown hK hP 0 rfl rfl 1 (by decide) (hts (.fieldLink RX4 7 "PairedChannelsModel" "s" "[I") (List.mem_of_getElem? (i := 2) (by decide +kernel))) (fun _ h9 => h9) rfl dX4_begin_25 ?_
    refine lv_iconst (v := 0) hx hb dX4_begin_28 (by decide) ?_
    refine lv_iconst (v := 1) hx hb dX4_begin_29 (by decide) ?_
    refine lv_iload_n hx hb dX4_begin_30 rfl (lv_at hl 1 rfl) ?_
    refine lv_ishl hx hb dX4_begin_31 ?_
    refine lv_eqi (nI (2 ^ j)) (by rw [ej]; exact pow_l j (by omega)) ?_
    refine wa_iast (x := nI (2 ^ j)) hx hb hK hP hD hS 1 0 rfl rfl (0) rfl (by omega) (by decide) dX4_begin_32 (fun H locs hP hD hS => ?_)
    have hP : va_P D vwCl [(m0, .inr (4, [.int 0, .ref m1, .ref m2, .ref m3, .int (nI (svC sy)), .ref m4, .int (nI ly), .ref m5, .ref m6, .int (nI py), .ref m7, .ref m8, .ref m9, .int (nI ay), .int (if iw = true then 1 else 0), .ref m10, .int (nI ty), .long hy])), (m1, .inl (K 0, 22, .inl (upd (mst n mask vf sf) 0 (nI (2 ^ j))))), (m3, .inl (K 0, 132, .inl (msv (mzS z sy (n, mask, vf, sf)))))] _ := hP
    have hD : va_D A [(m0, .inr (4, [.int 0, .ref m1, .ref m2, .ref m3, .int (nI (svC sy)), .ref m4, .int (nI ly), .ref m5, .ref m6, .int (nI py), .ref m7, .ref m8, .ref m9, .int (nI ay), .int (if iw = true then 1 else 0), .ref m10, .int (nI ty), .long hy])), (m1, .inl (K 0, 22, .inl (upd (mst n mask vf sf) 0 (nI (2 ^ j))))), (m3, .inl (K 0, 132, .inl (msv (mzS z sy (n, mask, vf, sf)))))] := hD
    have e7 : (upd (mst n mask vf sf) 0 (nI (2 ^ j))) = (mst (2 ^ j) mask vf sf) := mst_u0 _
    rw [e7] at hP hD
    have hP : va_P D vwCl [(m0, .inr (4, [.int 0, .ref m1, .ref m2, .ref m3, .int (nI (svC sy)), .ref m4, .int (nI ly), .ref m5, .ref m6, .int (nI py), .ref m7, .ref m8, .ref m9, .int (nI ay), .int (if iw = true then 1 else 0), .ref m10, .int (nI ty), .long hy])), (m1, .inl (K 0, 22, .inl (mst (2 ^ j) mask vf sf))), (m3, .inl (K 0, 132, .inl (msv (mzS z sy (n, mask, vf, sf)))))] _ := hP
    have hD : va_D A [(m0, .inr (4, [.int 0, .ref m1, .ref m2, .ref m3, .int (nI (svC sy)), .ref m4, .int (nI ly), .ref m5, .ref m6, .int (nI py), .ref m7, .ref m8, .ref m9, .int (nI ay), .int (if iw = true then 1 else 0), .ref m10, .int (nI ty), .long hy])), (m1, .inl (K 0, 22, .inl (mst (2 ^ j) mask vf sf))), (m3, .inl (K 0, 132, .inl (msv (mzS z sy (n, mask, vf, sf)))))] := hD
    refine lv_aload_n hx hb dX4_begin_33 rfl (lv_at hl 0 rfl) ?_
    refine va_get (D := D) (ci := 4) (v := .ref m1) (C := RX4) (T := TX4) (N := 18) hx hb hts hi4 hown hK hP 0 rfl rfl 1 (by decide) (hts (.fieldLink RX4 7 "PairedChannelsModel" "s" "[I") (List.mem_of_getElem? (i := 2) (by decide +kernel))) (fun _ h9 => h9) rfl dX4_begin_34 ?_
    refine lv_iconst (v := 1) hx hb dX4_begin_37 (by decide) ?_
    refine lv_iconst (v := 0) hx hb dX4_begin_38 (by decide) ?_
    refine wa_iast (x := 0) hx hb hK hP hD hS 1 0 rfl rfl (1) rfl (by omega) (by decide) dX4_begin_39 (fun H locs hP hD hS => ?_)
    have hP : va_P D vwCl [(m0, .inr (4, [.int 0, .ref m1, .ref m2, .ref m3, .int (nI (svC sy)), .ref m4, .int (nI ly), .ref m5, .ref m6, .int (nI py), .ref m7, .ref m8, .ref m9, .int (nI ay), .int (if iw = true then 1 else 0), .ref m10, .int (nI ty), .long hy])), (m1, .inl (K 0, 22, .inl (upd (mst (2 ^ j) mask vf sf) 1 0))), (m3, .inl (K 0, 132, .inl (msv (mzS z sy (n, mask, vf, sf)))))] _ := hP
    have hD : va_D A [(m0, .inr (4, [.int 0, .ref m1, .ref m2, .ref m3, .int (nI (svC sy)), .ref m4, .int (nI ly), .ref m5, .ref m6, .int (nI py), .ref m7, .ref m8, .ref m9, .int (nI ay), .int (if iw = true then 1 else 0), .ref m10, .int (nI ty), .long hy])), (m1, .inl (K 0, 22, .inl (upd (mst (2 ^ j) mask vf sf) 1 0))), (m3, .inl (K 0, 132, .inl (msv (mzS z sy (n, mask, vf, sf)))))] := hD
    have e8 : (upd (mst (2 ^ j) mask vf sf) 1 0) = (mst (2 ^ j) 0 vf sf) := mst_u1 _
    rw [e8] at hP hD
    have hP : va_P D vwCl [(m0, .inr (4, [.int 0, .ref m1, .ref m2, .ref m3, .int (nI (svC sy)), .ref m4, .int (nI ly), .ref m5, .ref m6, .int (nI py), .ref m7, .ref m8, .ref m9, .int (nI ay), .int (if iw = true then 1 else 0), .ref m10, .int (nI ty), .long hy])), (m1, .inl (K 0, 22, .inl (mst (2 ^ j) 0 vf sf))), (m3, .inl (K 0, 132, .inl (msv (mzS z sy (n, mask, vf, sf)))))] _ := hP
    have hD : va_D A [(m0, .inr (4, [.int 0, .ref m1, .ref m2, .ref m3, .int (nI (svC sy)), .ref m4, .int (nI ly), .ref m5, .ref m6, .int (nI py), .ref m7, .ref m8, .ref m9, .int (nI ay), .int (if iw = true then 1 else 0), .ref m10, .int (nI ty), .long hy])), (m1, .inl (K 0, 22, .inl (mst (2 ^ j) 0 vf sf))), (m3, .inl (K 0, 132, .inl (msv (mzS z sy (n, mask, vf, sf)))))] := hD
    refine lv_iconst (v := 0) hx hb dX4_begin_40 (by decide) ?_
    refine lv_istore_n (lv' := [(2, .int 0), (0, .ref m0), (1, .int k)]) hx hb dX4_begin_41 rfl hl (by decide) rfl (fun ls hl => ?_)
    refine g_loopW (st := []) (N := 16) (fun t H locs ls => ∃ v2 : Nat → Int32, (∀ i, i < t → v2 i = 0) ∧ va_P D vwCl [(m0, .inr (4, [.int 0, .ref m1, .ref m2, .ref m3, .int (nI (svC sy)), .ref m4, .int (nI ly), .ref m5, .ref m6, .int (nI py), .ref m7, .ref m8, .ref m9, .int (nI ay), .int (if iw = true then 1 else 0), .ref m10, .int (nI ty), .long hy])), (m1, .inl (K 0, 22, .inl (mst (2 ^ j) 0 v2 sf))), (m3, .inl (K 0, 132, .inl (msv (mzS z sy (n, mask, vf, sf)))))] H ∧ va_D A [(m0, .inr (4, [.int 0, .ref m1, .ref m2, .ref m3, .int (nI (svC sy)), .ref m4, .int (nI ly), .ref m5, .ref m6, .int (nI py), .ref m7, .ref m8, .ref m9, .int (nI ay), .int (if iw = true then 1 else 0), .ref m10, .int (nI ty), .long hy])), (m1, .inl (K 0, 22, .inl (mst (2 ^ j) 0 v2 sf))), (m3, .inl (K 0, 132, .inl (msv (mzS z sy (n, mask, vf, sf)))))] ∧ va_S A s.heap H locs ∧ lv_has ls 3 [(2, .int (nI t)), (0, .ref m0), (1, .int k)]) 0 (Nat.zero_le _) ?_ ?_ ?_
    · intro H locs ls hI
      obtain ⟨v2, hh, hP, hD, hS, hl⟩ := hI
      refine lv_iload_n hx hb dX4_begin_42 rfl (lv_at hl 0 rfl) ?_
      refine lv_bipush (v := 16) hx hb dX4_begin_43 (by decide) ?_
      refine lv_icmp_ge (tgt := 64) hx hb dX4_begin_45 (by decide) (fun c10 => ?_) (fun c10 => ?_)
      · skip
        have c10 : 16 ≤ 16 := (nI_leI (a := 16) (b := 16) (by omega) (by omega)).mp c10
        have hP : va_P D vwCl [(m0, .inr (4, [.int 0, .ref m1, .ref m2, .ref m3, .int (nI (svC sy)), .ref m4, .int (nI ly), .ref m5, .ref m6, .int (nI py), .ref m7, .ref m8, .ref m9, .int (nI ay), .int (if iw = true then 1 else 0), .ref m10, .int (nI ty), .long hy])), (m1, .inl (K 0, 22, .inl (mst (2 ^ j) 0 (fun _ => 0) sf))), (m3, .inl (K 0, 132, .inl (msv (mzS z sy (n, mask, vf, sf)))))] _ := gP_ext hP 1 rfl (mst_ext (fun i hi => hh i hi))
        have hD : va_D A [(m0, .inr (4, [.int 0, .ref m1, .ref m2, .ref m3, .int (nI (svC sy)), .ref m4, .int (nI ly), .ref m5, .ref m6, .int (nI py), .ref m7, .ref m8, .ref m9, .int (nI ay), .int (if iw = true then 1 else 0), .ref m10, .int (nI ty), .long hy])), (m1, .inl (K 0, 22, .inl (mst (2 ^ j) 0 (fun _ => 0) sf))), (m3, .inl (K 0, 132, .inl (msv (mzS z sy (n, mask, vf, sf)))))] := gD_ext hD 1 rfl
        refine lv_aload_n hx hb dX4_begin_64 rfl (lv_at hl 1 rfl) ?_
        refine va_get (D := D) (ci := 4) (v := .ref m1) (C := RX4) (T := TX4) (N := 18) hx hb hts hi4 hown hK hP 0 rfl rfl 1 (by decide) (hts (.fieldLink RX4 7 "PairedChannelsModel" "s" "[I") (List.mem_of_getElem? (i := 2) (by decide +kernel))) (fun _ h9 => h9) rfl dX4_begin_65 ?_
        refine lv_iconst (v := 0) hx hb dX4_begin_68 (by decide) ?_
        refine wa_iald hx hb hK hP 1 0 rfl rfl (0) rfl (by omega) (by decide) dX4_begin_69 ?_
        refine lv_eqi (nI (2 ^ j)) (rfl) ?_
        exact gW_iret (v := nI (2 ^ j)) ((2 ^ j, 0, (fun _ => 0), sf), mzS z sy (n, mask, vf, sf), svC sy, 0) hx hb hr hlk (rfl) hK hP hD hS (Or.inl ⟨by unfold thBegin; rw [if_pos c11], rfl, rfl⟩) dX4_begin_70
      · skip
        have c10 : ¬ 16 ≤ 16 := fun h9 => c10 ((nI_leI (a := 16) (b := 16) (by omega) (by omega)).mpr h9)
        omega
    · intro t ht ih9 H locs ls hI
      obtain ⟨v2, hh, hP, hD, hS, hl⟩ := hI
      refine lv_iload_n hx hb dX4_begin_42 rfl (lv_at hl 0 rfl) ?_
      refine lv_bipush (v := 16) hx hb dX4_begin_43 (by decide) ?_
      refine lv_icmp_ge (tgt := 64) hx hb dX4_begin_45 (by decide) (fun c11 => ?_) (fun c11 => ?_)
      · skip
        have c11 : 16 ≤ t := (nI_leI (a := 16) (b := t) (by omega) (by omega)).mp c11
        omega
      · skip
        have c11 : ¬ 16 ≤ t := fun h9 => c11 ((nI_leI (a := 16) (b := t) (by omega) (by omega)).mpr h9)
        refine lv_aload_n hx hb dX4_begin_48 rfl (lv_at hl 1 rfl) ?_
        refine va_get (D := D) (ci := 4) (v := .ref m1) (C := RX4) (T := TX4) (N := 18) hx hb hts hi4 hown hK hP 0 rfl rfl 1 (by decide) (hts (.fieldLink RX4 7 "PairedChannelsModel" "s" "[I") (List.mem_of_getElem? (i := 2) (by decide +kernel))) (fun _ h9 => h9) rfl dX4_begin_49 ?_
        refine lv_bipush (v := 6) hx hb dX4_begin_52 (by decide) ?_
        refine lv_iload_n hx hb dX4_begin_54 rfl (lv_at hl 0 rfl) ?_
        refine lv_iadd hx hb dX4_begin_55 ?_
        refine lv_eqi (nI (6 + t)) (nI_add 6 t) ?_
        refine lv_iconst (v := 0) hx hb dX4_begin_56 (by decide) ?_
        refine wa_iast (x := 0) hx hb hK hP hD hS 1 0 rfl rfl (6 + t) rfl (by omega) (by decide) dX4_begin_57 (fun H locs hP hD hS => ?_)
        have hP : va_P D vwCl [(m0, .inr (4, [.int 0, .ref m1, .ref m2, .ref m3, .int (nI (svC sy)), .ref m4, .int (nI ly), .ref m5, .ref m6, .int (nI py), .ref m7, .ref m8, .ref m9, .int (nI ay), .int (if iw = true then 1 else 0), .ref m10, .int (nI ty), .long hy])), (m1, .inl (K 0, 22, .inl (upd (mst (2 ^ j) 0 v2 sf) (6 + t) 0))), (m3, .inl (K 0, 132, .inl (msv (mzS z sy (n, mask, vf, sf)))))] _ := hP
        have hD : va_D A [(m0, .inr (4, [.int 0, .ref m1, .ref m2, .ref m3, .int (nI (svC sy)), .ref m4, .int (nI ly), .ref m5, .ref m6, .int (nI py), .ref m7, .ref m8, .ref m9, .int (nI ay), .int (if iw = true then 1 else 0), .ref m10, .int (nI ty), .long hy])), (m1, .inl (K 0, 22, .inl (upd (mst (2 ^ j) 0 v2 sf) (6 + t) 0))), (m3, .inl (K 0, 132, .inl (msv (mzS z sy (n, mask, vf, sf)))))] := hD
        have e12 : (upd (mst (2 ^ j) 0 v2 sf) (6 + t) 0) = (mst (2 ^ j) 0 (upd v2 t 0) sf) := mst_up _ _
        rw [e12] at hP hD
        have hP : va_P D vwCl [(m0, .inr (4, [.int 0, .ref m1, .ref m2, .ref m3, .int (nI (svC sy)), .ref m4, .int (nI ly), .ref m5, .ref m6, .int (nI py), .ref m7, .ref m8, .ref m9, .int (nI ay), .int (if iw = true then 1 else 0), .ref m10, .int (nI ty), .long hy])), (m1, .inl (K 0, 22, .inl (mst (2 ^ j) 0 (upd v2 t 0) sf))), (m3, .inl (K 0, 132, .inl (msv (mzS z sy (n, mask, vf, sf)))))] _ := hP
        have hD : va_D A [(m0, .inr (4, [.int 0, .ref m1, .ref m2, .ref m3, .int (nI (svC sy)), .ref m4, .int (nI ly), .ref m5, .ref m6, .int (nI py), .ref m7, .ref m8, .ref m9, .int (nI ay), .int (if iw = true then 1 else 0), .ref m10, .int (nI ty), .long hy])), (m1, .inl (K 0, 22, .inl (mst (2 ^ j) 0 (upd v2 t 0) sf))), (m3, .inl (K 0, 132, .inl (msv (mzS z sy (n, mask, vf, sf)))))] := hD
        refine lv_iinc (v := nI (t + 1)) (lv' := [(2, .int (nI (t + 1))), (0, .ref m0), (1, .int k)]) hx hb dX4_begin_58 hl (k := 0) rfl (nI_add t 1) (by decide) rfl (fun ls hl => ?_)
        refine lv_goto (tgt := 42) hx hb dX4_begin_61 (by decide) ?_
        exact ih9 H locs ls ⟨(upd v2 t 0), (fun i hi => by by_cases e : i = t; subst e; exact pk_us; rw [pk_un e]; exact hh i (by omega)), hP, hD, hS, lv_sub hl [0, 1, 2] rfl⟩
    · exact ⟨vf, (fun i hi => absurd hi (Nat.not_lt_zero i)), hP, hD, hS, lv_sub hl [0, 1, 2] rfl⟩
  · skip
    have c11 : ¬ (1 ≤ k ∧ k ≤ 4) := b_eq0 c11
    refine lv_aload_n hx hb dX4_begin_14 rfl (lv_at hl 0 rfl) ?_
    refine lv_iconst (v := 1) hx hb dX4_begin_15 (by decide) ?_
    refine gW_i (wr := [(m1, .inl (K 0, 22, .inl (mst n mask vf sf))), (m3, .inl (K 0, 132, .inl (msv z)))]) (W2 := (fun (u : Unit) => [(m0, .inr (4, [.int 1, .ref m1, .ref m2, .ref m3, .int (nI sy), .ref m4, .int (nI ly), .ref m5, .ref m6, .int (nI py), .ref m7, .ref m8, .ref m9, .int (nI ay), .int (if iw = true then 1 else 0), .ref m10, .int (nI ty), .long hy])), (m1, .inl (K 0, 22, .inl (mst n mask vf sf))), (m3, .inl (K 0, 132, .inl (msv z)))])) (va_runV (As := [.int 1]) (rest := []) ⟨hx, hb, hml, hown, hts⟩ ((c_X4_fails l D K m0 m1 m2 m3 m4 m5 m6 m7 m8 m9 m10 0 sy ly py ay iw ty hy 1 ) _) (cwV 1 hts gX4_begin_X4_fails rfl rfl rfl (by decide +kernel) ⟨Nat.le_of_ble_eq_true rfl, Nat.le_of_ble_eq_true rfl⟩) (gW_preV hE hS hK hP hD hA [0] rfl (by decide) 0 rfl rfl rfl) rfl rfl hl.1 rfl (lv_room (Nat.le_of_ble_eq_true rfl)) dX4_begin_16 ⟨Nat.le_of_ble_eq_true rfl, Nat.le_of_ble_eq_true rfl⟩) hS hP hD hA [0] [1, 2] [2, 0, 1] rfl rfl (by decide) (by decide) (by decide) (fun _ => rfl) (fun rv15 u13 H locs h14 hP hD hS => ?_)
    have hP : va_P D vwCl [(m0, .inr (4, [.int 1, .ref m1, .ref m2, .ref m3, .int (nI sy), .ref m4, .int (nI ly), .ref m5, .ref m6, .int (nI py), .ref m7, .ref m8, .ref m9, .int (nI ay), .int (if iw = true then 1 else 0), .ref m10, .int (nI ty), .long hy])), (m1, .inl (K 0, 22, .inl (mst n mask vf sf))), (m3, .inl (K 0, 132, .inl (msv z)))] _ := hP
    have hD : va_D A [(m0, .inr (4, [.int 1, .ref m1, .ref m2, .ref m3, .int (nI sy), .ref m4, .int (nI ly), .ref m5, .ref m6, .int (nI py), .ref m7, .ref m8, .ref m9, .int (nI ay), .int (if iw = true then 1 else 0), .ref m10, .int (nI ty), .long hy])), (m1, .inl (K 0, 22, .inl (mst n mask vf sf))), (m3, .inl (K 0, 132, .inl (msv z)))] := hD
    have h14 : rv15 = 0 := h14
    exact gW_iret (v := rv15) ((n, mask, vf, sf), z, sy, 1) hx hb hr hlk (rfl) hK hP hD hS (Or.inr (by have hh9 : thBegin k = 1 := (by unfold thBegin; rw [if_neg c11]); rw [hh9]; exact ⟨by decide, rfl, h14⟩)) dX4_begin_19

set_option maxHeartbeats 4000000 in
set_option maxRecDepth 100000 in
theorem c_X4_open (l : Launch) (D : va_G) (K : Nat → ClassId) (m0 : Nat) (m1 : Nat) (m2 : Nat) (m3 : Nat) (m4 : Nat) (m5 : Nat) (m6 : Nat) (m7 : Nat) (m8 : Nat) (m9 : Nat) (m10 : Nat) (th : Int32) (sy : Nat) (ly : Nat) (py : Nat) (ay : Nat) (iw : Bool) (ty : Nat) (hy : Int64) (n : Nat) (mask : Int32) (vf : Nat → Int32) (sf : Nat → Int32) (z : Nat → Wd) (k : Int32) (hsy : sy ≤ 6) (hn : okN n) (hsf : okS sf) : MWi l yX4_open wsX4_open ({ frames := 2, cells := 0, slots := 0, locals := 51 } : Room) D (gTy K) [.ref m0, .int k] [(m0, .inr (4, [.int th, .ref m1, .ref m2, .ref m3, .int (nI sy), .ref m4, .int (nI ly), .ref m5, .ref m6, .int (nI py), .ref m7, .ref m8, .ref m9, .int (nI ay), .int (if iw = true then 1 else 0), .ref m10, .int (nI ty), .long hy])), (m1, .inl (K 0, 22, .inl (mst n mask vf sf))), (m3, .inl (K 0, 132, .inl (msv z)))] (fun (u : Wd × (Nat → Wd) × Nat × Int32) => [(m0, .inr (4, [.int u.2.2.2, .ref m1, .ref m2, .ref m3, .int (nI u.2.2.1), .ref m4, .int (nI ly), .ref m5, .ref m6, .int (nI py), .ref m7, .ref m8, .ref m9, .int (nI ay), .int (if iw = true then 1 else 0), .ref m10, .int (nI ty), .long hy])), (m1, .inl (K 0, 22, .inl (mst u.1.1 u.1.2.1 u.1.2.2.1 u.1.2.2.2))), (m3, .inl (K 0, 132, .inl (msv u.2.1)))]) (fun r (u : Wd × (Nat → Wd) × Nat × Int32) => (thOpen n k = 0 ∧ u = ((n, opnM sf n k n, vf, sf), mzS z sy (n, mask, vf, sf), svC sy, 0) ∧ r = opnM sf n k n) ∨ (¬ thOpen n k = 0 ∧ u = ((n, mask, vf, sf), z, sy, nI (thOpen n k)) ∧ r = 0)) 0 0 := by
  refine g_ofW (Qc := fun A => va_Qi _ (gB D (gTy K) A _) A) (cc := cX4_open) (maxL := 4) (ret := (some .int)) (own := RX4) (by decide) rfl rfl (Nat.le_of_ble_eq_true rfl) ?_
  intro pp ee s mm below meth cc A hfx hnm hK hP hD hE hS hA ls hl
  obtain ⟨hx, hb, hr, hml, hown, hts, hlk⟩ := hfx
  have hl : lv_has ls 4 [(0, .ref m0), (1, .int k)] := hl
  have hi4 : ∀ w ∈ u_ws RX4 TX4 18, w ∈ wsX4_open := fun w h => List.mem_cons_of_mem _ (List.mem_append_right _ (h))
  have hnl := hn.le
  refine lv_aload_n hx hb dX4_open_0 rfl (lv_at hl 0 rfl) ?_
  refine lv_iconst (v := 0) hx hb dX4_open_1 (by decide) ?_
  refine va_put (D := D) (ci := 4) (v := .int 0) (ty := .int) (C := RX4) (T := TX4) (N := 18) hx hb hts hi4 tyX4 tyX4_ok nmX4 hown hK hP hD hS 0 rfl rfl 0 (by decide) (hts (.fieldLink RX4 40 "PairedChannelsModel" "thrown" "I") (List.mem_of_getElem? (i := 1) (by decide +kernel))) (fun _ h9 => h9) rfl (by decide +kernel) (rfl) (rfl) (Nat.le_of_ble_eq_true rfl) dX4_open_2 (fun H locs hP hD hS => ?_)
  have hP : va_P D vwCl [(m0, .inr (4, [.int 0, .ref m1, .ref m2, .ref m3, .int (nI sy), .ref m4, .int (nI ly), .ref m5, .ref m6, .int (nI py), .ref m7, .ref m8, .ref m9, .int (nI ay), .int (if iw = true then 1 else 0), .ref m10, .int (nI ty), .long hy])), (m1, .inl (K 0, 22, .inl (mst n mask vf sf))), (m3, .inl (K 0, 132, .inl (msv z)))] _ := hP
  have hD : va_D A [(m0, .inr (4, [.int 0, .ref m1, .ref m2, .ref m3, .int (nI sy), .ref m4, .int (nI ly), .ref m5, .ref m6, .int (nI py), .ref m7, .ref m8, .ref m9, .int (nI ay), .int (if iw = true then 1 else 0), .ref m10, .int (nI ty), .long hy])), (m1, .inl (K 0, 22, .inl (mst n mask vf sf))), (m3, .inl (K 0, 132, .inl (msv z)))] := hD
  refine lv_iload_n hx hb dX4_open_5 rfl (lv_at hl 1 rfl) ?_
  refine lv_iconst (v := 0) hx hb dX4_open_6 (by decide) ?_
  refine lv_bipush (v := 16) hx hb dX4_open_7 (by decide) ?_
  refine gR_i (va_runS (As := [.int k, .int 0, .int 16]) (rest := []) ⟨hx, hb, hml, hown, hts⟩ (c_X4_in l D K k 0 16 ) (va_cwS 3 hts gX4_open_X4_in rfl rfl rfl (by decide +kernel) ⟨Nat.le_of_ble_eq_true rfl, Nat.le_of_ble_eq_true rfl⟩) (gR_pre hE hS hK hP [] rfl) rfl rfl hl.1 rfl (lv_room (Nat.le_of_ble_eq_true rfl)) dX4_open_9 ⟨Nat.le_of_ble_eq_true rfl, Nat.le_of_ble_eq_true rfl⟩) hS hP (fun rv2 H locs h1 hP hS => ?_)
  have h1 : rv2 = (if 0 ≤ k ∧ k ≤ 16 then 1 else 0) := h1
  subst h1
  refine lv_if_ne (tgt := 21) hx hb dX4_open_12 (by decide) (fun c12 => ?_) (fun c12 => ?_)
  · skip
    have c12 : 0 ≤ k ∧ k ≤ 16 := b_ne0 c12
    refine lv_iload_n hx hb dX4_open_21 rfl (lv_at hl 1 rfl) ?_
    refine lv_aload_n hx hb dX4_open_22 rfl (lv_at hl 0 rfl) ?_
    refine va_get (D := D) (ci := 4) (v := .ref m1) (C := RX4) (T := TX4) (N := 18) hx hb hts hi4 hown hK hP 0 rfl rfl 1 (by decide) (hts (.fieldLink RX4 7 "PairedChannelsModel" "s" "[I") (List.mem_of_getElem? (i := 2) (by decide +kernel))) (fun _ h9 => h9) rfl dX4_open_23 ?_
    refine lv_iconst (v := 0) hx hb dX4_open_26 (by decide) ?_
    refine wa_iald hx hb hK hP 1 0 rfl rfl (0) rfl (by omega) (by decide) dX4_open_27 ?_
    refine lv_eqi (nI n) (rfl) ?_
    refine lv_icmp_le (tgt := 37) hx hb dX4_open_28 (by decide) (fun c28 => ?_) (fun c28 => ?_)
    · skip
      refine lv_aload_n hx hb dX4_open_37 rfl (lv_at hl 0 rfl) ?_
      refine gW_v (wr := []) (W2 := (fun (u : Unit) => [(m0, .inr (4, [.int 0, .ref m1, .ref m2, .ref m3, .int (nI (svC sy)), .ref m4, .int (nI ly), .ref m5, .ref m6, .int (nI py), .ref m7, .ref m8, .ref m9, .int (nI ay), .int (if iw = true then 1 else 0), .ref m10, .int (nI ty), .long hy])), (m1, .inl (K 0, 22, .inl (mst n mask vf sf))), (m3, .inl (K 0, 132, .inl (msv (mzS z sy (n, mask, vf, sf)))))])) (va_runV (As := []) (rest := []) ⟨hx, hb, hml, hown, hts⟩ ((c_X4_saves l D K m0 m1 m2 m3 m4 m5 m6 m7 m8 m9 m10 0 sy ly py ay iw ty hy n mask vf sf z (by first | assumption | omega)) _) (cwV 0 hts gX4_open_X4_saves rfl rfl rfl (by decide +kernel) ⟨Nat.le_of_ble_eq_true rfl, Nat.le_of_ble_eq_true rfl⟩) (gW_preV hE hS hK hP hD hA [0, 1, 2] rfl (by decide) 0 rfl rfl rfl) rfl rfl hl.1 rfl (lv_room (Nat.le_of_ble_eq_true rfl)) dX4_open_38 ⟨Nat.le_of_ble_eq_true rfl, Nat.le_of_ble_eq_true rfl⟩) hS hP hD hA [0, 1, 2] [] [0, 1, 2] rfl rfl (by decide) (by decide) (by decide) (fun _ => rfl) (fun u5 H locs h6 hP hD hS => ?_)
      have hP : va_P D vwCl [(m0, .inr (4, [.int 0, .ref m1, .ref m2, .ref m3, .int (nI (svC sy)), .ref m4, .int (nI ly), .ref m5, .ref m6, .int (nI py), .ref m7, .ref m8, .ref m9, .int (nI ay), .int (if iw = true then 1 else 0), .ref m10, .int (nI ty), .long hy])), (m1, .inl (K 0, 22, .inl (mst n mask vf sf))), (m3, .inl (K 0, 132, .inl (msv (mzS z sy (n, mask, vf, sf)))))] _ := hP
      have hD : va_D A [(m0, .inr (4, [.int 0, .ref m1, .ref m2, .ref m3, .int (nI (svC sy)), .ref m4, .int (nI ly), .ref m5, .ref m6, .int (nI py), .ref m7, .ref m8, .ref m9, .int (nI ay), .int (if iw = true then 1 else 0), .ref m10, .int (nI ty), .long hy])), (m1, .inl (K 0, 22, .inl (mst n mask vf sf))), (m3, .inl (K 0, 132, .inl (msv (mzS z sy (n, mask, vf, sf)))))] := hD
      refine lv_iconst (v := 0) hx hb dX4_open_41 (by decide) ?_
      refine lv_istore_n (lv' := [(2, .int 0), (0, .ref m0), (1, .int k)]) hx hb dX4_open_42 rfl hl (by decide) rfl (fun ls hl => ?_)
      refine lv_iconst (v := 0) hx hb dX4_open_43 (by decide) ?_
      refine lv_istore_n (lv' := [(3, .int 0), (2, .int 0), (0, .ref m0), (1, .int k)]) hx hb dX4_open_44 rfl hl (by decide) rfl (fun ls hl => ?_)
      refine g_loopW (st := []) (N := n) (fun i H locs ls => va_P D vwCl [(m0, .inr (4, [.int 0, .ref m1, .ref m2, .ref m3, .int (nI (svC sy)), .ref m4, .int (nI ly), .ref m5, .ref m6, .int (nI py), .ref m7, .ref m8, .ref m9, .int (nI ay), .int (if iw = true then 1 else 0), .ref m10, .int (nI ty), .long hy])), (m1, .inl (K 0, 22, .inl (mst n mask vf sf))), (m3, .inl (K 0, 132, .inl (msv (mzS z sy (n, mask, vf, sf)))))] H ∧ va_D A [(m0, .inr (4, [.int 0, .ref m1, .ref m2, .ref m3, .int (nI (svC sy)), .ref m4, .int (nI ly), .ref m5, .ref m6, .int (nI py), .ref m7, .ref m8, .ref m9, .int (nI ay), .int (if iw = true then 1 else 0), .ref m10, .int (nI ty), .long hy])), (m1, .inl (K 0, 22, .inl (mst n mask vf sf))), (m3, .inl (K 0, 132, .inl (msv (mzS z sy (n, mask, vf, sf)))))] ∧ va_S A s.heap H locs ∧ lv_has ls 4 [(3, .int (nI i)), (2, .int (opnM sf n k i)), (0, .ref m0), (1, .int k)]) 0 (Nat.zero_le _) ?_ ?_ ?_
      · intro H locs ls hI
        obtain ⟨hP, hD, hS, hl⟩ := hI
        refine lv_iload_n hx hb dX4_open_45 rfl (lv_at hl 0 rfl) ?_
        refine lv_aload_n hx hb dX4_open_46 rfl (lv_at hl 2 rfl) ?_
        refine va_get (D := D) (ci := 4) (v := .ref m1) (C := RX4) (T := TX4) (N := 18) hx hb hts hi4 hown hK hP 0 rfl rfl 1 (by decide) (hts (.fieldLink RX4 7 "PairedChannelsModel" "s" "[I") (List.mem_of_getElem? (i := 2) (by decide +kernel))) (fun _ h9 => h9) rfl dX4_open_47 ?_
        refine lv_iconst (v := 0) hx hb dX4_open_50 (by decide) ?_
        refine wa_iald hx hb hK hP 1 0 rfl rfl (0) rfl (by omega) (by decide) dX4_open_51 ?_
        refine lv_eqi (nI n) (rfl) ?_
        refine lv_icmp_ge (tgt := 80) hx hb dX4_open_52 (by decide) (fun c9 => ?_) (fun c9 => ?_)
        · skip
          have c9 : n ≤ n := (nI_leI (a := n) (b := n) (by omega) (by omega)).mp c9
          refine lv_aload_n hx hb dX4_open_80 rfl (lv_at hl 2 rfl) ?_
          refine va_get (D := D) (ci := 4) (v := .ref m1) (C := RX4) (T := TX4) (N := 18) hx hb hts hi4 hown hK hP 0 rfl rfl 1 (by decide) (hts (.fieldLink RX4 7 "PairedChannelsModel" "s" "[I") (List.mem_of_getElem? (i := 2) (by decide +kernel))) (fun _ h9 => h9) rfl dX4_open_81 ?_
          refine lv_iconst (v := 1) hx hb dX4_open_84 (by decide) ?_
          refine lv_iload_n hx hb dX4_open_85 rfl (lv_at hl 1 rfl) ?_
          refine wa_iast (x := opnM sf n k n) hx hb hK hP hD hS 1 0 rfl rfl (1) rfl (by omega) (by decide) dX4_open_86 (fun H locs hP hD hS => ?_)
          have hP : va_P D vwCl [(m0, .inr (4, [.int 0, .ref m1, .ref m2, .ref m3, .int (nI (svC sy)), .ref m4, .int (nI ly), .ref m5, .ref m6, .int (nI py), .ref m7, .ref m8, .ref m9, .int (nI ay), .int (if iw = true then 1 else 0), .ref m10, .int (nI ty), .long hy])), (m1, .inl (K 0, 22, .inl (upd (mst n mask vf sf) 1 (opnM sf n k n)))), (m3, .inl (K 0, 132, .inl (msv (mzS z sy (n, mask, vf, sf)))))] _ := hP
          have hD : va_D A [(m0, .inr (4, [.int 0, .ref m1, .ref m2, .ref m3, .int (nI (svC sy)), .ref m4, .int (nI ly), .ref m5, .ref m6, .int (nI py), .ref m7, .ref m8, .ref m9, .int (nI ay), .int (if iw = true then 1 else 0), .ref m10, .int (nI ty), .long hy])), (m1, .inl (K 0, 22, .inl (upd (mst n mask vf sf) 1 (opnM sf n k n)))), (m3, .inl (K 0, 132, .inl (msv (mzS z sy (n, mask, vf, sf)))))] := hD
          have e10 : (upd (mst n mask vf sf) 1 (opnM sf n k n)) = (mst n (opnM sf n k n) vf sf) := mst_u1 _
          rw [e10] at hP hD
          have hP : va_P D vwCl [(m0, .inr (4, [.int 0, .ref m1, .ref m2, .ref m3, .int (nI (svC sy)), .ref m4, .int (nI ly), .ref m5, .ref m6, .int (nI py), .ref m7, .ref m8, .ref m9, .int (nI ay), .int (if iw = true then 1 else 0), .ref m10, .int (nI ty), .long hy])), (m1, .inl (K 0, 22, .inl (mst n (opnM sf n k n) vf sf))), (m3, .inl (K 0, 132, .inl (msv (mzS z sy (n, mask, vf, sf)))))] _ := hP
          have hD : va_D A [(m0, .inr (4, [.int 0, .ref m1, .ref m2, .ref m3, .int (nI (svC sy)), .ref m4, .int (nI ly), .ref m5, .ref m6, .int (nI py), .ref m7, .ref m8, .ref m9, .int (nI ay), .int (if iw = true then 1 else 0), .ref m10, .int (nI ty), .long hy])), (m1, .inl (K 0, 22, .inl (mst n (opnM sf n k n) vf sf))), (m3, .inl (K 0, 132, .inl (msv (mzS z sy (n, mask, vf, sf)))))] := hD
          refine lv_iload_n hx hb dX4_open_87 rfl (lv_at hl 1 rfl) ?_
          exact gW_iret (v := opnM sf n k n) ((n, opnM sf n k n, vf, sf), mzS z sy (n, mask, vf, sf), svC sy, 0) hx hb hr hlk (rfl) hK hP hD hS (Or.inl ⟨by unfold thOpen; exact (if_pos c12).trans (if_neg (Int32.not_lt.mpr c28)), rfl, rfl⟩) dX4_open_88
        · skip
          have c9 : ¬ n ≤ n := fun h9 => c9 ((nI_leI (a := n) (b := n) (by omega) (by omega)).mpr h9)
          omega
      · intro i hi ih8 H locs ls hI
        obtain ⟨hP, hD, hS, hl⟩ := hI
        refine lv_iload_n hx hb dX4_open_45 rfl (lv_at hl 0 rfl) ?_
        refine lv_aload_n hx hb dX4_open_46 rfl (lv_at hl 2 rfl) ?_
        refine va_get (D := D) (ci := 4) (v := .ref m1) (C := RX4) (T := TX4) (N := 18) hx hb hts hi4 hown hK hP 0 rfl rfl 1 (by decide) (hts (.fieldLink RX4 7 "PairedChannelsModel" "s" "[I") (List.mem_of_getElem? (i := 2) (by decide +kernel))) (fun _ h9 => h9) rfl dX4_open_47 ?_
        refine lv_iconst (v := 0) hx hb dX4_open_50 (by decide) ?_
        refine wa_iald hx hb hK hP 1 0 rfl rfl (0) rfl (by omega) (by decide) dX4_open_51 ?_
        refine lv_eqi (nI n) (rfl) ?_
        refine lv_icmp_ge (tgt := 80) hx hb dX4_open_52 (by decide) (fun c11 => ?_) (fun c11 => ?_)
        · skip
          have c11 : n ≤ i := (nI_leI (a := n) (b := i) (by omega) (by omega)).mp c11
          omega
        · skip
          have c11 : ¬ n ≤ i := fun h9 => c11 ((nI_leI (a := n) (b := i) (by omega) (by omega)).mpr h9)
          refine lv_iload_n hx hb dX4_open_55 rfl (lv_at hl 1 rfl) ?_
          refine lv_aload_n hx hb dX4_open_56 rfl (lv_at hl 2 rfl) ?_
          refine lv_iload_n hx hb dX4_open_57 rfl (lv_at hl 0 rfl) ?_
          refine gR_i (va_runV (As := [.int (nI i)]) (rest := [.int (opnM sf n k i)]) ⟨hx, hb, hml, hown, hts⟩ (c_X4_rankOf l D K m0 m1 m2 m3 m4 m5 m6 m7 m8 m9 m10 0 (svC sy) ly py ay iw ty hy n mask vf sf i (by first | assumption | omega) (by first | assumption | omega) (by first | assumption | omega)) (cwV 1 hts gX4_open_X4_rankOf rfl rfl rfl (by decide +kernel) ⟨Nat.le_of_ble_eq_true rfl, Nat.le_of_ble_eq_true rfl⟩) (gR_preV hE hS hK hP [0, 1] rfl 0 rfl rfl rfl) rfl rfl hl.1 rfl (lv_room (Nat.le_of_ble_eq_true rfl)) dX4_open_58 ⟨Nat.le_of_ble_eq_true rfl, Nat.le_of_ble_eq_true rfl⟩) hS hP (fun rv13 H locs h12 hP hS => ?_)
          have h12 : rv13 = nI (rnk (uns sf n) i n) := h12
          subst h12
          refine lv_iload_n hx hb dX4_open_61 rfl (lv_at hl 3 rfl) ?_
          refine g_cut (F0 mm 72 ls [.int (if k ≤ nI (rnk (uns sf n) i n) then (0 : Int32) else (1 <<< ((nI i) &&& 31))), .int (opnM sf n k i)]) (fun hJ => ?_) ?_
          · refine lv_icmp_ge (tgt := 71) hx hb dX4_open_62 (by decide) (fun c14 => ?_) (fun c14 => ?_)
            · skip
              refine lv_iconst (v := 0) hx hb dX4_open_71 (by decide) ?_
              refine lv_eqi ((if k ≤ nI (rnk (uns sf n) i n) then (0 : Int32) else (1 <<< ((nI i) &&& 31)))) (if_pos c14).symm ?_
              exact hJ
            · skip
              refine lv_iconst (v := 1) hx hb dX4_open_65 (by decide) ?_
              refine lv_iload_n hx hb dX4_open_66 rfl (lv_at hl 0 rfl) ?_
              refine lv_ishl hx hb dX4_open_67 ?_
              refine lv_goto (tgt := 72) hx hb dX4_open_68 (by decide) ?_
              refine lv_eqi ((if k ≤ nI (rnk (uns sf n) i n) then (0 : Int32) else (1 <<< ((nI i) &&& 31)))) (if_neg c14).symm ?_
              exact hJ
          · skip
            refine lv_ior hx hb dX4_open_72 ?_
            refine lv_istore_n (lv' := [(2, .int (opnM sf n k i ||| (if k ≤ nI (rnk (uns sf n) i n) then (0 : Int32) else (1 <<< ((nI i) &&& 31))))), (3, .int (nI i)), (0, .ref m0), (1, .int k)]) hx hb dX4_open_73 rfl hl (by decide) rfl (fun ls hl => ?_)
            refine lv_iinc (v := nI (i + 1)) (lv' := [(3, .int (nI (i + 1))), (2, .int (opnM sf n k i ||| (if k ≤ nI (rnk (uns sf n) i n) then (0 : Int32) else (1 <<< ((nI i) &&& 31))))), (0, .ref m0), (1, .int k)]) hx hb dX4_open_74 hl (k := 1) rfl (nI_add i 1) (by decide) rfl (fun ls hl => ?_)
            refine lv_goto (tgt := 45) hx hb dX4_open_77 (by decide) ?_
            have e9 : (opnM sf n k i ||| (if k ≤ nI (rnk (uns sf n) i n) then (0 : Int32) else (1 <<< ((nI i) &&& 31)))) = (opnM sf n k (i + 1)) := or_if2 _ _ _ _ Int32.not_lt.symm
            rw [e9] at hl
            exact ih8 H locs ls ⟨hP, hD, hS, lv_sub hl [0, 1, 2, 3] rfl⟩
      · exact ⟨hP, hD, hS, lv_sub hl [0, 1, 2, 3] rfl⟩
    · skip
      refine lv_aload_n hx hb dX4_open_31 rfl (lv_at hl 0 rfl) ?_
      refine lv_iconst (v := 2) hx hb dX4_open_32 (by decide) ?_
      refine gW_i (wr := [(m1, .inl (K 0, 22, .inl (mst n mask vf sf))), (m3, .inl (K 0, 132, .inl (msv z)))]) (W2 := (fun (u : Unit) => [(m0, .inr (4, [.int 2, .ref m1, .ref m2, .ref m3, .int (nI sy), .ref m4, .int (nI ly), .ref m5, .ref m6, .int (nI py), .ref m7, .ref m8, .ref m9, .int (nI ay), .int (if iw = true then 1 else 0), .ref m10, .int (nI ty), .long hy])), (m1, .inl (K 0, 22, .inl (mst n mask vf sf))), (m3, .inl (K 0, 132, .inl (msv z)))])) (va_runV (As := [.int 2]) (rest := []) ⟨hx, hb, hml, hown, hts⟩ ((c_X4_fails l D K m0 m1 m2 m3 m4 m5 m6 m7 m8 m9 m10 0 sy ly py ay iw ty hy 2 ) _) (cwV 1 hts gX4_open_X4_fails rfl rfl rfl (by decide +kernel) ⟨Nat.le_of_ble_eq_true rfl, Nat.le_of_ble_eq_true rfl⟩) (gW_preV hE hS hK hP hD hA [0] rfl (by decide) 0 rfl rfl rfl) rfl rfl hl.1 rfl (lv_room (Nat.le_of_ble_eq_true rfl)) dX4_open_33 ⟨Nat.le_of_ble_eq_true rfl, Nat.le_of_ble_eq_true rfl⟩) hS hP hD hA [0] [1, 2] [2, 0, 1] rfl rfl (by decide) (by decide) (by decide) (fun _ => rfl) (fun rv17 u15 H locs h16 hP hD hS => ?_)
      have hP : va_P D vwCl [(m0, .inr (4, [.int 2, .ref m1, .ref m2, .ref m3, .int (nI sy), .ref m4, .int (nI ly), .ref m5, .ref m6, .int (nI py), .ref m7, .ref m8, .ref m9, .int (nI ay), .int (if iw = true then 1 else 0), .ref m10, .int (nI ty), .long hy])), (m1, .inl (K 0, 22, .inl (mst n mask vf sf))), (m3, .inl (K 0, 132, .inl (msv z)))] _ := hP
      have hD : va_D A [(m0, .inr (4, [.int 2, .ref m1, .ref m2, .ref m3, .int (nI sy), .ref m4, .int (nI ly), .ref m5, .ref m6, .int (nI py), .ref m7, .ref m8, .ref m9, .int (nI ay), .int (if iw = true then 1 else 0), .ref m10, .int (nI ty), .long hy])), (m1, .inl (K 0, 22, .inl (mst n mask vf sf))), (m3, .inl (K 0, 132, .inl (msv z)))] := hD
      have h16 : rv17 = 0 := h16
      exact gW_iret (v := rv17) ((n, mask, vf, sf), z, sy, 2) hx hb hr hlk (rfl) hK hP hD hS (Or.inr (by have hh9 : thOpen n k = 2 := (by unfold thOpen; first | exact (if_pos c12).trans (if_pos c28) | exact (if_pos c12).trans (if_pos (Int32.not_le.mp c28))); rw [hh9]; exact ⟨by decide, rfl, h16⟩)) dX4_open_36
  · skip
    have c12 : ¬ (0 ≤ k ∧ k ≤ 16) := b_eq0 c12
    refine lv_aload_n hx hb dX4_open_15 rfl (lv_at hl 0 rfl) ?_
    refine lv_iconst (v := 1) hx hb dX4_open_16 (by decide) ?_
    refine gW_i (wr := [(m1, .inl (K 0, 22, .inl (mst n mask vf sf))), (m3, .inl (K 0, 132, .inl (msv z)))]) (W2 := (fun (u : Unit) => [(m0, .inr (4, [.int 1, .ref m1, .ref m2, .ref m3, .int (nI sy), .ref m4, .int (nI ly), .ref m5, .ref m6, .int (nI py), .ref m7, .ref m8, .ref m9, .int (nI ay), .int (if iw = true then 1 else 0), .ref m10, .int (nI ty), .long hy])), (m1, .inl (K 0, 22, .inl (mst n mask vf sf))), (m3, .inl (K 0, 132, .inl (msv z)))])) (va_runV (As := [.int 1]) (rest := []) ⟨hx, hb, hml, hown, hts⟩ ((c_X4_fails l D K m0 m1 m2 m3 m4 m5 m6 m7 m8 m9 m10 0 sy ly py ay iw ty hy 1 ) _) (cwV 1 hts gX4_open_X4_fails rfl rfl rfl (by decide +kernel) ⟨Nat.le_of_ble_eq_true rfl, Nat.le_of_ble_eq_true rfl⟩) (gW_preV hE hS hK hP hD hA [0] rfl (by decide) 0 rfl rfl rfl) rfl rfl hl.1 rfl (lv_room (Nat.le_of_ble_eq_true rfl)) dX4_open_17 ⟨Nat.le_of_ble_eq_true rfl, Nat.le_of_ble_eq_true rfl⟩) hS hP hD hA [0] [1, 2] [2, 0, 1] rfl rfl (by decide) (by decide) (by decide) (fun _ => rfl) (fun rv20 u18 H locs h19 hP hD hS => ?_)
    have hP : va_P D vwCl [(m0, .inr (4, [.int 1, .ref m1, .ref m2, .ref m3, .int (nI sy), .ref m4, .int (nI ly), .ref m5, .ref m6, .int (nI py), .ref m7, .ref m8, .ref m9, .int (nI ay), .int (if iw = true then 1 else 0), .ref m10, .int (nI ty), .long hy])), (m1, .inl (K 0, 22, .inl (mst n mask vf sf))), (m3, .inl (K 0, 132, .inl (msv z)))] _ := hP
    have hD : va_D A [(m0, .inr (4, [.int 1, .ref m1, .ref m2, .ref m3, .int (nI sy), .ref m4, .int (nI ly), .ref m5, .ref m6, .int (nI py), .ref m7, .ref m8, .ref m9, .int (nI ay), .int (if iw = true then 1 else 0), .ref m10, .int (nI ty), .long hy])), (m1, .inl (K 0, 22, .inl (mst n mask vf sf))), (m3, .inl (K 0, 132, .inl (msv z)))] := hD
    have h19 : rv20 = 0 := h19
    exact gW_iret (v := rv20) ((n, mask, vf, sf), z, sy, 1) hx hb hr hlk (rfl) hK hP hD hS (Or.inr (by have hh9 : thOpen n k = 1 := (by unfold thOpen; rw [if_neg c12]); rw [hh9]; exact ⟨by decide, rfl, h19⟩)) dX4_open_20

set_option maxHeartbeats 4000000 in
set_option maxRecDepth 100000 in
theorem c_X4_toggle (l : Launch) (D : va_G) (K : Nat → ClassId) (m0 : Nat) (m1 : Nat) (m2 : Nat) (m3 : Nat) (m4 : Nat) (m5 : Nat) (m6 : Nat) (m7 : Nat) (m8 : Nat) (m9 : Nat) (m10 : Nat) (th : Int32) (sy : Nat) (ly : Nat) (py : Nat) (ay : Nat) (iw : Bool) (ty : Nat) (hy : Int64) (n : Nat) (mask : Int32) (vf : Nat → Int32) (sf : Nat → Int32) (z : Nat → Wd) (k : Int32) (hsy : sy ≤ 6) (hn : okN n) : MWi l yX4_toggle wsX4_toggle ({ frames := 2, cells := 0, slots := 0, locals := 43 } : Room) D (gTy K) [.ref m0, .int k] [(m0, .inr (4, [.int th, .ref m1, .ref m2, .ref m3, .int (nI sy), .ref m4, .int (nI ly), .ref m5, .ref m6, .int (nI py), .ref m7, .ref m8, .ref m9, .int (nI ay), .int (if iw = true then 1 else 0), .ref m10, .int (nI ty), .long hy])), (m1, .inl (K 0, 22, .inl (mst n mask vf sf))), (m3, .inl (K 0, 132, .inl (msv z)))] (fun (u : Wd × (Nat → Wd) × Nat × Int32) => [(m0, .inr (4, [.int u.2.2.2, .ref m1, .ref m2, .ref m3, .int (nI u.2.2.1), .ref m4, .int (nI ly), .ref m5, .ref m6, .int (nI py), .ref m7, .ref m8, .ref m9, .int (nI ay), .int (if iw = true then 1 else 0), .ref m10, .int (nI ty), .long hy])), (m1, .inl (K 0, 22, .inl (mst u.1.1 u.1.2.1 u.1.2.2.1 u.1.2.2.2))), (m3, .inl (K 0, 132, .inl (msv u.2.1)))]) (fun r (u : Wd × (Nat → Wd) × Nat × Int32) => (thPl n k = 0 ∧ u = ((n, mask ^^^ (1 <<< (nI k.toNatClampNeg &&& 31)), vf, sf), mzS z sy (n, mask, vf, sf), svC sy, 0) ∧ r = (if opn (mask ^^^ (1 <<< (nI k.toNatClampNeg &&& 31))) k.toNatClampNeg then 1 else 0)) ∨ (¬ thPl n k = 0 ∧ u = ((n, mask, vf, sf), z, sy, nI (thPl n k)) ∧ r = 0)) 0 0 := by
  refine g_ofW (Qc := fun A => va_Qi _ (gB D (gTy K) A _) A) (cc := cX4_toggle) (maxL := 2) (ret := (some .int)) (own := RX4) (by decide) rfl rfl (Nat.le_of_ble_eq_true rfl) ?_
  intro pp ee s mm below meth cc A hfx hnm hK hP hD hE hS hA ls hl
  obtain ⟨hx, hb, hr, hml, hown, hts, hlk⟩ := hfx
  have hl : lv_has ls 2 [(0, .ref m0), (1, .int k)] := hl
  have hi4 : ∀ w ∈ u_ws RX4 TX4 18, w ∈ wsX4_toggle := fun w h => List.mem_cons_of_mem _ (List.mem_append_right _ (h))
  have hnl := hn.le
  refine lv_aload_n hx hb dX4_toggle_0 rfl (lv_at hl 0 rfl) ?_
  refine lv_iconst (v := 0) hx hb dX4_toggle_1 (by decide) ?_
  refine va_put (D := D) (ci := 4) (v := .int 0) (ty := .int) (C := RX4) (T := TX4) (N := 18) hx hb hts hi4 tyX4 tyX4_ok nmX4 hown hK hP hD hS 0 rfl rfl 0 (by decide) (hts (.fieldLink RX4 40 "PairedChannelsModel" "thrown" "I") (List.mem_of_getElem? (i := 1) (by decide +kernel))) (fun _ h9 => h9) rfl (by decide +kernel) (rfl) (rfl) (Nat.le_of_ble_eq_true rfl) dX4_toggle_2 (fun H locs hP hD hS => ?_)
  have hP : va_P D vwCl [(m0, .inr (4, [.int 0, .ref m1, .ref m2, .ref m3, .int (nI sy), .ref m4, .int (nI ly), .ref m5, .ref m6, .int (nI py), .ref m7, .ref m8, .ref m9, .int (nI ay), .int (if iw = true then 1 else 0), .ref m10, .int (nI ty), .long hy])), (m1, .inl (K 0, 22, .inl (mst n mask vf sf))), (m3, .inl (K 0, 132, .inl (msv z)))] _ := hP
  have hD : va_D A [(m0, .inr (4, [.int 0, .ref m1, .ref m2, .ref m3, .int (nI sy), .ref m4, .int (nI ly), .ref m5, .ref m6, .int (nI py), .ref m7, .ref m8, .ref m9, .int (nI ay), .int (if iw = true then 1 else 0), .ref m10, .int (nI ty), .long hy])), (m1, .inl (K 0, 22, .inl (mst n mask vf sf))), (m3, .inl (K 0, 132, .inl (msv z)))] := hD
  refine lv_aload_n hx hb dX4_toggle_5 rfl (lv_at hl 0 rfl) ?_
  refine lv_iload_n hx hb dX4_toggle_6 rfl (lv_at hl 1 rfl) ?_
  refine gR_i (va_runV (As := [.int k]) (rest := []) ⟨hx, hb, hml, hown, hts⟩ (c_X4_isPlace l D K m0 m1 m2 m3 m4 m5 m6 m7 m8 m9 m10 0 sy ly py ay iw ty hy n mask vf sf k (by first | assumption | omega)) (cwV 1 hts gX4_toggle_X4_isPlace rfl rfl rfl (by decide +kernel) ⟨Nat.le_of_ble_eq_true rfl, Nat.le_of_ble_eq_true rfl⟩) (gR_preV hE hS hK hP [0, 1] rfl 0 rfl rfl rfl) rfl rfl hl.1 rfl (lv_room (Nat.le_of_ble_eq_true rfl)) dX4_toggle_7 ⟨Nat.le_of_ble_eq_true rfl, Nat.le_of_ble_eq_true rfl⟩) hS hP (fun rv2 H locs h1 hP hS => ?_)
  have h1 : rv2 = (if 0 ≤ k ∧ k < nI n then 1 else 0) := h1
  subst h1
  refine lv_if_ne (tgt := 19) hx hb dX4_toggle_10 (by decide) (fun c8 => ?_) (fun c8 => ?_)
  · skip
    have c8 : 0 ≤ k ∧ k < nI n := b_ne0 c8
    obtain ⟨j, hj, ej⟩ := in_nat (by omega) c8
    have ekc : k.toNatClampNeg = j := by rw [ej, nI_clamp (by omega)]
    have hth : thPl n k = 0 := by unfold thPl; rw [if_pos c8]
    subst ej
    rw [ekc]
    refine lv_aload_n hx hb dX4_toggle_19 rfl (lv_at hl 0 rfl) ?_
    refine gW_v (wr := []) (W2 := (fun (u : Unit) => [(m0, .inr (4, [.int 0, .ref m1, .ref m2, .ref m3, .int (nI (svC sy)), .ref m4, .int (nI ly), .ref m5, .ref m6, .int (nI py), .ref m7, .ref m8, .ref m9, .int (nI ay), .int (if iw = true then 1 else 0), .ref m10, .int (nI ty), .long hy])), (m1, .inl (K 0, 22, .inl (mst n mask vf sf))), (m3, .inl (K 0, 132, .inl (msv (mzS z sy (n, mask, vf, sf)))))])) (va_runV (As := []) (rest := []) ⟨hx, hb, hml, hown, hts⟩ ((c_X4_saves l D K m0 m1 m2 m3 m4 m5 m6 m7 m8 m9 m10 0 sy ly py ay iw ty hy n mask vf sf z (by first | assumption | omega)) _) (cwV 0 hts gX4_toggle_X4_saves rfl rfl rfl (by decide +kernel) ⟨Nat.le_of_ble_eq_true rfl, Nat.le_of_ble_eq_true rfl⟩) (gW_preV hE hS hK hP hD hA [0, 1, 2] rfl (by decide) 0 rfl rfl rfl) rfl rfl hl.1 rfl (lv_room (Nat.le_of_ble_eq_true rfl)) dX4_toggle_20 ⟨Nat.le_of_ble_eq_true rfl, Nat.le_of_ble_eq_true rfl⟩) hS hP hD hA [0, 1, 2] [] [0, 1, 2] rfl rfl (by decide) (by decide) (by decide) (fun _ => rfl) (fun u4 H locs h5 hP hD hS => ?_)
    have hP : va_P D vwCl [(m0, .inr (4, [.int 0, .ref m1, .ref m2, .ref m3, .int (nI (svC sy)), .ref m4, .int (nI ly), .ref m5, .ref m6, .int (nI py), .ref m7, .ref m8, .ref m9, .int (nI ay), .int (if iw = true then 1 else 0), .ref m10, .int (nI ty), .long hy])), (m1, .inl (K 0, 22, .inl (mst n mask vf sf))), (m3, .inl (K 0, 132, .inl (msv (mzS z sy (n, mask, vf, sf)))))] _ := hP
    have hD : va_D A [(m0, .inr (4, [.int 0, .ref m1, .ref m2, .ref m3, .int (nI (svC sy)), .ref m4, .int (nI ly), .ref m5, .ref m6, .int (nI py), .ref m7, .ref m8, .ref m9, .int (nI ay), .int (if iw = true then 1 else 0), .ref m10, .int (nI ty), .long hy])), (m1, .inl (K 0, 22, .inl (mst n mask vf sf))), (m3, .inl (K 0, 132, .inl (msv (mzS z sy (n, mask, vf, sf)))))] := hD
    refine lv_aload_n hx hb dX4_toggle_23 rfl (lv_at hl 0 rfl) ?_
    refine va_get (D := D) (ci := 4) (v := .ref m1) (C := RX4) (T := TX4) (N := 18) hx hb hts hi4 hown hK hP 0 rfl rfl 1 (by decide) (hts (.fieldLink RX4 7 "PairedChannelsModel" "s" "[I") (List.mem_of_getElem? (i := 2) (by decide +kernel))) (fun _ h9 => h9) rfl dX4_toggle_24 ?_
    refine lv_iconst (v := 1) hx hb dX4_toggle_27 (by decide) ?_
    refine lv_dup2_11 hx hb dX4_toggle_28 rfl rfl ?_
    refine wa_iald hx hb hK hP 1 0 rfl rfl (1) rfl (by omega) (by decide) dX4_toggle_29 ?_
    refine lv_eqi (mask) (rfl) ?_
    refine lv_iconst (v := 1) hx hb dX4_toggle_30 (by decide) ?_
    refine lv_iload_n hx hb dX4_toggle_31 rfl (lv_at hl 1 rfl) ?_
    refine lv_ishl hx hb dX4_toggle_32 ?_
    refine lv_ixor hx hb dX4_toggle_33 ?_
    refine wa_iast (x := (mask ^^^ (1 <<< ((nI j) &&& 31)))) hx hb hK hP hD hS 1 0 rfl rfl (1) rfl (by omega) (by decide) dX4_toggle_34 (fun H locs hP hD hS => ?_)
    have hP : va_P D vwCl [(m0, .inr (4, [.int 0, .ref m1, .ref m2, .ref m3, .int (nI (svC sy)), .ref m4, .int (nI ly), .ref m5, .ref m6, .int (nI py), .ref m7, .ref m8, .ref m9, .int (nI ay), .int (if iw = true then 1 else 0), .ref m10, .int (nI ty), .long hy])), (m1, .inl (K 0, 22, .inl (upd (mst n mask vf sf) 1 (mask ^^^ (1 <<< ((nI j) &&& 31)))))), (m3, .inl (K 0, 132, .inl (msv (mzS z sy (n, mask, vf, sf)))))] _ := hP
    have hD : va_D A [(m0, .inr (4, [.int 0, .ref m1, .ref m2, .ref m3, .int (nI (svC sy)), .ref m4, .int (nI ly), .ref m5, .ref m6, .int (nI py), .ref m7, .ref m8, .ref m9, .int (nI ay), .int (if iw = true then 1 else 0), .ref m10, .int (nI ty), .long hy])), (m1, .inl (K 0, 22, .inl (upd (mst n mask vf sf) 1 (mask ^^^ (1 <<< ((nI j) &&& 31)))))), (m3, .inl (K 0, 132, .inl (msv (mzS z sy (n, mask, vf, sf)))))] := hD
    have e7 : (upd (mst n mask vf sf) 1 (mask ^^^ (1 <<< ((nI j) &&& 31)))) = (mst n (mask ^^^ (1 <<< ((nI j) &&& 31))) vf sf) := mst_u1 _
    rw [e7] at hP hD
    have hP : va_P D vwCl [(m0, .inr (4, [.int 0, .ref m1, .ref m2, .ref m3, .int (nI (svC sy)), .ref m4, .int (nI ly), .ref m5, .ref m6, .int (nI py), .ref m7, .ref m8, .ref m9, .int (nI ay), .int (if iw = true then 1 else 0), .ref m10, .int (nI ty), .long hy])), (m1, .inl (K 0, 22, .inl (mst n (mask ^^^ (1 <<< ((nI j) &&& 31))) vf sf))), (m3, .inl (K 0, 132, .inl (msv (mzS z sy (n, mask, vf, sf)))))] _ := hP
    have hD : va_D A [(m0, .inr (4, [.int 0, .ref m1, .ref m2, .ref m3, .int (nI (svC sy)), .ref m4, .int (nI ly), .ref m5, .ref m6, .int (nI py), .ref m7, .ref m8, .ref m9, .int (nI ay), .int (if iw = true then 1 else 0), .ref m10, .int (nI ty), .long hy])), (m1, .inl (K 0, 22, .inl (mst n (mask ^^^ (1 <<< ((nI j) &&& 31))) vf sf))), (m3, .inl (K 0, 132, .inl (msv (mzS z sy (n, mask, vf, sf)))))] := hD
    refine lv_aload_n hx hb dX4_toggle_35 rfl (lv_at hl 0 rfl) ?_
    refine lv_iload_n hx hb dX4_toggle_36 rfl (lv_at hl 1 rfl) ?_
    refine gR_i (va_runV (As := [.int (nI j)]) (rest := []) ⟨hx, hb, hml, hown, hts⟩ (c_X4_isOpen l D K m0 m1 m2 m3 m4 m5 m6 m7 m8 m9 m10 0 (svC sy) ly py ay iw ty hy n (mask ^^^ (1 <<< ((nI j) &&& 31))) vf sf j ) (cwV 1 hts gX4_toggle_X4_isOpen rfl rfl rfl (by decide +kernel) ⟨Nat.le_of_ble_eq_true rfl, Nat.le_of_ble_eq_true rfl⟩) (gR_preV hE hS hK hP [0, 1] rfl 0 rfl rfl rfl) rfl rfl hl.1 rfl (lv_room (Nat.le_of_ble_eq_true rfl)) dX4_toggle_37 ⟨Nat.le_of_ble_eq_true rfl, Nat.le_of_ble_eq_true rfl⟩) hS hP (fun rv9 H locs h8 hP hS => ?_)
    have h8 : rv9 = (if opn (mask ^^^ (1 <<< ((nI j) &&& 31))) j then 1 else 0) := h8
    subst h8
    refine g_cut (F0 mm 48 ls [.int (if opn (mask ^^^ (1 <<< ((nI j) &&& 31))) j then 1 else 0)]) (fun hJ => ?_) ?_
    · refine lv_if_eq (tgt := 47) hx hb dX4_toggle_40 (by decide) (fun c10 => ?_) (fun c10 => ?_)
      · skip
        have c10 : ¬ (opn (mask ^^^ (1 <<< ((nI j) &&& 31))) j) := b_eq0 c10
        refine lv_iconst (v := 0) hx hb dX4_toggle_47 (by decide) ?_
        refine lv_eqi ((if opn (mask ^^^ (1 <<< ((nI j) &&& 31))) j then 1 else 0)) (if_neg c10).symm ?_
        exact hJ
      · skip
        have c10 : opn (mask ^^^ (1 <<< ((nI j) &&& 31))) j := b_ne0 c10
        refine lv_iconst (v := 1) hx hb dX4_toggle_43 (by decide) ?_
        refine lv_goto (tgt := 48) hx hb dX4_toggle_44 (by decide) ?_
        refine lv_eqi ((if opn (mask ^^^ (1 <<< ((nI j) &&& 31))) j then 1 else 0)) (if_pos c10).symm ?_
        exact hJ
    · skip
      exact gW_iret (v := (if opn (mask ^^^ (1 <<< ((nI j) &&& 31))) j then 1 else 0)) ((n, mask ^^^ (1 <<< (nI j &&& 31)), vf, sf), mzS z sy (n, mask, vf, sf), svC sy, 0) hx hb hr hlk (rfl) hK hP hD hS (Or.inl ⟨hth, rfl, rfl⟩) dX4_toggle_48
  · skip
    have c8 : ¬ (0 ≤ k ∧ k < nI n) := b_eq0 c8
    refine lv_aload_n hx hb dX4_toggle_13 rfl (lv_at hl 0 rfl) ?_
    refine lv_iconst (v := 1) hx hb dX4_toggle_14 (by decide) ?_
    refine gW_i (wr := [(m1, .inl (K 0, 22, .inl (mst n mask vf sf))), (m3, .inl (K 0, 132, .inl (msv z)))]) (W2 := (fun (u : Unit) => [(m0, .inr (4, [.int 1, .ref m1, .ref m2, .ref m3, .int (nI sy), .ref m4, .int (nI ly), .ref m5, .ref m6, .int (nI py), .ref m7, .ref m8, .ref m9, .int (nI ay), .int (if iw = true then 1 else 0), .ref m10, .int (nI ty), .long hy])), (m1, .inl (K 0, 22, .inl (mst n mask vf sf))), (m3, .inl (K 0, 132, .inl (msv z)))])) (va_runV (As := [.int 1]) (rest := []) ⟨hx, hb, hml, hown, hts⟩ ((c_X4_fails l D K m0 m1 m2 m3 m4 m5 m6 m7 m8 m9 m10 0 sy ly py ay iw ty hy 1 ) _) (cwV 1 hts gX4_toggle_X4_fails rfl rfl rfl (by decide +kernel) ⟨Nat.le_of_ble_eq_true rfl, Nat.le_of_ble_eq_true rfl⟩) (gW_preV hE hS hK hP hD hA [0] rfl (by decide) 0 rfl rfl rfl) rfl rfl hl.1 rfl (lv_room (Nat.le_of_ble_eq_true rfl)) dX4_toggle_15 ⟨Nat.le_of_ble_eq_true rfl, Nat.le_of_ble_eq_true rfl⟩) hS hP hD hA [0] [1, 2] [2, 0, 1] rfl rfl (by decide) (by decide) (by decide) (fun _ => rfl) (fun rv14 u12 H locs h13 hP hD hS => ?_)
    have hP : va_P D vwCl [(m0, .inr (4, [.int 1, .ref m1, .ref m2, .ref m3, .int (nI sy), .ref m4, .int (nI ly), .ref m5, .ref m6, .int (nI py), .ref m7, .ref m8, .ref m9, .int (nI ay), .int (if iw = true then 1 else 0), .ref m10, .int (nI ty), .long hy])), (m1, .inl (K 0, 22, .inl (mst n mask vf sf))), (m3, .inl (K 0, 132, .inl (msv z)))] _ := hP
    have hD : va_D A [(m0, .inr (4, [.int 1, .ref m1, .ref m2, .ref m3, .int (nI sy), .ref m4, .int (nI ly), .ref m5, .ref m6, .int (nI py), .ref m7, .ref m8, .ref m9, .int (nI ay), .int (if iw = true then 1 else 0), .ref m10, .int (nI ty), .long hy])), (m1, .inl (K 0, 22, .inl (mst n mask vf sf))), (m3, .inl (K 0, 132, .inl (msv z)))] := hD
    have h13 : rv14 = 0 := h13
    exact gW_iret (v := rv14) ((n, mask, vf, sf), z, sy, 1) hx hb hr hlk (rfl) hK hP hD hS (Or.inr (by have hh9 : thPl n k = 1 := (by unfold thPl; rw [if_neg c8]); rw [hh9]; exact ⟨by decide, rfl, h13⟩)) dX4_toggle_18
